theorem dX11_status_0 : decode cX11_status 0 = .ok (.aload_n 0, 1) := by decide +kernel
theorem dX11_status_1 : decode cX11_status 1 = .ok (.iconst 0, 1) := by decide +kernel
theorem dX11_status_2 : decode cX11_status 2 = .ok (.putfield 146, 3) := by decide +kernel
theorem dX11_status_5 : decode cX11_status 5 = .ok (.aload_n 0, 1) := by decide +kernel
theorem dX11_status_6 : decode cX11_status 6 = .ok (.getfield 149, 3) := by decide +kernel
theorem dX11_status_9 : decode cX11_status 9 = .ok (.ireturn, 1) := by decide +kernel
theorem dX11_refuse_0 : decode cX11_refuse 0 = .ok (.aload_n 0, 1) := by decide +kernel
theorem dX11_refuse_1 : decode cX11_refuse 1 = .ok (.iload_n 1, 1) := by decide +kernel
theorem dX11_refuse_2 : decode cX11_refuse 2 = .ok (.putfield 149, 3) := by decide +kernel
theorem dX11_refuse_5 : decode cX11_refuse 5 = .ok (.iconst (-1), 1) := by decide +kernel
theorem dX11_refuse_6 : decode cX11_refuse 6 = .ok (.ireturn, 1) := by decide +kernel
theorem dX11_no_0 : decode cX11_no 0 = .ok (.aload_n 0, 1) := by decide +kernel
theorem dX11_no_1 : decode cX11_no 1 = .ok (.iload_n 1, 1) := by decide +kernel
theorem dX11_no_2 : decode cX11_no 2 = .ok (.putfield 149, 3) := by decide +kernel
theorem dX11_no_5 : decode cX11_no 5 = .ok (.iconst 0, 1) := by decide +kernel
theorem dX11_no_6 : decode cX11_no 6 = .ok (.ireturn, 1) := by decide +kernel
theorem dX11_feed_0 : decode cX11_feed 0 = .ok (.aload_n 0, 1) := by decide +kernel
theorem dX11_feed_1 : decode cX11_feed 1 = .ok (.iconst 0, 1) := by decide +kernel
theorem dX11_feed_2 : decode cX11_feed 2 = .ok (.putfield 146, 3) := by decide +kernel
theorem dX11_feed_5 : decode cX11_feed 5 = .ok (.aload_n 0, 1) := by decide +kernel
theorem dX11_feed_6 : decode cX11_feed 6 = .ok (.getfield 289, 3) := by decide +kernel
theorem dX11_feed_9 : decode cX11_feed 9 = .ok (.bipush 20, 2) := by decide +kernel
theorem dX11_feed_11 : decode cX11_feed 11 = .ok (.iadd, 1) := by decide +kernel
theorem dX11_feed_12 : decode cX11_feed 12 = .ok (.sipush 700, 3) := by decide +kernel
theorem dX11_feed_15 : decode cX11_feed 15 = .ok (.if_icmp .le 5, 3) := by decide +kernel
theorem dX11_feed_18 : decode cX11_feed 18 = .ok (.iconst (-1), 1) := by decide +kernel
theorem dX11_feed_19 : decode cX11_feed 19 = .ok (.ireturn, 1) := by decide +kernel
theorem dX11_feed_20 : decode cX11_feed 20 = .ok (.aload_n 0, 1) := by decide +kernel
theorem dX11_feed_21 : decode cX11_feed 21 = .ok (.iload_n 1, 1) := by decide +kernel
theorem dX11_feed_22 : decode cX11_feed 22 = .ok (.invokevirtual 292, 3) := by decide +kernel
theorem dX11_feed_25 : decode cX11_feed 25 = .ok (.aload_n 0, 1) := by decide +kernel
theorem dX11_feed_26 : decode cX11_feed 26 = .ok (.iload_n 2, 1) := by decide +kernel
theorem dX11_feed_27 : decode cX11_feed 27 = .ok (.invokevirtual 292, 3) := by decide +kernel
theorem dX11_feed_30 : decode cX11_feed 30 = .ok (.aload_n 0, 1) := by decide +kernel
theorem dX11_feed_31 : decode cX11_feed 31 = .ok (.iload_n 3, 1) := by decide +kernel
theorem dX11_feed_32 : decode cX11_feed 32 = .ok (.invokevirtual 292, 3) := by decide +kernel
theorem dX11_feed_35 : decode cX11_feed 35 = .ok (.aload_n 0, 1) := by decide +kernel
theorem dX11_feed_36 : decode cX11_feed 36 = .ok (.iload 4, 2) := by decide +kernel
theorem dX11_feed_38 : decode cX11_feed 38 = .ok (.invokevirtual 292, 3) := by decide +kernel
theorem dX11_feed_41 : decode cX11_feed 41 = .ok (.aload_n 0, 1) := by decide +kernel
theorem dX11_feed_42 : decode cX11_feed 42 = .ok (.iload 5, 2) := by decide +kernel
theorem dX11_feed_44 : decode cX11_feed 44 = .ok (.invokevirtual 292, 3) := by decide +kernel
theorem dX11_feed_47 : decode cX11_feed 47 = .ok (.aload_n 0, 1) := by decide +kernel
theorem dX11_feed_48 : decode cX11_feed 48 = .ok (.getfield 289, 3) := by decide +kernel
theorem dX11_feed_51 : decode cX11_feed 51 = .ok (.ireturn, 1) := by decide +kernel
theorem dX11_lay_0 : decode cX11_lay 0 = .ok (.iconst 3, 1) := by decide +kernel
theorem dX11_lay_1 : decode cX11_lay 1 = .ok (.istore_n 2, 1) := by decide +kernel
theorem dX11_lay_2 : decode cX11_lay 2 = .ok (.iload_n 2, 1) := by decide +kernel
theorem dX11_lay_3 : decode cX11_lay 3 = .ok (.ifCond .lt 35, 3) := by decide +kernel
theorem dX11_lay_6 : decode cX11_lay 6 = .ok (.aload_n 0, 1) := by decide +kernel
theorem dX11_lay_7 : decode cX11_lay 7 = .ok (.getfield 7, 3) := by decide +kernel
theorem dX11_lay_10 : decode cX11_lay 10 = .ok (.aload_n 0, 1) := by decide +kernel
theorem dX11_lay_11 : decode cX11_lay 11 = .ok (.getfield 289, 3) := by decide +kernel
theorem dX11_lay_14 : decode cX11_lay 14 = .ok (.iload_n 1, 1) := by decide +kernel
theorem dX11_lay_15 : decode cX11_lay 15 = .ok (.bipush 8, 2) := by decide +kernel
theorem dX11_lay_17 : decode cX11_lay 17 = .ok (.iload_n 2, 1) := by decide +kernel
theorem dX11_lay_18 : decode cX11_lay 18 = .ok (.imul, 1) := by decide +kernel
theorem dX11_lay_19 : decode cX11_lay 19 = .ok (.ishr, 1) := by decide +kernel
theorem dX11_lay_20 : decode cX11_lay 20 = .ok (.i2b, 1) := by decide +kernel
theorem dX11_lay_21 : decode cX11_lay 21 = .ok (.bastore, 1) := by decide +kernel
theorem dX11_lay_22 : decode cX11_lay 22 = .ok (.aload_n 0, 1) := by decide +kernel
theorem dX11_lay_23 : decode cX11_lay 23 = .ok (.dup, 1) := by decide +kernel
theorem dX11_lay_24 : decode cX11_lay 24 = .ok (.getfield 289, 3) := by decide +kernel
theorem dX11_lay_27 : decode cX11_lay 27 = .ok (.iconst 1, 1) := by decide +kernel
theorem dX11_lay_28 : decode cX11_lay 28 = .ok (.iadd, 1) := by decide +kernel
theorem dX11_lay_29 : decode cX11_lay 29 = .ok (.putfield 289, 3) := by decide +kernel
theorem dX11_lay_32 : decode cX11_lay 32 = .ok (.iinc 2 (-1), 3) := by decide +kernel
theorem dX11_lay_35 : decode cX11_lay 35 = .ok (.goto (-33), 3) := by decide +kernel
theorem dX11_lay_38 : decode cX11_lay 38 = .ok (.return_, 1) := by decide +kernel
theorem dX11_fault_0 : decode cX11_fault 0 = .ok (.aload_n 0, 1) := by decide +kernel
theorem dX11_fault_1 : decode cX11_fault 1 = .ok (.iconst 0, 1) := by decide +kernel
theorem dX11_fault_2 : decode cX11_fault 2 = .ok (.putfield 146, 3) := by decide +kernel
theorem dX11_fault_5 : decode cX11_fault 5 = .ok (.iload_n 1, 1) := by decide +kernel
theorem dX11_fault_6 : decode cX11_fault 6 = .ok (.ifCond .ne 10, 3) := by decide +kernel
theorem dX11_fault_9 : decode cX11_fault 9 = .ok (.aload_n 0, 1) := by decide +kernel
theorem dX11_fault_10 : decode cX11_fault 10 = .ok (.getfield 13, 3) := by decide +kernel
theorem dX11_fault_13 : decode cX11_fault 13 = .ok (.goto 16, 3) := by decide +kernel
theorem dX11_fault_16 : decode cX11_fault 16 = .ok (.iload_n 1, 1) := by decide +kernel
theorem dX11_fault_17 : decode cX11_fault 17 = .ok (.iconst 1, 1) := by decide +kernel
theorem dX11_fault_18 : decode cX11_fault 18 = .ok (.if_icmp .ne 10, 3) := by decide +kernel
theorem dX11_fault_21 : decode cX11_fault 21 = .ok (.aload_n 0, 1) := by decide +kernel
theorem dX11_fault_22 : decode cX11_fault 22 = .ok (.getfield 17, 3) := by decide +kernel
theorem dX11_fault_25 : decode cX11_fault 25 = .ok (.goto 4, 3) := by decide +kernel
theorem dX11_fault_28 : decode cX11_fault 28 = .ok (.iconst (-1), 1) := by decide +kernel
theorem dX11_fault_29 : decode cX11_fault 29 = .ok (.ireturn, 1) := by decide +kernel
theorem dX11_isRound_0 : decode cX11_isRound 0 = .ok (.iload_n 1, 1) := by decide +kernel
theorem dX11_isRound_1 : decode cX11_isRound 1 = .ok (.ifCond .lt 15, 3) := by decide +kernel
theorem dX11_isRound_4 : decode cX11_isRound 4 = .ok (.iload_n 1, 1) := by decide +kernel
theorem dX11_isRound_5 : decode cX11_isRound 5 = .ok (.aload_n 0, 1) := by decide +kernel
theorem dX11_isRound_6 : decode cX11_isRound 6 = .ok (.getfield 301, 3) := by decide +kernel
theorem dX11_isRound_9 : decode cX11_isRound 9 = .ok (.if_icmp .ge 7, 3) := by decide +kernel
theorem dX11_isRound_12 : decode cX11_isRound 12 = .ok (.iconst 1, 1) := by decide +kernel
theorem dX11_isRound_13 : decode cX11_isRound 13 = .ok (.goto 4, 3) := by decide +kernel
theorem dX11_isRound_16 : decode cX11_isRound 16 = .ok (.iconst 0, 1) := by decide +kernel
theorem dX11_isRound_17 : decode cX11_isRound 17 = .ok (.ireturn, 1) := by decide +kernel
theorem dX11_isRoute_0 : decode cX11_isRoute 0 = .ok (.aload_n 0, 1) := by decide +kernel
theorem dX11_isRoute_1 : decode cX11_isRoute 1 = .ok (.iload_n 1, 1) := by decide +kernel
theorem dX11_isRoute_2 : decode cX11_isRoute 2 = .ok (.invokevirtual 325, 3) := by decide +kernel
theorem dX11_isRoute_5 : decode cX11_isRoute 5 = .ok (.ifCond .eq 21, 3) := by decide +kernel
theorem dX11_isRoute_8 : decode cX11_isRoute 8 = .ok (.iload_n 2, 1) := by decide +kernel
theorem dX11_isRoute_9 : decode cX11_isRoute 9 = .ok (.ifCond .lt 17, 3) := by decide +kernel
theorem dX11_isRoute_12 : decode cX11_isRoute 12 = .ok (.iload_n 2, 1) := by decide +kernel
theorem dX11_isRoute_13 : decode cX11_isRoute 13 = .ok (.aload_n 0, 1) := by decide +kernel
theorem dX11_isRoute_14 : decode cX11_isRoute 14 = .ok (.getfield 20, 3) := by decide +kernel
theorem dX11_isRoute_17 : decode cX11_isRoute 17 = .ok (.iload_n 1, 1) := by decide +kernel
theorem dX11_isRoute_18 : decode cX11_isRoute 18 = .ok (.iaload, 1) := by decide +kernel
theorem dX11_isRoute_19 : decode cX11_isRoute 19 = .ok (.if_icmp .ge 7, 3) := by decide +kernel
theorem dX11_isRoute_22 : decode cX11_isRoute 22 = .ok (.iconst 1, 1) := by decide +kernel
theorem dX11_isRoute_23 : decode cX11_isRoute 23 = .ok (.goto 4, 3) := by decide +kernel
theorem dX11_isRoute_26 : decode cX11_isRoute 26 = .ok (.iconst 0, 1) := by decide +kernel
theorem dX11_isRoute_27 : decode cX11_isRoute 27 = .ok (.ireturn, 1) := by decide +kernel
theorem dX11_isClimber_0 : decode cX11_isClimber 0 = .ok (.iload_n 1, 1) := by decide +kernel
theorem dX11_isClimber_1 : decode cX11_isClimber 1 = .ok (.ifCond .lt 15, 3) := by decide +kernel
theorem dX11_isClimber_4 : decode cX11_isClimber 4 = .ok (.iload_n 1, 1) := by decide +kernel
theorem dX11_isClimber_5 : decode cX11_isClimber 5 = .ok (.aload_n 0, 1) := by decide +kernel
theorem dX11_isClimber_6 : decode cX11_isClimber 6 = .ok (.getfield 313, 3) := by decide +kernel
theorem dX11_isClimber_9 : decode cX11_isClimber 9 = .ok (.if_icmp .ge 7, 3) := by decide +kernel
theorem dX11_isClimber_12 : decode cX11_isClimber 12 = .ok (.iconst 1, 1) := by decide +kernel
theorem dX11_isClimber_13 : decode cX11_isClimber 13 = .ok (.goto 4, 3) := by decide +kernel
theorem dX11_isClimber_16 : decode cX11_isClimber 16 = .ok (.iconst 0, 1) := by decide +kernel
theorem dX11_isClimber_17 : decode cX11_isClimber 17 = .ok (.ireturn, 1) := by decide +kernel
theorem dX11_at_0 : decode cX11_at 0 = .ok (.iconst 5, 1) := by decide +kernel
theorem dX11_at_1 : decode cX11_at 1 = .ok (.iload_n 0, 1) := by decide +kernel
theorem dX11_at_2 : decode cX11_at 2 = .ok (.imul, 1) := by decide +kernel
theorem dX11_at_3 : decode cX11_at 3 = .ok (.iload_n 1, 1) := by decide +kernel
theorem dX11_at_4 : decode cX11_at 4 = .ok (.iadd, 1) := by decide +kernel
theorem dX11_at_5 : decode cX11_at 5 = .ok (.ireturn, 1) := by decide +kernel
theorem dX11_climber_0 : decode cX11_climber 0 = .ok (.aload_n 0, 1) := by decide +kernel
theorem dX11_climber_1 : decode cX11_climber 1 = .ok (.iconst 0, 1) := by decide +kernel
theorem dX11_climber_2 : decode cX11_climber 2 = .ok (.putfield 146, 3) := by decide +kernel
theorem dX11_climber_5 : decode cX11_climber 5 = .ok (.aload_n 0, 1) := by decide +kernel
theorem dX11_climber_6 : decode cX11_climber 6 = .ok (.iconst 0, 1) := by decide +kernel
theorem dX11_climber_7 : decode cX11_climber 7 = .ok (.putfield 149, 3) := by decide +kernel
theorem dX11_climber_10 : decode cX11_climber 10 = .ok (.aload_n 0, 1) := by decide +kernel
theorem dX11_climber_11 : decode cX11_climber 11 = .ok (.getfield 301, 3) := by decide +kernel
theorem dX11_climber_14 : decode cX11_climber 14 = .ok (.ifCond .ne 9, 3) := by decide +kernel
theorem dX11_climber_17 : decode cX11_climber 17 = .ok (.aload_n 0, 1) := by decide +kernel
theorem dX11_climber_18 : decode cX11_climber 18 = .ok (.iconst 1, 1) := by decide +kernel
theorem dX11_climber_19 : decode cX11_climber 19 = .ok (.invokevirtual 295, 3) := by decide +kernel
theorem dX11_climber_22 : decode cX11_climber 22 = .ok (.ireturn, 1) := by decide +kernel
theorem dX11_climber_23 : decode cX11_climber 23 = .ok (.aload_n 0, 1) := by decide +kernel
theorem dX11_climber_24 : decode cX11_climber 24 = .ok (.getfield 313, 3) := by decide +kernel
theorem dX11_climber_27 : decode cX11_climber 27 = .ok (.bipush 16, 2) := by decide +kernel
theorem dX11_climber_29 : decode cX11_climber 29 = .ok (.if_icmp .ne 9, 3) := by decide +kernel
theorem dX11_climber_32 : decode cX11_climber 32 = .ok (.aload_n 0, 1) := by decide +kernel
theorem dX11_climber_33 : decode cX11_climber 33 = .ok (.iconst 3, 1) := by decide +kernel
theorem dX11_climber_34 : decode cX11_climber 34 = .ok (.invokevirtual 295, 3) := by decide +kernel
theorem dX11_climber_37 : decode cX11_climber 37 = .ok (.ireturn, 1) := by decide +kernel
theorem dX11_climber_38 : decode cX11_climber 38 = .ok (.aload_n 0, 1) := by decide +kernel
theorem dX11_climber_39 : decode cX11_climber 39 = .ok (.getfield 319, 3) := by decide +kernel
theorem dX11_climber_42 : decode cX11_climber 42 = .ok (.ifCond .gt 10, 3) := by decide +kernel
theorem dX11_climber_45 : decode cX11_climber 45 = .ok (.aload_n 0, 1) := by decide +kernel
theorem dX11_climber_46 : decode cX11_climber 46 = .ok (.getfield 82, 3) := by decide +kernel
theorem dX11_climber_49 : decode cX11_climber 49 = .ok (.ifCond .le 10, 3) := by decide +kernel
theorem dX11_climber_52 : decode cX11_climber 52 = .ok (.aload_n 0, 1) := by decide +kernel
theorem dX11_climber_53 : decode cX11_climber 53 = .ok (.bipush 10, 2) := by decide +kernel
theorem dX11_climber_55 : decode cX11_climber 55 = .ok (.invokevirtual 295, 3) := by decide +kernel
theorem dX11_climber_58 : decode cX11_climber 58 = .ok (.ireturn, 1) := by decide +kernel
theorem dX11_climber_59 : decode cX11_climber 59 = .ok (.aload_n 0, 1) := by decide +kernel
theorem dX11_climber_60 : decode cX11_climber 60 = .ok (.getfield 85, 3) := by decide +kernel
theorem dX11_climber_63 : decode cX11_climber 63 = .ok (.aload_n 0, 1) := by decide +kernel
theorem dX11_climber_64 : decode cX11_climber 64 = .ok (.getfield 313, 3) := by decide +kernel
theorem dX11_climber_67 : decode cX11_climber 67 = .ok (.iconst 1, 1) := by decide +kernel
theorem dX11_climber_68 : decode cX11_climber 68 = .ok (.bastore, 1) := by decide +kernel
theorem dX11_climber_69 : decode cX11_climber 69 = .ok (.aload_n 0, 1) := by decide +kernel
theorem dX11_climber_70 : decode cX11_climber 70 = .ok (.getfield 88, 3) := by decide +kernel
theorem dX11_climber_73 : decode cX11_climber 73 = .ok (.aload_n 0, 1) := by decide +kernel
theorem dX11_climber_74 : decode cX11_climber 74 = .ok (.getfield 313, 3) := by decide +kernel
theorem dX11_climber_77 : decode cX11_climber 77 = .ok (.aload_n 0, 1) := by decide +kernel
theorem dX11_climber_78 : decode cX11_climber 78 = .ok (.getfield 313, 3) := by decide +kernel
theorem dX11_climber_81 : decode cX11_climber 81 = .ok (.iastore, 1) := by decide +kernel
theorem dX11_climber_82 : decode cX11_climber 82 = .ok (.aload_n 0, 1) := by decide +kernel
theorem dX11_climber_83 : decode cX11_climber 83 = .ok (.getfield 124, 3) := by decide +kernel
theorem dX11_climber_86 : decode cX11_climber 86 = .ok (.aload_n 0, 1) := by decide +kernel
theorem dX11_climber_87 : decode cX11_climber 87 = .ok (.getfield 313, 3) := by decide +kernel
theorem dX11_climber_90 : decode cX11_climber 90 = .ok (.iconst 0, 1) := by decide +kernel
theorem dX11_climber_91 : decode cX11_climber 91 = .ok (.iastore, 1) := by decide +kernel
theorem dX11_climber_92 : decode cX11_climber 92 = .ok (.aload_n 0, 1) := by decide +kernel
theorem dX11_climber_93 : decode cX11_climber 93 = .ok (.dup, 1) := by decide +kernel
theorem dX11_climber_94 : decode cX11_climber 94 = .ok (.getfield 313, 3) := by decide +kernel
theorem dX11_climber_97 : decode cX11_climber 97 = .ok (.iconst 1, 1) := by decide +kernel
theorem dX11_climber_98 : decode cX11_climber 98 = .ok (.iadd, 1) := by decide +kernel
theorem dX11_climber_99 : decode cX11_climber 99 = .ok (.putfield 313, 3) := by decide +kernel
theorem dX11_climber_102 : decode cX11_climber 102 = .ok (.aload_n 0, 1) := by decide +kernel
theorem dX11_climber_103 : decode cX11_climber 103 = .ok (.getfield 91, 3) := by decide +kernel
theorem dX11_climber_106 : decode cX11_climber 106 = .ok (.iconst 0, 1) := by decide +kernel
theorem dX11_climber_107 : decode cX11_climber 107 = .ok (.aload_n 0, 1) := by decide +kernel
theorem dX11_climber_108 : decode cX11_climber 108 = .ok (.getfield 313, 3) := by decide +kernel
theorem dX11_climber_111 : decode cX11_climber 111 = .ok (.iastore, 1) := by decide +kernel
theorem dX11_climber_112 : decode cX11_climber 112 = .ok (.aload_n 0, 1) := by decide +kernel
theorem dX11_climber_113 : decode cX11_climber 113 = .ok (.iconst 0, 1) := by decide +kernel
theorem dX11_climber_114 : decode cX11_climber 114 = .ok (.putfield 82, 3) := by decide +kernel
theorem dX11_climber_117 : decode cX11_climber 117 = .ok (.aload_n 0, 1) := by decide +kernel
theorem dX11_climber_118 : decode cX11_climber 118 = .ok (.getfield 313, 3) := by decide +kernel
theorem dX11_climber_121 : decode cX11_climber 121 = .ok (.iconst 1, 1) := by decide +kernel
theorem dX11_climber_122 : decode cX11_climber 122 = .ok (.isub, 1) := by decide +kernel
theorem dX11_climber_123 : decode cX11_climber 123 = .ok (.ireturn, 1) := by decide +kernel
theorem dX11_route_0 : decode cX11_route 0 = .ok (.aload_n 0, 1) := by decide +kernel
theorem dX11_route_1 : decode cX11_route 1 = .ok (.iconst 0, 1) := by decide +kernel
theorem dX11_route_2 : decode cX11_route 2 = .ok (.putfield 146, 3) := by decide +kernel
theorem dX11_route_5 : decode cX11_route 5 = .ok (.aload_n 0, 1) := by decide +kernel
theorem dX11_route_6 : decode cX11_route 6 = .ok (.iconst 0, 1) := by decide +kernel
theorem dX11_route_7 : decode cX11_route 7 = .ok (.putfield 149, 3) := by decide +kernel
theorem dX11_route_10 : decode cX11_route 10 = .ok (.aload_n 0, 1) := by decide +kernel
theorem dX11_route_11 : decode cX11_route 11 = .ok (.iload_n 1, 1) := by decide +kernel
theorem dX11_route_12 : decode cX11_route 12 = .ok (.iload_n 2, 1) := by decide +kernel
theorem dX11_route_13 : decode cX11_route 13 = .ok (.invokevirtual 328, 3) := by decide +kernel
theorem dX11_route_16 : decode cX11_route 16 = .ok (.ifCond .ne 9, 3) := by decide +kernel
theorem dX11_route_19 : decode cX11_route 19 = .ok (.aload_n 0, 1) := by decide +kernel
theorem dX11_route_20 : decode cX11_route 20 = .ok (.iconst 1, 1) := by decide +kernel
theorem dX11_route_21 : decode cX11_route 21 = .ok (.invokevirtual 332, 3) := by decide +kernel
theorem dX11_route_24 : decode cX11_route 24 = .ok (.ireturn, 1) := by decide +kernel
theorem dX11_route_25 : decode cX11_route 25 = .ok (.iload_n 3, 1) := by decide +kernel
theorem dX11_route_26 : decode cX11_route 26 = .ok (.iconst 2, 1) := by decide +kernel
theorem dX11_route_27 : decode cX11_route 27 = .ok (.if_icmp .lt 46, 3) := by decide +kernel
theorem dX11_route_30 : decode cX11_route 30 = .ok (.iload_n 3, 1) := by decide +kernel
theorem dX11_route_31 : decode cX11_route 31 = .ok (.bipush 60, 2) := by decide +kernel
theorem dX11_route_33 : decode cX11_route 33 = .ok (.if_icmp .gt 40, 3) := by decide +kernel
theorem dX11_route_36 : decode cX11_route 36 = .ok (.iload 4, 2) := by decide +kernel
theorem dX11_route_38 : decode cX11_route 38 = .ok (.ifCond .lt 35, 3) := by decide +kernel
theorem dX11_route_41 : decode cX11_route 41 = .ok (.iload 5, 2) := by decide +kernel
theorem dX11_route_43 : decode cX11_route 43 = .ok (.ifCond .lt 30, 3) := by decide +kernel
theorem dX11_route_46 : decode cX11_route 46 = .ok (.iload 6, 2) := by decide +kernel
theorem dX11_route_48 : decode cX11_route 48 = .ok (.ifCond .lt 25, 3) := by decide +kernel
theorem dX11_route_51 : decode cX11_route 51 = .ok (.iload 4, 2) := by decide +kernel
theorem dX11_route_53 : decode cX11_route 53 = .ok (.iload_n 3, 1) := by decide +kernel
theorem dX11_route_54 : decode cX11_route 54 = .ok (.if_icmp .gt 19, 3) := by decide +kernel
theorem dX11_route_57 : decode cX11_route 57 = .ok (.iload 5, 2) := by decide +kernel
theorem dX11_route_59 : decode cX11_route 59 = .ok (.iload_n 3, 1) := by decide +kernel
theorem dX11_route_60 : decode cX11_route 60 = .ok (.if_icmp .gt 13, 3) := by decide +kernel
theorem dX11_route_63 : decode cX11_route 63 = .ok (.iload 6, 2) := by decide +kernel
theorem dX11_route_65 : decode cX11_route 65 = .ok (.iload_n 3, 1) := by decide +kernel
theorem dX11_route_66 : decode cX11_route 66 = .ok (.if_icmp .gt 7, 3) := by decide +kernel
theorem dX11_route_69 : decode cX11_route 69 = .ok (.iconst 1, 1) := by decide +kernel
theorem dX11_route_70 : decode cX11_route 70 = .ok (.goto 4, 3) := by decide +kernel
theorem dX11_route_73 : decode cX11_route 73 = .ok (.iconst 0, 1) := by decide +kernel
theorem dX11_route_74 : decode cX11_route 74 = .ok (.istore 7, 2) := by decide +kernel
theorem dX11_route_76 : decode cX11_route 76 = .ok (.iload 7, 2) := by decide +kernel
theorem dX11_route_78 : decode cX11_route 78 = .ok (.ifCond .eq 57, 3) := by decide +kernel
theorem dX11_route_81 : decode cX11_route 81 = .ok (.iload 4, 2) := by decide +kernel
theorem dX11_route_83 : decode cX11_route 83 = .ok (.ifCond .ne 11, 3) := by decide +kernel
theorem dX11_route_86 : decode cX11_route 86 = .ok (.iload 5, 2) := by decide +kernel
theorem dX11_route_88 : decode cX11_route 88 = .ok (.ifCond .ne 47, 3) := by decide +kernel
theorem dX11_route_91 : decode cX11_route 91 = .ok (.goto 15, 3) := by decide +kernel
theorem dX11_route_94 : decode cX11_route 94 = .ok (.iload 5, 2) := by decide +kernel
theorem dX11_route_96 : decode cX11_route 96 = .ok (.ifCond .eq 10, 3) := by decide +kernel
theorem dX11_route_99 : decode cX11_route 99 = .ok (.iload 5, 2) := by decide +kernel
theorem dX11_route_101 : decode cX11_route 101 = .ok (.iload 4, 2) := by decide +kernel
theorem dX11_route_103 : decode cX11_route 103 = .ok (.if_icmp .le 32, 3) := by decide +kernel
theorem dX11_route_106 : decode cX11_route 106 = .ok (.iload 5, 2) := by decide +kernel
theorem dX11_route_108 : decode cX11_route 108 = .ok (.ifCond .ne 11, 3) := by decide +kernel
theorem dX11_route_111 : decode cX11_route 111 = .ok (.iload 6, 2) := by decide +kernel
theorem dX11_route_113 : decode cX11_route 113 = .ok (.ifCond .ne 22, 3) := by decide +kernel
theorem dX11_route_116 : decode cX11_route 116 = .ok (.goto 15, 3) := by decide +kernel
theorem dX11_route_119 : decode cX11_route 119 = .ok (.iload 6, 2) := by decide +kernel
theorem dX11_route_121 : decode cX11_route 121 = .ok (.ifCond .eq 10, 3) := by decide +kernel
theorem dX11_route_124 : decode cX11_route 124 = .ok (.iload 6, 2) := by decide +kernel
theorem dX11_route_126 : decode cX11_route 126 = .ok (.iload 5, 2) := by decide +kernel
theorem dX11_route_128 : decode cX11_route 128 = .ok (.if_icmp .le 7, 3) := by decide +kernel
theorem dX11_route_131 : decode cX11_route 131 = .ok (.iconst 1, 1) := by decide +kernel
theorem dX11_route_132 : decode cX11_route 132 = .ok (.goto 4, 3) := by decide +kernel
theorem dX11_route_135 : decode cX11_route 135 = .ok (.iconst 0, 1) := by decide +kernel
theorem dX11_route_136 : decode cX11_route 136 = .ok (.istore 7, 2) := by decide +kernel
theorem dX11_route_138 : decode cX11_route 138 = .ok (.iload 7, 2) := by decide +kernel
theorem dX11_route_140 : decode cX11_route 140 = .ok (.ifCond .ne 9, 3) := by decide +kernel
theorem dX11_route_143 : decode cX11_route 143 = .ok (.aload_n 0, 1) := by decide +kernel
theorem dX11_route_144 : decode cX11_route 144 = .ok (.iconst 2, 1) := by decide +kernel
theorem dX11_route_145 : decode cX11_route 145 = .ok (.invokevirtual 332, 3) := by decide +kernel
theorem dX11_route_148 : decode cX11_route 148 = .ok (.ireturn, 1) := by decide +kernel
theorem dX11_route_149 : decode cX11_route 149 = .ok (.iload_n 1, 1) := by decide +kernel
theorem dX11_route_150 : decode cX11_route 150 = .ok (.iload_n 2, 1) := by decide +kernel
theorem dX11_route_151 : decode cX11_route 151 = .ok (.invokestatic 335, 3) := by decide +kernel
theorem dX11_route_154 : decode cX11_route 154 = .ok (.istore 8, 2) := by decide +kernel
theorem dX11_route_156 : decode cX11_route 156 = .ok (.aload_n 0, 1) := by decide +kernel
theorem dX11_route_157 : decode cX11_route 157 = .ok (.getfield 79, 3) := by decide +kernel
theorem dX11_route_160 : decode cX11_route 160 = .ok (.iload 8, 2) := by decide +kernel
theorem dX11_route_162 : decode cX11_route 162 = .ok (.iaload, 1) := by decide +kernel
theorem dX11_route_163 : decode cX11_route 163 = .ok (.ifCond .le 10, 3) := by decide +kernel
theorem dX11_route_166 : decode cX11_route 166 = .ok (.aload_n 0, 1) := by decide +kernel
theorem dX11_route_167 : decode cX11_route 167 = .ok (.bipush 10, 2) := by decide +kernel
theorem dX11_route_169 : decode cX11_route 169 = .ok (.invokevirtual 332, 3) := by decide +kernel
theorem dX11_route_172 : decode cX11_route 172 = .ok (.ireturn, 1) := by decide +kernel
theorem dX11_route_173 : decode cX11_route 173 = .ok (.aload_n 0, 1) := by decide +kernel
theorem dX11_route_174 : decode cX11_route 174 = .ok (.getfield 73, 3) := by decide +kernel
theorem dX11_route_177 : decode cX11_route 177 = .ok (.iload 8, 2) := by decide +kernel
theorem dX11_route_179 : decode cX11_route 179 = .ok (.iload_n 3, 1) := by decide +kernel
theorem dX11_route_180 : decode cX11_route 180 = .ok (.iastore, 1) := by decide +kernel
theorem dX11_route_181 : decode cX11_route 181 = .ok (.aload_n 0, 1) := by decide +kernel
theorem dX11_route_182 : decode cX11_route 182 = .ok (.getfield 76, 3) := by decide +kernel
theorem dX11_route_185 : decode cX11_route 185 = .ok (.iconst 3, 1) := by decide +kernel
theorem dX11_route_186 : decode cX11_route 186 = .ok (.iload 8, 2) := by decide +kernel
theorem dX11_route_188 : decode cX11_route 188 = .ok (.imul, 1) := by decide +kernel
theorem dX11_route_189 : decode cX11_route 189 = .ok (.iload 4, 2) := by decide +kernel
theorem dX11_route_191 : decode cX11_route 191 = .ok (.iastore, 1) := by decide +kernel
theorem dX11_route_192 : decode cX11_route 192 = .ok (.aload_n 0, 1) := by decide +kernel
theorem dX11_route_193 : decode cX11_route 193 = .ok (.getfield 76, 3) := by decide +kernel
theorem dX11_route_196 : decode cX11_route 196 = .ok (.iconst 3, 1) := by decide +kernel
theorem dX11_route_197 : decode cX11_route 197 = .ok (.iload 8, 2) := by decide +kernel
theorem dX11_route_199 : decode cX11_route 199 = .ok (.imul, 1) := by decide +kernel
theorem dX11_route_200 : decode cX11_route 200 = .ok (.iconst 1, 1) := by decide +kernel
theorem dX11_route_201 : decode cX11_route 201 = .ok (.iadd, 1) := by decide +kernel
theorem dX11_route_202 : decode cX11_route 202 = .ok (.iload 5, 2) := by decide +kernel
theorem dX11_route_204 : decode cX11_route 204 = .ok (.iastore, 1) := by decide +kernel
theorem dX11_route_205 : decode cX11_route 205 = .ok (.aload_n 0, 1) := by decide +kernel
theorem dX11_route_206 : decode cX11_route 206 = .ok (.getfield 76, 3) := by decide +kernel
theorem dX11_route_209 : decode cX11_route 209 = .ok (.iconst 3, 1) := by decide +kernel
theorem dX11_route_210 : decode cX11_route 210 = .ok (.iload 8, 2) := by decide +kernel
theorem dX11_route_212 : decode cX11_route 212 = .ok (.imul, 1) := by decide +kernel
theorem dX11_route_213 : decode cX11_route 213 = .ok (.iconst 2, 1) := by decide +kernel
theorem dX11_route_214 : decode cX11_route 214 = .ok (.iadd, 1) := by decide +kernel
theorem dX11_route_215 : decode cX11_route 215 = .ok (.iload 6, 2) := by decide +kernel
theorem dX11_route_217 : decode cX11_route 217 = .ok (.iastore, 1) := by decide +kernel
theorem dX11_route_218 : decode cX11_route 218 = .ok (.iconst 1, 1) := by decide +kernel
theorem dX11_route_219 : decode cX11_route 219 = .ok (.ireturn, 1) := by decide +kernel
theorem dX11_told_0 : decode cX11_told 0 = .ok (.aload_n 0, 1) := by decide +kernel
theorem dX11_told_1 : decode cX11_told 1 = .ok (.iconst 0, 1) := by decide +kernel
theorem dX11_told_2 : decode cX11_told 2 = .ok (.putfield 146, 3) := by decide +kernel
theorem dX11_told_5 : decode cX11_told 5 = .ok (.aload_n 0, 1) := by decide +kernel
theorem dX11_told_6 : decode cX11_told 6 = .ok (.iconst 0, 1) := by decide +kernel
theorem dX11_told_7 : decode cX11_told 7 = .ok (.putfield 149, 3) := by decide +kernel
theorem dX11_told_10 : decode cX11_told 10 = .ok (.aload_n 0, 1) := by decide +kernel
theorem dX11_told_11 : decode cX11_told 11 = .ok (.iload_n 1, 1) := by decide +kernel
theorem dX11_told_12 : decode cX11_told 12 = .ok (.invokevirtual 325, 3) := by decide +kernel
theorem dX11_told_15 : decode cX11_told 15 = .ok (.ifCond .eq 17, 3) := by decide +kernel
theorem dX11_told_18 : decode cX11_told 18 = .ok (.iload_n 2, 1) := by decide +kernel
theorem dX11_told_19 : decode cX11_told 19 = .ok (.iconst (-1), 1) := by decide +kernel
theorem dX11_told_20 : decode cX11_told 20 = .ok (.if_icmp .eq 18, 3) := by decide +kernel
theorem dX11_told_23 : decode cX11_told 23 = .ok (.aload_n 0, 1) := by decide +kernel
theorem dX11_told_24 : decode cX11_told 24 = .ok (.iload_n 1, 1) := by decide +kernel
theorem dX11_told_25 : decode cX11_told 25 = .ok (.iload_n 2, 1) := by decide +kernel
theorem dX11_told_26 : decode cX11_told 26 = .ok (.invokevirtual 328, 3) := by decide +kernel
theorem dX11_told_29 : decode cX11_told 29 = .ok (.ifCond .ne 9, 3) := by decide +kernel
theorem dX11_told_32 : decode cX11_told 32 = .ok (.aload_n 0, 1) := by decide +kernel
theorem dX11_told_33 : decode cX11_told 33 = .ok (.iconst 1, 1) := by decide +kernel
theorem dX11_told_34 : decode cX11_told 34 = .ok (.invokevirtual 295, 3) := by decide +kernel
theorem dX11_told_37 : decode cX11_told 37 = .ok (.ireturn, 1) := by decide +kernel
theorem dX11_told_38 : decode cX11_told 38 = .ok (.iload_n 3, 1) := by decide +kernel
theorem dX11_told_39 : decode cX11_told 39 = .ok (.ifCond .lt 8, 3) := by decide +kernel
theorem dX11_told_42 : decode cX11_told 42 = .ok (.iload_n 3, 1) := by decide +kernel
theorem dX11_told_43 : decode cX11_told 43 = .ok (.iconst 4, 1) := by decide +kernel
theorem dX11_told_44 : decode cX11_told 44 = .ok (.if_icmp .le 9, 3) := by decide +kernel
theorem dX11_told_47 : decode cX11_told 47 = .ok (.aload_n 0, 1) := by decide +kernel
theorem dX11_told_48 : decode cX11_told 48 = .ok (.iconst 2, 1) := by decide +kernel
theorem dX11_told_49 : decode cX11_told 49 = .ok (.invokevirtual 295, 3) := by decide +kernel
theorem dX11_told_52 : decode cX11_told 52 = .ok (.ireturn, 1) := by decide +kernel
theorem dX11_told_53 : decode cX11_told 53 = .ok (.iload_n 2, 1) := by decide +kernel
theorem dX11_told_54 : decode cX11_told 54 = .ok (.iconst (-1), 1) := by decide +kernel
theorem dX11_told_55 : decode cX11_told 55 = .ok (.if_icmp .ne 65, 3) := by decide +kernel
theorem dX11_told_58 : decode cX11_told 58 = .ok (.iload_n 3, 1) := by decide +kernel
theorem dX11_told_59 : decode cX11_told 59 = .ok (.ifCond .ne 12, 3) := by decide +kernel
theorem dX11_told_62 : decode cX11_told 62 = .ok (.aload_n 0, 1) := by decide +kernel
theorem dX11_told_63 : decode cX11_told 63 = .ok (.getfield 20, 3) := by decide +kernel
theorem dX11_told_66 : decode cX11_told 66 = .ok (.iload_n 1, 1) := by decide +kernel
theorem dX11_told_67 : decode cX11_told 67 = .ok (.iaload, 1) := by decide +kernel
theorem dX11_told_68 : decode cX11_told 68 = .ok (.goto 51, 3) := by decide +kernel
theorem dX11_told_71 : decode cX11_told 71 = .ok (.iload_n 3, 1) := by decide +kernel
theorem dX11_told_72 : decode cX11_told 72 = .ok (.iconst 1, 1) := by decide +kernel
theorem dX11_told_73 : decode cX11_told 73 = .ok (.if_icmp .ne 12, 3) := by decide +kernel
theorem dX11_told_76 : decode cX11_told 76 = .ok (.aload_n 0, 1) := by decide +kernel
theorem dX11_told_77 : decode cX11_told 77 = .ok (.getfield 24, 3) := by decide +kernel
theorem dX11_told_80 : decode cX11_told 80 = .ok (.iload_n 1, 1) := by decide +kernel
theorem dX11_told_81 : decode cX11_told 81 = .ok (.iaload, 1) := by decide +kernel
theorem dX11_told_82 : decode cX11_told 82 = .ok (.goto 37, 3) := by decide +kernel
theorem dX11_told_85 : decode cX11_told 85 = .ok (.iload_n 3, 1) := by decide +kernel
theorem dX11_told_86 : decode cX11_told 86 = .ok (.iconst 2, 1) := by decide +kernel
theorem dX11_told_87 : decode cX11_told 87 = .ok (.if_icmp .ne 12, 3) := by decide +kernel
theorem dX11_told_90 : decode cX11_told 90 = .ok (.aload_n 0, 1) := by decide +kernel
theorem dX11_told_91 : decode cX11_told 91 = .ok (.getfield 27, 3) := by decide +kernel
theorem dX11_told_94 : decode cX11_told 94 = .ok (.iload_n 1, 1) := by decide +kernel
theorem dX11_told_95 : decode cX11_told 95 = .ok (.iaload, 1) := by decide +kernel
theorem dX11_told_96 : decode cX11_told 96 = .ok (.goto 23, 3) := by decide +kernel
theorem dX11_told_99 : decode cX11_told 99 = .ok (.iload_n 3, 1) := by decide +kernel
theorem dX11_told_100 : decode cX11_told 100 = .ok (.iconst 3, 1) := by decide +kernel
theorem dX11_told_101 : decode cX11_told 101 = .ok (.if_icmp .ne 12, 3) := by decide +kernel
theorem dX11_told_104 : decode cX11_told 104 = .ok (.aload_n 0, 1) := by decide +kernel
theorem dX11_told_105 : decode cX11_told 105 = .ok (.getfield 30, 3) := by decide +kernel
theorem dX11_told_108 : decode cX11_told 108 = .ok (.iload_n 1, 1) := by decide +kernel
theorem dX11_told_109 : decode cX11_told 109 = .ok (.iaload, 1) := by decide +kernel
theorem dX11_told_110 : decode cX11_told 110 = .ok (.goto 9, 3) := by decide +kernel
theorem dX11_told_113 : decode cX11_told 113 = .ok (.aload_n 0, 1) := by decide +kernel
theorem dX11_told_114 : decode cX11_told 114 = .ok (.getfield 91, 3) := by decide +kernel
theorem dX11_told_117 : decode cX11_told 117 = .ok (.iload_n 1, 1) := by decide +kernel
theorem dX11_told_118 : decode cX11_told 118 = .ok (.iaload, 1) := by decide +kernel
theorem dX11_told_119 : decode cX11_told 119 = .ok (.ireturn, 1) := by decide +kernel
theorem dX11_told_120 : decode cX11_told 120 = .ok (.iload_n 1, 1) := by decide +kernel
theorem dX11_told_121 : decode cX11_told 121 = .ok (.iload_n 2, 1) := by decide +kernel
theorem dX11_told_122 : decode cX11_told 122 = .ok (.invokestatic 335, 3) := by decide +kernel
theorem dX11_told_125 : decode cX11_told 125 = .ok (.istore 4, 2) := by decide +kernel
theorem dX11_told_127 : decode cX11_told 127 = .ok (.iload_n 3, 1) := by decide +kernel
theorem dX11_told_128 : decode cX11_told 128 = .ok (.ifCond .ne 13, 3) := by decide +kernel
theorem dX11_told_131 : decode cX11_told 131 = .ok (.aload_n 0, 1) := by decide +kernel
theorem dX11_told_132 : decode cX11_told 132 = .ok (.getfield 73, 3) := by decide +kernel
theorem dX11_told_135 : decode cX11_told 135 = .ok (.iload 4, 2) := by decide +kernel
theorem dX11_told_137 : decode cX11_told 137 = .ok (.iaload, 1) := by decide +kernel
theorem dX11_told_138 : decode cX11_told 138 = .ok (.goto 31, 3) := by decide +kernel
theorem dX11_told_141 : decode cX11_told 141 = .ok (.iload_n 3, 1) := by decide +kernel
theorem dX11_told_142 : decode cX11_told 142 = .ok (.iconst 4, 1) := by decide +kernel
theorem dX11_told_143 : decode cX11_told 143 = .ok (.if_icmp .ne 13, 3) := by decide +kernel
theorem dX11_told_146 : decode cX11_told 146 = .ok (.aload_n 0, 1) := by decide +kernel
theorem dX11_told_147 : decode cX11_told 147 = .ok (.getfield 79, 3) := by decide +kernel
theorem dX11_told_150 : decode cX11_told 150 = .ok (.iload 4, 2) := by decide +kernel
theorem dX11_told_152 : decode cX11_told 152 = .ok (.iaload, 1) := by decide +kernel
theorem dX11_told_153 : decode cX11_told 153 = .ok (.goto 16, 3) := by decide +kernel
theorem dX11_told_156 : decode cX11_told 156 = .ok (.aload_n 0, 1) := by decide +kernel
theorem dX11_told_157 : decode cX11_told 157 = .ok (.getfield 76, 3) := by decide +kernel
theorem dX11_told_160 : decode cX11_told 160 = .ok (.iconst 3, 1) := by decide +kernel
theorem dX11_told_161 : decode cX11_told 161 = .ok (.iload 4, 2) := by decide +kernel
theorem dX11_told_163 : decode cX11_told 163 = .ok (.imul, 1) := by decide +kernel
theorem dX11_told_164 : decode cX11_told 164 = .ok (.iload_n 3, 1) := by decide +kernel
theorem dX11_told_165 : decode cX11_told 165 = .ok (.iadd, 1) := by decide +kernel
theorem dX11_told_166 : decode cX11_told 166 = .ok (.iconst 1, 1) := by decide +kernel
theorem dX11_told_167 : decode cX11_told 167 = .ok (.isub, 1) := by decide +kernel
theorem dX11_told_168 : decode cX11_told 168 = .ok (.iaload, 1) := by decide +kernel
theorem dX11_told_169 : decode cX11_told 169 = .ok (.ireturn, 1) := by decide +kernel
theorem dX11_goesTo_0 : decode cX11_goesTo 0 = .ok (.aload_n 0, 1) := by decide +kernel
theorem dX11_goesTo_1 : decode cX11_goesTo 1 = .ok (.iload_n 1, 1) := by decide +kernel
theorem dX11_goesTo_2 : decode cX11_goesTo 2 = .ok (.putfield 316, 3) := by decide +kernel
theorem dX11_goesTo_5 : decode cX11_goesTo 5 = .ok (.iconst 0, 1) := by decide +kernel
theorem dX11_goesTo_6 : decode cX11_goesTo 6 = .ok (.istore_n 2, 1) := by decide +kernel
theorem dX11_goesTo_7 : decode cX11_goesTo 7 = .ok (.iload_n 2, 1) := by decide +kernel
theorem dX11_goesTo_8 : decode cX11_goesTo 8 = .ok (.aload_n 0, 1) := by decide +kernel
theorem dX11_goesTo_9 : decode cX11_goesTo 9 = .ok (.getfield 319, 3) := by decide +kernel
theorem dX11_goesTo_12 : decode cX11_goesTo 12 = .ok (.if_icmp .ge 74, 3) := by decide +kernel
theorem dX11_goesTo_15 : decode cX11_goesTo 15 = .ok (.aload_n 0, 1) := by decide +kernel
theorem dX11_goesTo_16 : decode cX11_goesTo 16 = .ok (.getfield 112, 3) := by decide +kernel
theorem dX11_goesTo_19 : decode cX11_goesTo 19 = .ok (.iload_n 2, 1) := by decide +kernel
theorem dX11_goesTo_20 : decode cX11_goesTo 20 = .ok (.iaload, 1) := by decide +kernel
theorem dX11_goesTo_21 : decode cX11_goesTo 21 = .ok (.ifCond .ne 59, 3) := by decide +kernel
theorem dX11_goesTo_24 : decode cX11_goesTo 24 = .ok (.aload_n 0, 1) := by decide +kernel
theorem dX11_goesTo_25 : decode cX11_goesTo 25 = .ok (.getfield 103, 3) := by decide +kernel
theorem dX11_goesTo_28 : decode cX11_goesTo 28 = .ok (.iload_n 2, 1) := by decide +kernel
theorem dX11_goesTo_29 : decode cX11_goesTo 29 = .ok (.iaload, 1) := by decide +kernel
theorem dX11_goesTo_30 : decode cX11_goesTo 30 = .ok (.aload_n 0, 1) := by decide +kernel
theorem dX11_goesTo_31 : decode cX11_goesTo 31 = .ok (.getfield 27, 3) := by decide +kernel
theorem dX11_goesTo_34 : decode cX11_goesTo 34 = .ok (.aload_n 0, 1) := by decide +kernel
theorem dX11_goesTo_35 : decode cX11_goesTo 35 = .ok (.getfield 97, 3) := by decide +kernel
theorem dX11_goesTo_38 : decode cX11_goesTo 38 = .ok (.iload_n 2, 1) := by decide +kernel
theorem dX11_goesTo_39 : decode cX11_goesTo 39 = .ok (.iaload, 1) := by decide +kernel
theorem dX11_goesTo_40 : decode cX11_goesTo 40 = .ok (.iaload, 1) := by decide +kernel
theorem dX11_goesTo_41 : decode cX11_goesTo 41 = .ok (.iadd, 1) := by decide +kernel
theorem dX11_goesTo_42 : decode cX11_goesTo 42 = .ok (.iload_n 1, 1) := by decide +kernel
theorem dX11_goesTo_43 : decode cX11_goesTo 43 = .ok (.if_icmp .le 6, 3) := by decide +kernel
theorem dX11_goesTo_46 : decode cX11_goesTo 46 = .ok (.goto 34, 3) := by decide +kernel
theorem dX11_goesTo_49 : decode cX11_goesTo 49 = .ok (.aload_n 0, 1) := by decide +kernel
theorem dX11_goesTo_50 : decode cX11_goesTo 50 = .ok (.getfield 112, 3) := by decide +kernel
theorem dX11_goesTo_53 : decode cX11_goesTo 53 = .ok (.iload_n 2, 1) := by decide +kernel
theorem dX11_goesTo_54 : decode cX11_goesTo 54 = .ok (.iconst 3, 1) := by decide +kernel
theorem dX11_goesTo_55 : decode cX11_goesTo 55 = .ok (.iastore, 1) := by decide +kernel
theorem dX11_goesTo_56 : decode cX11_goesTo 56 = .ok (.aload_n 0, 1) := by decide +kernel
theorem dX11_goesTo_57 : decode cX11_goesTo 57 = .ok (.getfield 106, 3) := by decide +kernel
theorem dX11_goesTo_60 : decode cX11_goesTo 60 = .ok (.iload_n 2, 1) := by decide +kernel
theorem dX11_goesTo_61 : decode cX11_goesTo 61 = .ok (.aload_n 0, 1) := by decide +kernel
theorem dX11_goesTo_62 : decode cX11_goesTo 62 = .ok (.getfield 103, 3) := by decide +kernel
theorem dX11_goesTo_65 : decode cX11_goesTo 65 = .ok (.iload_n 2, 1) := by decide +kernel
theorem dX11_goesTo_66 : decode cX11_goesTo 66 = .ok (.iaload, 1) := by decide +kernel
theorem dX11_goesTo_67 : decode cX11_goesTo 67 = .ok (.aload_n 0, 1) := by decide +kernel
theorem dX11_goesTo_68 : decode cX11_goesTo 68 = .ok (.getfield 27, 3) := by decide +kernel
theorem dX11_goesTo_71 : decode cX11_goesTo 71 = .ok (.aload_n 0, 1) := by decide +kernel
theorem dX11_goesTo_72 : decode cX11_goesTo 72 = .ok (.getfield 97, 3) := by decide +kernel
theorem dX11_goesTo_75 : decode cX11_goesTo 75 = .ok (.iload_n 2, 1) := by decide +kernel
theorem dX11_goesTo_76 : decode cX11_goesTo 76 = .ok (.iaload, 1) := by decide +kernel
theorem dX11_goesTo_77 : decode cX11_goesTo 77 = .ok (.iaload, 1) := by decide +kernel
theorem dX11_goesTo_78 : decode cX11_goesTo 78 = .ok (.iadd, 1) := by decide +kernel
theorem dX11_goesTo_79 : decode cX11_goesTo 79 = .ok (.iastore, 1) := by decide +kernel
theorem dX11_goesTo_80 : decode cX11_goesTo 80 = .ok (.iinc 2 1, 3) := by decide +kernel
theorem dX11_goesTo_83 : decode cX11_goesTo 83 = .ok (.goto (-76), 3) := by decide +kernel
theorem dX11_goesTo_86 : decode cX11_goesTo 86 = .ok (.return_, 1) := by decide +kernel
theorem dX11_clocked_0 : decode cX11_clocked 0 = .ok (.iload_n 1, 1) := by decide +kernel
theorem dX11_clocked_1 : decode cX11_clocked 1 = .ok (.ifCond .lt 10, 3) := by decide +kernel
theorem dX11_clocked_4 : decode cX11_clocked 4 = .ok (.iload_n 1, 1) := by decide +kernel
theorem dX11_clocked_5 : decode cX11_clocked 5 = .ok (.ldc_w 337, 3) := by decide +kernel
theorem dX11_clocked_8 : decode cX11_clocked 8 = .ok (.if_icmp .le 5, 3) := by decide +kernel
theorem dX11_clocked_11 : decode cX11_clocked 11 = .ok (.iconst 2, 1) := by decide +kernel
theorem dX11_clocked_12 : decode cX11_clocked 12 = .ok (.ireturn, 1) := by decide +kernel
theorem dX11_clocked_13 : decode cX11_clocked 13 = .ok (.iload_n 1, 1) := by decide +kernel
theorem dX11_clocked_14 : decode cX11_clocked 14 = .ok (.aload_n 0, 1) := by decide +kernel
theorem dX11_clocked_15 : decode cX11_clocked 15 = .ok (.getfield 316, 3) := by decide +kernel
theorem dX11_clocked_18 : decode cX11_clocked 18 = .ok (.if_icmp .ge 6, 3) := by decide +kernel
theorem dX11_clocked_21 : decode cX11_clocked 21 = .ok (.bipush 9, 2) := by decide +kernel
theorem dX11_clocked_23 : decode cX11_clocked 23 = .ok (.ireturn, 1) := by decide +kernel
theorem dX11_clocked_24 : decode cX11_clocked 24 = .ok (.aload_n 0, 1) := by decide +kernel
theorem dX11_clocked_25 : decode cX11_clocked 25 = .ok (.iload_n 1, 1) := by decide +kernel
theorem dX11_clocked_26 : decode cX11_clocked 26 = .ok (.invokevirtual 338, 3) := by decide +kernel
theorem dX11_clocked_29 : decode cX11_clocked 29 = .ok (.iconst 0, 1) := by decide +kernel
theorem dX11_clocked_30 : decode cX11_clocked 30 = .ok (.ireturn, 1) := by decide +kernel
theorem dX11_openTry_0 : decode cX11_openTry 0 = .ok (.iconst 0, 1) := by decide +kernel
theorem dX11_openTry_1 : decode cX11_openTry 1 = .ok (.istore_n 2, 1) := by decide +kernel
theorem dX11_openTry_2 : decode cX11_openTry 2 = .ok (.iload_n 2, 1) := by decide +kernel
theorem dX11_openTry_3 : decode cX11_openTry 3 = .ok (.aload_n 0, 1) := by decide +kernel
theorem dX11_openTry_4 : decode cX11_openTry 4 = .ok (.getfield 319, 3) := by decide +kernel
theorem dX11_openTry_7 : decode cX11_openTry 7 = .ok (.if_icmp .ge 30, 3) := by decide +kernel
theorem dX11_openTry_10 : decode cX11_openTry 10 = .ok (.aload_n 0, 1) := by decide +kernel
theorem dX11_openTry_11 : decode cX11_openTry 11 = .ok (.getfield 94, 3) := by decide +kernel
theorem dX11_openTry_14 : decode cX11_openTry 14 = .ok (.iload_n 2, 1) := by decide +kernel
theorem dX11_openTry_15 : decode cX11_openTry 15 = .ok (.iaload, 1) := by decide +kernel
theorem dX11_openTry_16 : decode cX11_openTry 16 = .ok (.iload_n 1, 1) := by decide +kernel
theorem dX11_openTry_17 : decode cX11_openTry 17 = .ok (.if_icmp .ne 14, 3) := by decide +kernel
theorem dX11_openTry_20 : decode cX11_openTry 20 = .ok (.aload_n 0, 1) := by decide +kernel
theorem dX11_openTry_21 : decode cX11_openTry 21 = .ok (.getfield 112, 3) := by decide +kernel
theorem dX11_openTry_24 : decode cX11_openTry 24 = .ok (.iload_n 2, 1) := by decide +kernel
theorem dX11_openTry_25 : decode cX11_openTry 25 = .ok (.iaload, 1) := by decide +kernel
theorem dX11_openTry_26 : decode cX11_openTry 26 = .ok (.ifCond .ne 5, 3) := by decide +kernel
theorem dX11_openTry_29 : decode cX11_openTry 29 = .ok (.iload_n 2, 1) := by decide +kernel
theorem dX11_openTry_30 : decode cX11_openTry 30 = .ok (.ireturn, 1) := by decide +kernel
theorem dX11_openTry_31 : decode cX11_openTry 31 = .ok (.iinc 2 1, 3) := by decide +kernel
theorem dX11_openTry_34 : decode cX11_openTry 34 = .ok (.goto (-32), 3) := by decide +kernel
theorem dX11_openTry_37 : decode cX11_openTry 37 = .ok (.iconst (-1), 1) := by decide +kernel
theorem dX11_openTry_38 : decode cX11_openTry 38 = .ok (.ireturn, 1) := by decide +kernel
theorem dX11_hasSeen_0 : decode cX11_hasSeen 0 = .ok (.iconst 0, 1) := by decide +kernel
theorem dX11_hasSeen_1 : decode cX11_hasSeen 1 = .ok (.istore_n 3, 1) := by decide +kernel
theorem dX11_hasSeen_2 : decode cX11_hasSeen 2 = .ok (.iload_n 3, 1) := by decide +kernel
theorem dX11_hasSeen_3 : decode cX11_hasSeen 3 = .ok (.aload_n 0, 1) := by decide +kernel
theorem dX11_hasSeen_4 : decode cX11_hasSeen 4 = .ok (.getfield 319, 3) := by decide +kernel
theorem dX11_hasSeen_7 : decode cX11_hasSeen 7 = .ok (.if_icmp .ge 151, 3) := by decide +kernel
theorem dX11_hasSeen_10 : decode cX11_hasSeen 10 = .ok (.aload_n 0, 1) := by decide +kernel
theorem dX11_hasSeen_11 : decode cX11_hasSeen 11 = .ok (.getfield 97, 3) := by decide +kernel
theorem dX11_hasSeen_14 : decode cX11_hasSeen 14 = .ok (.iload_n 3, 1) := by decide +kernel
theorem dX11_hasSeen_15 : decode cX11_hasSeen 15 = .ok (.iaload, 1) := by decide +kernel
theorem dX11_hasSeen_16 : decode cX11_hasSeen 16 = .ok (.aload_n 0, 1) := by decide +kernel
theorem dX11_hasSeen_17 : decode cX11_hasSeen 17 = .ok (.getfield 82, 3) := by decide +kernel
theorem dX11_hasSeen_20 : decode cX11_hasSeen 20 = .ok (.if_icmp .ne 132, 3) := by decide +kernel
theorem dX11_hasSeen_23 : decode cX11_hasSeen 23 = .ok (.aload_n 0, 1) := by decide +kernel
theorem dX11_hasSeen_24 : decode cX11_hasSeen 24 = .ok (.getfield 100, 3) := by decide +kernel
theorem dX11_hasSeen_27 : decode cX11_hasSeen 27 = .ok (.iload_n 3, 1) := by decide +kernel
theorem dX11_hasSeen_28 : decode cX11_hasSeen 28 = .ok (.iaload, 1) := by decide +kernel
theorem dX11_hasSeen_29 : decode cX11_hasSeen 29 = .ok (.iload_n 2, 1) := by decide +kernel
theorem dX11_hasSeen_30 : decode cX11_hasSeen 30 = .ok (.if_icmp .ne 122, 3) := by decide +kernel
theorem dX11_hasSeen_33 : decode cX11_hasSeen 33 = .ok (.aload_n 0, 1) := by decide +kernel
theorem dX11_hasSeen_34 : decode cX11_hasSeen 34 = .ok (.getfield 94, 3) := by decide +kernel
theorem dX11_hasSeen_37 : decode cX11_hasSeen 37 = .ok (.iload_n 3, 1) := by decide +kernel
theorem dX11_hasSeen_38 : decode cX11_hasSeen 38 = .ok (.iaload, 1) := by decide +kernel
theorem dX11_hasSeen_39 : decode cX11_hasSeen 39 = .ok (.iload_n 1, 1) := by decide +kernel
theorem dX11_hasSeen_40 : decode cX11_hasSeen 40 = .ok (.if_icmp .ne 6, 3) := by decide +kernel
theorem dX11_hasSeen_43 : decode cX11_hasSeen 43 = .ok (.goto 109, 3) := by decide +kernel
theorem dX11_hasSeen_46 : decode cX11_hasSeen 46 = .ok (.aload_n 0, 1) := by decide +kernel
theorem dX11_hasSeen_47 : decode cX11_hasSeen 47 = .ok (.getfield 112, 3) := by decide +kernel
theorem dX11_hasSeen_50 : decode cX11_hasSeen 50 = .ok (.iload_n 3, 1) := by decide +kernel
theorem dX11_hasSeen_51 : decode cX11_hasSeen 51 = .ok (.iaload, 1) := by decide +kernel
theorem dX11_hasSeen_52 : decode cX11_hasSeen 52 = .ok (.ifCond .ne 10, 3) := by decide +kernel
theorem dX11_hasSeen_55 : decode cX11_hasSeen 55 = .ok (.aload_n 0, 1) := by decide +kernel
theorem dX11_hasSeen_56 : decode cX11_hasSeen 56 = .ok (.getfield 316, 3) := by decide +kernel
theorem dX11_hasSeen_59 : decode cX11_hasSeen 59 = .ok (.goto 9, 3) := by decide +kernel
theorem dX11_hasSeen_62 : decode cX11_hasSeen 62 = .ok (.aload_n 0, 1) := by decide +kernel
theorem dX11_hasSeen_63 : decode cX11_hasSeen 63 = .ok (.getfield 106, 3) := by decide +kernel
theorem dX11_hasSeen_66 : decode cX11_hasSeen 66 = .ok (.iload_n 3, 1) := by decide +kernel
theorem dX11_hasSeen_67 : decode cX11_hasSeen 67 = .ok (.iaload, 1) := by decide +kernel
theorem dX11_hasSeen_68 : decode cX11_hasSeen 68 = .ok (.istore 4, 2) := by decide +kernel
theorem dX11_hasSeen_70 : decode cX11_hasSeen 70 = .ok (.bipush 20, 2) := by decide +kernel
theorem dX11_hasSeen_72 : decode cX11_hasSeen 72 = .ok (.iload_n 1, 1) := by decide +kernel
theorem dX11_hasSeen_73 : decode cX11_hasSeen 73 = .ok (.imul, 1) := by decide +kernel
theorem dX11_hasSeen_74 : decode cX11_hasSeen 74 = .ok (.istore 5, 2) := by decide +kernel
theorem dX11_hasSeen_76 : decode cX11_hasSeen 76 = .ok (.iload 5, 2) := by decide +kernel
theorem dX11_hasSeen_78 : decode cX11_hasSeen 78 = .ok (.bipush 20, 2) := by decide +kernel
theorem dX11_hasSeen_80 : decode cX11_hasSeen 80 = .ok (.iload_n 1, 1) := by decide +kernel
theorem dX11_hasSeen_81 : decode cX11_hasSeen 81 = .ok (.imul, 1) := by decide +kernel
theorem dX11_hasSeen_82 : decode cX11_hasSeen 82 = .ok (.aload_n 0, 1) := by decide +kernel
theorem dX11_hasSeen_83 : decode cX11_hasSeen 83 = .ok (.getfield 124, 3) := by decide +kernel
theorem dX11_hasSeen_86 : decode cX11_hasSeen 86 = .ok (.iload_n 1, 1) := by decide +kernel
theorem dX11_hasSeen_87 : decode cX11_hasSeen 87 = .ok (.iaload, 1) := by decide +kernel
theorem dX11_hasSeen_88 : decode cX11_hasSeen 88 = .ok (.iadd, 1) := by decide +kernel
theorem dX11_hasSeen_89 : decode cX11_hasSeen 89 = .ok (.if_icmp .ge 63, 3) := by decide +kernel
theorem dX11_hasSeen_92 : decode cX11_hasSeen 92 = .ok (.aload_n 0, 1) := by decide +kernel
theorem dX11_hasSeen_93 : decode cX11_hasSeen 93 = .ok (.getfield 130, 3) := by decide +kernel
theorem dX11_hasSeen_96 : decode cX11_hasSeen 96 = .ok (.iload 5, 2) := by decide +kernel
theorem dX11_hasSeen_98 : decode cX11_hasSeen 98 = .ok (.iaload, 1) := by decide +kernel
theorem dX11_hasSeen_99 : decode cX11_hasSeen 99 = .ok (.ifCond .ge 10, 3) := by decide +kernel
theorem dX11_hasSeen_102 : decode cX11_hasSeen 102 = .ok (.aload_n 0, 1) := by decide +kernel
theorem dX11_hasSeen_103 : decode cX11_hasSeen 103 = .ok (.getfield 316, 3) := by decide +kernel
theorem dX11_hasSeen_106 : decode cX11_hasSeen 106 = .ok (.goto 10, 3) := by decide +kernel
theorem dX11_hasSeen_109 : decode cX11_hasSeen 109 = .ok (.aload_n 0, 1) := by decide +kernel
theorem dX11_hasSeen_110 : decode cX11_hasSeen 110 = .ok (.getfield 130, 3) := by decide +kernel
theorem dX11_hasSeen_113 : decode cX11_hasSeen 113 = .ok (.iload 5, 2) := by decide +kernel
theorem dX11_hasSeen_115 : decode cX11_hasSeen 115 = .ok (.iaload, 1) := by decide +kernel
theorem dX11_hasSeen_116 : decode cX11_hasSeen 116 = .ok (.istore 6, 2) := by decide +kernel
theorem dX11_hasSeen_118 : decode cX11_hasSeen 118 = .ok (.aload_n 0, 1) := by decide +kernel
theorem dX11_hasSeen_119 : decode cX11_hasSeen 119 = .ok (.getfield 103, 3) := by decide +kernel
theorem dX11_hasSeen_122 : decode cX11_hasSeen 122 = .ok (.iload_n 3, 1) := by decide +kernel
theorem dX11_hasSeen_123 : decode cX11_hasSeen 123 = .ok (.iaload, 1) := by decide +kernel
theorem dX11_hasSeen_124 : decode cX11_hasSeen 124 = .ok (.aload_n 0, 1) := by decide +kernel
theorem dX11_hasSeen_125 : decode cX11_hasSeen 125 = .ok (.getfield 127, 3) := by decide +kernel
theorem dX11_hasSeen_128 : decode cX11_hasSeen 128 = .ok (.iload 5, 2) := by decide +kernel
theorem dX11_hasSeen_130 : decode cX11_hasSeen 130 = .ok (.iaload, 1) := by decide +kernel
theorem dX11_hasSeen_131 : decode cX11_hasSeen 131 = .ok (.invokestatic 341, 3) := by decide +kernel
theorem dX11_hasSeen_134 : decode cX11_hasSeen 134 = .ok (.iload 4, 2) := by decide +kernel
theorem dX11_hasSeen_136 : decode cX11_hasSeen 136 = .ok (.iload 6, 2) := by decide +kernel
theorem dX11_hasSeen_138 : decode cX11_hasSeen 138 = .ok (.invokestatic 346, 3) := by decide +kernel
theorem dX11_hasSeen_141 : decode cX11_hasSeen 141 = .ok (.if_icmp .gt 5, 3) := by decide +kernel
theorem dX11_hasSeen_144 : decode cX11_hasSeen 144 = .ok (.iconst 1, 1) := by decide +kernel
theorem dX11_hasSeen_145 : decode cX11_hasSeen 145 = .ok (.ireturn, 1) := by decide +kernel
theorem dX11_hasSeen_146 : decode cX11_hasSeen 146 = .ok (.iinc 5 1, 3) := by decide +kernel
theorem dX11_hasSeen_149 : decode cX11_hasSeen 149 = .ok (.goto (-73), 3) := by decide +kernel
theorem dX11_hasSeen_152 : decode cX11_hasSeen 152 = .ok (.iinc 3 1, 3) := by decide +kernel
theorem dX11_hasSeen_155 : decode cX11_hasSeen 155 = .ok (.goto (-153), 3) := by decide +kernel
theorem dX11_hasSeen_158 : decode cX11_hasSeen 158 = .ok (.iconst 0, 1) := by decide +kernel
theorem dX11_hasSeen_159 : decode cX11_hasSeen 159 = .ok (.ireturn, 1) := by decide +kernel
theorem dX11_readyAt_0 : decode cX11_readyAt 0 = .ok (.iconst 0, 1) := by decide +kernel
theorem dX11_readyAt_1 : decode cX11_readyAt 1 = .ok (.istore_n 2, 1) := by decide +kernel
theorem dX11_readyAt_2 : decode cX11_readyAt 2 = .ok (.iconst 0, 1) := by decide +kernel
theorem dX11_readyAt_3 : decode cX11_readyAt 3 = .ok (.istore_n 3, 1) := by decide +kernel
theorem dX11_readyAt_4 : decode cX11_readyAt 4 = .ok (.iload_n 3, 1) := by decide +kernel
theorem dX11_readyAt_5 : decode cX11_readyAt 5 = .ok (.aload_n 0, 1) := by decide +kernel
theorem dX11_readyAt_6 : decode cX11_readyAt 6 = .ok (.getfield 319, 3) := by decide +kernel
theorem dX11_readyAt_9 : decode cX11_readyAt 9 = .ok (.if_icmp .ge 62, 3) := by decide +kernel
theorem dX11_readyAt_12 : decode cX11_readyAt 12 = .ok (.aload_n 0, 1) := by decide +kernel
theorem dX11_readyAt_13 : decode cX11_readyAt 13 = .ok (.getfield 94, 3) := by decide +kernel
theorem dX11_readyAt_16 : decode cX11_readyAt 16 = .ok (.iload_n 3, 1) := by decide +kernel
theorem dX11_readyAt_17 : decode cX11_readyAt 17 = .ok (.iaload, 1) := by decide +kernel
theorem dX11_readyAt_18 : decode cX11_readyAt 18 = .ok (.iload_n 1, 1) := by decide +kernel
theorem dX11_readyAt_19 : decode cX11_readyAt 19 = .ok (.if_icmp .ne 46, 3) := by decide +kernel
theorem dX11_readyAt_22 : decode cX11_readyAt 22 = .ok (.aload_n 0, 1) := by decide +kernel
theorem dX11_readyAt_23 : decode cX11_readyAt 23 = .ok (.getfield 97, 3) := by decide +kernel
theorem dX11_readyAt_26 : decode cX11_readyAt 26 = .ok (.iload_n 3, 1) := by decide +kernel
theorem dX11_readyAt_27 : decode cX11_readyAt 27 = .ok (.iaload, 1) := by decide +kernel
theorem dX11_readyAt_28 : decode cX11_readyAt 28 = .ok (.aload_n 0, 1) := by decide +kernel
theorem dX11_readyAt_29 : decode cX11_readyAt 29 = .ok (.getfield 82, 3) := by decide +kernel
theorem dX11_readyAt_32 : decode cX11_readyAt 32 = .ok (.if_icmp .ne 33, 3) := by decide +kernel
theorem dX11_readyAt_35 : decode cX11_readyAt 35 = .ok (.aload_n 0, 1) := by decide +kernel
theorem dX11_readyAt_36 : decode cX11_readyAt 36 = .ok (.getfield 112, 3) := by decide +kernel
theorem dX11_readyAt_39 : decode cX11_readyAt 39 = .ok (.iload_n 3, 1) := by decide +kernel
theorem dX11_readyAt_40 : decode cX11_readyAt 40 = .ok (.iaload, 1) := by decide +kernel
theorem dX11_readyAt_41 : decode cX11_readyAt 41 = .ok (.ifCond .eq 24, 3) := by decide +kernel
theorem dX11_readyAt_44 : decode cX11_readyAt 44 = .ok (.iload_n 2, 1) := by decide +kernel
theorem dX11_readyAt_45 : decode cX11_readyAt 45 = .ok (.aload_n 0, 1) := by decide +kernel
theorem dX11_readyAt_46 : decode cX11_readyAt 46 = .ok (.getfield 106, 3) := by decide +kernel
theorem dX11_readyAt_49 : decode cX11_readyAt 49 = .ok (.iload_n 3, 1) := by decide +kernel
theorem dX11_readyAt_50 : decode cX11_readyAt 50 = .ok (.iaload, 1) := by decide +kernel
theorem dX11_readyAt_51 : decode cX11_readyAt 51 = .ok (.aload_n 0, 1) := by decide +kernel
theorem dX11_readyAt_52 : decode cX11_readyAt 52 = .ok (.getfield 30, 3) := by decide +kernel
theorem dX11_readyAt_55 : decode cX11_readyAt 55 = .ok (.aload_n 0, 1) := by decide +kernel
theorem dX11_readyAt_56 : decode cX11_readyAt 56 = .ok (.getfield 82, 3) := by decide +kernel
theorem dX11_readyAt_59 : decode cX11_readyAt 59 = .ok (.iaload, 1) := by decide +kernel
theorem dX11_readyAt_60 : decode cX11_readyAt 60 = .ok (.iadd, 1) := by decide +kernel
theorem dX11_readyAt_61 : decode cX11_readyAt 61 = .ok (.invokestatic 341, 3) := by decide +kernel
theorem dX11_readyAt_64 : decode cX11_readyAt 64 = .ok (.istore_n 2, 1) := by decide +kernel
theorem dX11_readyAt_65 : decode cX11_readyAt 65 = .ok (.iinc 3 1, 3) := by decide +kernel
theorem dX11_readyAt_68 : decode cX11_readyAt 68 = .ok (.goto (-64), 3) := by decide +kernel
theorem dX11_readyAt_71 : decode cX11_readyAt 71 = .ok (.iload_n 2, 1) := by decide +kernel
theorem dX11_readyAt_72 : decode cX11_readyAt 72 = .ok (.ireturn, 1) := by decide +kernel
theorem dX11_begin_0 : decode cX11_begin 0 = .ok (.aload_n 0, 1) := by decide +kernel
theorem dX11_begin_1 : decode cX11_begin 1 = .ok (.iconst 0, 1) := by decide +kernel
theorem dX11_begin_2 : decode cX11_begin 2 = .ok (.putfield 146, 3) := by decide +kernel
theorem dX11_begin_5 : decode cX11_begin 5 = .ok (.aload_n 0, 1) := by decide +kernel
theorem dX11_begin_6 : decode cX11_begin 6 = .ok (.iconst 0, 1) := by decide +kernel
theorem dX11_begin_7 : decode cX11_begin 7 = .ok (.putfield 149, 3) := by decide +kernel
theorem dX11_begin_10 : decode cX11_begin 10 = .ok (.aload_n 0, 1) := by decide +kernel
theorem dX11_begin_11 : decode cX11_begin 11 = .ok (.iload_n 1, 1) := by decide +kernel
theorem dX11_begin_12 : decode cX11_begin 12 = .ok (.invokevirtual 349, 3) := by decide +kernel
theorem dX11_begin_15 : decode cX11_begin 15 = .ok (.ifCond .eq 22, 3) := by decide +kernel
theorem dX11_begin_18 : decode cX11_begin 18 = .ok (.aload_n 0, 1) := by decide +kernel
theorem dX11_begin_19 : decode cX11_begin 19 = .ok (.getfield 82, 3) := by decide +kernel
theorem dX11_begin_22 : decode cX11_begin 22 = .ok (.ifCond .lt 15, 3) := by decide +kernel
theorem dX11_begin_25 : decode cX11_begin 25 = .ok (.aload_n 0, 1) := by decide +kernel
theorem dX11_begin_26 : decode cX11_begin 26 = .ok (.aload_n 0, 1) := by decide +kernel
theorem dX11_begin_27 : decode cX11_begin 27 = .ok (.getfield 82, 3) := by decide +kernel
theorem dX11_begin_30 : decode cX11_begin 30 = .ok (.iload_n 2, 1) := by decide +kernel
theorem dX11_begin_31 : decode cX11_begin 31 = .ok (.invokevirtual 328, 3) := by decide +kernel
theorem dX11_begin_34 : decode cX11_begin 34 = .ok (.ifCond .ne 9, 3) := by decide +kernel
theorem dX11_begin_37 : decode cX11_begin 37 = .ok (.aload_n 0, 1) := by decide +kernel
theorem dX11_begin_38 : decode cX11_begin 38 = .ok (.iconst 1, 1) := by decide +kernel
theorem dX11_begin_39 : decode cX11_begin 39 = .ok (.invokevirtual 295, 3) := by decide +kernel
theorem dX11_begin_42 : decode cX11_begin 42 = .ok (.ireturn, 1) := by decide +kernel
theorem dX11_begin_43 : decode cX11_begin 43 = .ok (.aload_n 0, 1) := by decide +kernel
theorem dX11_begin_44 : decode cX11_begin 44 = .ok (.iload_n 3, 1) := by decide +kernel
theorem dX11_begin_45 : decode cX11_begin 45 = .ok (.invokevirtual 352, 3) := by decide +kernel
theorem dX11_begin_48 : decode cX11_begin 48 = .ok (.istore 4, 2) := by decide +kernel
theorem dX11_begin_50 : decode cX11_begin 50 = .ok (.iload 4, 2) := by decide +kernel
theorem dX11_begin_52 : decode cX11_begin 52 = .ok (.ifCond .le 10, 3) := by decide +kernel
theorem dX11_begin_55 : decode cX11_begin 55 = .ok (.aload_n 0, 1) := by decide +kernel
theorem dX11_begin_56 : decode cX11_begin 56 = .ok (.iload 4, 2) := by decide +kernel
theorem dX11_begin_58 : decode cX11_begin 58 = .ok (.invokevirtual 295, 3) := by decide +kernel
theorem dX11_begin_61 : decode cX11_begin 61 = .ok (.ireturn, 1) := by decide +kernel
theorem dX11_begin_62 : decode cX11_begin 62 = .ok (.aload_n 0, 1) := by decide +kernel
theorem dX11_begin_63 : decode cX11_begin 63 = .ok (.getfield 85, 3) := by decide +kernel
theorem dX11_begin_66 : decode cX11_begin 66 = .ok (.bipush 16, 2) := by decide +kernel
theorem dX11_begin_68 : decode cX11_begin 68 = .ok (.aload_n 0, 1) := by decide +kernel
theorem dX11_begin_69 : decode cX11_begin 69 = .ok (.getfield 82, 3) := by decide +kernel
theorem dX11_begin_72 : decode cX11_begin 72 = .ok (.imul, 1) := by decide +kernel
theorem dX11_begin_73 : decode cX11_begin 73 = .ok (.iload_n 1, 1) := by decide +kernel
theorem dX11_begin_74 : decode cX11_begin 74 = .ok (.iadd, 1) := by decide +kernel
theorem dX11_begin_75 : decode cX11_begin 75 = .ok (.baload, 1) := by decide +kernel
theorem dX11_begin_76 : decode cX11_begin 76 = .ok (.ifCond .ne 9, 3) := by decide +kernel
theorem dX11_begin_79 : decode cX11_begin 79 = .ok (.aload_n 0, 1) := by decide +kernel
theorem dX11_begin_80 : decode cX11_begin 80 = .ok (.iconst 4, 1) := by decide +kernel
theorem dX11_begin_81 : decode cX11_begin 81 = .ok (.invokevirtual 295, 3) := by decide +kernel
theorem dX11_begin_84 : decode cX11_begin 84 = .ok (.ireturn, 1) := by decide +kernel
theorem dX11_begin_85 : decode cX11_begin 85 = .ok (.aload_n 0, 1) := by decide +kernel
theorem dX11_begin_86 : decode cX11_begin 86 = .ok (.iload_n 1, 1) := by decide +kernel
theorem dX11_begin_87 : decode cX11_begin 87 = .ok (.invokevirtual 355, 3) := by decide +kernel
theorem dX11_begin_90 : decode cX11_begin 90 = .ok (.ifCond .lt 9, 3) := by decide +kernel
theorem dX11_begin_93 : decode cX11_begin 93 = .ok (.aload_n 0, 1) := by decide +kernel
theorem dX11_begin_94 : decode cX11_begin 94 = .ok (.iconst 5, 1) := by decide +kernel
theorem dX11_begin_95 : decode cX11_begin 95 = .ok (.invokevirtual 295, 3) := by decide +kernel
theorem dX11_begin_98 : decode cX11_begin 98 = .ok (.ireturn, 1) := by decide +kernel
theorem dX11_begin_99 : decode cX11_begin 99 = .ok (.iconst 0, 1) := by decide +kernel
theorem dX11_begin_100 : decode cX11_begin 100 = .ok (.istore 5, 2) := by decide +kernel
theorem dX11_begin_102 : decode cX11_begin 102 = .ok (.iconst 0, 1) := by decide +kernel
theorem dX11_begin_103 : decode cX11_begin 103 = .ok (.istore 6, 2) := by decide +kernel
theorem dX11_begin_105 : decode cX11_begin 105 = .ok (.iconst 0, 1) := by decide +kernel
theorem dX11_begin_106 : decode cX11_begin 106 = .ok (.istore 7, 2) := by decide +kernel
theorem dX11_begin_108 : decode cX11_begin 108 = .ok (.iload 7, 2) := by decide +kernel
theorem dX11_begin_110 : decode cX11_begin 110 = .ok (.aload_n 0, 1) := by decide +kernel
theorem dX11_begin_111 : decode cX11_begin 111 = .ok (.getfield 319, 3) := by decide +kernel
theorem dX11_begin_114 : decode cX11_begin 114 = .ok (.if_icmp .ge 85, 3) := by decide +kernel
theorem dX11_begin_117 : decode cX11_begin 117 = .ok (.aload_n 0, 1) := by decide +kernel
theorem dX11_begin_118 : decode cX11_begin 118 = .ok (.getfield 94, 3) := by decide +kernel
theorem dX11_begin_121 : decode cX11_begin 121 = .ok (.iload 7, 2) := by decide +kernel
theorem dX11_begin_123 : decode cX11_begin 123 = .ok (.iaload, 1) := by decide +kernel
theorem dX11_begin_124 : decode cX11_begin 124 = .ok (.iload_n 1, 1) := by decide +kernel
theorem dX11_begin_125 : decode cX11_begin 125 = .ok (.if_icmp .ne 68, 3) := by decide +kernel
theorem dX11_begin_128 : decode cX11_begin 128 = .ok (.aload_n 0, 1) := by decide +kernel
theorem dX11_begin_129 : decode cX11_begin 129 = .ok (.getfield 97, 3) := by decide +kernel
theorem dX11_begin_132 : decode cX11_begin 132 = .ok (.iload 7, 2) := by decide +kernel
theorem dX11_begin_134 : decode cX11_begin 134 = .ok (.iaload, 1) := by decide +kernel
theorem dX11_begin_135 : decode cX11_begin 135 = .ok (.aload_n 0, 1) := by decide +kernel
theorem dX11_begin_136 : decode cX11_begin 136 = .ok (.getfield 82, 3) := by decide +kernel
theorem dX11_begin_139 : decode cX11_begin 139 = .ok (.if_icmp .ne 54, 3) := by decide +kernel
theorem dX11_begin_142 : decode cX11_begin 142 = .ok (.aload_n 0, 1) := by decide +kernel
theorem dX11_begin_143 : decode cX11_begin 143 = .ok (.getfield 100, 3) := by decide +kernel
theorem dX11_begin_146 : decode cX11_begin 146 = .ok (.iload 7, 2) := by decide +kernel
theorem dX11_begin_148 : decode cX11_begin 148 = .ok (.iaload, 1) := by decide +kernel
theorem dX11_begin_149 : decode cX11_begin 149 = .ok (.iload_n 2, 1) := by decide +kernel
theorem dX11_begin_150 : decode cX11_begin 150 = .ok (.if_icmp .ne 43, 3) := by decide +kernel
theorem dX11_begin_153 : decode cX11_begin 153 = .ok (.aload_n 0, 1) := by decide +kernel
theorem dX11_begin_154 : decode cX11_begin 154 = .ok (.getfield 112, 3) := by decide +kernel
theorem dX11_begin_157 : decode cX11_begin 157 = .ok (.iload 7, 2) := by decide +kernel
theorem dX11_begin_159 : decode cX11_begin 159 = .ok (.iaload, 1) := by decide +kernel
theorem dX11_begin_160 : decode cX11_begin 160 = .ok (.iconst 4, 1) := by decide +kernel
theorem dX11_begin_161 : decode cX11_begin 161 = .ok (.if_icmp .ne 6, 3) := by decide +kernel
theorem dX11_begin_164 : decode cX11_begin 164 = .ok (.goto 29, 3) := by decide +kernel
theorem dX11_begin_167 : decode cX11_begin 167 = .ok (.iinc 5 1, 3) := by decide +kernel
theorem dX11_begin_170 : decode cX11_begin 170 = .ok (.iload 6, 2) := by decide +kernel
theorem dX11_begin_172 : decode cX11_begin 172 = .ok (.ifCond .ne 14, 3) := by decide +kernel
theorem dX11_begin_175 : decode cX11_begin 175 = .ok (.aload_n 0, 1) := by decide +kernel
theorem dX11_begin_176 : decode cX11_begin 176 = .ok (.getfield 112, 3) := by decide +kernel
theorem dX11_begin_179 : decode cX11_begin 179 = .ok (.iload 7, 2) := by decide +kernel
theorem dX11_begin_181 : decode cX11_begin 181 = .ok (.iaload, 1) := by decide +kernel
theorem dX11_begin_182 : decode cX11_begin 182 = .ok (.iconst 1, 1) := by decide +kernel
theorem dX11_begin_183 : decode cX11_begin 183 = .ok (.if_icmp .ne 7, 3) := by decide +kernel
theorem dX11_begin_186 : decode cX11_begin 186 = .ok (.iconst 1, 1) := by decide +kernel
theorem dX11_begin_187 : decode cX11_begin 187 = .ok (.goto 4, 3) := by decide +kernel
theorem dX11_begin_190 : decode cX11_begin 190 = .ok (.iconst 0, 1) := by decide +kernel
theorem dX11_begin_191 : decode cX11_begin 191 = .ok (.istore 6, 2) := by decide +kernel
theorem dX11_begin_193 : decode cX11_begin 193 = .ok (.iinc 7 1, 3) := by decide +kernel
theorem dX11_begin_196 : decode cX11_begin 196 = .ok (.goto (-88), 3) := by decide +kernel
theorem dX11_begin_199 : decode cX11_begin 199 = .ok (.iload 6, 2) := by decide +kernel
theorem dX11_begin_201 : decode cX11_begin 201 = .ok (.ifCond .ne 17, 3) := by decide +kernel
theorem dX11_begin_204 : decode cX11_begin 204 = .ok (.iload 5, 2) := by decide +kernel
theorem dX11_begin_206 : decode cX11_begin 206 = .ok (.aload_n 0, 1) := by decide +kernel
theorem dX11_begin_207 : decode cX11_begin 207 = .ok (.getfield 24, 3) := by decide +kernel
theorem dX11_begin_210 : decode cX11_begin 210 = .ok (.aload_n 0, 1) := by decide +kernel
theorem dX11_begin_211 : decode cX11_begin 211 = .ok (.getfield 82, 3) := by decide +kernel
theorem dX11_begin_214 : decode cX11_begin 214 = .ok (.iaload, 1) := by decide +kernel
theorem dX11_begin_215 : decode cX11_begin 215 = .ok (.if_icmp .lt 10, 3) := by decide +kernel
theorem dX11_begin_218 : decode cX11_begin 218 = .ok (.aload_n 0, 1) := by decide +kernel
theorem dX11_begin_219 : decode cX11_begin 219 = .ok (.bipush 6, 2) := by decide +kernel
theorem dX11_begin_221 : decode cX11_begin 221 = .ok (.invokevirtual 295, 3) := by decide +kernel
theorem dX11_begin_224 : decode cX11_begin 224 = .ok (.ireturn, 1) := by decide +kernel
theorem dX11_begin_225 : decode cX11_begin 225 = .ok (.aload_n 0, 1) := by decide +kernel
theorem dX11_begin_226 : decode cX11_begin 226 = .ok (.getfield 319, 3) := by decide +kernel
theorem dX11_begin_229 : decode cX11_begin 229 = .ok (.sipush 300, 3) := by decide +kernel
theorem dX11_begin_232 : decode cX11_begin 232 = .ok (.if_icmp .ne 9, 3) := by decide +kernel
theorem dX11_begin_235 : decode cX11_begin 235 = .ok (.aload_n 0, 1) := by decide +kernel
theorem dX11_begin_236 : decode cX11_begin 236 = .ok (.iconst 3, 1) := by decide +kernel
theorem dX11_begin_237 : decode cX11_begin 237 = .ok (.invokevirtual 295, 3) := by decide +kernel
theorem dX11_begin_240 : decode cX11_begin 240 = .ok (.ireturn, 1) := by decide +kernel
theorem dX11_begin_241 : decode cX11_begin 241 = .ok (.aload_n 0, 1) := by decide +kernel
theorem dX11_begin_242 : decode cX11_begin 242 = .ok (.iload_n 1, 1) := by decide +kernel
theorem dX11_begin_243 : decode cX11_begin 243 = .ok (.iload_n 2, 1) := by decide +kernel
theorem dX11_begin_244 : decode cX11_begin 244 = .ok (.invokevirtual 358, 3) := by decide +kernel
theorem dX11_begin_247 : decode cX11_begin 247 = .ok (.ifCond .eq 10, 3) := by decide +kernel
theorem dX11_begin_250 : decode cX11_begin 250 = .ok (.aload_n 0, 1) := by decide +kernel
theorem dX11_begin_251 : decode cX11_begin 251 = .ok (.bipush 7, 2) := by decide +kernel
theorem dX11_begin_253 : decode cX11_begin 253 = .ok (.invokevirtual 295, 3) := by decide +kernel
theorem dX11_begin_256 : decode cX11_begin 256 = .ok (.ireturn, 1) := by decide +kernel
theorem dX11_begin_257 : decode cX11_begin 257 = .ok (.iload_n 3, 1) := by decide +kernel
theorem dX11_begin_258 : decode cX11_begin 258 = .ok (.aload_n 0, 1) := by decide +kernel
theorem dX11_begin_259 : decode cX11_begin 259 = .ok (.iload_n 1, 1) := by decide +kernel
theorem dX11_begin_260 : decode cX11_begin 260 = .ok (.invokevirtual 361, 3) := by decide +kernel
theorem dX11_begin_263 : decode cX11_begin 263 = .ok (.if_icmp .ge 10, 3) := by decide +kernel
theorem dX11_begin_266 : decode cX11_begin 266 = .ok (.aload_n 0, 1) := by decide +kernel
theorem dX11_begin_267 : decode cX11_begin 267 = .ok (.bipush 8, 2) := by decide +kernel
theorem dX11_begin_269 : decode cX11_begin 269 = .ok (.invokevirtual 295, 3) := by decide +kernel
theorem dX11_begin_272 : decode cX11_begin 272 = .ok (.ireturn, 1) := by decide +kernel
theorem dX11_begin_273 : decode cX11_begin 273 = .ok (.aload_n 0, 1) := by decide +kernel
theorem dX11_begin_274 : decode cX11_begin 274 = .ok (.getfield 94, 3) := by decide +kernel
theorem dX11_begin_277 : decode cX11_begin 277 = .ok (.aload_n 0, 1) := by decide +kernel
theorem dX11_begin_278 : decode cX11_begin 278 = .ok (.getfield 319, 3) := by decide +kernel
theorem dX11_begin_281 : decode cX11_begin 281 = .ok (.iload_n 1, 1) := by decide +kernel
theorem dX11_begin_282 : decode cX11_begin 282 = .ok (.iastore, 1) := by decide +kernel
theorem dX11_begin_283 : decode cX11_begin 283 = .ok (.aload_n 0, 1) := by decide +kernel
theorem dX11_begin_284 : decode cX11_begin 284 = .ok (.getfield 97, 3) := by decide +kernel
theorem dX11_begin_287 : decode cX11_begin 287 = .ok (.aload_n 0, 1) := by decide +kernel
theorem dX11_begin_288 : decode cX11_begin 288 = .ok (.getfield 319, 3) := by decide +kernel
theorem dX11_begin_291 : decode cX11_begin 291 = .ok (.aload_n 0, 1) := by decide +kernel
theorem dX11_begin_292 : decode cX11_begin 292 = .ok (.getfield 82, 3) := by decide +kernel
theorem dX11_begin_295 : decode cX11_begin 295 = .ok (.iastore, 1) := by decide +kernel
theorem dX11_begin_296 : decode cX11_begin 296 = .ok (.aload_n 0, 1) := by decide +kernel
theorem dX11_begin_297 : decode cX11_begin 297 = .ok (.getfield 100, 3) := by decide +kernel
theorem dX11_begin_300 : decode cX11_begin 300 = .ok (.aload_n 0, 1) := by decide +kernel
theorem dX11_begin_301 : decode cX11_begin 301 = .ok (.getfield 319, 3) := by decide +kernel
theorem dX11_begin_304 : decode cX11_begin 304 = .ok (.iload_n 2, 1) := by decide +kernel
theorem dX11_begin_305 : decode cX11_begin 305 = .ok (.iastore, 1) := by decide +kernel
theorem dX11_begin_306 : decode cX11_begin 306 = .ok (.aload_n 0, 1) := by decide +kernel
theorem dX11_begin_307 : decode cX11_begin 307 = .ok (.getfield 103, 3) := by decide +kernel
theorem dX11_begin_310 : decode cX11_begin 310 = .ok (.aload_n 0, 1) := by decide +kernel
theorem dX11_begin_311 : decode cX11_begin 311 = .ok (.getfield 319, 3) := by decide +kernel
theorem dX11_begin_314 : decode cX11_begin 314 = .ok (.iload_n 3, 1) := by decide +kernel
theorem dX11_begin_315 : decode cX11_begin 315 = .ok (.iastore, 1) := by decide +kernel
theorem dX11_begin_316 : decode cX11_begin 316 = .ok (.aload_n 0, 1) := by decide +kernel
theorem dX11_begin_317 : decode cX11_begin 317 = .ok (.getfield 106, 3) := by decide +kernel
theorem dX11_begin_320 : decode cX11_begin 320 = .ok (.aload_n 0, 1) := by decide +kernel
theorem dX11_begin_321 : decode cX11_begin 321 = .ok (.getfield 319, 3) := by decide +kernel
theorem dX11_begin_324 : decode cX11_begin 324 = .ok (.iconst (-1), 1) := by decide +kernel
theorem dX11_begin_325 : decode cX11_begin 325 = .ok (.iastore, 1) := by decide +kernel
theorem dX11_begin_326 : decode cX11_begin 326 = .ok (.aload_n 0, 1) := by decide +kernel
theorem dX11_begin_327 : decode cX11_begin 327 = .ok (.getfield 109, 3) := by decide +kernel
theorem dX11_begin_330 : decode cX11_begin 330 = .ok (.aload_n 0, 1) := by decide +kernel
theorem dX11_begin_331 : decode cX11_begin 331 = .ok (.getfield 319, 3) := by decide +kernel
theorem dX11_begin_334 : decode cX11_begin 334 = .ok (.iconst 0, 1) := by decide +kernel
theorem dX11_begin_335 : decode cX11_begin 335 = .ok (.iastore, 1) := by decide +kernel
theorem dX11_begin_336 : decode cX11_begin 336 = .ok (.aload_n 0, 1) := by decide +kernel
theorem dX11_begin_337 : decode cX11_begin 337 = .ok (.getfield 112, 3) := by decide +kernel
theorem dX11_begin_340 : decode cX11_begin 340 = .ok (.aload_n 0, 1) := by decide +kernel
theorem dX11_begin_341 : decode cX11_begin 341 = .ok (.getfield 319, 3) := by decide +kernel
theorem dX11_begin_344 : decode cX11_begin 344 = .ok (.iconst 0, 1) := by decide +kernel
theorem dX11_begin_345 : decode cX11_begin 345 = .ok (.iastore, 1) := by decide +kernel
theorem dX11_begin_346 : decode cX11_begin 346 = .ok (.aload_n 0, 1) := by decide +kernel
theorem dX11_begin_347 : decode cX11_begin 347 = .ok (.getfield 79, 3) := by decide +kernel
theorem dX11_begin_350 : decode cX11_begin 350 = .ok (.aload_n 0, 1) := by decide +kernel
theorem dX11_begin_351 : decode cX11_begin 351 = .ok (.getfield 82, 3) := by decide +kernel
theorem dX11_begin_354 : decode cX11_begin 354 = .ok (.iload_n 2, 1) := by decide +kernel
theorem dX11_begin_355 : decode cX11_begin 355 = .ok (.invokestatic 335, 3) := by decide +kernel
theorem dX11_begin_358 : decode cX11_begin 358 = .ok (.dup2, 1) := by decide +kernel
theorem dX11_begin_359 : decode cX11_begin 359 = .ok (.iaload, 1) := by decide +kernel
theorem dX11_begin_360 : decode cX11_begin 360 = .ok (.iconst 1, 1) := by decide +kernel
theorem dX11_begin_361 : decode cX11_begin 361 = .ok (.iadd, 1) := by decide +kernel
theorem dX11_begin_362 : decode cX11_begin 362 = .ok (.iastore, 1) := by decide +kernel
theorem dX11_begin_363 : decode cX11_begin 363 = .ok (.aload_n 0, 1) := by decide +kernel
theorem dX11_begin_364 : decode cX11_begin 364 = .ok (.dup, 1) := by decide +kernel
theorem dX11_begin_365 : decode cX11_begin 365 = .ok (.getfield 319, 3) := by decide +kernel
theorem dX11_begin_368 : decode cX11_begin 368 = .ok (.iconst 1, 1) := by decide +kernel
theorem dX11_begin_369 : decode cX11_begin 369 = .ok (.iadd, 1) := by decide +kernel
theorem dX11_begin_370 : decode cX11_begin 370 = .ok (.putfield 319, 3) := by decide +kernel
theorem dX11_begin_373 : decode cX11_begin 373 = .ok (.aload_n 0, 1) := by decide +kernel
theorem dX11_begin_374 : decode cX11_begin 374 = .ok (.getfield 319, 3) := by decide +kernel
theorem dX11_begin_377 : decode cX11_begin 377 = .ok (.iconst 1, 1) := by decide +kernel
theorem dX11_begin_378 : decode cX11_begin 378 = .ok (.isub, 1) := by decide +kernel
theorem dX11_begin_379 : decode cX11_begin 379 = .ok (.ireturn, 1) := by decide +kernel
theorem dX11_reach_0 : decode cX11_reach 0 = .ok (.aload_n 0, 1) := by decide +kernel
theorem dX11_reach_1 : decode cX11_reach 1 = .ok (.iconst 0, 1) := by decide +kernel
theorem dX11_reach_2 : decode cX11_reach 2 = .ok (.putfield 146, 3) := by decide +kernel
theorem dX11_reach_5 : decode cX11_reach 5 = .ok (.aload_n 0, 1) := by decide +kernel
theorem dX11_reach_6 : decode cX11_reach 6 = .ok (.iconst 0, 1) := by decide +kernel
theorem dX11_reach_7 : decode cX11_reach 7 = .ok (.putfield 149, 3) := by decide +kernel
theorem dX11_reach_10 : decode cX11_reach 10 = .ok (.aload_n 0, 1) := by decide +kernel
theorem dX11_reach_11 : decode cX11_reach 11 = .ok (.iload_n 1, 1) := by decide +kernel
theorem dX11_reach_12 : decode cX11_reach 12 = .ok (.invokevirtual 349, 3) := by decide +kernel
theorem dX11_reach_15 : decode cX11_reach 15 = .ok (.ifCond .ne 9, 3) := by decide +kernel
theorem dX11_reach_18 : decode cX11_reach 18 = .ok (.aload_n 0, 1) := by decide +kernel
theorem dX11_reach_19 : decode cX11_reach 19 = .ok (.iconst 1, 1) := by decide +kernel
theorem dX11_reach_20 : decode cX11_reach 20 = .ok (.invokevirtual 295, 3) := by decide +kernel
theorem dX11_reach_23 : decode cX11_reach 23 = .ok (.ireturn, 1) := by decide +kernel
theorem dX11_reach_24 : decode cX11_reach 24 = .ok (.iload_n 2, 1) := by decide +kernel
theorem dX11_reach_25 : decode cX11_reach 25 = .ok (.iconst 1, 1) := by decide +kernel
theorem dX11_reach_26 : decode cX11_reach 26 = .ok (.if_icmp .lt 9, 3) := by decide +kernel
theorem dX11_reach_29 : decode cX11_reach 29 = .ok (.iload_n 2, 1) := by decide +kernel
theorem dX11_reach_30 : decode cX11_reach 30 = .ok (.bipush 60, 2) := by decide +kernel
theorem dX11_reach_32 : decode cX11_reach 32 = .ok (.if_icmp .le 9, 3) := by decide +kernel
theorem dX11_reach_35 : decode cX11_reach 35 = .ok (.aload_n 0, 1) := by decide +kernel
theorem dX11_reach_36 : decode cX11_reach 36 = .ok (.iconst 2, 1) := by decide +kernel
theorem dX11_reach_37 : decode cX11_reach 37 = .ok (.invokevirtual 295, 3) := by decide +kernel
theorem dX11_reach_40 : decode cX11_reach 40 = .ok (.ireturn, 1) := by decide +kernel
theorem dX11_reach_41 : decode cX11_reach 41 = .ok (.aload_n 0, 1) := by decide +kernel
theorem dX11_reach_42 : decode cX11_reach 42 = .ok (.iload_n 3, 1) := by decide +kernel
theorem dX11_reach_43 : decode cX11_reach 43 = .ok (.invokevirtual 352, 3) := by decide +kernel
theorem dX11_reach_46 : decode cX11_reach 46 = .ok (.istore 4, 2) := by decide +kernel
theorem dX11_reach_48 : decode cX11_reach 48 = .ok (.iload 4, 2) := by decide +kernel
theorem dX11_reach_50 : decode cX11_reach 50 = .ok (.ifCond .le 10, 3) := by decide +kernel
theorem dX11_reach_53 : decode cX11_reach 53 = .ok (.aload_n 0, 1) := by decide +kernel
theorem dX11_reach_54 : decode cX11_reach 54 = .ok (.iload 4, 2) := by decide +kernel
theorem dX11_reach_56 : decode cX11_reach 56 = .ok (.invokevirtual 295, 3) := by decide +kernel
theorem dX11_reach_59 : decode cX11_reach 59 = .ok (.ireturn, 1) := by decide +kernel
theorem dX11_reach_60 : decode cX11_reach 60 = .ok (.aload_n 0, 1) := by decide +kernel
theorem dX11_reach_61 : decode cX11_reach 61 = .ok (.iload_n 1, 1) := by decide +kernel
theorem dX11_reach_62 : decode cX11_reach 62 = .ok (.invokevirtual 355, 3) := by decide +kernel
theorem dX11_reach_65 : decode cX11_reach 65 = .ok (.istore 5, 2) := by decide +kernel
theorem dX11_reach_67 : decode cX11_reach 67 = .ok (.iload 5, 2) := by decide +kernel
theorem dX11_reach_69 : decode cX11_reach 69 = .ok (.ifCond .ge 9, 3) := by decide +kernel
theorem dX11_reach_72 : decode cX11_reach 72 = .ok (.aload_n 0, 1) := by decide +kernel
theorem dX11_reach_73 : decode cX11_reach 73 = .ok (.iconst 5, 1) := by decide +kernel
theorem dX11_reach_74 : decode cX11_reach 74 = .ok (.invokevirtual 295, 3) := by decide +kernel
theorem dX11_reach_77 : decode cX11_reach 77 = .ok (.ireturn, 1) := by decide +kernel
theorem dX11_reach_78 : decode cX11_reach 78 = .ok (.aload_n 0, 1) := by decide +kernel
theorem dX11_reach_79 : decode cX11_reach 79 = .ok (.getfield 73, 3) := by decide +kernel
theorem dX11_reach_82 : decode cX11_reach 82 = .ok (.aload_n 0, 1) := by decide +kernel
theorem dX11_reach_83 : decode cX11_reach 83 = .ok (.getfield 97, 3) := by decide +kernel
theorem dX11_reach_86 : decode cX11_reach 86 = .ok (.iload 5, 2) := by decide +kernel
theorem dX11_reach_88 : decode cX11_reach 88 = .ok (.iaload, 1) := by decide +kernel
theorem dX11_reach_89 : decode cX11_reach 89 = .ok (.aload_n 0, 1) := by decide +kernel
theorem dX11_reach_90 : decode cX11_reach 90 = .ok (.getfield 100, 3) := by decide +kernel
theorem dX11_reach_93 : decode cX11_reach 93 = .ok (.iload 5, 2) := by decide +kernel
theorem dX11_reach_95 : decode cX11_reach 95 = .ok (.iaload, 1) := by decide +kernel
theorem dX11_reach_96 : decode cX11_reach 96 = .ok (.invokestatic 335, 3) := by decide +kernel
theorem dX11_reach_99 : decode cX11_reach 99 = .ok (.iaload, 1) := by decide +kernel
theorem dX11_reach_100 : decode cX11_reach 100 = .ok (.istore 6, 2) := by decide +kernel
theorem dX11_reach_102 : decode cX11_reach 102 = .ok (.iload_n 2, 1) := by decide +kernel
theorem dX11_reach_103 : decode cX11_reach 103 = .ok (.aload_n 0, 1) := by decide +kernel
theorem dX11_reach_104 : decode cX11_reach 104 = .ok (.getfield 109, 3) := by decide +kernel
theorem dX11_reach_107 : decode cX11_reach 107 = .ok (.iload 5, 2) := by decide +kernel
theorem dX11_reach_109 : decode cX11_reach 109 = .ok (.iaload, 1) := by decide +kernel
theorem dX11_reach_110 : decode cX11_reach 110 = .ok (.if_icmp .le 9, 3) := by decide +kernel
theorem dX11_reach_113 : decode cX11_reach 113 = .ok (.iload_n 2, 1) := by decide +kernel
theorem dX11_reach_114 : decode cX11_reach 114 = .ok (.iload 6, 2) := by decide +kernel
theorem dX11_reach_116 : decode cX11_reach 116 = .ok (.if_icmp .le 10, 3) := by decide +kernel
theorem dX11_reach_119 : decode cX11_reach 119 = .ok (.aload_n 0, 1) := by decide +kernel
theorem dX11_reach_120 : decode cX11_reach 120 = .ok (.bipush 10, 2) := by decide +kernel
theorem dX11_reach_122 : decode cX11_reach 122 = .ok (.invokevirtual 295, 3) := by decide +kernel
theorem dX11_reach_125 : decode cX11_reach 125 = .ok (.ireturn, 1) := by decide +kernel
theorem dX11_reach_126 : decode cX11_reach 126 = .ok (.aload_n 0, 1) := by decide +kernel
theorem dX11_reach_127 : decode cX11_reach 127 = .ok (.getfield 109, 3) := by decide +kernel
theorem dX11_reach_130 : decode cX11_reach 130 = .ok (.iload 5, 2) := by decide +kernel
theorem dX11_reach_132 : decode cX11_reach 132 = .ok (.iload_n 2, 1) := by decide +kernel
theorem dX11_reach_133 : decode cX11_reach 133 = .ok (.iastore, 1) := by decide +kernel
theorem dX11_reach_134 : decode cX11_reach 134 = .ok (.iload_n 2, 1) := by decide +kernel
theorem dX11_reach_135 : decode cX11_reach 135 = .ok (.iload 6, 2) := by decide +kernel
theorem dX11_reach_137 : decode cX11_reach 137 = .ok (.if_icmp .ge 5, 3) := by decide +kernel
theorem dX11_reach_140 : decode cX11_reach 140 = .ok (.iconst 0, 1) := by decide +kernel
theorem dX11_reach_141 : decode cX11_reach 141 = .ok (.ireturn, 1) := by decide +kernel
theorem dX11_reach_142 : decode cX11_reach 142 = .ok (.aload_n 0, 1) := by decide +kernel
theorem dX11_reach_143 : decode cX11_reach 143 = .ok (.getfield 112, 3) := by decide +kernel
theorem dX11_reach_146 : decode cX11_reach 146 = .ok (.iload 5, 2) := by decide +kernel
theorem dX11_reach_148 : decode cX11_reach 148 = .ok (.iconst 1, 1) := by decide +kernel
theorem dX11_reach_149 : decode cX11_reach 149 = .ok (.iastore, 1) := by decide +kernel
theorem dX11_reach_150 : decode cX11_reach 150 = .ok (.aload_n 0, 1) := by decide +kernel
theorem dX11_reach_151 : decode cX11_reach 151 = .ok (.getfield 106, 3) := by decide +kernel
theorem dX11_reach_154 : decode cX11_reach 154 = .ok (.iload 5, 2) := by decide +kernel
theorem dX11_reach_156 : decode cX11_reach 156 = .ok (.iload_n 3, 1) := by decide +kernel
theorem dX11_reach_157 : decode cX11_reach 157 = .ok (.iastore, 1) := by decide +kernel
theorem dX11_reach_158 : decode cX11_reach 158 = .ok (.iconst 1, 1) := by decide +kernel
theorem dX11_reach_159 : decode cX11_reach 159 = .ok (.ireturn, 1) := by decide +kernel
theorem dX11_fall_0 : decode cX11_fall 0 = .ok (.aload_n 0, 1) := by decide +kernel
theorem dX11_fall_1 : decode cX11_fall 1 = .ok (.iconst 0, 1) := by decide +kernel
theorem dX11_fall_2 : decode cX11_fall 2 = .ok (.putfield 146, 3) := by decide +kernel
theorem dX11_fall_5 : decode cX11_fall 5 = .ok (.aload_n 0, 1) := by decide +kernel
theorem dX11_fall_6 : decode cX11_fall 6 = .ok (.iconst 0, 1) := by decide +kernel
theorem dX11_fall_7 : decode cX11_fall 7 = .ok (.putfield 149, 3) := by decide +kernel
theorem dX11_fall_10 : decode cX11_fall 10 = .ok (.aload_n 0, 1) := by decide +kernel
theorem dX11_fall_11 : decode cX11_fall 11 = .ok (.iload_n 1, 1) := by decide +kernel
theorem dX11_fall_12 : decode cX11_fall 12 = .ok (.invokevirtual 349, 3) := by decide +kernel
theorem dX11_fall_15 : decode cX11_fall 15 = .ok (.ifCond .ne 9, 3) := by decide +kernel
theorem dX11_fall_18 : decode cX11_fall 18 = .ok (.aload_n 0, 1) := by decide +kernel
theorem dX11_fall_19 : decode cX11_fall 19 = .ok (.iconst 1, 1) := by decide +kernel
theorem dX11_fall_20 : decode cX11_fall 20 = .ok (.invokevirtual 332, 3) := by decide +kernel
theorem dX11_fall_23 : decode cX11_fall 23 = .ok (.ireturn, 1) := by decide +kernel
theorem dX11_fall_24 : decode cX11_fall 24 = .ok (.aload_n 0, 1) := by decide +kernel
theorem dX11_fall_25 : decode cX11_fall 25 = .ok (.iload_n 2, 1) := by decide +kernel
theorem dX11_fall_26 : decode cX11_fall 26 = .ok (.invokevirtual 352, 3) := by decide +kernel
theorem dX11_fall_29 : decode cX11_fall 29 = .ok (.istore 4, 2) := by decide +kernel
theorem dX11_fall_31 : decode cX11_fall 31 = .ok (.iload 4, 2) := by decide +kernel
theorem dX11_fall_33 : decode cX11_fall 33 = .ok (.ifCond .le 10, 3) := by decide +kernel
theorem dX11_fall_36 : decode cX11_fall 36 = .ok (.aload_n 0, 1) := by decide +kernel
theorem dX11_fall_37 : decode cX11_fall 37 = .ok (.iload 4, 2) := by decide +kernel
theorem dX11_fall_39 : decode cX11_fall 39 = .ok (.invokevirtual 332, 3) := by decide +kernel
theorem dX11_fall_42 : decode cX11_fall 42 = .ok (.ireturn, 1) := by decide +kernel
theorem dX11_fall_43 : decode cX11_fall 43 = .ok (.aload_n 0, 1) := by decide +kernel
theorem dX11_fall_44 : decode cX11_fall 44 = .ok (.iload_n 1, 1) := by decide +kernel
theorem dX11_fall_45 : decode cX11_fall 45 = .ok (.invokevirtual 355, 3) := by decide +kernel
theorem dX11_fall_48 : decode cX11_fall 48 = .ok (.istore 5, 2) := by decide +kernel
theorem dX11_fall_50 : decode cX11_fall 50 = .ok (.iload 5, 2) := by decide +kernel
theorem dX11_fall_52 : decode cX11_fall 52 = .ok (.ifCond .ge 9, 3) := by decide +kernel
theorem dX11_fall_55 : decode cX11_fall 55 = .ok (.aload_n 0, 1) := by decide +kernel
theorem dX11_fall_56 : decode cX11_fall 56 = .ok (.iconst 5, 1) := by decide +kernel
theorem dX11_fall_57 : decode cX11_fall 57 = .ok (.invokevirtual 332, 3) := by decide +kernel
theorem dX11_fall_60 : decode cX11_fall 60 = .ok (.ireturn, 1) := by decide +kernel
theorem dX11_fall_61 : decode cX11_fall 61 = .ok (.aload_n 0, 1) := by decide +kernel
theorem dX11_fall_62 : decode cX11_fall 62 = .ok (.getfield 112, 3) := by decide +kernel
theorem dX11_fall_65 : decode cX11_fall 65 = .ok (.iload 5, 2) := by decide +kernel
theorem dX11_fall_67 : decode cX11_fall 67 = .ok (.iload_n 3, 1) := by decide +kernel
theorem dX11_fall_68 : decode cX11_fall 68 = .ok (.ifCond .eq 7, 3) := by decide +kernel
theorem dX11_fall_71 : decode cX11_fall 71 = .ok (.iconst 4, 1) := by decide +kernel
theorem dX11_fall_72 : decode cX11_fall 72 = .ok (.goto 4, 3) := by decide +kernel
theorem dX11_fall_75 : decode cX11_fall 75 = .ok (.iconst 2, 1) := by decide +kernel
theorem dX11_fall_76 : decode cX11_fall 76 = .ok (.iastore, 1) := by decide +kernel
theorem dX11_fall_77 : decode cX11_fall 77 = .ok (.aload_n 0, 1) := by decide +kernel
theorem dX11_fall_78 : decode cX11_fall 78 = .ok (.getfield 106, 3) := by decide +kernel
theorem dX11_fall_81 : decode cX11_fall 81 = .ok (.iload 5, 2) := by decide +kernel
theorem dX11_fall_83 : decode cX11_fall 83 = .ok (.iload_n 2, 1) := by decide +kernel
theorem dX11_fall_84 : decode cX11_fall 84 = .ok (.iastore, 1) := by decide +kernel
theorem dX11_fall_85 : decode cX11_fall 85 = .ok (.iconst 1, 1) := by decide +kernel
theorem dX11_fall_86 : decode cX11_fall 86 = .ok (.ireturn, 1) := by decide +kernel
theorem dX11_out_0 : decode cX11_out 0 = .ok (.aload_n 0, 1) := by decide +kernel
theorem dX11_out_1 : decode cX11_out 1 = .ok (.iconst 0, 1) := by decide +kernel
theorem dX11_out_2 : decode cX11_out 2 = .ok (.putfield 146, 3) := by decide +kernel
theorem dX11_out_5 : decode cX11_out 5 = .ok (.aload_n 0, 1) := by decide +kernel
theorem dX11_out_6 : decode cX11_out 6 = .ok (.iconst 0, 1) := by decide +kernel
theorem dX11_out_7 : decode cX11_out 7 = .ok (.putfield 149, 3) := by decide +kernel
theorem dX11_out_10 : decode cX11_out 10 = .ok (.aload_n 0, 1) := by decide +kernel
theorem dX11_out_11 : decode cX11_out 11 = .ok (.iload_n 1, 1) := by decide +kernel
theorem dX11_out_12 : decode cX11_out 12 = .ok (.invokevirtual 349, 3) := by decide +kernel
theorem dX11_out_15 : decode cX11_out 15 = .ok (.ifCond .ne 9, 3) := by decide +kernel
theorem dX11_out_18 : decode cX11_out 18 = .ok (.aload_n 0, 1) := by decide +kernel
theorem dX11_out_19 : decode cX11_out 19 = .ok (.iconst 1, 1) := by decide +kernel
theorem dX11_out_20 : decode cX11_out 20 = .ok (.invokevirtual 332, 3) := by decide +kernel
theorem dX11_out_23 : decode cX11_out 23 = .ok (.ireturn, 1) := by decide +kernel
theorem dX11_out_24 : decode cX11_out 24 = .ok (.aload_n 0, 1) := by decide +kernel
theorem dX11_out_25 : decode cX11_out 25 = .ok (.iload_n 2, 1) := by decide +kernel
theorem dX11_out_26 : decode cX11_out 26 = .ok (.invokevirtual 352, 3) := by decide +kernel
theorem dX11_out_29 : decode cX11_out 29 = .ok (.istore 4, 2) := by decide +kernel
theorem dX11_out_31 : decode cX11_out 31 = .ok (.iload 4, 2) := by decide +kernel
theorem dX11_out_33 : decode cX11_out 33 = .ok (.ifCond .le 10, 3) := by decide +kernel
theorem dX11_out_36 : decode cX11_out 36 = .ok (.aload_n 0, 1) := by decide +kernel
theorem dX11_out_37 : decode cX11_out 37 = .ok (.iload 4, 2) := by decide +kernel
theorem dX11_out_39 : decode cX11_out 39 = .ok (.invokevirtual 332, 3) := by decide +kernel
theorem dX11_out_42 : decode cX11_out 42 = .ok (.ireturn, 1) := by decide +kernel
theorem dX11_out_43 : decode cX11_out 43 = .ok (.aload_n 0, 1) := by decide +kernel
theorem dX11_out_44 : decode cX11_out 44 = .ok (.getfield 124, 3) := by decide +kernel
theorem dX11_out_47 : decode cX11_out 47 = .ok (.iload_n 1, 1) := by decide +kernel
theorem dX11_out_48 : decode cX11_out 48 = .ok (.iaload, 1) := by decide +kernel
theorem dX11_out_49 : decode cX11_out 49 = .ok (.istore 5, 2) := by decide +kernel
theorem dX11_out_51 : decode cX11_out 51 = .ok (.iload 5, 2) := by decide +kernel
theorem dX11_out_53 : decode cX11_out 53 = .ok (.ifCond .le 24, 3) := by decide +kernel
theorem dX11_out_56 : decode cX11_out 56 = .ok (.aload_n 0, 1) := by decide +kernel
theorem dX11_out_57 : decode cX11_out 57 = .ok (.getfield 130, 3) := by decide +kernel
theorem dX11_out_60 : decode cX11_out 60 = .ok (.bipush 20, 2) := by decide +kernel
theorem dX11_out_62 : decode cX11_out 62 = .ok (.iload_n 1, 1) := by decide +kernel
theorem dX11_out_63 : decode cX11_out 63 = .ok (.imul, 1) := by decide +kernel
theorem dX11_out_64 : decode cX11_out 64 = .ok (.iload 5, 2) := by decide +kernel
theorem dX11_out_66 : decode cX11_out 66 = .ok (.iadd, 1) := by decide +kernel
theorem dX11_out_67 : decode cX11_out 67 = .ok (.iconst 1, 1) := by decide +kernel
theorem dX11_out_68 : decode cX11_out 68 = .ok (.isub, 1) := by decide +kernel
theorem dX11_out_69 : decode cX11_out 69 = .ok (.iaload, 1) := by decide +kernel
theorem dX11_out_70 : decode cX11_out 70 = .ok (.ifCond .ge 7, 3) := by decide +kernel
theorem dX11_out_73 : decode cX11_out 73 = .ok (.iconst 1, 1) := by decide +kernel
theorem dX11_out_74 : decode cX11_out 74 = .ok (.goto 4, 3) := by decide +kernel
theorem dX11_out_77 : decode cX11_out 77 = .ok (.iconst 0, 1) := by decide +kernel
theorem dX11_out_78 : decode cX11_out 78 = .ok (.istore 6, 2) := by decide +kernel
theorem dX11_out_80 : decode cX11_out 80 = .ok (.iload 6, 2) := by decide +kernel
theorem dX11_out_82 : decode cX11_out 82 = .ok (.iload_n 3, 1) := by decide +kernel
theorem dX11_out_83 : decode cX11_out 83 = .ok (.if_icmp .ne 10, 3) := by decide +kernel
theorem dX11_out_86 : decode cX11_out 86 = .ok (.aload_n 0, 1) := by decide +kernel
theorem dX11_out_87 : decode cX11_out 87 = .ok (.bipush 10, 2) := by decide +kernel
theorem dX11_out_89 : decode cX11_out 89 = .ok (.invokevirtual 332, 3) := by decide +kernel
theorem dX11_out_92 : decode cX11_out 92 = .ok (.ireturn, 1) := by decide +kernel
theorem dX11_out_93 : decode cX11_out 93 = .ok (.iload_n 3, 1) := by decide +kernel
theorem dX11_out_94 : decode cX11_out 94 = .ok (.ifCond .eq 16, 3) := by decide +kernel
theorem dX11_out_97 : decode cX11_out 97 = .ok (.iload 5, 2) := by decide +kernel
theorem dX11_out_99 : decode cX11_out 99 = .ok (.bipush 20, 2) := by decide +kernel
theorem dX11_out_101 : decode cX11_out 101 = .ok (.if_icmp .ne 9, 3) := by decide +kernel
theorem dX11_out_104 : decode cX11_out 104 = .ok (.aload_n 0, 1) := by decide +kernel
theorem dX11_out_105 : decode cX11_out 105 = .ok (.iconst 3, 1) := by decide +kernel
theorem dX11_out_106 : decode cX11_out 106 = .ok (.invokevirtual 332, 3) := by decide +kernel
theorem dX11_out_109 : decode cX11_out 109 = .ok (.ireturn, 1) := by decide +kernel
theorem dX11_out_110 : decode cX11_out 110 = .ok (.iload_n 3, 1) := by decide +kernel
theorem dX11_out_111 : decode cX11_out 111 = .ok (.ifCond .eq 42, 3) := by decide +kernel
theorem dX11_out_114 : decode cX11_out 114 = .ok (.aload_n 0, 1) := by decide +kernel
theorem dX11_out_115 : decode cX11_out 115 = .ok (.getfield 127, 3) := by decide +kernel
theorem dX11_out_118 : decode cX11_out 118 = .ok (.bipush 20, 2) := by decide +kernel
theorem dX11_out_120 : decode cX11_out 120 = .ok (.iload_n 1, 1) := by decide +kernel
theorem dX11_out_121 : decode cX11_out 121 = .ok (.imul, 1) := by decide +kernel
theorem dX11_out_122 : decode cX11_out 122 = .ok (.iload 5, 2) := by decide +kernel
theorem dX11_out_124 : decode cX11_out 124 = .ok (.iadd, 1) := by decide +kernel
theorem dX11_out_125 : decode cX11_out 125 = .ok (.iload_n 2, 1) := by decide +kernel
theorem dX11_out_126 : decode cX11_out 126 = .ok (.iastore, 1) := by decide +kernel
theorem dX11_out_127 : decode cX11_out 127 = .ok (.aload_n 0, 1) := by decide +kernel
theorem dX11_out_128 : decode cX11_out 128 = .ok (.getfield 130, 3) := by decide +kernel
theorem dX11_out_131 : decode cX11_out 131 = .ok (.bipush 20, 2) := by decide +kernel
theorem dX11_out_133 : decode cX11_out 133 = .ok (.iload_n 1, 1) := by decide +kernel
theorem dX11_out_134 : decode cX11_out 134 = .ok (.imul, 1) := by decide +kernel
theorem dX11_out_135 : decode cX11_out 135 = .ok (.iload 5, 2) := by decide +kernel
theorem dX11_out_137 : decode cX11_out 137 = .ok (.iadd, 1) := by decide +kernel
theorem dX11_out_138 : decode cX11_out 138 = .ok (.iconst (-1), 1) := by decide +kernel
theorem dX11_out_139 : decode cX11_out 139 = .ok (.iastore, 1) := by decide +kernel
theorem dX11_out_140 : decode cX11_out 140 = .ok (.aload_n 0, 1) := by decide +kernel
theorem dX11_out_141 : decode cX11_out 141 = .ok (.getfield 124, 3) := by decide +kernel
theorem dX11_out_144 : decode cX11_out 144 = .ok (.iload_n 1, 1) := by decide +kernel
theorem dX11_out_145 : decode cX11_out 145 = .ok (.dup2, 1) := by decide +kernel
theorem dX11_out_146 : decode cX11_out 146 = .ok (.iaload, 1) := by decide +kernel
theorem dX11_out_147 : decode cX11_out 147 = .ok (.iconst 1, 1) := by decide +kernel
theorem dX11_out_148 : decode cX11_out 148 = .ok (.iadd, 1) := by decide +kernel
theorem dX11_out_149 : decode cX11_out 149 = .ok (.iastore, 1) := by decide +kernel
theorem dX11_out_150 : decode cX11_out 150 = .ok (.goto 18, 3) := by decide +kernel
theorem dX11_out_153 : decode cX11_out 153 = .ok (.aload_n 0, 1) := by decide +kernel
theorem dX11_out_154 : decode cX11_out 154 = .ok (.getfield 130, 3) := by decide +kernel
theorem dX11_out_157 : decode cX11_out 157 = .ok (.bipush 20, 2) := by decide +kernel
theorem dX11_out_159 : decode cX11_out 159 = .ok (.iload_n 1, 1) := by decide +kernel
theorem dX11_out_160 : decode cX11_out 160 = .ok (.imul, 1) := by decide +kernel
theorem dX11_out_161 : decode cX11_out 161 = .ok (.iload 5, 2) := by decide +kernel
theorem dX11_out_163 : decode cX11_out 163 = .ok (.iadd, 1) := by decide +kernel
theorem dX11_out_164 : decode cX11_out 164 = .ok (.iconst 1, 1) := by decide +kernel
theorem dX11_out_165 : decode cX11_out 165 = .ok (.isub, 1) := by decide +kernel
theorem dX11_out_166 : decode cX11_out 166 = .ok (.iload_n 2, 1) := by decide +kernel
theorem dX11_out_167 : decode cX11_out 167 = .ok (.iastore, 1) := by decide +kernel
theorem dX11_out_168 : decode cX11_out 168 = .ok (.iconst 1, 1) := by decide +kernel
theorem dX11_out_169 : decode cX11_out 169 = .ok (.ireturn, 1) := by decide +kernel
theorem dX11_clock_0 : decode cX11_clock 0 = .ok (.aload_n 0, 1) := by decide +kernel
theorem dX11_clock_1 : decode cX11_clock 1 = .ok (.iconst 0, 1) := by decide +kernel
theorem dX11_clock_2 : decode cX11_clock 2 = .ok (.putfield 146, 3) := by decide +kernel
theorem dX11_clock_5 : decode cX11_clock 5 = .ok (.aload_n 0, 1) := by decide +kernel
theorem dX11_clock_6 : decode cX11_clock 6 = .ok (.aload_n 0, 1) := by decide +kernel
theorem dX11_clock_7 : decode cX11_clock 7 = .ok (.iload_n 1, 1) := by decide +kernel
theorem dX11_clock_8 : decode cX11_clock 8 = .ok (.invokevirtual 352, 3) := by decide +kernel
theorem dX11_clock_11 : decode cX11_clock 11 = .ok (.putfield 149, 3) := by decide +kernel
theorem dX11_clock_14 : decode cX11_clock 14 = .ok (.aload_n 0, 1) := by decide +kernel
theorem dX11_clock_15 : decode cX11_clock 15 = .ok (.getfield 149, 3) := by decide +kernel
theorem dX11_clock_18 : decode cX11_clock 18 = .ok (.ifCond .ne 7, 3) := by decide +kernel
theorem dX11_clock_21 : decode cX11_clock 21 = .ok (.iconst 1, 1) := by decide +kernel
theorem dX11_clock_22 : decode cX11_clock 22 = .ok (.goto 4, 3) := by decide +kernel
theorem dX11_clock_25 : decode cX11_clock 25 = .ok (.iconst 0, 1) := by decide +kernel
theorem dX11_clock_26 : decode cX11_clock 26 = .ok (.ireturn, 1) := by decide +kernel
theorem dX11_now_0 : decode cX11_now 0 = .ok (.aload_n 0, 1) := by decide +kernel
theorem dX11_now_1 : decode cX11_now 1 = .ok (.iconst 0, 1) := by decide +kernel
theorem dX11_now_2 : decode cX11_now 2 = .ok (.putfield 146, 3) := by decide +kernel
theorem dX11_now_5 : decode cX11_now 5 = .ok (.aload_n 0, 1) := by decide +kernel
theorem dX11_now_6 : decode cX11_now 6 = .ok (.iconst 0, 1) := by decide +kernel
theorem dX11_now_7 : decode cX11_now 7 = .ok (.putfield 149, 3) := by decide +kernel
theorem dX11_now_10 : decode cX11_now 10 = .ok (.aload_n 0, 1) := by decide +kernel
theorem dX11_now_11 : decode cX11_now 11 = .ok (.getfield 316, 3) := by decide +kernel
theorem dX11_now_14 : decode cX11_now 14 = .ok (.ireturn, 1) := by decide +kernel
theorem dX11_tried_0 : decode cX11_tried 0 = .ok (.aload_n 0, 1) := by decide +kernel
theorem dX11_tried_1 : decode cX11_tried 1 = .ok (.iconst 0, 1) := by decide +kernel
theorem dX11_tried_2 : decode cX11_tried 2 = .ok (.putfield 146, 3) := by decide +kernel
theorem dX11_tried_5 : decode cX11_tried 5 = .ok (.aload_n 0, 1) := by decide +kernel
theorem dX11_tried_6 : decode cX11_tried 6 = .ok (.iconst 0, 1) := by decide +kernel
theorem dX11_tried_7 : decode cX11_tried 7 = .ok (.putfield 149, 3) := by decide +kernel
theorem dX11_tried_10 : decode cX11_tried 10 = .ok (.iload_n 1, 1) := by decide +kernel
theorem dX11_tried_11 : decode cX11_tried 11 = .ok (.ifCond .lt 11, 3) := by decide +kernel
theorem dX11_tried_14 : decode cX11_tried 14 = .ok (.iload_n 1, 1) := by decide +kernel
theorem dX11_tried_15 : decode cX11_tried 15 = .ok (.aload_n 0, 1) := by decide +kernel
theorem dX11_tried_16 : decode cX11_tried 16 = .ok (.getfield 319, 3) := by decide +kernel
theorem dX11_tried_19 : decode cX11_tried 19 = .ok (.if_icmp .lt 9, 3) := by decide +kernel
theorem dX11_tried_22 : decode cX11_tried 22 = .ok (.aload_n 0, 1) := by decide +kernel
theorem dX11_tried_23 : decode cX11_tried 23 = .ok (.iconst 1, 1) := by decide +kernel
theorem dX11_tried_24 : decode cX11_tried 24 = .ok (.invokevirtual 295, 3) := by decide +kernel
theorem dX11_tried_27 : decode cX11_tried 27 = .ok (.ireturn, 1) := by decide +kernel
theorem dX11_tried_28 : decode cX11_tried 28 = .ok (.iload_n 2, 1) := by decide +kernel
theorem dX11_tried_29 : decode cX11_tried 29 = .ok (.tableswitch 92 0 6 #[43, 50, 57, 64, 71, 78, 85], 43) := by decide +kernel
theorem dX11_tried_72 : decode cX11_tried 72 = .ok (.aload_n 0, 1) := by decide +kernel
theorem dX11_tried_73 : decode cX11_tried 73 = .ok (.getfield 94, 3) := by decide +kernel
theorem dX11_tried_76 : decode cX11_tried 76 = .ok (.iload_n 1, 1) := by decide +kernel
theorem dX11_tried_77 : decode cX11_tried 77 = .ok (.iaload, 1) := by decide +kernel
theorem dX11_tried_78 : decode cX11_tried 78 = .ok (.ireturn, 1) := by decide +kernel
theorem dX11_tried_79 : decode cX11_tried 79 = .ok (.aload_n 0, 1) := by decide +kernel
theorem dX11_tried_80 : decode cX11_tried 80 = .ok (.getfield 97, 3) := by decide +kernel
theorem dX11_tried_83 : decode cX11_tried 83 = .ok (.iload_n 1, 1) := by decide +kernel
theorem dX11_tried_84 : decode cX11_tried 84 = .ok (.iaload, 1) := by decide +kernel
theorem dX11_tried_85 : decode cX11_tried 85 = .ok (.ireturn, 1) := by decide +kernel
theorem dX11_tried_86 : decode cX11_tried 86 = .ok (.aload_n 0, 1) := by decide +kernel
theorem dX11_tried_87 : decode cX11_tried 87 = .ok (.getfield 100, 3) := by decide +kernel
theorem dX11_tried_90 : decode cX11_tried 90 = .ok (.iload_n 1, 1) := by decide +kernel
theorem dX11_tried_91 : decode cX11_tried 91 = .ok (.iaload, 1) := by decide +kernel
theorem dX11_tried_92 : decode cX11_tried 92 = .ok (.ireturn, 1) := by decide +kernel
theorem dX11_tried_93 : decode cX11_tried 93 = .ok (.aload_n 0, 1) := by decide +kernel
theorem dX11_tried_94 : decode cX11_tried 94 = .ok (.getfield 103, 3) := by decide +kernel
theorem dX11_tried_97 : decode cX11_tried 97 = .ok (.iload_n 1, 1) := by decide +kernel
theorem dX11_tried_98 : decode cX11_tried 98 = .ok (.iaload, 1) := by decide +kernel
theorem dX11_tried_99 : decode cX11_tried 99 = .ok (.ireturn, 1) := by decide +kernel
theorem dX11_tried_100 : decode cX11_tried 100 = .ok (.aload_n 0, 1) := by decide +kernel
theorem dX11_tried_101 : decode cX11_tried 101 = .ok (.getfield 106, 3) := by decide +kernel
theorem dX11_tried_104 : decode cX11_tried 104 = .ok (.iload_n 1, 1) := by decide +kernel
theorem dX11_tried_105 : decode cX11_tried 105 = .ok (.iaload, 1) := by decide +kernel
theorem dX11_tried_106 : decode cX11_tried 106 = .ok (.ireturn, 1) := by decide +kernel
theorem dX11_tried_107 : decode cX11_tried 107 = .ok (.aload_n 0, 1) := by decide +kernel
theorem dX11_tried_108 : decode cX11_tried 108 = .ok (.getfield 109, 3) := by decide +kernel
theorem dX11_tried_111 : decode cX11_tried 111 = .ok (.iload_n 1, 1) := by decide +kernel
theorem dX11_tried_112 : decode cX11_tried 112 = .ok (.iaload, 1) := by decide +kernel
theorem dX11_tried_113 : decode cX11_tried 113 = .ok (.ireturn, 1) := by decide +kernel
theorem dX11_tried_114 : decode cX11_tried 114 = .ok (.aload_n 0, 1) := by decide +kernel
theorem dX11_tried_115 : decode cX11_tried 115 = .ok (.getfield 112, 3) := by decide +kernel
theorem dX11_tried_118 : decode cX11_tried 118 = .ok (.iload_n 1, 1) := by decide +kernel
theorem dX11_tried_119 : decode cX11_tried 119 = .ok (.iaload, 1) := by decide +kernel
theorem dX11_tried_120 : decode cX11_tried 120 = .ok (.ireturn, 1) := by decide +kernel
theorem dX11_tried_121 : decode cX11_tried 121 = .ok (.aload_n 0, 1) := by decide +kernel
theorem dX11_tried_122 : decode cX11_tried 122 = .ok (.iconst 2, 1) := by decide +kernel
theorem dX11_tried_123 : decode cX11_tried 123 = .ok (.invokevirtual 295, 3) := by decide +kernel
theorem dX11_tried_126 : decode cX11_tried 126 = .ok (.ireturn, 1) := by decide +kernel
theorem dX11_seen_0 : decode cX11_seen 0 = .ok (.aload_n 0, 1) := by decide +kernel
theorem dX11_seen_1 : decode cX11_seen 1 = .ok (.iconst 0, 1) := by decide +kernel
theorem dX11_seen_2 : decode cX11_seen 2 = .ok (.putfield 146, 3) := by decide +kernel
theorem dX11_seen_5 : decode cX11_seen 5 = .ok (.aload_n 0, 1) := by decide +kernel
theorem dX11_seen_6 : decode cX11_seen 6 = .ok (.iconst 0, 1) := by decide +kernel
theorem dX11_seen_7 : decode cX11_seen 7 = .ok (.putfield 149, 3) := by decide +kernel
theorem dX11_seen_10 : decode cX11_seen 10 = .ok (.aload_n 0, 1) := by decide +kernel
theorem dX11_seen_11 : decode cX11_seen 11 = .ok (.iload_n 1, 1) := by decide +kernel
theorem dX11_seen_12 : decode cX11_seen 12 = .ok (.invokevirtual 349, 3) := by decide +kernel
theorem dX11_seen_15 : decode cX11_seen 15 = .ok (.ifCond .eq 22, 3) := by decide +kernel
theorem dX11_seen_18 : decode cX11_seen 18 = .ok (.aload_n 0, 1) := by decide +kernel
theorem dX11_seen_19 : decode cX11_seen 19 = .ok (.getfield 82, 3) := by decide +kernel
theorem dX11_seen_22 : decode cX11_seen 22 = .ok (.ifCond .lt 15, 3) := by decide +kernel
theorem dX11_seen_25 : decode cX11_seen 25 = .ok (.aload_n 0, 1) := by decide +kernel
theorem dX11_seen_26 : decode cX11_seen 26 = .ok (.aload_n 0, 1) := by decide +kernel
theorem dX11_seen_27 : decode cX11_seen 27 = .ok (.getfield 82, 3) := by decide +kernel
theorem dX11_seen_30 : decode cX11_seen 30 = .ok (.iload_n 2, 1) := by decide +kernel
theorem dX11_seen_31 : decode cX11_seen 31 = .ok (.invokevirtual 328, 3) := by decide +kernel
theorem dX11_seen_34 : decode cX11_seen 34 = .ok (.ifCond .ne 9, 3) := by decide +kernel
theorem dX11_seen_37 : decode cX11_seen 37 = .ok (.aload_n 0, 1) := by decide +kernel
theorem dX11_seen_38 : decode cX11_seen 38 = .ok (.iconst 1, 1) := by decide +kernel
theorem dX11_seen_39 : decode cX11_seen 39 = .ok (.invokevirtual 295, 3) := by decide +kernel
theorem dX11_seen_42 : decode cX11_seen 42 = .ok (.ireturn, 1) := by decide +kernel
theorem dX11_seen_43 : decode cX11_seen 43 = .ok (.aload_n 0, 1) := by decide +kernel
theorem dX11_seen_44 : decode cX11_seen 44 = .ok (.iload_n 1, 1) := by decide +kernel
theorem dX11_seen_45 : decode cX11_seen 45 = .ok (.iload_n 2, 1) := by decide +kernel
theorem dX11_seen_46 : decode cX11_seen 46 = .ok (.invokevirtual 358, 3) := by decide +kernel
theorem dX11_seen_49 : decode cX11_seen 49 = .ok (.ifCond .eq 7, 3) := by decide +kernel
theorem dX11_seen_52 : decode cX11_seen 52 = .ok (.iconst 1, 1) := by decide +kernel
theorem dX11_seen_53 : decode cX11_seen 53 = .ok (.goto 4, 3) := by decide +kernel
theorem dX11_seen_56 : decode cX11_seen 56 = .ok (.iconst 0, 1) := by decide +kernel
theorem dX11_seen_57 : decode cX11_seen 57 = .ok (.ireturn, 1) := by decide +kernel
theorem dX11_ready_0 : decode cX11_ready 0 = .ok (.aload_n 0, 1) := by decide +kernel
theorem dX11_ready_1 : decode cX11_ready 1 = .ok (.iconst 0, 1) := by decide +kernel
theorem dX11_ready_2 : decode cX11_ready 2 = .ok (.putfield 146, 3) := by decide +kernel
theorem dX11_ready_5 : decode cX11_ready 5 = .ok (.aload_n 0, 1) := by decide +kernel
theorem dX11_ready_6 : decode cX11_ready 6 = .ok (.iconst 0, 1) := by decide +kernel
theorem dX11_ready_7 : decode cX11_ready 7 = .ok (.putfield 149, 3) := by decide +kernel
theorem dX11_ready_10 : decode cX11_ready 10 = .ok (.aload_n 0, 1) := by decide +kernel
theorem dX11_ready_11 : decode cX11_ready 11 = .ok (.iload_n 1, 1) := by decide +kernel
theorem dX11_ready_12 : decode cX11_ready 12 = .ok (.invokevirtual 349, 3) := by decide +kernel
theorem dX11_ready_15 : decode cX11_ready 15 = .ok (.ifCond .ne 9, 3) := by decide +kernel
theorem dX11_ready_18 : decode cX11_ready 18 = .ok (.aload_n 0, 1) := by decide +kernel
theorem dX11_ready_19 : decode cX11_ready 19 = .ok (.iconst 1, 1) := by decide +kernel
theorem dX11_ready_20 : decode cX11_ready 20 = .ok (.invokevirtual 295, 3) := by decide +kernel
theorem dX11_ready_23 : decode cX11_ready 23 = .ok (.ireturn, 1) := by decide +kernel
theorem dX11_ready_24 : decode cX11_ready 24 = .ok (.aload_n 0, 1) := by decide +kernel
theorem dX11_ready_25 : decode cX11_ready 25 = .ok (.iload_n 1, 1) := by decide +kernel
theorem dX11_ready_26 : decode cX11_ready 26 = .ok (.invokevirtual 355, 3) := by decide +kernel
theorem dX11_ready_29 : decode cX11_ready 29 = .ok (.ifCond .lt 9, 3) := by decide +kernel
theorem dX11_ready_32 : decode cX11_ready 32 = .ok (.aload_n 0, 1) := by decide +kernel
theorem dX11_ready_33 : decode cX11_ready 33 = .ok (.iconst 5, 1) := by decide +kernel
theorem dX11_ready_34 : decode cX11_ready 34 = .ok (.invokevirtual 295, 3) := by decide +kernel
theorem dX11_ready_37 : decode cX11_ready 37 = .ok (.ireturn, 1) := by decide +kernel
theorem dX11_ready_38 : decode cX11_ready 38 = .ok (.aload_n 0, 1) := by decide +kernel
theorem dX11_ready_39 : decode cX11_ready 39 = .ok (.getfield 316, 3) := by decide +kernel
theorem dX11_ready_42 : decode cX11_ready 42 = .ok (.aload_n 0, 1) := by decide +kernel
theorem dX11_ready_43 : decode cX11_ready 43 = .ok (.iload_n 1, 1) := by decide +kernel
theorem dX11_ready_44 : decode cX11_ready 44 = .ok (.invokevirtual 361, 3) := by decide +kernel
theorem dX11_ready_47 : decode cX11_ready 47 = .ok (.invokestatic 341, 3) := by decide +kernel
theorem dX11_ready_50 : decode cX11_ready 50 = .ok (.ireturn, 1) := by decide +kernel
theorem dX11_isDay_0 : decode cX11_isDay 0 = .ok (.iload_n 0, 1) := by decide +kernel
theorem dX11_isDay_1 : decode cX11_isDay 1 = .ok (.ifCond .lt 14, 3) := by decide +kernel
theorem dX11_isDay_4 : decode cX11_isDay 4 = .ok (.iload_n 0, 1) := by decide +kernel
theorem dX11_isDay_5 : decode cX11_isDay 5 = .ok (.sipush 999, 3) := by decide +kernel
theorem dX11_isDay_8 : decode cX11_isDay 8 = .ok (.if_icmp .gt 7, 3) := by decide +kernel
theorem dX11_isDay_11 : decode cX11_isDay 11 = .ok (.iconst 1, 1) := by decide +kernel
theorem dX11_isDay_12 : decode cX11_isDay 12 = .ok (.goto 4, 3) := by decide +kernel
theorem dX11_isDay_15 : decode cX11_isDay 15 = .ok (.iconst 0, 1) := by decide +kernel
theorem dX11_isDay_16 : decode cX11_isDay 16 = .ok (.ireturn, 1) := by decide +kernel
theorem dX11_appeal_0 : decode cX11_appeal 0 = .ok (.aload_n 0, 1) := by decide +kernel
theorem dX11_appeal_1 : decode cX11_appeal 1 = .ok (.iconst 0, 1) := by decide +kernel
theorem dX11_appeal_2 : decode cX11_appeal 2 = .ok (.putfield 146, 3) := by decide +kernel
theorem dX11_appeal_5 : decode cX11_appeal 5 = .ok (.aload_n 0, 1) := by decide +kernel
theorem dX11_appeal_6 : decode cX11_appeal 6 = .ok (.iconst 0, 1) := by decide +kernel
theorem dX11_appeal_7 : decode cX11_appeal 7 = .ok (.putfield 149, 3) := by decide +kernel
theorem dX11_appeal_10 : decode cX11_appeal 10 = .ok (.iload_n 1, 1) := by decide +kernel
theorem dX11_appeal_11 : decode cX11_appeal 11 = .ok (.ifCond .lt 11, 3) := by decide +kernel
theorem dX11_appeal_14 : decode cX11_appeal 14 = .ok (.iload_n 1, 1) := by decide +kernel
theorem dX11_appeal_15 : decode cX11_appeal 15 = .ok (.aload_n 0, 1) := by decide +kernel
theorem dX11_appeal_16 : decode cX11_appeal 16 = .ok (.getfield 319, 3) := by decide +kernel
theorem dX11_appeal_19 : decode cX11_appeal 19 = .ok (.if_icmp .lt 9, 3) := by decide +kernel
theorem dX11_appeal_22 : decode cX11_appeal 22 = .ok (.aload_n 0, 1) := by decide +kernel
theorem dX11_appeal_23 : decode cX11_appeal 23 = .ok (.iconst 1, 1) := by decide +kernel
theorem dX11_appeal_24 : decode cX11_appeal 24 = .ok (.invokevirtual 332, 3) := by decide +kernel
theorem dX11_appeal_27 : decode cX11_appeal 27 = .ok (.ireturn, 1) := by decide +kernel
theorem dX11_appeal_28 : decode cX11_appeal 28 = .ok (.iload_n 2, 1) := by decide +kernel
theorem dX11_appeal_29 : decode cX11_appeal 29 = .ok (.ifCond .lt 34, 3) := by decide +kernel
theorem dX11_appeal_32 : decode cX11_appeal 32 = .ok (.iload_n 2, 1) := by decide +kernel
theorem dX11_appeal_33 : decode cX11_appeal 33 = .ok (.aload_n 0, 1) := by decide +kernel
theorem dX11_appeal_34 : decode cX11_appeal 34 = .ok (.getfield 73, 3) := by decide +kernel
theorem dX11_appeal_37 : decode cX11_appeal 37 = .ok (.aload_n 0, 1) := by decide +kernel
theorem dX11_appeal_38 : decode cX11_appeal 38 = .ok (.getfield 97, 3) := by decide +kernel
theorem dX11_appeal_41 : decode cX11_appeal 41 = .ok (.iload_n 1, 1) := by decide +kernel
theorem dX11_appeal_42 : decode cX11_appeal 42 = .ok (.iaload, 1) := by decide +kernel
theorem dX11_appeal_43 : decode cX11_appeal 43 = .ok (.aload_n 0, 1) := by decide +kernel
theorem dX11_appeal_44 : decode cX11_appeal 44 = .ok (.getfield 100, 3) := by decide +kernel
theorem dX11_appeal_47 : decode cX11_appeal 47 = .ok (.iload_n 1, 1) := by decide +kernel
theorem dX11_appeal_48 : decode cX11_appeal 48 = .ok (.iaload, 1) := by decide +kernel
theorem dX11_appeal_49 : decode cX11_appeal 49 = .ok (.invokestatic 335, 3) := by decide +kernel
theorem dX11_appeal_52 : decode cX11_appeal 52 = .ok (.iaload, 1) := by decide +kernel
theorem dX11_appeal_53 : decode cX11_appeal 53 = .ok (.if_icmp .gt 10, 3) := by decide +kernel
theorem dX11_appeal_56 : decode cX11_appeal 56 = .ok (.iload_n 3, 1) := by decide +kernel
theorem dX11_appeal_57 : decode cX11_appeal 57 = .ok (.invokestatic 364, 3) := by decide +kernel
theorem dX11_appeal_60 : decode cX11_appeal 60 = .ok (.ifCond .ne 9, 3) := by decide +kernel
theorem dX11_appeal_63 : decode cX11_appeal 63 = .ok (.aload_n 0, 1) := by decide +kernel
theorem dX11_appeal_64 : decode cX11_appeal 64 = .ok (.iconst 2, 1) := by decide +kernel
theorem dX11_appeal_65 : decode cX11_appeal 65 = .ok (.invokevirtual 332, 3) := by decide +kernel
theorem dX11_appeal_68 : decode cX11_appeal 68 = .ok (.ireturn, 1) := by decide +kernel
theorem dX11_appeal_69 : decode cX11_appeal 69 = .ok (.aload_n 0, 1) := by decide +kernel
theorem dX11_appeal_70 : decode cX11_appeal 70 = .ok (.getfield 112, 3) := by decide +kernel
theorem dX11_appeal_73 : decode cX11_appeal 73 = .ok (.iload_n 1, 1) := by decide +kernel
theorem dX11_appeal_74 : decode cX11_appeal 74 = .ok (.iaload, 1) := by decide +kernel
theorem dX11_appeal_75 : decode cX11_appeal 75 = .ok (.ifCond .eq 13, 3) := by decide +kernel
theorem dX11_appeal_78 : decode cX11_appeal 78 = .ok (.aload_n 0, 1) := by decide +kernel
theorem dX11_appeal_79 : decode cX11_appeal 79 = .ok (.getfield 112, 3) := by decide +kernel
theorem dX11_appeal_82 : decode cX11_appeal 82 = .ok (.iload_n 1, 1) := by decide +kernel
theorem dX11_appeal_83 : decode cX11_appeal 83 = .ok (.iaload, 1) := by decide +kernel
theorem dX11_appeal_84 : decode cX11_appeal 84 = .ok (.iconst 4, 1) := by decide +kernel
theorem dX11_appeal_85 : decode cX11_appeal 85 = .ok (.if_icmp .ne 10, 3) := by decide +kernel
theorem dX11_appeal_88 : decode cX11_appeal 88 = .ok (.aload_n 0, 1) := by decide +kernel
theorem dX11_appeal_89 : decode cX11_appeal 89 = .ok (.bipush 10, 2) := by decide +kernel
theorem dX11_appeal_91 : decode cX11_appeal 91 = .ok (.invokevirtual 332, 3) := by decide +kernel
theorem dX11_appeal_94 : decode cX11_appeal 94 = .ok (.ireturn, 1) := by decide +kernel
theorem dX11_appeal_95 : decode cX11_appeal 95 = .ok (.aload_n 0, 1) := by decide +kernel
theorem dX11_appeal_96 : decode cX11_appeal 96 = .ok (.getfield 322, 3) := by decide +kernel
theorem dX11_appeal_99 : decode cX11_appeal 99 = .ok (.bipush 40, 2) := by decide +kernel
theorem dX11_appeal_101 : decode cX11_appeal 101 = .ok (.if_icmp .ne 9, 3) := by decide +kernel
theorem dX11_appeal_104 : decode cX11_appeal 104 = .ok (.aload_n 0, 1) := by decide +kernel
theorem dX11_appeal_105 : decode cX11_appeal 105 = .ok (.iconst 3, 1) := by decide +kernel
theorem dX11_appeal_106 : decode cX11_appeal 106 = .ok (.invokevirtual 332, 3) := by decide +kernel
theorem dX11_appeal_109 : decode cX11_appeal 109 = .ok (.ireturn, 1) := by decide +kernel
theorem dX11_appeal_110 : decode cX11_appeal 110 = .ok (.aload_n 0, 1) := by decide +kernel
theorem dX11_appeal_111 : decode cX11_appeal 111 = .ok (.getfield 115, 3) := by decide +kernel
theorem dX11_appeal_114 : decode cX11_appeal 114 = .ok (.aload_n 0, 1) := by decide +kernel
theorem dX11_appeal_115 : decode cX11_appeal 115 = .ok (.getfield 322, 3) := by decide +kernel
theorem dX11_appeal_118 : decode cX11_appeal 118 = .ok (.iload_n 1, 1) := by decide +kernel
theorem dX11_appeal_119 : decode cX11_appeal 119 = .ok (.iastore, 1) := by decide +kernel
theorem dX11_appeal_120 : decode cX11_appeal 120 = .ok (.aload_n 0, 1) := by decide +kernel
theorem dX11_appeal_121 : decode cX11_appeal 121 = .ok (.getfield 118, 3) := by decide +kernel
theorem dX11_appeal_124 : decode cX11_appeal 124 = .ok (.aload_n 0, 1) := by decide +kernel
theorem dX11_appeal_125 : decode cX11_appeal 125 = .ok (.getfield 322, 3) := by decide +kernel
theorem dX11_appeal_128 : decode cX11_appeal 128 = .ok (.iload_n 2, 1) := by decide +kernel
theorem dX11_appeal_129 : decode cX11_appeal 129 = .ok (.iastore, 1) := by decide +kernel
theorem dX11_appeal_130 : decode cX11_appeal 130 = .ok (.aload_n 0, 1) := by decide +kernel
theorem dX11_appeal_131 : decode cX11_appeal 131 = .ok (.getfield 121, 3) := by decide +kernel
theorem dX11_appeal_134 : decode cX11_appeal 134 = .ok (.aload_n 0, 1) := by decide +kernel
theorem dX11_appeal_135 : decode cX11_appeal 135 = .ok (.getfield 322, 3) := by decide +kernel
theorem dX11_appeal_138 : decode cX11_appeal 138 = .ok (.iload_n 3, 1) := by decide +kernel
theorem dX11_appeal_139 : decode cX11_appeal 139 = .ok (.iastore, 1) := by decide +kernel
theorem dX11_appeal_140 : decode cX11_appeal 140 = .ok (.aload_n 0, 1) := by decide +kernel
theorem dX11_appeal_141 : decode cX11_appeal 141 = .ok (.dup, 1) := by decide +kernel
theorem dX11_appeal_142 : decode cX11_appeal 142 = .ok (.getfield 322, 3) := by decide +kernel
theorem dX11_appeal_145 : decode cX11_appeal 145 = .ok (.iconst 1, 1) := by decide +kernel
theorem dX11_appeal_146 : decode cX11_appeal 146 = .ok (.iadd, 1) := by decide +kernel
theorem dX11_appeal_147 : decode cX11_appeal 147 = .ok (.putfield 322, 3) := by decide +kernel
theorem dX11_appeal_150 : decode cX11_appeal 150 = .ok (.iconst 1, 1) := by decide +kernel
theorem dX11_appeal_151 : decode cX11_appeal 151 = .ok (.ireturn, 1) := by decide +kernel
theorem dX11_holdOf_0 : decode cX11_holdOf 0 = .ok (.iconst (-1), 1) := by decide +kernel
theorem dX11_holdOf_1 : decode cX11_holdOf 1 = .ok (.istore_n 3, 1) := by decide +kernel
theorem dX11_holdOf_2 : decode cX11_holdOf 2 = .ok (.iconst 0, 1) := by decide +kernel
theorem dX11_holdOf_3 : decode cX11_holdOf 3 = .ok (.istore 4, 2) := by decide +kernel
theorem dX11_holdOf_5 : decode cX11_holdOf 5 = .ok (.iload 4, 2) := by decide +kernel
theorem dX11_holdOf_7 : decode cX11_holdOf 7 = .ok (.aload_n 0, 1) := by decide +kernel
theorem dX11_holdOf_8 : decode cX11_holdOf 8 = .ok (.getfield 322, 3) := by decide +kernel
theorem dX11_holdOf_11 : decode cX11_holdOf 11 = .ok (.if_icmp .ge 54, 3) := by decide +kernel
theorem dX11_holdOf_14 : decode cX11_holdOf 14 = .ok (.aload_n 0, 1) := by decide +kernel
theorem dX11_holdOf_15 : decode cX11_holdOf 15 = .ok (.getfield 115, 3) := by decide +kernel
theorem dX11_holdOf_18 : decode cX11_holdOf 18 = .ok (.iload 4, 2) := by decide +kernel
theorem dX11_holdOf_20 : decode cX11_holdOf 20 = .ok (.iaload, 1) := by decide +kernel
theorem dX11_holdOf_21 : decode cX11_holdOf 21 = .ok (.iload_n 1, 1) := by decide +kernel
theorem dX11_holdOf_22 : decode cX11_holdOf 22 = .ok (.if_icmp .ne 37, 3) := by decide +kernel
theorem dX11_holdOf_25 : decode cX11_holdOf 25 = .ok (.aload_n 0, 1) := by decide +kernel
theorem dX11_holdOf_26 : decode cX11_holdOf 26 = .ok (.getfield 121, 3) := by decide +kernel
theorem dX11_holdOf_29 : decode cX11_holdOf 29 = .ok (.iload 4, 2) := by decide +kernel
theorem dX11_holdOf_31 : decode cX11_holdOf 31 = .ok (.iaload, 1) := by decide +kernel
theorem dX11_holdOf_32 : decode cX11_holdOf 32 = .ok (.iload_n 2, 1) := by decide +kernel
theorem dX11_holdOf_33 : decode cX11_holdOf 33 = .ok (.if_icmp .gt 26, 3) := by decide +kernel
theorem dX11_holdOf_36 : decode cX11_holdOf 36 = .ok (.iload_n 3, 1) := by decide +kernel
theorem dX11_holdOf_37 : decode cX11_holdOf 37 = .ok (.ifCond .lt 19, 3) := by decide +kernel
theorem dX11_holdOf_40 : decode cX11_holdOf 40 = .ok (.aload_n 0, 1) := by decide +kernel
theorem dX11_holdOf_41 : decode cX11_holdOf 41 = .ok (.getfield 121, 3) := by decide +kernel
theorem dX11_holdOf_44 : decode cX11_holdOf 44 = .ok (.iload 4, 2) := by decide +kernel
theorem dX11_holdOf_46 : decode cX11_holdOf 46 = .ok (.iaload, 1) := by decide +kernel
theorem dX11_holdOf_47 : decode cX11_holdOf 47 = .ok (.aload_n 0, 1) := by decide +kernel
theorem dX11_holdOf_48 : decode cX11_holdOf 48 = .ok (.getfield 121, 3) := by decide +kernel
theorem dX11_holdOf_51 : decode cX11_holdOf 51 = .ok (.iload_n 3, 1) := by decide +kernel
theorem dX11_holdOf_52 : decode cX11_holdOf 52 = .ok (.iaload, 1) := by decide +kernel
theorem dX11_holdOf_53 : decode cX11_holdOf 53 = .ok (.if_icmp .lt 6, 3) := by decide +kernel
theorem dX11_holdOf_56 : decode cX11_holdOf 56 = .ok (.iload 4, 2) := by decide +kernel
theorem dX11_holdOf_58 : decode cX11_holdOf 58 = .ok (.istore_n 3, 1) := by decide +kernel
theorem dX11_holdOf_59 : decode cX11_holdOf 59 = .ok (.iinc 4 1, 3) := by decide +kernel
theorem dX11_holdOf_62 : decode cX11_holdOf 62 = .ok (.goto (-57), 3) := by decide +kernel
theorem dX11_holdOf_65 : decode cX11_holdOf 65 = .ok (.iload_n 3, 1) := by decide +kernel
theorem dX11_holdOf_66 : decode cX11_holdOf 66 = .ok (.ifCond .ge 12, 3) := by decide +kernel
theorem dX11_holdOf_69 : decode cX11_holdOf 69 = .ok (.aload_n 0, 1) := by decide +kernel
theorem dX11_holdOf_70 : decode cX11_holdOf 70 = .ok (.getfield 109, 3) := by decide +kernel
theorem dX11_holdOf_73 : decode cX11_holdOf 73 = .ok (.iload_n 1, 1) := by decide +kernel
theorem dX11_holdOf_74 : decode cX11_holdOf 74 = .ok (.iaload, 1) := by decide +kernel
theorem dX11_holdOf_75 : decode cX11_holdOf 75 = .ok (.goto 9, 3) := by decide +kernel
theorem dX11_holdOf_78 : decode cX11_holdOf 78 = .ok (.aload_n 0, 1) := by decide +kernel
theorem dX11_holdOf_79 : decode cX11_holdOf 79 = .ok (.getfield 118, 3) := by decide +kernel
theorem dX11_holdOf_82 : decode cX11_holdOf 82 = .ok (.iload_n 3, 1) := by decide +kernel
theorem dX11_holdOf_83 : decode cX11_holdOf 83 = .ok (.iaload, 1) := by decide +kernel
theorem dX11_holdOf_84 : decode cX11_holdOf 84 = .ok (.ireturn, 1) := by decide +kernel
theorem dX11_isIn_0 : decode cX11_isIn 0 = .ok (.aload_n 0, 1) := by decide +kernel
theorem dX11_isIn_1 : decode cX11_isIn 1 = .ok (.iload_n 1, 1) := by decide +kernel
theorem dX11_isIn_2 : decode cX11_isIn 2 = .ok (.invokevirtual 325, 3) := by decide +kernel
theorem dX11_isIn_5 : decode cX11_isIn 5 = .ok (.ifCond .eq 29, 3) := by decide +kernel
theorem dX11_isIn_8 : decode cX11_isIn 8 = .ok (.aload_n 0, 1) := by decide +kernel
theorem dX11_isIn_9 : decode cX11_isIn 9 = .ok (.iload_n 2, 1) := by decide +kernel
theorem dX11_isIn_10 : decode cX11_isIn 10 = .ok (.invokevirtual 349, 3) := by decide +kernel
theorem dX11_isIn_13 : decode cX11_isIn 13 = .ok (.ifCond .eq 21, 3) := by decide +kernel
theorem dX11_isIn_16 : decode cX11_isIn 16 = .ok (.aload_n 0, 1) := by decide +kernel
theorem dX11_isIn_17 : decode cX11_isIn 17 = .ok (.getfield 85, 3) := by decide +kernel
theorem dX11_isIn_20 : decode cX11_isIn 20 = .ok (.bipush 16, 2) := by decide +kernel
theorem dX11_isIn_22 : decode cX11_isIn 22 = .ok (.iload_n 1, 1) := by decide +kernel
theorem dX11_isIn_23 : decode cX11_isIn 23 = .ok (.imul, 1) := by decide +kernel
theorem dX11_isIn_24 : decode cX11_isIn 24 = .ok (.iload_n 2, 1) := by decide +kernel
theorem dX11_isIn_25 : decode cX11_isIn 25 = .ok (.iadd, 1) := by decide +kernel
theorem dX11_isIn_26 : decode cX11_isIn 26 = .ok (.baload, 1) := by decide +kernel
theorem dX11_isIn_27 : decode cX11_isIn 27 = .ok (.ifCond .eq 7, 3) := by decide +kernel
theorem dX11_isIn_30 : decode cX11_isIn 30 = .ok (.iconst 1, 1) := by decide +kernel
theorem dX11_isIn_31 : decode cX11_isIn 31 = .ok (.goto 4, 3) := by decide +kernel
theorem dX11_isIn_34 : decode cX11_isIn 34 = .ok (.iconst 0, 1) := by decide +kernel
theorem dX11_isIn_35 : decode cX11_isIn 35 = .ok (.ireturn, 1) := by decide +kernel
