theorem dX11_status_0 : decode cX11_status 0 = .ok (.aload_n 0, 1) := by decide +kernel
theorem dX11_status_1 : decode cX11_status 1 = .ok (.iconst 0, 1) := by decide +kernel
theorem dX11_status_2 : decode cX11_status 2 = .ok (.putfield 146, 3) := by decide +kernel
theorem dX11_status_5 : decode cX11_status 5 = .ok (.aload_n 0, 1) := by decide +kernel
theorem dX11_status_6 : decode cX11_status 6 = .ok (.getfield 149, 3) := by decide +kernel
theorem dX11_status_9 : decode cX11_status 9 = .ok (.ireturn, 1) := by decide +kernel
theorem dX11_refuse_0 : decode cX11_refuse 0 = .ok (.aload_n 0, 1) := by decide +kernel
theorem dX11_refuse_1 : decode cX11_refuse 1 = .ok (.iload_n 1, 1) := by decide +kernel
theorem dX11_refuse_2 : decode cX11_refuse 2 = .ok (.putfield 149, 3) := by decide +kernel
theorem dX11_refuse_5 : decode cX11_refuse 5 = .ok (.iconst (-1), 1) := by decide +kernel
theorem dX11_refuse_6 : decode cX11_refuse 6 = .ok (.ireturn, 1) := by decide +kernel
theorem dX11_no_0 : decode cX11_no 0 = .ok (.aload_n 0, 1) := by decide +kernel
theorem dX11_no_1 : decode cX11_no 1 = .ok (.iload_n 1, 1) := by decide +kernel
theorem dX11_no_2 : decode cX11_no 2 = .ok (.putfield 149, 3) := by decide +kernel
theorem dX11_no_5 : decode cX11_no 5 = .ok (.iconst 0, 1) := by decide +kernel
theorem dX11_no_6 : decode cX11_no 6 = .ok (.ireturn, 1) := by decide +kernel
theorem dX11_feed_0 : decode cX11_feed 0 = .ok (.aload_n 0, 1) := by decide +kernel
theorem dX11_feed_1 : decode cX11_feed 1 = .ok (.iconst 0, 1) := by decide +kernel
theorem dX11_feed_2 : decode cX11_feed 2 = .ok (.putfield 146, 3) := by decide +kernel
theorem dX11_feed_5 : decode cX11_feed 5 = .ok (.aload_n 0, 1) := by decide +kernel
theorem dX11_feed_6 : decode cX11_feed 6 = .ok (.getfield 289, 3) := by decide +kernel
theorem dX11_feed_9 : decode cX11_feed 9 = .ok (.bipush 20, 2) := by decide +kernel
theorem dX11_feed_11 : decode cX11_feed 11 = .ok (.iadd, 1) := by decide +kernel
theorem dX11_feed_12 : decode cX11_feed 12 = .ok (.sipush 700, 3) := by decide +kernel
theorem dX11_feed_15 : decode cX11_feed 15 = .ok (.if_icmp .le 5, 3) := by decide +kernel
theorem dX11_feed_18 : decode cX11_feed 18 = .ok (.iconst (-1), 1) := by decide +kernel
theorem dX11_feed_19 : decode cX11_feed 19 = .ok (.ireturn, 1) := by decide +kernel
theorem dX11_feed_20 : decode cX11_feed 20 = .ok (.aload_n 0, 1) := by decide +kernel
theorem dX11_feed_21 : decode cX11_feed 21 = .ok (.iload_n 1, 1) := by decide +kernel
theorem dX11_feed_22 : decode cX11_feed 22 = .ok (.invokevirtual 292, 3) := by decide +kernel
theorem dX11_feed_25 : decode cX11_feed 25 = .ok (.aload_n 0, 1) := by decide +kernel
theorem dX11_feed_26 : decode cX11_feed 26 = .ok (.iload_n 2, 1) := by decide +kernel
theorem dX11_feed_27 : decode cX11_feed 27 = .ok (.invokevirtual 292, 3) := by decide +kernel
theorem dX11_feed_30 : decode cX11_feed 30 = .ok (.aload_n 0, 1) := by decide +kernel
theorem dX11_feed_31 : decode cX11_feed 31 = .ok (.iload_n 3, 1) := by decide +kernel
theorem dX11_feed_32 : decode cX11_feed 32 = .ok (.invokevirtual 292, 3) := by decide +kernel
theorem dX11_feed_35 : decode cX11_feed 35 = .ok (.aload_n 0, 1) := by decide +kernel
theorem dX11_feed_36 : decode cX11_feed 36 = .ok (.iload 4, 2) := by decide +kernel
theorem dX11_feed_38 : decode cX11_feed 38 = .ok (.invokevirtual 292, 3) := by decide +kernel
theorem dX11_feed_41 : decode cX11_feed 41 = .ok (.aload_n 0, 1) := by decide +kernel
theorem dX11_feed_42 : decode cX11_feed 42 = .ok (.iload 5, 2) := by decide +kernel
theorem dX11_feed_44 : decode cX11_feed 44 = .ok (.invokevirtual 292, 3) := by decide +kernel
theorem dX11_feed_47 : decode cX11_feed 47 = .ok (.aload_n 0, 1) := by decide +kernel
theorem dX11_feed_48 : decode cX11_feed 48 = .ok (.getfield 289, 3) := by decide +kernel
theorem dX11_feed_51 : decode cX11_feed 51 = .ok (.ireturn, 1) := by decide +kernel
theorem dX11_lay_0 : decode cX11_lay 0 = .ok (.iconst 3, 1) := by decide +kernel
theorem dX11_lay_1 : decode cX11_lay 1 = .ok (.istore_n 2, 1) := by decide +kernel
theorem dX11_lay_2 : decode cX11_lay 2 = .ok (.iload_n 2, 1) := by decide +kernel
theorem dX11_lay_3 : decode cX11_lay 3 = .ok (.ifCond .lt 35, 3) := by decide +kernel
theorem dX11_lay_6 : decode cX11_lay 6 = .ok (.aload_n 0, 1) := by decide +kernel
theorem dX11_lay_7 : decode cX11_lay 7 = .ok (.getfield 7, 3) := by decide +kernel
theorem dX11_lay_10 : decode cX11_lay 10 = .ok (.aload_n 0, 1) := by decide +kernel
theorem dX11_lay_11 : decode cX11_lay 11 = .ok (.getfield 289, 3) := by decide +kernel
theorem dX11_lay_14 : decode cX11_lay 14 = .ok (.iload_n 1, 1) := by decide +kernel
theorem dX11_lay_15 : decode cX11_lay 15 = .ok (.bipush 8, 2) := by decide +kernel
theorem dX11_lay_17 : decode cX11_lay 17 = .ok (.iload_n 2, 1) := by decide +kernel
theorem dX11_lay_18 : decode cX11_lay 18 = .ok (.imul, 1) := by decide +kernel
theorem dX11_lay_19 : decode cX11_lay 19 = .ok (.ishr, 1) := by decide +kernel
theorem dX11_lay_20 : decode cX11_lay 20 = .ok (.i2b, 1) := by decide +kernel
theorem dX11_lay_21 : decode cX11_lay 21 = .ok (.bastore, 1) := by decide +kernel
theorem dX11_lay_22 : decode cX11_lay 22 = .ok (.aload_n 0, 1) := by decide +kernel
theorem dX11_lay_23 : decode cX11_lay 23 = .ok (.dup, 1) := by decide +kernel
theorem dX11_lay_24 : decode cX11_lay 24 = .ok (.getfield 289, 3) := by decide +kernel
theorem dX11_lay_27 : decode cX11_lay 27 = .ok (.iconst 1, 1) := by decide +kernel
theorem dX11_lay_28 : decode cX11_lay 28 = .ok (.iadd, 1) := by decide +kernel
theorem dX11_lay_29 : decode cX11_lay 29 = .ok (.putfield 289, 3) := by decide +kernel
theorem dX11_lay_32 : decode cX11_lay 32 = .ok (.iinc 2 (-1), 3) := by decide +kernel
theorem dX11_lay_35 : decode cX11_lay 35 = .ok (.goto (-33), 3) := by decide +kernel
theorem dX11_lay_38 : decode cX11_lay 38 = .ok (.return_, 1) := by decide +kernel
theorem dX11_fault_0 : decode cX11_fault 0 = .ok (.aload_n 0, 1) := by decide +kernel
theorem dX11_fault_1 : decode cX11_fault 1 = .ok (.iconst 0, 1) := by decide +kernel
theorem dX11_fault_2 : decode cX11_fault 2 = .ok (.putfield 146, 3) := by decide +kernel
theorem dX11_fault_5 : decode cX11_fault 5 = .ok (.iload_n 1, 1) := by decide +kernel
theorem dX11_fault_6 : decode cX11_fault 6 = .ok (.ifCond .ne 10, 3) := by decide +kernel
theorem dX11_fault_9 : decode cX11_fault 9 = .ok (.aload_n 0, 1) := by decide +kernel
theorem dX11_fault_10 : decode cX11_fault 10 = .ok (.getfield 13, 3) := by decide +kernel
theorem dX11_fault_13 : decode cX11_fault 13 = .ok (.goto 16, 3) := by decide +kernel
theorem dX11_fault_16 : decode cX11_fault 16 = .ok (.iload_n 1, 1) := by decide +kernel
theorem dX11_fault_17 : decode cX11_fault 17 = .ok (.iconst 1, 1) := by decide +kernel
theorem dX11_fault_18 : decode cX11_fault 18 = .ok (.if_icmp .ne 10, 3) := by decide +kernel
theorem dX11_fault_21 : decode cX11_fault 21 = .ok (.aload_n 0, 1) := by decide +kernel
theorem dX11_fault_22 : decode cX11_fault 22 = .ok (.getfield 17, 3) := by decide +kernel
theorem dX11_fault_25 : decode cX11_fault 25 = .ok (.goto 4, 3) := by decide +kernel
theorem dX11_fault_28 : decode cX11_fault 28 = .ok (.iconst (-1), 1) := by decide +kernel
theorem dX11_fault_29 : decode cX11_fault 29 = .ok (.ireturn, 1) := by decide +kernel
theorem dX11_isRound_0 : decode cX11_isRound 0 = .ok (.iload_n 1, 1) := by decide +kernel
theorem dX11_isRound_1 : decode cX11_isRound 1 = .ok (.ifCond .lt 15, 3) := by decide +kernel
theorem dX11_isRound_4 : decode cX11_isRound 4 = .ok (.iload_n 1, 1) := by decide +kernel
theorem dX11_isRound_5 : decode cX11_isRound 5 = .ok (.aload_n 0, 1) := by decide +kernel
theorem dX11_isRound_6 : decode cX11_isRound 6 = .ok (.getfield 301, 3) := by decide +kernel
theorem dX11_isRound_9 : decode cX11_isRound 9 = .ok (.if_icmp .ge 7, 3) := by decide +kernel
theorem dX11_isRound_12 : decode cX11_isRound 12 = .ok (.iconst 1, 1) := by decide +kernel
theorem dX11_isRound_13 : decode cX11_isRound 13 = .ok (.goto 4, 3) := by decide +kernel
theorem dX11_isRound_16 : decode cX11_isRound 16 = .ok (.iconst 0, 1) := by decide +kernel
theorem dX11_isRound_17 : decode cX11_isRound 17 = .ok (.ireturn, 1) := by decide +kernel
theorem dX11_isRoute_0 : decode cX11_isRoute 0 = .ok (.aload_n 0, 1) := by decide +kernel
theorem dX11_isRoute_1 : decode cX11_isRoute 1 = .ok (.iload_n 1, 1) := by decide +kernel
theorem dX11_isRoute_2 : decode cX11_isRoute 2 = .ok (.invokevirtual 325, 3) := by decide +kernel
theorem dX11_isRoute_5 : decode cX11_isRoute 5 = .ok (.ifCond .eq 21, 3) := by decide +kernel
theorem dX11_isRoute_8 : decode cX11_isRoute 8 = .ok (.iload_n 2, 1) := by decide +kernel
theorem dX11_isRoute_9 : decode cX11_isRoute 9 = .ok (.ifCond .lt 17, 3) := by decide +kernel
theorem dX11_isRoute_12 : decode cX11_isRoute 12 = .ok (.iload_n 2, 1) := by decide +kernel
theorem dX11_isRoute_13 : decode cX11_isRoute 13 = .ok (.aload_n 0, 1) := by decide +kernel
theorem dX11_isRoute_14 : decode cX11_isRoute 14 = .ok (.getfield 20, 3) := by decide +kernel
theorem dX11_isRoute_17 : decode cX11_isRoute 17 = .ok (.iload_n 1, 1) := by decide +kernel
theorem dX11_isRoute_18 : decode cX11_isRoute 18 = .ok (.iaload, 1) := by decide +kernel
theorem dX11_isRoute_19 : decode cX11_isRoute 19 = .ok (.if_icmp .ge 7, 3) := by decide +kernel
theorem dX11_isRoute_22 : decode cX11_isRoute 22 = .ok (.iconst 1, 1) := by decide +kernel
theorem dX11_isRoute_23 : decode cX11_isRoute 23 = .ok (.goto 4, 3) := by decide +kernel
theorem dX11_isRoute_26 : decode cX11_isRoute 26 = .ok (.iconst 0, 1) := by decide +kernel
theorem dX11_isRoute_27 : decode cX11_isRoute 27 = .ok (.ireturn, 1) := by decide +kernel
theorem dX11_isClimber_0 : decode cX11_isClimber 0 = .ok (.iload_n 1, 1) := by decide +kernel
theorem dX11_isClimber_1 : decode cX11_isClimber 1 = .ok (.ifCond .lt 15, 3) := by decide +kernel
theorem dX11_isClimber_4 : decode cX11_isClimber 4 = .ok (.iload_n 1, 1) := by decide +kernel
theorem dX11_isClimber_5 : decode cX11_isClimber 5 = .ok (.aload_n 0, 1) := by decide +kernel
theorem dX11_isClimber_6 : decode cX11_isClimber 6 = .ok (.getfield 313, 3) := by decide +kernel
theorem dX11_isClimber_9 : decode cX11_isClimber 9 = .ok (.if_icmp .ge 7, 3) := by decide +kernel
theorem dX11_isClimber_12 : decode cX11_isClimber 12 = .ok (.iconst 1, 1) := by decide +kernel
theorem dX11_isClimber_13 : decode cX11_isClimber 13 = .ok (.goto 4, 3) := by decide +kernel
theorem dX11_isClimber_16 : decode cX11_isClimber 16 = .ok (.iconst 0, 1) := by decide +kernel
theorem dX11_isClimber_17 : decode cX11_isClimber 17 = .ok (.ireturn, 1) := by decide +kernel
theorem dX11_at_0 : decode cX11_at 0 = .ok (.iconst 5, 1) := by decide +kernel
theorem dX11_at_1 : decode cX11_at 1 = .ok (.iload_n 0, 1) := by decide +kernel
theorem dX11_at_2 : decode cX11_at 2 = .ok (.imul, 1) := by decide +kernel
theorem dX11_at_3 : decode cX11_at 3 = .ok (.iload_n 1, 1) := by decide +kernel
theorem dX11_at_4 : decode cX11_at 4 = .ok (.iadd, 1) := by decide +kernel
theorem dX11_at_5 : decode cX11_at 5 = .ok (.ireturn, 1) := by decide +kernel
theorem dX11_goesTo_0 : decode cX11_goesTo 0 = .ok (.aload_n 0, 1) := by decide +kernel
theorem dX11_goesTo_1 : decode cX11_goesTo 1 = .ok (.iload_n 1, 1) := by decide +kernel
theorem dX11_goesTo_2 : decode cX11_goesTo 2 = .ok (.putfield 316, 3) := by decide +kernel
theorem dX11_goesTo_5 : decode cX11_goesTo 5 = .ok (.iconst 0, 1) := by decide +kernel
theorem dX11_goesTo_6 : decode cX11_goesTo 6 = .ok (.istore_n 2, 1) := by decide +kernel
theorem dX11_goesTo_7 : decode cX11_goesTo 7 = .ok (.iload_n 2, 1) := by decide +kernel
theorem dX11_goesTo_8 : decode cX11_goesTo 8 = .ok (.aload_n 0, 1) := by decide +kernel
theorem dX11_goesTo_9 : decode cX11_goesTo 9 = .ok (.getfield 319, 3) := by decide +kernel
theorem dX11_goesTo_12 : decode cX11_goesTo 12 = .ok (.if_icmp .ge 74, 3) := by decide +kernel
theorem dX11_goesTo_15 : decode cX11_goesTo 15 = .ok (.aload_n 0, 1) := by decide +kernel
theorem dX11_goesTo_16 : decode cX11_goesTo 16 = .ok (.getfield 112, 3) := by decide +kernel
theorem dX11_goesTo_19 : decode cX11_goesTo 19 = .ok (.iload_n 2, 1) := by decide +kernel
theorem dX11_goesTo_20 : decode cX11_goesTo 20 = .ok (.iaload, 1) := by decide +kernel
theorem dX11_goesTo_21 : decode cX11_goesTo 21 = .ok (.ifCond .ne 59, 3) := by decide +kernel
theorem dX11_goesTo_24 : decode cX11_goesTo 24 = .ok (.aload_n 0, 1) := by decide +kernel
theorem dX11_goesTo_25 : decode cX11_goesTo 25 = .ok (.getfield 103, 3) := by decide +kernel
theorem dX11_goesTo_28 : decode cX11_goesTo 28 = .ok (.iload_n 2, 1) := by decide +kernel
theorem dX11_goesTo_29 : decode cX11_goesTo 29 = .ok (.iaload, 1) := by decide +kernel
theorem dX11_goesTo_30 : decode cX11_goesTo 30 = .ok (.aload_n 0, 1) := by decide +kernel
theorem dX11_goesTo_31 : decode cX11_goesTo 31 = .ok (.getfield 27, 3) := by decide +kernel
theorem dX11_goesTo_34 : decode cX11_goesTo 34 = .ok (.aload_n 0, 1) := by decide +kernel
theorem dX11_goesTo_35 : decode cX11_goesTo 35 = .ok (.getfield 97, 3) := by decide +kernel
theorem dX11_goesTo_38 : decode cX11_goesTo 38 = .ok (.iload_n 2, 1) := by decide +kernel
theorem dX11_goesTo_39 : decode cX11_goesTo 39 = .ok (.iaload, 1) := by decide +kernel
theorem dX11_goesTo_40 : decode cX11_goesTo 40 = .ok (.iaload, 1) := by decide +kernel
theorem dX11_goesTo_41 : decode cX11_goesTo 41 = .ok (.iadd, 1) := by decide +kernel
theorem dX11_goesTo_42 : decode cX11_goesTo 42 = .ok (.iload_n 1, 1) := by decide +kernel
theorem dX11_goesTo_43 : decode cX11_goesTo 43 = .ok (.if_icmp .le 6, 3) := by decide +kernel
theorem dX11_goesTo_46 : decode cX11_goesTo 46 = .ok (.goto 34, 3) := by decide +kernel
theorem dX11_goesTo_49 : decode cX11_goesTo 49 = .ok (.aload_n 0, 1) := by decide +kernel
theorem dX11_goesTo_50 : decode cX11_goesTo 50 = .ok (.getfield 112, 3) := by decide +kernel
theorem dX11_goesTo_53 : decode cX11_goesTo 53 = .ok (.iload_n 2, 1) := by decide +kernel
theorem dX11_goesTo_54 : decode cX11_goesTo 54 = .ok (.iconst 3, 1) := by decide +kernel
theorem dX11_goesTo_55 : decode cX11_goesTo 55 = .ok (.iastore, 1) := by decide +kernel
theorem dX11_goesTo_56 : decode cX11_goesTo 56 = .ok (.aload_n 0, 1) := by decide +kernel
theorem dX11_goesTo_57 : decode cX11_goesTo 57 = .ok (.getfield 106, 3) := by decide +kernel
theorem dX11_goesTo_60 : decode cX11_goesTo 60 = .ok (.iload_n 2, 1) := by decide +kernel
theorem dX11_goesTo_61 : decode cX11_goesTo 61 = .ok (.aload_n 0, 1) := by decide +kernel
theorem dX11_goesTo_62 : decode cX11_goesTo 62 = .ok (.getfield 103, 3) := by decide +kernel
theorem dX11_goesTo_65 : decode cX11_goesTo 65 = .ok (.iload_n 2, 1) := by decide +kernel
theorem dX11_goesTo_66 : decode cX11_goesTo 66 = .ok (.iaload, 1) := by decide +kernel
theorem dX11_goesTo_67 : decode cX11_goesTo 67 = .ok (.aload_n 0, 1) := by decide +kernel
theorem dX11_goesTo_68 : decode cX11_goesTo 68 = .ok (.getfield 27, 3) := by decide +kernel
theorem dX11_goesTo_71 : decode cX11_goesTo 71 = .ok (.aload_n 0, 1) := by decide +kernel
theorem dX11_goesTo_72 : decode cX11_goesTo 72 = .ok (.getfield 97, 3) := by decide +kernel
theorem dX11_goesTo_75 : decode cX11_goesTo 75 = .ok (.iload_n 2, 1) := by decide +kernel
theorem dX11_goesTo_76 : decode cX11_goesTo 76 = .ok (.iaload, 1) := by decide +kernel
theorem dX11_goesTo_77 : decode cX11_goesTo 77 = .ok (.iaload, 1) := by decide +kernel
theorem dX11_goesTo_78 : decode cX11_goesTo 78 = .ok (.iadd, 1) := by decide +kernel
theorem dX11_goesTo_79 : decode cX11_goesTo 79 = .ok (.iastore, 1) := by decide +kernel
theorem dX11_goesTo_80 : decode cX11_goesTo 80 = .ok (.iinc 2 1, 3) := by decide +kernel
theorem dX11_goesTo_83 : decode cX11_goesTo 83 = .ok (.goto (-76), 3) := by decide +kernel
theorem dX11_goesTo_86 : decode cX11_goesTo 86 = .ok (.return_, 1) := by decide +kernel
theorem dX11_clocked_0 : decode cX11_clocked 0 = .ok (.iload_n 1, 1) := by decide +kernel
theorem dX11_clocked_1 : decode cX11_clocked 1 = .ok (.ifCond .lt 10, 3) := by decide +kernel
theorem dX11_clocked_4 : decode cX11_clocked 4 = .ok (.iload_n 1, 1) := by decide +kernel
theorem dX11_clocked_5 : decode cX11_clocked 5 = .ok (.ldc_w 337, 3) := by decide +kernel
theorem dX11_clocked_8 : decode cX11_clocked 8 = .ok (.if_icmp .le 5, 3) := by decide +kernel
theorem dX11_clocked_11 : decode cX11_clocked 11 = .ok (.iconst 2, 1) := by decide +kernel
theorem dX11_clocked_12 : decode cX11_clocked 12 = .ok (.ireturn, 1) := by decide +kernel
theorem dX11_clocked_13 : decode cX11_clocked 13 = .ok (.iload_n 1, 1) := by decide +kernel
theorem dX11_clocked_14 : decode cX11_clocked 14 = .ok (.aload_n 0, 1) := by decide +kernel
theorem dX11_clocked_15 : decode cX11_clocked 15 = .ok (.getfield 316, 3) := by decide +kernel
theorem dX11_clocked_18 : decode cX11_clocked 18 = .ok (.if_icmp .ge 6, 3) := by decide +kernel
theorem dX11_clocked_21 : decode cX11_clocked 21 = .ok (.bipush 9, 2) := by decide +kernel
theorem dX11_clocked_23 : decode cX11_clocked 23 = .ok (.ireturn, 1) := by decide +kernel
theorem dX11_clocked_24 : decode cX11_clocked 24 = .ok (.aload_n 0, 1) := by decide +kernel
theorem dX11_clocked_25 : decode cX11_clocked 25 = .ok (.iload_n 1, 1) := by decide +kernel
theorem dX11_clocked_26 : decode cX11_clocked 26 = .ok (.invokevirtual 338, 3) := by decide +kernel
theorem dX11_clocked_29 : decode cX11_clocked 29 = .ok (.iconst 0, 1) := by decide +kernel
theorem dX11_clocked_30 : decode cX11_clocked 30 = .ok (.ireturn, 1) := by decide +kernel
theorem dX11_openTry_0 : decode cX11_openTry 0 = .ok (.iconst 0, 1) := by decide +kernel
theorem dX11_openTry_1 : decode cX11_openTry 1 = .ok (.istore_n 2, 1) := by decide +kernel
theorem dX11_openTry_2 : decode cX11_openTry 2 = .ok (.iload_n 2, 1) := by decide +kernel
theorem dX11_openTry_3 : decode cX11_openTry 3 = .ok (.aload_n 0, 1) := by decide +kernel
theorem dX11_openTry_4 : decode cX11_openTry 4 = .ok (.getfield 319, 3) := by decide +kernel
theorem dX11_openTry_7 : decode cX11_openTry 7 = .ok (.if_icmp .ge 30, 3) := by decide +kernel
theorem dX11_openTry_10 : decode cX11_openTry 10 = .ok (.aload_n 0, 1) := by decide +kernel
theorem dX11_openTry_11 : decode cX11_openTry 11 = .ok (.getfield 94, 3) := by decide +kernel
theorem dX11_openTry_14 : decode cX11_openTry 14 = .ok (.iload_n 2, 1) := by decide +kernel
theorem dX11_openTry_15 : decode cX11_openTry 15 = .ok (.iaload, 1) := by decide +kernel
theorem dX11_openTry_16 : decode cX11_openTry 16 = .ok (.iload_n 1, 1) := by decide +kernel
theorem dX11_openTry_17 : decode cX11_openTry 17 = .ok (.if_icmp .ne 14, 3) := by decide +kernel
theorem dX11_openTry_20 : decode cX11_openTry 20 = .ok (.aload_n 0, 1) := by decide +kernel
theorem dX11_openTry_21 : decode cX11_openTry 21 = .ok (.getfield 112, 3) := by decide +kernel
theorem dX11_openTry_24 : decode cX11_openTry 24 = .ok (.iload_n 2, 1) := by decide +kernel
theorem dX11_openTry_25 : decode cX11_openTry 25 = .ok (.iaload, 1) := by decide +kernel
theorem dX11_openTry_26 : decode cX11_openTry 26 = .ok (.ifCond .ne 5, 3) := by decide +kernel
theorem dX11_openTry_29 : decode cX11_openTry 29 = .ok (.iload_n 2, 1) := by decide +kernel
theorem dX11_openTry_30 : decode cX11_openTry 30 = .ok (.ireturn, 1) := by decide +kernel
theorem dX11_openTry_31 : decode cX11_openTry 31 = .ok (.iinc 2 1, 3) := by decide +kernel
theorem dX11_openTry_34 : decode cX11_openTry 34 = .ok (.goto (-32), 3) := by decide +kernel
theorem dX11_openTry_37 : decode cX11_openTry 37 = .ok (.iconst (-1), 1) := by decide +kernel
theorem dX11_openTry_38 : decode cX11_openTry 38 = .ok (.ireturn, 1) := by decide +kernel
theorem dX11_hasSeen_0 : decode cX11_hasSeen 0 = .ok (.iconst 0, 1) := by decide +kernel
theorem dX11_hasSeen_1 : decode cX11_hasSeen 1 = .ok (.istore_n 3, 1) := by decide +kernel
theorem dX11_hasSeen_2 : decode cX11_hasSeen 2 = .ok (.iload_n 3, 1) := by decide +kernel
theorem dX11_hasSeen_3 : decode cX11_hasSeen 3 = .ok (.aload_n 0, 1) := by decide +kernel
theorem dX11_hasSeen_4 : decode cX11_hasSeen 4 = .ok (.getfield 319, 3) := by decide +kernel
theorem dX11_hasSeen_7 : decode cX11_hasSeen 7 = .ok (.if_icmp .ge 151, 3) := by decide +kernel
theorem dX11_hasSeen_10 : decode cX11_hasSeen 10 = .ok (.aload_n 0, 1) := by decide +kernel
theorem dX11_hasSeen_11 : decode cX11_hasSeen 11 = .ok (.getfield 97, 3) := by decide +kernel
theorem dX11_hasSeen_14 : decode cX11_hasSeen 14 = .ok (.iload_n 3, 1) := by decide +kernel
theorem dX11_hasSeen_15 : decode cX11_hasSeen 15 = .ok (.iaload, 1) := by decide +kernel
theorem dX11_hasSeen_16 : decode cX11_hasSeen 16 = .ok (.aload_n 0, 1) := by decide +kernel
theorem dX11_hasSeen_17 : decode cX11_hasSeen 17 = .ok (.getfield 82, 3) := by decide +kernel
theorem dX11_hasSeen_20 : decode cX11_hasSeen 20 = .ok (.if_icmp .ne 132, 3) := by decide +kernel
theorem dX11_hasSeen_23 : decode cX11_hasSeen 23 = .ok (.aload_n 0, 1) := by decide +kernel
theorem dX11_hasSeen_24 : decode cX11_hasSeen 24 = .ok (.getfield 100, 3) := by decide +kernel
theorem dX11_hasSeen_27 : decode cX11_hasSeen 27 = .ok (.iload_n 3, 1) := by decide +kernel
theorem dX11_hasSeen_28 : decode cX11_hasSeen 28 = .ok (.iaload, 1) := by decide +kernel
theorem dX11_hasSeen_29 : decode cX11_hasSeen 29 = .ok (.iload_n 2, 1) := by decide +kernel
theorem dX11_hasSeen_30 : decode cX11_hasSeen 30 = .ok (.if_icmp .ne 122, 3) := by decide +kernel
theorem dX11_hasSeen_33 : decode cX11_hasSeen 33 = .ok (.aload_n 0, 1) := by decide +kernel
theorem dX11_hasSeen_34 : decode cX11_hasSeen 34 = .ok (.getfield 94, 3) := by decide +kernel
theorem dX11_hasSeen_37 : decode cX11_hasSeen 37 = .ok (.iload_n 3, 1) := by decide +kernel
theorem dX11_hasSeen_38 : decode cX11_hasSeen 38 = .ok (.iaload, 1) := by decide +kernel
theorem dX11_hasSeen_39 : decode cX11_hasSeen 39 = .ok (.iload_n 1, 1) := by decide +kernel
theorem dX11_hasSeen_40 : decode cX11_hasSeen 40 = .ok (.if_icmp .ne 6, 3) := by decide +kernel
theorem dX11_hasSeen_43 : decode cX11_hasSeen 43 = .ok (.goto 109, 3) := by decide +kernel
theorem dX11_hasSeen_46 : decode cX11_hasSeen 46 = .ok (.aload_n 0, 1) := by decide +kernel
theorem dX11_hasSeen_47 : decode cX11_hasSeen 47 = .ok (.getfield 112, 3) := by decide +kernel
theorem dX11_hasSeen_50 : decode cX11_hasSeen 50 = .ok (.iload_n 3, 1) := by decide +kernel
theorem dX11_hasSeen_51 : decode cX11_hasSeen 51 = .ok (.iaload, 1) := by decide +kernel
theorem dX11_hasSeen_52 : decode cX11_hasSeen 52 = .ok (.ifCond .ne 10, 3) := by decide +kernel
theorem dX11_hasSeen_55 : decode cX11_hasSeen 55 = .ok (.aload_n 0, 1) := by decide +kernel
theorem dX11_hasSeen_56 : decode cX11_hasSeen 56 = .ok (.getfield 316, 3) := by decide +kernel
theorem dX11_hasSeen_59 : decode cX11_hasSeen 59 = .ok (.goto 9, 3) := by decide +kernel
theorem dX11_hasSeen_62 : decode cX11_hasSeen 62 = .ok (.aload_n 0, 1) := by decide +kernel
theorem dX11_hasSeen_63 : decode cX11_hasSeen 63 = .ok (.getfield 106, 3) := by decide +kernel
theorem dX11_hasSeen_66 : decode cX11_hasSeen 66 = .ok (.iload_n 3, 1) := by decide +kernel
theorem dX11_hasSeen_67 : decode cX11_hasSeen 67 = .ok (.iaload, 1) := by decide +kernel
theorem dX11_hasSeen_68 : decode cX11_hasSeen 68 = .ok (.istore 4, 2) := by decide +kernel
theorem dX11_hasSeen_70 : decode cX11_hasSeen 70 = .ok (.bipush 20, 2) := by decide +kernel
theorem dX11_hasSeen_72 : decode cX11_hasSeen 72 = .ok (.iload_n 1, 1) := by decide +kernel
theorem dX11_hasSeen_73 : decode cX11_hasSeen 73 = .ok (.imul, 1) := by decide +kernel
theorem dX11_hasSeen_74 : decode cX11_hasSeen 74 = .ok (.istore 5, 2) := by decide +kernel
theorem dX11_hasSeen_76 : decode cX11_hasSeen 76 = .ok (.iload 5, 2) := by decide +kernel
theorem dX11_hasSeen_78 : decode cX11_hasSeen 78 = .ok (.bipush 20, 2) := by decide +kernel
theorem dX11_hasSeen_80 : decode cX11_hasSeen 80 = .ok (.iload_n 1, 1) := by decide +kernel
theorem dX11_hasSeen_81 : decode cX11_hasSeen 81 = .ok (.imul, 1) := by decide +kernel
theorem dX11_hasSeen_82 : decode cX11_hasSeen 82 = .ok (.aload_n 0, 1) := by decide +kernel
theorem dX11_hasSeen_83 : decode cX11_hasSeen 83 = .ok (.getfield 124, 3) := by decide +kernel
theorem dX11_hasSeen_86 : decode cX11_hasSeen 86 = .ok (.iload_n 1, 1) := by decide +kernel
theorem dX11_hasSeen_87 : decode cX11_hasSeen 87 = .ok (.iaload, 1) := by decide +kernel
theorem dX11_hasSeen_88 : decode cX11_hasSeen 88 = .ok (.iadd, 1) := by decide +kernel
theorem dX11_hasSeen_89 : decode cX11_hasSeen 89 = .ok (.if_icmp .ge 63, 3) := by decide +kernel
theorem dX11_hasSeen_92 : decode cX11_hasSeen 92 = .ok (.aload_n 0, 1) := by decide +kernel
theorem dX11_hasSeen_93 : decode cX11_hasSeen 93 = .ok (.getfield 130, 3) := by decide +kernel
theorem dX11_hasSeen_96 : decode cX11_hasSeen 96 = .ok (.iload 5, 2) := by decide +kernel
theorem dX11_hasSeen_98 : decode cX11_hasSeen 98 = .ok (.iaload, 1) := by decide +kernel
theorem dX11_hasSeen_99 : decode cX11_hasSeen 99 = .ok (.ifCond .ge 10, 3) := by decide +kernel
theorem dX11_hasSeen_102 : decode cX11_hasSeen 102 = .ok (.aload_n 0, 1) := by decide +kernel
theorem dX11_hasSeen_103 : decode cX11_hasSeen 103 = .ok (.getfield 316, 3) := by decide +kernel
theorem dX11_hasSeen_106 : decode cX11_hasSeen 106 = .ok (.goto 10, 3) := by decide +kernel
theorem dX11_hasSeen_109 : decode cX11_hasSeen 109 = .ok (.aload_n 0, 1) := by decide +kernel
theorem dX11_hasSeen_110 : decode cX11_hasSeen 110 = .ok (.getfield 130, 3) := by decide +kernel
theorem dX11_hasSeen_113 : decode cX11_hasSeen 113 = .ok (.iload 5, 2) := by decide +kernel
theorem dX11_hasSeen_115 : decode cX11_hasSeen 115 = .ok (.iaload, 1) := by decide +kernel
theorem dX11_hasSeen_116 : decode cX11_hasSeen 116 = .ok (.istore 6, 2) := by decide +kernel
theorem dX11_hasSeen_118 : decode cX11_hasSeen 118 = .ok (.aload_n 0, 1) := by decide +kernel
theorem dX11_hasSeen_119 : decode cX11_hasSeen 119 = .ok (.getfield 103, 3) := by decide +kernel
theorem dX11_hasSeen_122 : decode cX11_hasSeen 122 = .ok (.iload_n 3, 1) := by decide +kernel
theorem dX11_hasSeen_123 : decode cX11_hasSeen 123 = .ok (.iaload, 1) := by decide +kernel
theorem dX11_hasSeen_124 : decode cX11_hasSeen 124 = .ok (.aload_n 0, 1) := by decide +kernel
theorem dX11_hasSeen_125 : decode cX11_hasSeen 125 = .ok (.getfield 127, 3) := by decide +kernel
theorem dX11_hasSeen_128 : decode cX11_hasSeen 128 = .ok (.iload 5, 2) := by decide +kernel
theorem dX11_hasSeen_130 : decode cX11_hasSeen 130 = .ok (.iaload, 1) := by decide +kernel
theorem dX11_hasSeen_131 : decode cX11_hasSeen 131 = .ok (.invokestatic 341, 3) := by decide +kernel
theorem dX11_hasSeen_134 : decode cX11_hasSeen 134 = .ok (.iload 4, 2) := by decide +kernel
theorem dX11_hasSeen_136 : decode cX11_hasSeen 136 = .ok (.iload 6, 2) := by decide +kernel
theorem dX11_hasSeen_138 : decode cX11_hasSeen 138 = .ok (.invokestatic 346, 3) := by decide +kernel
theorem dX11_hasSeen_141 : decode cX11_hasSeen 141 = .ok (.if_icmp .gt 5, 3) := by decide +kernel
theorem dX11_hasSeen_144 : decode cX11_hasSeen 144 = .ok (.iconst 1, 1) := by decide +kernel
theorem dX11_hasSeen_145 : decode cX11_hasSeen 145 = .ok (.ireturn, 1) := by decide +kernel
theorem dX11_hasSeen_146 : decode cX11_hasSeen 146 = .ok (.iinc 5 1, 3) := by decide +kernel
theorem dX11_hasSeen_149 : decode cX11_hasSeen 149 = .ok (.goto (-73), 3) := by decide +kernel
theorem dX11_hasSeen_152 : decode cX11_hasSeen 152 = .ok (.iinc 3 1, 3) := by decide +kernel
theorem dX11_hasSeen_155 : decode cX11_hasSeen 155 = .ok (.goto (-153), 3) := by decide +kernel
theorem dX11_hasSeen_158 : decode cX11_hasSeen 158 = .ok (.iconst 0, 1) := by decide +kernel
theorem dX11_hasSeen_159 : decode cX11_hasSeen 159 = .ok (.ireturn, 1) := by decide +kernel
theorem dX11_readyAt_0 : decode cX11_readyAt 0 = .ok (.iconst 0, 1) := by decide +kernel
theorem dX11_readyAt_1 : decode cX11_readyAt 1 = .ok (.istore_n 2, 1) := by decide +kernel
theorem dX11_readyAt_2 : decode cX11_readyAt 2 = .ok (.iconst 0, 1) := by decide +kernel
theorem dX11_readyAt_3 : decode cX11_readyAt 3 = .ok (.istore_n 3, 1) := by decide +kernel
theorem dX11_readyAt_4 : decode cX11_readyAt 4 = .ok (.iload_n 3, 1) := by decide +kernel
theorem dX11_readyAt_5 : decode cX11_readyAt 5 = .ok (.aload_n 0, 1) := by decide +kernel
theorem dX11_readyAt_6 : decode cX11_readyAt 6 = .ok (.getfield 319, 3) := by decide +kernel
theorem dX11_readyAt_9 : decode cX11_readyAt 9 = .ok (.if_icmp .ge 62, 3) := by decide +kernel
theorem dX11_readyAt_12 : decode cX11_readyAt 12 = .ok (.aload_n 0, 1) := by decide +kernel
theorem dX11_readyAt_13 : decode cX11_readyAt 13 = .ok (.getfield 94, 3) := by decide +kernel
theorem dX11_readyAt_16 : decode cX11_readyAt 16 = .ok (.iload_n 3, 1) := by decide +kernel
theorem dX11_readyAt_17 : decode cX11_readyAt 17 = .ok (.iaload, 1) := by decide +kernel
theorem dX11_readyAt_18 : decode cX11_readyAt 18 = .ok (.iload_n 1, 1) := by decide +kernel
theorem dX11_readyAt_19 : decode cX11_readyAt 19 = .ok (.if_icmp .ne 46, 3) := by decide +kernel
theorem dX11_readyAt_22 : decode cX11_readyAt 22 = .ok (.aload_n 0, 1) := by decide +kernel
theorem dX11_readyAt_23 : decode cX11_readyAt 23 = .ok (.getfield 97, 3) := by decide +kernel
theorem dX11_readyAt_26 : decode cX11_readyAt 26 = .ok (.iload_n 3, 1) := by decide +kernel
theorem dX11_readyAt_27 : decode cX11_readyAt 27 = .ok (.iaload, 1) := by decide +kernel
theorem dX11_readyAt_28 : decode cX11_readyAt 28 = .ok (.aload_n 0, 1) := by decide +kernel
theorem dX11_readyAt_29 : decode cX11_readyAt 29 = .ok (.getfield 82, 3) := by decide +kernel
theorem dX11_readyAt_32 : decode cX11_readyAt 32 = .ok (.if_icmp .ne 33, 3) := by decide +kernel
theorem dX11_readyAt_35 : decode cX11_readyAt 35 = .ok (.aload_n 0, 1) := by decide +kernel
theorem dX11_readyAt_36 : decode cX11_readyAt 36 = .ok (.getfield 112, 3) := by decide +kernel
theorem dX11_readyAt_39 : decode cX11_readyAt 39 = .ok (.iload_n 3, 1) := by decide +kernel
theorem dX11_readyAt_40 : decode cX11_readyAt 40 = .ok (.iaload, 1) := by decide +kernel
theorem dX11_readyAt_41 : decode cX11_readyAt 41 = .ok (.ifCond .eq 24, 3) := by decide +kernel
theorem dX11_readyAt_44 : decode cX11_readyAt 44 = .ok (.iload_n 2, 1) := by decide +kernel
theorem dX11_readyAt_45 : decode cX11_readyAt 45 = .ok (.aload_n 0, 1) := by decide +kernel
theorem dX11_readyAt_46 : decode cX11_readyAt 46 = .ok (.getfield 106, 3) := by decide +kernel
theorem dX11_readyAt_49 : decode cX11_readyAt 49 = .ok (.iload_n 3, 1) := by decide +kernel
theorem dX11_readyAt_50 : decode cX11_readyAt 50 = .ok (.iaload, 1) := by decide +kernel
theorem dX11_readyAt_51 : decode cX11_readyAt 51 = .ok (.aload_n 0, 1) := by decide +kernel
theorem dX11_readyAt_52 : decode cX11_readyAt 52 = .ok (.getfield 30, 3) := by decide +kernel
theorem dX11_readyAt_55 : decode cX11_readyAt 55 = .ok (.aload_n 0, 1) := by decide +kernel
theorem dX11_readyAt_56 : decode cX11_readyAt 56 = .ok (.getfield 82, 3) := by decide +kernel
theorem dX11_readyAt_59 : decode cX11_readyAt 59 = .ok (.iaload, 1) := by decide +kernel
theorem dX11_readyAt_60 : decode cX11_readyAt 60 = .ok (.iadd, 1) := by decide +kernel
theorem dX11_readyAt_61 : decode cX11_readyAt 61 = .ok (.invokestatic 341, 3) := by decide +kernel
theorem dX11_readyAt_64 : decode cX11_readyAt 64 = .ok (.istore_n 2, 1) := by decide +kernel
theorem dX11_readyAt_65 : decode cX11_readyAt 65 = .ok (.iinc 3 1, 3) := by decide +kernel
theorem dX11_readyAt_68 : decode cX11_readyAt 68 = .ok (.goto (-64), 3) := by decide +kernel
theorem dX11_readyAt_71 : decode cX11_readyAt 71 = .ok (.iload_n 2, 1) := by decide +kernel
theorem dX11_readyAt_72 : decode cX11_readyAt 72 = .ok (.ireturn, 1) := by decide +kernel
theorem dX11_isDay_0 : decode cX11_isDay 0 = .ok (.iload_n 0, 1) := by decide +kernel
theorem dX11_isDay_1 : decode cX11_isDay 1 = .ok (.ifCond .lt 14, 3) := by decide +kernel
theorem dX11_isDay_4 : decode cX11_isDay 4 = .ok (.iload_n 0, 1) := by decide +kernel
theorem dX11_isDay_5 : decode cX11_isDay 5 = .ok (.sipush 999, 3) := by decide +kernel
theorem dX11_isDay_8 : decode cX11_isDay 8 = .ok (.if_icmp .gt 7, 3) := by decide +kernel
theorem dX11_isDay_11 : decode cX11_isDay 11 = .ok (.iconst 1, 1) := by decide +kernel
theorem dX11_isDay_12 : decode cX11_isDay 12 = .ok (.goto 4, 3) := by decide +kernel
theorem dX11_isDay_15 : decode cX11_isDay 15 = .ok (.iconst 0, 1) := by decide +kernel
theorem dX11_isDay_16 : decode cX11_isDay 16 = .ok (.ireturn, 1) := by decide +kernel
theorem dX11_isIn_0 : decode cX11_isIn 0 = .ok (.aload_n 0, 1) := by decide +kernel
theorem dX11_isIn_1 : decode cX11_isIn 1 = .ok (.iload_n 1, 1) := by decide +kernel
theorem dX11_isIn_2 : decode cX11_isIn 2 = .ok (.invokevirtual 325, 3) := by decide +kernel
theorem dX11_isIn_5 : decode cX11_isIn 5 = .ok (.ifCond .eq 29, 3) := by decide +kernel
theorem dX11_isIn_8 : decode cX11_isIn 8 = .ok (.aload_n 0, 1) := by decide +kernel
theorem dX11_isIn_9 : decode cX11_isIn 9 = .ok (.iload_n 2, 1) := by decide +kernel
theorem dX11_isIn_10 : decode cX11_isIn 10 = .ok (.invokevirtual 349, 3) := by decide +kernel
theorem dX11_isIn_13 : decode cX11_isIn 13 = .ok (.ifCond .eq 21, 3) := by decide +kernel
theorem dX11_isIn_16 : decode cX11_isIn 16 = .ok (.aload_n 0, 1) := by decide +kernel
theorem dX11_isIn_17 : decode cX11_isIn 17 = .ok (.getfield 85, 3) := by decide +kernel
theorem dX11_isIn_20 : decode cX11_isIn 20 = .ok (.bipush 16, 2) := by decide +kernel
theorem dX11_isIn_22 : decode cX11_isIn 22 = .ok (.iload_n 1, 1) := by decide +kernel
theorem dX11_isIn_23 : decode cX11_isIn 23 = .ok (.imul, 1) := by decide +kernel
theorem dX11_isIn_24 : decode cX11_isIn 24 = .ok (.iload_n 2, 1) := by decide +kernel
theorem dX11_isIn_25 : decode cX11_isIn 25 = .ok (.iadd, 1) := by decide +kernel
theorem dX11_isIn_26 : decode cX11_isIn 26 = .ok (.baload, 1) := by decide +kernel
theorem dX11_isIn_27 : decode cX11_isIn 27 = .ok (.ifCond .eq 7, 3) := by decide +kernel
theorem dX11_isIn_30 : decode cX11_isIn 30 = .ok (.iconst 1, 1) := by decide +kernel
theorem dX11_isIn_31 : decode cX11_isIn 31 = .ok (.goto 4, 3) := by decide +kernel
theorem dX11_isIn_34 : decode cX11_isIn 34 = .ok (.iconst 0, 1) := by decide +kernel
theorem dX11_isIn_35 : decode cX11_isIn 35 = .ok (.ireturn, 1) := by decide +kernel
