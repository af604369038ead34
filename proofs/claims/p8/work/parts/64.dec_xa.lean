theorem dX0_clear_0 : decode cX0_clear 0 = .ok (.aload_n 0, 1) := by decide +kernel
theorem dX0_clear_1 : decode cX0_clear 1 = .ok (.iconst 0, 1) := by decide +kernel
theorem dX0_clear_2 : decode cX0_clear 2 = .ok (.putfield 21, 3) := by decide +kernel
theorem dX0_clear_5 : decode cX0_clear 5 = .ok (.return_, 1) := by decide +kernel
theorem dX0_put_0 : decode cX0_put 0 = .ok (.aload_n 0, 1) := by decide +kernel
theorem dX0_put_1 : decode cX0_put 1 = .ok (.getfield 9, 3) := by decide +kernel
theorem dX0_put_4 : decode cX0_put 4 = .ok (.aload_n 0, 1) := by decide +kernel
theorem dX0_put_5 : decode cX0_put 5 = .ok (.getfield 21, 3) := by decide +kernel
theorem dX0_put_8 : decode cX0_put 8 = .ok (.iload_n 1, 1) := by decide +kernel
theorem dX0_put_9 : decode cX0_put 9 = .ok (.iastore, 1) := by decide +kernel
theorem dX0_put_10 : decode cX0_put 10 = .ok (.aload_n 0, 1) := by decide +kernel
theorem dX0_put_11 : decode cX0_put 11 = .ok (.getfield 15, 3) := by decide +kernel
theorem dX0_put_14 : decode cX0_put 14 = .ok (.aload_n 0, 1) := by decide +kernel
theorem dX0_put_15 : decode cX0_put 15 = .ok (.getfield 21, 3) := by decide +kernel
theorem dX0_put_18 : decode cX0_put 18 = .ok (.iload_n 2, 1) := by decide +kernel
theorem dX0_put_19 : decode cX0_put 19 = .ok (.iastore, 1) := by decide +kernel
theorem dX0_put_20 : decode cX0_put 20 = .ok (.aload_n 0, 1) := by decide +kernel
theorem dX0_put_21 : decode cX0_put 21 = .ok (.getfield 18, 3) := by decide +kernel
theorem dX0_put_24 : decode cX0_put 24 = .ok (.aload_n 0, 1) := by decide +kernel
theorem dX0_put_25 : decode cX0_put 25 = .ok (.getfield 21, 3) := by decide +kernel
theorem dX0_put_28 : decode cX0_put 28 = .ok (.iload_n 3, 1) := by decide +kernel
theorem dX0_put_29 : decode cX0_put 29 = .ok (.iastore, 1) := by decide +kernel
theorem dX0_put_30 : decode cX0_put 30 = .ok (.aload_n 0, 1) := by decide +kernel
theorem dX0_put_31 : decode cX0_put 31 = .ok (.dup, 1) := by decide +kernel
theorem dX0_put_32 : decode cX0_put 32 = .ok (.getfield 21, 3) := by decide +kernel
theorem dX0_put_35 : decode cX0_put 35 = .ok (.iconst 1, 1) := by decide +kernel
theorem dX0_put_36 : decode cX0_put 36 = .ok (.iadd, 1) := by decide +kernel
theorem dX0_put_37 : decode cX0_put 37 = .ok (.putfield 21, 3) := by decide +kernel
theorem dX0_put_40 : decode cX0_put 40 = .ok (.return_, 1) := by decide +kernel
theorem dX2_clear_0 : decode cX2_clear 0 = .ok (.aload_n 0, 1) := by decide +kernel
theorem dX2_clear_1 : decode cX2_clear 1 = .ok (.iconst 0, 1) := by decide +kernel
theorem dX2_clear_2 : decode cX2_clear 2 = .ok (.putfield 18, 3) := by decide +kernel
theorem dX2_clear_5 : decode cX2_clear 5 = .ok (.aload_n 0, 1) := by decide +kernel
theorem dX2_clear_6 : decode cX2_clear 6 = .ok (.iconst 0, 1) := by decide +kernel
theorem dX2_clear_7 : decode cX2_clear 7 = .ok (.putfield 22, 3) := by decide +kernel
theorem dX2_clear_10 : decode cX2_clear 10 = .ok (.return_, 1) := by decide +kernel
theorem dX2_enter_0 : decode cX2_enter 0 = .ok (.aload_n 0, 1) := by decide +kernel
theorem dX2_enter_1 : decode cX2_enter 1 = .ok (.getfield 9, 3) := by decide +kernel
theorem dX2_enter_4 : decode cX2_enter 4 = .ok (.aload_n 0, 1) := by decide +kernel
theorem dX2_enter_5 : decode cX2_enter 5 = .ok (.getfield 18, 3) := by decide +kernel
theorem dX2_enter_8 : decode cX2_enter 8 = .ok (.iconst 0, 1) := by decide +kernel
theorem dX2_enter_9 : decode cX2_enter 9 = .ok (.iastore, 1) := by decide +kernel
theorem dX2_enter_10 : decode cX2_enter 10 = .ok (.aload_n 0, 1) := by decide +kernel
theorem dX2_enter_11 : decode cX2_enter 11 = .ok (.dup, 1) := by decide +kernel
theorem dX2_enter_12 : decode cX2_enter 12 = .ok (.getfield 18, 3) := by decide +kernel
theorem dX2_enter_15 : decode cX2_enter 15 = .ok (.iconst 1, 1) := by decide +kernel
theorem dX2_enter_16 : decode cX2_enter 16 = .ok (.iadd, 1) := by decide +kernel
theorem dX2_enter_17 : decode cX2_enter 17 = .ok (.putfield 18, 3) := by decide +kernel
theorem dX2_enter_20 : decode cX2_enter 20 = .ok (.aload_n 0, 1) := by decide +kernel
theorem dX2_enter_21 : decode cX2_enter 21 = .ok (.getfield 18, 3) := by decide +kernel
theorem dX2_enter_24 : decode cX2_enter 24 = .ok (.iconst 1, 1) := by decide +kernel
theorem dX2_enter_25 : decode cX2_enter 25 = .ok (.isub, 1) := by decide +kernel
theorem dX2_enter_26 : decode cX2_enter 26 = .ok (.ireturn, 1) := by decide +kernel
theorem dX2_knows_0 : decode cX2_knows 0 = .ok (.iload_n 1, 1) := by decide +kernel
theorem dX2_knows_1 : decode cX2_knows 1 = .ok (.ifCond .lt 15, 3) := by decide +kernel
theorem dX2_knows_4 : decode cX2_knows 4 = .ok (.iload_n 1, 1) := by decide +kernel
theorem dX2_knows_5 : decode cX2_knows 5 = .ok (.aload_n 0, 1) := by decide +kernel
theorem dX2_knows_6 : decode cX2_knows 6 = .ok (.getfield 18, 3) := by decide +kernel
theorem dX2_knows_9 : decode cX2_knows 9 = .ok (.if_icmp .ge 7, 3) := by decide +kernel
theorem dX2_knows_12 : decode cX2_knows 12 = .ok (.iconst 1, 1) := by decide +kernel
theorem dX2_knows_13 : decode cX2_knows 13 = .ok (.goto 4, 3) := by decide +kernel
theorem dX2_knows_16 : decode cX2_knows 16 = .ok (.iconst 0, 1) := by decide +kernel
theorem dX2_knows_17 : decode cX2_knows 17 = .ok (.ireturn, 1) := by decide +kernel
theorem dX2_isIn_0 : decode cX2_isIn 0 = .ok (.aload_n 0, 1) := by decide +kernel
theorem dX2_isIn_1 : decode cX2_isIn 1 = .ok (.iload_n 2, 1) := by decide +kernel
theorem dX2_isIn_2 : decode cX2_isIn 2 = .ok (.invokevirtual 25, 3) := by decide +kernel
theorem dX2_isIn_5 : decode cX2_isIn 5 = .ok (.ifCond .eq 17, 3) := by decide +kernel
theorem dX2_isIn_8 : decode cX2_isIn 8 = .ok (.aload_n 0, 1) := by decide +kernel
theorem dX2_isIn_9 : decode cX2_isIn 9 = .ok (.getfield 9, 3) := by decide +kernel
theorem dX2_isIn_12 : decode cX2_isIn 12 = .ok (.iload_n 2, 1) := by decide +kernel
theorem dX2_isIn_13 : decode cX2_isIn 13 = .ok (.iaload, 1) := by decide +kernel
theorem dX2_isIn_14 : decode cX2_isIn 14 = .ok (.iload_n 1, 1) := by decide +kernel
theorem dX2_isIn_15 : decode cX2_isIn 15 = .ok (.if_icmp .lt 7, 3) := by decide +kernel
theorem dX2_isIn_18 : decode cX2_isIn 18 = .ok (.iconst 1, 1) := by decide +kernel
theorem dX2_isIn_19 : decode cX2_isIn 19 = .ok (.goto 4, 3) := by decide +kernel
theorem dX2_isIn_22 : decode cX2_isIn 22 = .ok (.iconst 0, 1) := by decide +kernel
theorem dX2_isIn_23 : decode cX2_isIn 23 = .ok (.ireturn, 1) := by decide +kernel
theorem dX2_manyIn_0 : decode cX2_manyIn 0 = .ok (.iconst 0, 1) := by decide +kernel
theorem dX2_manyIn_1 : decode cX2_manyIn 1 = .ok (.istore_n 2, 1) := by decide +kernel
theorem dX2_manyIn_2 : decode cX2_manyIn 2 = .ok (.iconst 0, 1) := by decide +kernel
theorem dX2_manyIn_3 : decode cX2_manyIn 3 = .ok (.istore_n 3, 1) := by decide +kernel
theorem dX2_manyIn_4 : decode cX2_manyIn 4 = .ok (.iload_n 3, 1) := by decide +kernel
theorem dX2_manyIn_5 : decode cX2_manyIn 5 = .ok (.aload_n 0, 1) := by decide +kernel
theorem dX2_manyIn_6 : decode cX2_manyIn 6 = .ok (.getfield 18, 3) := by decide +kernel
theorem dX2_manyIn_9 : decode cX2_manyIn 9 = .ok (.if_icmp .ge 22, 3) := by decide +kernel
theorem dX2_manyIn_12 : decode cX2_manyIn 12 = .ok (.aload_n 0, 1) := by decide +kernel
theorem dX2_manyIn_13 : decode cX2_manyIn 13 = .ok (.getfield 9, 3) := by decide +kernel
theorem dX2_manyIn_16 : decode cX2_manyIn 16 = .ok (.iload_n 3, 1) := by decide +kernel
theorem dX2_manyIn_17 : decode cX2_manyIn 17 = .ok (.iaload, 1) := by decide +kernel
theorem dX2_manyIn_18 : decode cX2_manyIn 18 = .ok (.iload_n 1, 1) := by decide +kernel
theorem dX2_manyIn_19 : decode cX2_manyIn 19 = .ok (.if_icmp .lt 6, 3) := by decide +kernel
theorem dX2_manyIn_22 : decode cX2_manyIn 22 = .ok (.iinc 2 1, 3) := by decide +kernel
theorem dX2_manyIn_25 : decode cX2_manyIn 25 = .ok (.iinc 3 1, 3) := by decide +kernel
theorem dX2_manyIn_28 : decode cX2_manyIn 28 = .ok (.goto (-24), 3) := by decide +kernel
theorem dX2_manyIn_31 : decode cX2_manyIn 31 = .ok (.iload_n 2, 1) := by decide +kernel
theorem dX2_manyIn_32 : decode cX2_manyIn 32 = .ok (.ireturn, 1) := by decide +kernel
theorem dX2_dayOf_0 : decode cX2_dayOf 0 = .ok (.aload_n 0, 1) := by decide +kernel
theorem dX2_dayOf_1 : decode cX2_dayOf 1 = .ok (.getfield 15, 3) := by decide +kernel
theorem dX2_dayOf_4 : decode cX2_dayOf 4 = .ok (.iload_n 1, 1) := by decide +kernel
theorem dX2_dayOf_5 : decode cX2_dayOf 5 = .ok (.iaload, 1) := by decide +kernel
theorem dX2_dayOf_6 : decode cX2_dayOf 6 = .ok (.ireturn, 1) := by decide +kernel
theorem dX4_hasRound_0 : decode cX4_hasRound 0 = .ok (.iload_n 1, 1) := by decide +kernel
theorem dX4_hasRound_1 : decode cX4_hasRound 1 = .ok (.ifCond .lt 15, 3) := by decide +kernel
theorem dX4_hasRound_4 : decode cX4_hasRound 4 = .ok (.iload_n 1, 1) := by decide +kernel
theorem dX4_hasRound_5 : decode cX4_hasRound 5 = .ok (.aload_n 0, 1) := by decide +kernel
theorem dX4_hasRound_6 : decode cX4_hasRound 6 = .ok (.getfield 31, 3) := by decide +kernel
theorem dX4_hasRound_9 : decode cX4_hasRound 9 = .ok (.if_icmp .ge 7, 3) := by decide +kernel
theorem dX4_hasRound_12 : decode cX4_hasRound 12 = .ok (.iconst 1, 1) := by decide +kernel
theorem dX4_hasRound_13 : decode cX4_hasRound 13 = .ok (.goto 4, 3) := by decide +kernel
theorem dX4_hasRound_16 : decode cX4_hasRound 16 = .ok (.iconst 0, 1) := by decide +kernel
theorem dX4_hasRound_17 : decode cX4_hasRound 17 = .ok (.ireturn, 1) := by decide +kernel
theorem dX4_hasRoute_0 : decode cX4_hasRoute 0 = .ok (.aload_n 0, 1) := by decide +kernel
theorem dX4_hasRoute_1 : decode cX4_hasRoute 1 = .ok (.iload_n 1, 1) := by decide +kernel
theorem dX4_hasRoute_2 : decode cX4_hasRoute 2 = .ok (.invokevirtual 59, 3) := by decide +kernel
theorem dX4_hasRoute_5 : decode cX4_hasRoute 5 = .ok (.ifCond .eq 25, 3) := by decide +kernel
theorem dX4_hasRoute_8 : decode cX4_hasRoute 8 = .ok (.iload_n 2, 1) := by decide +kernel
theorem dX4_hasRoute_9 : decode cX4_hasRoute 9 = .ok (.ifCond .lt 21, 3) := by decide +kernel
theorem dX4_hasRoute_12 : decode cX4_hasRoute 12 = .ok (.iload_n 2, 1) := by decide +kernel
theorem dX4_hasRoute_13 : decode cX4_hasRoute 13 = .ok (.aload_n 0, 1) := by decide +kernel
theorem dX4_hasRoute_14 : decode cX4_hasRoute 14 = .ok (.getfield 9, 3) := by decide +kernel
theorem dX4_hasRoute_17 : decode cX4_hasRoute 17 = .ok (.iload_n 1, 1) := by decide +kernel
theorem dX4_hasRoute_18 : decode cX4_hasRoute 18 = .ok (.iconst 4, 1) := by decide +kernel
theorem dX4_hasRoute_19 : decode cX4_hasRoute 19 = .ok (.imul, 1) := by decide +kernel
theorem dX4_hasRoute_20 : decode cX4_hasRoute 20 = .ok (.iconst 0, 1) := by decide +kernel
theorem dX4_hasRoute_21 : decode cX4_hasRoute 21 = .ok (.iadd, 1) := by decide +kernel
theorem dX4_hasRoute_22 : decode cX4_hasRoute 22 = .ok (.iaload, 1) := by decide +kernel
theorem dX4_hasRoute_23 : decode cX4_hasRoute 23 = .ok (.if_icmp .ge 7, 3) := by decide +kernel
theorem dX4_hasRoute_26 : decode cX4_hasRoute 26 = .ok (.iconst 1, 1) := by decide +kernel
theorem dX4_hasRoute_27 : decode cX4_hasRoute 27 = .ok (.goto 4, 3) := by decide +kernel
theorem dX4_hasRoute_30 : decode cX4_hasRoute 30 = .ok (.iconst 0, 1) := by decide +kernel
theorem dX4_hasRoute_31 : decode cX4_hasRoute 31 = .ok (.ireturn, 1) := by decide +kernel
theorem dX4_shapeOf_0 : decode cX4_shapeOf 0 = .ok (.aload_n 0, 1) := by decide +kernel
theorem dX4_shapeOf_1 : decode cX4_shapeOf 1 = .ok (.iload_n 1, 1) := by decide +kernel
theorem dX4_shapeOf_2 : decode cX4_shapeOf 2 = .ok (.invokevirtual 59, 3) := by decide +kernel
theorem dX4_shapeOf_5 : decode cX4_shapeOf 5 = .ok (.ifCond .eq 25, 3) := by decide +kernel
theorem dX4_shapeOf_8 : decode cX4_shapeOf 8 = .ok (.iload_n 2, 1) := by decide +kernel
theorem dX4_shapeOf_9 : decode cX4_shapeOf 9 = .ok (.ifCond .lt 21, 3) := by decide +kernel
theorem dX4_shapeOf_12 : decode cX4_shapeOf 12 = .ok (.iload_n 2, 1) := by decide +kernel
theorem dX4_shapeOf_13 : decode cX4_shapeOf 13 = .ok (.iconst 4, 1) := by decide +kernel
theorem dX4_shapeOf_14 : decode cX4_shapeOf 14 = .ok (.if_icmp .ge 16, 3) := by decide +kernel
theorem dX4_shapeOf_17 : decode cX4_shapeOf 17 = .ok (.aload_n 0, 1) := by decide +kernel
theorem dX4_shapeOf_18 : decode cX4_shapeOf 18 = .ok (.getfield 9, 3) := by decide +kernel
theorem dX4_shapeOf_21 : decode cX4_shapeOf 21 = .ok (.iload_n 1, 1) := by decide +kernel
theorem dX4_shapeOf_22 : decode cX4_shapeOf 22 = .ok (.iconst 4, 1) := by decide +kernel
theorem dX4_shapeOf_23 : decode cX4_shapeOf 23 = .ok (.imul, 1) := by decide +kernel
theorem dX4_shapeOf_24 : decode cX4_shapeOf 24 = .ok (.iload_n 2, 1) := by decide +kernel
theorem dX4_shapeOf_25 : decode cX4_shapeOf 25 = .ok (.iadd, 1) := by decide +kernel
theorem dX4_shapeOf_26 : decode cX4_shapeOf 26 = .ok (.iaload, 1) := by decide +kernel
theorem dX4_shapeOf_27 : decode cX4_shapeOf 27 = .ok (.goto 4, 3) := by decide +kernel
theorem dX4_shapeOf_30 : decode cX4_shapeOf 30 = .ok (.iconst 0, 1) := by decide +kernel
theorem dX4_shapeOf_31 : decode cX4_shapeOf 31 = .ok (.ireturn, 1) := by decide +kernel
theorem dX7_clear_0 : decode cX7_clear 0 = .ok (.aload_n 0, 1) := by decide +kernel
theorem dX7_clear_1 : decode cX7_clear 1 = .ok (.iconst 0, 1) := by decide +kernel
theorem dX7_clear_2 : decode cX7_clear 2 = .ok (.putfield 36, 3) := by decide +kernel
theorem dX7_clear_5 : decode cX7_clear 5 = .ok (.aload_n 0, 1) := by decide +kernel
theorem dX7_clear_6 : decode cX7_clear 6 = .ok (.getfield 33, 3) := by decide +kernel
theorem dX7_clear_9 : decode cX7_clear 9 = .ok (.iconst 0, 1) := by decide +kernel
theorem dX7_clear_10 : decode cX7_clear 10 = .ok (.invokestatic 40, 3) := by decide +kernel
theorem dX7_clear_13 : decode cX7_clear 13 = .ok (.return_, 1) := by decide +kernel
theorem dX7_knows_0 : decode cX7_knows 0 = .ok (.iload_n 1, 1) := by decide +kernel
theorem dX7_knows_1 : decode cX7_knows 1 = .ok (.ifCond .lt 15, 3) := by decide +kernel
theorem dX7_knows_4 : decode cX7_knows 4 = .ok (.iload_n 1, 1) := by decide +kernel
theorem dX7_knows_5 : decode cX7_knows 5 = .ok (.aload_n 0, 1) := by decide +kernel
theorem dX7_knows_6 : decode cX7_knows 6 = .ok (.getfield 36, 3) := by decide +kernel
theorem dX7_knows_9 : decode cX7_knows 9 = .ok (.if_icmp .ge 7, 3) := by decide +kernel
theorem dX7_knows_12 : decode cX7_knows 12 = .ok (.iconst 1, 1) := by decide +kernel
theorem dX7_knows_13 : decode cX7_knows 13 = .ok (.goto 4, 3) := by decide +kernel
theorem dX7_knows_16 : decode cX7_knows 16 = .ok (.iconst 0, 1) := by decide +kernel
theorem dX7_knows_17 : decode cX7_knows 17 = .ok (.ireturn, 1) := by decide +kernel
theorem dX7_openOf_0 : decode cX7_openOf 0 = .ok (.aload_n 0, 1) := by decide +kernel
theorem dX7_openOf_1 : decode cX7_openOf 1 = .ok (.getfield 33, 3) := by decide +kernel
theorem dX7_openOf_4 : decode cX7_openOf 4 = .ok (.iload_n 1, 1) := by decide +kernel
theorem dX7_openOf_5 : decode cX7_openOf 5 = .ok (.iaload, 1) := by decide +kernel
theorem dX7_openOf_6 : decode cX7_openOf 6 = .ok (.iconst 1, 1) := by decide +kernel
theorem dX7_openOf_7 : decode cX7_openOf 7 = .ok (.isub, 1) := by decide +kernel
theorem dX7_openOf_8 : decode cX7_openOf 8 = .ok (.ireturn, 1) := by decide +kernel
theorem dX7_anyOpen_0 : decode cX7_anyOpen 0 = .ok (.iconst 0, 1) := by decide +kernel
theorem dX7_anyOpen_1 : decode cX7_anyOpen 1 = .ok (.istore_n 1, 1) := by decide +kernel
theorem dX7_anyOpen_2 : decode cX7_anyOpen 2 = .ok (.iload_n 1, 1) := by decide +kernel
theorem dX7_anyOpen_3 : decode cX7_anyOpen 3 = .ok (.bipush 16, 2) := by decide +kernel
theorem dX7_anyOpen_5 : decode cX7_anyOpen 5 = .ok (.if_icmp .ge 20, 3) := by decide +kernel
theorem dX7_anyOpen_8 : decode cX7_anyOpen 8 = .ok (.aload_n 0, 1) := by decide +kernel
theorem dX7_anyOpen_9 : decode cX7_anyOpen 9 = .ok (.getfield 33, 3) := by decide +kernel
theorem dX7_anyOpen_12 : decode cX7_anyOpen 12 = .ok (.iload_n 1, 1) := by decide +kernel
theorem dX7_anyOpen_13 : decode cX7_anyOpen 13 = .ok (.iaload, 1) := by decide +kernel
theorem dX7_anyOpen_14 : decode cX7_anyOpen 14 = .ok (.ifCond .le 5, 3) := by decide +kernel
theorem dX7_anyOpen_17 : decode cX7_anyOpen 17 = .ok (.iconst 1, 1) := by decide +kernel
theorem dX7_anyOpen_18 : decode cX7_anyOpen 18 = .ok (.ireturn, 1) := by decide +kernel
theorem dX7_anyOpen_19 : decode cX7_anyOpen 19 = .ok (.iinc 1 1, 3) := by decide +kernel
theorem dX7_anyOpen_22 : decode cX7_anyOpen 22 = .ok (.goto (-20), 3) := by decide +kernel
theorem dX7_anyOpen_25 : decode cX7_anyOpen 25 = .ok (.iconst 0, 1) := by decide +kernel
theorem dX7_anyOpen_26 : decode cX7_anyOpen 26 = .ok (.ireturn, 1) := by decide +kernel
theorem dX7_start_0 : decode cX7_start 0 = .ok (.aload_n 0, 1) := by decide +kernel
theorem dX7_start_1 : decode cX7_start 1 = .ok (.getfield 36, 3) := by decide +kernel
theorem dX7_start_4 : decode cX7_start 4 = .ok (.istore 5, 2) := by decide +kernel
theorem dX7_start_6 : decode cX7_start 6 = .ok (.aload_n 0, 1) := by decide +kernel
theorem dX7_start_7 : decode cX7_start 7 = .ok (.getfield 9, 3) := by decide +kernel
theorem dX7_start_10 : decode cX7_start 10 = .ok (.iload 5, 2) := by decide +kernel
theorem dX7_start_12 : decode cX7_start 12 = .ok (.iload_n 1, 1) := by decide +kernel
theorem dX7_start_13 : decode cX7_start 13 = .ok (.iastore, 1) := by decide +kernel
theorem dX7_start_14 : decode cX7_start 14 = .ok (.aload_n 0, 1) := by decide +kernel
theorem dX7_start_15 : decode cX7_start 15 = .ok (.getfield 15, 3) := by decide +kernel
theorem dX7_start_18 : decode cX7_start 18 = .ok (.iload 5, 2) := by decide +kernel
theorem dX7_start_20 : decode cX7_start 20 = .ok (.iload_n 2, 1) := by decide +kernel
theorem dX7_start_21 : decode cX7_start 21 = .ok (.iastore, 1) := by decide +kernel
theorem dX7_start_22 : decode cX7_start 22 = .ok (.aload_n 0, 1) := by decide +kernel
theorem dX7_start_23 : decode cX7_start 23 = .ok (.getfield 18, 3) := by decide +kernel
theorem dX7_start_26 : decode cX7_start 26 = .ok (.iload 5, 2) := by decide +kernel
theorem dX7_start_28 : decode cX7_start 28 = .ok (.iload_n 3, 1) := by decide +kernel
theorem dX7_start_29 : decode cX7_start 29 = .ok (.iastore, 1) := by decide +kernel
theorem dX7_start_30 : decode cX7_start 30 = .ok (.aload_n 0, 1) := by decide +kernel
theorem dX7_start_31 : decode cX7_start 31 = .ok (.getfield 21, 3) := by decide +kernel
theorem dX7_start_34 : decode cX7_start 34 = .ok (.iload 5, 2) := by decide +kernel
theorem dX7_start_36 : decode cX7_start 36 = .ok (.iload 4, 2) := by decide +kernel
theorem dX7_start_38 : decode cX7_start 38 = .ok (.iastore, 1) := by decide +kernel
theorem dX7_start_39 : decode cX7_start 39 = .ok (.aload_n 0, 1) := by decide +kernel
theorem dX7_start_40 : decode cX7_start 40 = .ok (.getfield 24, 3) := by decide +kernel
theorem dX7_start_43 : decode cX7_start 43 = .ok (.iload 5, 2) := by decide +kernel
theorem dX7_start_45 : decode cX7_start 45 = .ok (.iconst (-1), 1) := by decide +kernel
theorem dX7_start_46 : decode cX7_start 46 = .ok (.iastore, 1) := by decide +kernel
theorem dX7_start_47 : decode cX7_start 47 = .ok (.aload_n 0, 1) := by decide +kernel
theorem dX7_start_48 : decode cX7_start 48 = .ok (.getfield 27, 3) := by decide +kernel
theorem dX7_start_51 : decode cX7_start 51 = .ok (.iload 5, 2) := by decide +kernel
theorem dX7_start_53 : decode cX7_start 53 = .ok (.iconst 0, 1) := by decide +kernel
theorem dX7_start_54 : decode cX7_start 54 = .ok (.iastore, 1) := by decide +kernel
theorem dX7_start_55 : decode cX7_start 55 = .ok (.aload_n 0, 1) := by decide +kernel
theorem dX7_start_56 : decode cX7_start 56 = .ok (.getfield 30, 3) := by decide +kernel
theorem dX7_start_59 : decode cX7_start 59 = .ok (.iload 5, 2) := by decide +kernel
theorem dX7_start_61 : decode cX7_start 61 = .ok (.iconst 0, 1) := by decide +kernel
theorem dX7_start_62 : decode cX7_start 62 = .ok (.iastore, 1) := by decide +kernel
theorem dX7_start_63 : decode cX7_start 63 = .ok (.aload_n 0, 1) := by decide +kernel
theorem dX7_start_64 : decode cX7_start 64 = .ok (.getfield 33, 3) := by decide +kernel
theorem dX7_start_67 : decode cX7_start 67 = .ok (.iload_n 1, 1) := by decide +kernel
theorem dX7_start_68 : decode cX7_start 68 = .ok (.iload 5, 2) := by decide +kernel
theorem dX7_start_70 : decode cX7_start 70 = .ok (.iconst 1, 1) := by decide +kernel
theorem dX7_start_71 : decode cX7_start 71 = .ok (.iadd, 1) := by decide +kernel
theorem dX7_start_72 : decode cX7_start 72 = .ok (.iastore, 1) := by decide +kernel
theorem dX7_start_73 : decode cX7_start 73 = .ok (.aload_n 0, 1) := by decide +kernel
theorem dX7_start_74 : decode cX7_start 74 = .ok (.dup, 1) := by decide +kernel
theorem dX7_start_75 : decode cX7_start 75 = .ok (.getfield 36, 3) := by decide +kernel
theorem dX7_start_78 : decode cX7_start 78 = .ok (.iconst 1, 1) := by decide +kernel
theorem dX7_start_79 : decode cX7_start 79 = .ok (.iadd, 1) := by decide +kernel
theorem dX7_start_80 : decode cX7_start 80 = .ok (.putfield 36, 3) := by decide +kernel
theorem dX7_start_83 : decode cX7_start 83 = .ok (.iload 5, 2) := by decide +kernel
theorem dX7_start_85 : decode cX7_start 85 = .ok (.ireturn, 1) := by decide +kernel
theorem dX7_finish_0 : decode cX7_finish 0 = .ok (.aload_n 0, 1) := by decide +kernel
theorem dX7_finish_1 : decode cX7_finish 1 = .ok (.getfield 24, 3) := by decide +kernel
theorem dX7_finish_4 : decode cX7_finish 4 = .ok (.iload_n 1, 1) := by decide +kernel
theorem dX7_finish_5 : decode cX7_finish 5 = .ok (.iload_n 2, 1) := by decide +kernel
theorem dX7_finish_6 : decode cX7_finish 6 = .ok (.iastore, 1) := by decide +kernel
theorem dX7_finish_7 : decode cX7_finish 7 = .ok (.aload_n 0, 1) := by decide +kernel
theorem dX7_finish_8 : decode cX7_finish 8 = .ok (.getfield 30, 3) := by decide +kernel
theorem dX7_finish_11 : decode cX7_finish 11 = .ok (.iload_n 1, 1) := by decide +kernel
theorem dX7_finish_12 : decode cX7_finish 12 = .ok (.iload_n 3, 1) := by decide +kernel
theorem dX7_finish_13 : decode cX7_finish 13 = .ok (.iastore, 1) := by decide +kernel
theorem dX7_finish_14 : decode cX7_finish 14 = .ok (.aload_n 0, 1) := by decide +kernel
theorem dX7_finish_15 : decode cX7_finish 15 = .ok (.getfield 33, 3) := by decide +kernel
theorem dX7_finish_18 : decode cX7_finish 18 = .ok (.aload_n 0, 1) := by decide +kernel
theorem dX7_finish_19 : decode cX7_finish 19 = .ok (.getfield 9, 3) := by decide +kernel
theorem dX7_finish_22 : decode cX7_finish 22 = .ok (.iload_n 1, 1) := by decide +kernel
theorem dX7_finish_23 : decode cX7_finish 23 = .ok (.iaload, 1) := by decide +kernel
theorem dX7_finish_24 : decode cX7_finish 24 = .ok (.iconst 0, 1) := by decide +kernel
theorem dX7_finish_25 : decode cX7_finish 25 = .ok (.iastore, 1) := by decide +kernel
theorem dX7_finish_26 : decode cX7_finish 26 = .ok (.return_, 1) := by decide +kernel
theorem dX7_endOverdue_0 : decode cX7_endOverdue 0 = .ok (.iconst 0, 1) := by decide +kernel
theorem dX7_endOverdue_1 : decode cX7_endOverdue 1 = .ok (.istore_n 3, 1) := by decide +kernel
theorem dX7_endOverdue_2 : decode cX7_endOverdue 2 = .ok (.iload_n 3, 1) := by decide +kernel
theorem dX7_endOverdue_3 : decode cX7_endOverdue 3 = .ok (.bipush 16, 2) := by decide +kernel
theorem dX7_endOverdue_5 : decode cX7_endOverdue 5 = .ok (.if_icmp .ge 51, 3) := by decide +kernel
theorem dX7_endOverdue_8 : decode cX7_endOverdue 8 = .ok (.aload_n 0, 1) := by decide +kernel
theorem dX7_endOverdue_9 : decode cX7_endOverdue 9 = .ok (.iload_n 3, 1) := by decide +kernel
theorem dX7_endOverdue_10 : decode cX7_endOverdue 10 = .ok (.invokevirtual 46, 3) := by decide +kernel
theorem dX7_endOverdue_13 : decode cX7_endOverdue 13 = .ok (.istore 4, 2) := by decide +kernel
theorem dX7_endOverdue_15 : decode cX7_endOverdue 15 = .ok (.iload 4, 2) := by decide +kernel
theorem dX7_endOverdue_17 : decode cX7_endOverdue 17 = .ok (.iconst (-1), 1) := by decide +kernel
theorem dX7_endOverdue_18 : decode cX7_endOverdue 18 = .ok (.if_icmp .eq 32, 3) := by decide +kernel
theorem dX7_endOverdue_21 : decode cX7_endOverdue 21 = .ok (.iload_n 1, 1) := by decide +kernel
theorem dX7_endOverdue_22 : decode cX7_endOverdue 22 = .ok (.aload_n 0, 1) := by decide +kernel
theorem dX7_endOverdue_23 : decode cX7_endOverdue 23 = .ok (.getfield 21, 3) := by decide +kernel
theorem dX7_endOverdue_26 : decode cX7_endOverdue 26 = .ok (.iload 4, 2) := by decide +kernel
theorem dX7_endOverdue_28 : decode cX7_endOverdue 28 = .ok (.iaload, 1) := by decide +kernel
theorem dX7_endOverdue_29 : decode cX7_endOverdue 29 = .ok (.iload_n 2, 1) := by decide +kernel
theorem dX7_endOverdue_30 : decode cX7_endOverdue 30 = .ok (.iadd, 1) := by decide +kernel
theorem dX7_endOverdue_31 : decode cX7_endOverdue 31 = .ok (.if_icmp .lt 19, 3) := by decide +kernel
theorem dX7_endOverdue_34 : decode cX7_endOverdue 34 = .ok (.aload_n 0, 1) := by decide +kernel
theorem dX7_endOverdue_35 : decode cX7_endOverdue 35 = .ok (.iload 4, 2) := by decide +kernel
theorem dX7_endOverdue_37 : decode cX7_endOverdue 37 = .ok (.aload_n 0, 1) := by decide +kernel
theorem dX7_endOverdue_38 : decode cX7_endOverdue 38 = .ok (.getfield 21, 3) := by decide +kernel
theorem dX7_endOverdue_41 : decode cX7_endOverdue 41 = .ok (.iload 4, 2) := by decide +kernel
theorem dX7_endOverdue_43 : decode cX7_endOverdue 43 = .ok (.iaload, 1) := by decide +kernel
theorem dX7_endOverdue_44 : decode cX7_endOverdue 44 = .ok (.iload_n 2, 1) := by decide +kernel
theorem dX7_endOverdue_45 : decode cX7_endOverdue 45 = .ok (.iadd, 1) := by decide +kernel
theorem dX7_endOverdue_46 : decode cX7_endOverdue 46 = .ok (.iconst 3, 1) := by decide +kernel
theorem dX7_endOverdue_47 : decode cX7_endOverdue 47 = .ok (.invokevirtual 50, 3) := by decide +kernel
theorem dX7_endOverdue_50 : decode cX7_endOverdue 50 = .ok (.iinc 3 1, 3) := by decide +kernel
theorem dX7_endOverdue_53 : decode cX7_endOverdue 53 = .ok (.goto (-51), 3) := by decide +kernel
theorem dX7_endOverdue_56 : decode cX7_endOverdue 56 = .ok (.return_, 1) := by decide +kernel
theorem dX7_isOf_0 : decode cX7_isOf 0 = .ok (.aload_n 0, 1) := by decide +kernel
theorem dX7_isOf_1 : decode cX7_isOf 1 = .ok (.getfield 9, 3) := by decide +kernel
theorem dX7_isOf_4 : decode cX7_isOf 4 = .ok (.iload_n 1, 1) := by decide +kernel
theorem dX7_isOf_5 : decode cX7_isOf 5 = .ok (.iaload, 1) := by decide +kernel
theorem dX7_isOf_6 : decode cX7_isOf 6 = .ok (.iload_n 2, 1) := by decide +kernel
theorem dX7_isOf_7 : decode cX7_isOf 7 = .ok (.if_icmp .ne 28, 3) := by decide +kernel
theorem dX7_isOf_10 : decode cX7_isOf 10 = .ok (.aload_n 0, 1) := by decide +kernel
theorem dX7_isOf_11 : decode cX7_isOf 11 = .ok (.getfield 15, 3) := by decide +kernel
theorem dX7_isOf_14 : decode cX7_isOf 14 = .ok (.iload_n 1, 1) := by decide +kernel
theorem dX7_isOf_15 : decode cX7_isOf 15 = .ok (.iaload, 1) := by decide +kernel
theorem dX7_isOf_16 : decode cX7_isOf 16 = .ok (.iload_n 3, 1) := by decide +kernel
theorem dX7_isOf_17 : decode cX7_isOf 17 = .ok (.if_icmp .ne 18, 3) := by decide +kernel
theorem dX7_isOf_20 : decode cX7_isOf 20 = .ok (.aload_n 0, 1) := by decide +kernel
theorem dX7_isOf_21 : decode cX7_isOf 21 = .ok (.getfield 18, 3) := by decide +kernel
theorem dX7_isOf_24 : decode cX7_isOf 24 = .ok (.iload_n 1, 1) := by decide +kernel
theorem dX7_isOf_25 : decode cX7_isOf 25 = .ok (.iaload, 1) := by decide +kernel
theorem dX7_isOf_26 : decode cX7_isOf 26 = .ok (.iload 4, 2) := by decide +kernel
theorem dX7_isOf_28 : decode cX7_isOf 28 = .ok (.if_icmp .ne 7, 3) := by decide +kernel
theorem dX7_isOf_31 : decode cX7_isOf 31 = .ok (.iconst 1, 1) := by decide +kernel
theorem dX7_isOf_32 : decode cX7_isOf 32 = .ok (.goto 4, 3) := by decide +kernel
theorem dX7_isOf_35 : decode cX7_isOf 35 = .ok (.iconst 0, 1) := by decide +kernel
theorem dX7_isOf_36 : decode cX7_isOf 36 = .ok (.ireturn, 1) := by decide +kernel
theorem dX7_mayNotTry_0 : decode cX7_mayNotTry 0 = .ok (.iconst 0, 1) := by decide +kernel
theorem dX7_mayNotTry_1 : decode cX7_mayNotTry 1 = .ok (.istore 5, 2) := by decide +kernel
theorem dX7_mayNotTry_3 : decode cX7_mayNotTry 3 = .ok (.iconst 0, 1) := by decide +kernel
theorem dX7_mayNotTry_4 : decode cX7_mayNotTry 4 = .ok (.istore 6, 2) := by decide +kernel
theorem dX7_mayNotTry_6 : decode cX7_mayNotTry 6 = .ok (.iload 6, 2) := by decide +kernel
theorem dX7_mayNotTry_8 : decode cX7_mayNotTry 8 = .ok (.aload_n 0, 1) := by decide +kernel
theorem dX7_mayNotTry_9 : decode cX7_mayNotTry 9 = .ok (.getfield 36, 3) := by decide +kernel
theorem dX7_mayNotTry_12 : decode cX7_mayNotTry 12 = .ok (.if_icmp .ge 48, 3) := by decide +kernel
theorem dX7_mayNotTry_15 : decode cX7_mayNotTry 15 = .ok (.aload_n 0, 1) := by decide +kernel
theorem dX7_mayNotTry_16 : decode cX7_mayNotTry 16 = .ok (.iload 6, 2) := by decide +kernel
theorem dX7_mayNotTry_18 : decode cX7_mayNotTry 18 = .ok (.iload_n 1, 1) := by decide +kernel
theorem dX7_mayNotTry_19 : decode cX7_mayNotTry 19 = .ok (.iload_n 2, 1) := by decide +kernel
theorem dX7_mayNotTry_20 : decode cX7_mayNotTry 20 = .ok (.iload_n 3, 1) := by decide +kernel
theorem dX7_mayNotTry_21 : decode cX7_mayNotTry 21 = .ok (.invokevirtual 54, 3) := by decide +kernel
theorem dX7_mayNotTry_24 : decode cX7_mayNotTry 24 = .ok (.ifCond .eq 30, 3) := by decide +kernel
theorem dX7_mayNotTry_27 : decode cX7_mayNotTry 27 = .ok (.aload_n 0, 1) := by decide +kernel
theorem dX7_mayNotTry_28 : decode cX7_mayNotTry 28 = .ok (.getfield 30, 3) := by decide +kernel
theorem dX7_mayNotTry_31 : decode cX7_mayNotTry 31 = .ok (.iload 6, 2) := by decide +kernel
theorem dX7_mayNotTry_33 : decode cX7_mayNotTry 33 = .ok (.iaload, 1) := by decide +kernel
theorem dX7_mayNotTry_34 : decode cX7_mayNotTry 34 = .ok (.iconst 4, 1) := by decide +kernel
theorem dX7_mayNotTry_35 : decode cX7_mayNotTry 35 = .ok (.if_icmp .eq 19, 3) := by decide +kernel
theorem dX7_mayNotTry_38 : decode cX7_mayNotTry 38 = .ok (.aload_n 0, 1) := by decide +kernel
theorem dX7_mayNotTry_39 : decode cX7_mayNotTry 39 = .ok (.getfield 30, 3) := by decide +kernel
theorem dX7_mayNotTry_42 : decode cX7_mayNotTry 42 = .ok (.iload 6, 2) := by decide +kernel
theorem dX7_mayNotTry_44 : decode cX7_mayNotTry 44 = .ok (.iaload, 1) := by decide +kernel
theorem dX7_mayNotTry_45 : decode cX7_mayNotTry 45 = .ok (.iconst 1, 1) := by decide +kernel
theorem dX7_mayNotTry_46 : decode cX7_mayNotTry 46 = .ok (.if_icmp .ne 5, 3) := by decide +kernel
theorem dX7_mayNotTry_49 : decode cX7_mayNotTry 49 = .ok (.iconst 1, 1) := by decide +kernel
theorem dX7_mayNotTry_50 : decode cX7_mayNotTry 50 = .ok (.ireturn, 1) := by decide +kernel
theorem dX7_mayNotTry_51 : decode cX7_mayNotTry 51 = .ok (.iinc 5 1, 3) := by decide +kernel
theorem dX7_mayNotTry_54 : decode cX7_mayNotTry 54 = .ok (.iinc 6 1, 3) := by decide +kernel
theorem dX7_mayNotTry_57 : decode cX7_mayNotTry 57 = .ok (.goto (-51), 3) := by decide +kernel
theorem dX7_mayNotTry_60 : decode cX7_mayNotTry 60 = .ok (.iload 5, 2) := by decide +kernel
theorem dX7_mayNotTry_62 : decode cX7_mayNotTry 62 = .ok (.iload 4, 2) := by decide +kernel
theorem dX7_mayNotTry_64 : decode cX7_mayNotTry 64 = .ok (.if_icmp .lt 7, 3) := by decide +kernel
theorem dX7_mayNotTry_67 : decode cX7_mayNotTry 67 = .ok (.iconst 1, 1) := by decide +kernel
theorem dX7_mayNotTry_68 : decode cX7_mayNotTry 68 = .ok (.goto 4, 3) := by decide +kernel
theorem dX7_mayNotTry_71 : decode cX7_mayNotTry 71 = .ok (.iconst 0, 1) := by decide +kernel
theorem dX7_mayNotTry_72 : decode cX7_mayNotTry 72 = .ok (.ireturn, 1) := by decide +kernel
theorem dX7_lastEnd_0 : decode cX7_lastEnd 0 = .ok (.iconst (-1), 1) := by decide +kernel
theorem dX7_lastEnd_1 : decode cX7_lastEnd 1 = .ok (.istore_n 3, 1) := by decide +kernel
theorem dX7_lastEnd_2 : decode cX7_lastEnd 2 = .ok (.iconst 0, 1) := by decide +kernel
theorem dX7_lastEnd_3 : decode cX7_lastEnd 3 = .ok (.istore 4, 2) := by decide +kernel
theorem dX7_lastEnd_5 : decode cX7_lastEnd 5 = .ok (.iload 4, 2) := by decide +kernel
theorem dX7_lastEnd_7 : decode cX7_lastEnd 7 = .ok (.aload_n 0, 1) := by decide +kernel
theorem dX7_lastEnd_8 : decode cX7_lastEnd 8 = .ok (.getfield 36, 3) := by decide +kernel
theorem dX7_lastEnd_11 : decode cX7_lastEnd 11 = .ok (.if_icmp .ge 43, 3) := by decide +kernel
theorem dX7_lastEnd_14 : decode cX7_lastEnd 14 = .ok (.aload_n 0, 1) := by decide +kernel
theorem dX7_lastEnd_15 : decode cX7_lastEnd 15 = .ok (.getfield 9, 3) := by decide +kernel
theorem dX7_lastEnd_18 : decode cX7_lastEnd 18 = .ok (.iload 4, 2) := by decide +kernel
theorem dX7_lastEnd_20 : decode cX7_lastEnd 20 = .ok (.iaload, 1) := by decide +kernel
theorem dX7_lastEnd_21 : decode cX7_lastEnd 21 = .ok (.iload_n 1, 1) := by decide +kernel
theorem dX7_lastEnd_22 : decode cX7_lastEnd 22 = .ok (.if_icmp .ne 26, 3) := by decide +kernel
theorem dX7_lastEnd_25 : decode cX7_lastEnd 25 = .ok (.aload_n 0, 1) := by decide +kernel
theorem dX7_lastEnd_26 : decode cX7_lastEnd 26 = .ok (.getfield 15, 3) := by decide +kernel
theorem dX7_lastEnd_29 : decode cX7_lastEnd 29 = .ok (.iload 4, 2) := by decide +kernel
theorem dX7_lastEnd_31 : decode cX7_lastEnd 31 = .ok (.iaload, 1) := by decide +kernel
theorem dX7_lastEnd_32 : decode cX7_lastEnd 32 = .ok (.iload_n 2, 1) := by decide +kernel
theorem dX7_lastEnd_33 : decode cX7_lastEnd 33 = .ok (.if_icmp .ne 15, 3) := by decide +kernel
theorem dX7_lastEnd_36 : decode cX7_lastEnd 36 = .ok (.iload_n 3, 1) := by decide +kernel
theorem dX7_lastEnd_37 : decode cX7_lastEnd 37 = .ok (.aload_n 0, 1) := by decide +kernel
theorem dX7_lastEnd_38 : decode cX7_lastEnd 38 = .ok (.getfield 24, 3) := by decide +kernel
theorem dX7_lastEnd_41 : decode cX7_lastEnd 41 = .ok (.iload 4, 2) := by decide +kernel
theorem dX7_lastEnd_43 : decode cX7_lastEnd 43 = .ok (.iaload, 1) := by decide +kernel
theorem dX7_lastEnd_44 : decode cX7_lastEnd 44 = .ok (.invokestatic 58, 3) := by decide +kernel
theorem dX7_lastEnd_47 : decode cX7_lastEnd 47 = .ok (.istore_n 3, 1) := by decide +kernel
theorem dX7_lastEnd_48 : decode cX7_lastEnd 48 = .ok (.iinc 4 1, 3) := by decide +kernel
theorem dX7_lastEnd_51 : decode cX7_lastEnd 51 = .ok (.goto (-46), 3) := by decide +kernel
theorem dX7_lastEnd_54 : decode cX7_lastEnd 54 = .ok (.iload_n 3, 1) := by decide +kernel
theorem dX7_lastEnd_55 : decode cX7_lastEnd 55 = .ok (.ireturn, 1) := by decide +kernel
theorem dX8_clear_0 : decode cX8_clear 0 = .ok (.aload_n 0, 1) := by decide +kernel
theorem dX8_clear_1 : decode cX8_clear 1 = .ok (.getfield 9, 3) := by decide +kernel
theorem dX8_clear_4 : decode cX8_clear 4 = .ok (.bipush 10, 2) := by decide +kernel
theorem dX8_clear_6 : decode cX8_clear 6 = .ok (.invokestatic 21, 3) := by decide +kernel
theorem dX8_clear_9 : decode cX8_clear 9 = .ok (.aload_n 0, 1) := by decide +kernel
theorem dX8_clear_10 : decode cX8_clear 10 = .ok (.getfield 15, 3) := by decide +kernel
theorem dX8_clear_13 : decode cX8_clear 13 = .ok (.iconst 0, 1) := by decide +kernel
theorem dX8_clear_14 : decode cX8_clear 14 = .ok (.invokestatic 21, 3) := by decide +kernel
theorem dX8_clear_17 : decode cX8_clear 17 = .ok (.aload_n 0, 1) := by decide +kernel
theorem dX8_clear_18 : decode cX8_clear 18 = .ok (.getfield 18, 3) := by decide +kernel
theorem dX8_clear_21 : decode cX8_clear 21 = .ok (.iconst 0, 1) := by decide +kernel
theorem dX8_clear_22 : decode cX8_clear 22 = .ok (.invokestatic 21, 3) := by decide +kernel
theorem dX8_clear_25 : decode cX8_clear 25 = .ok (.return_, 1) := by decide +kernel
theorem dX8_holdsOf_0 : decode cX8_holdsOf 0 = .ok (.aload_n 0, 1) := by decide +kernel
theorem dX8_holdsOf_1 : decode cX8_holdsOf 1 = .ok (.getfield 9, 3) := by decide +kernel
theorem dX8_holdsOf_4 : decode cX8_holdsOf 4 = .ok (.iload_n 1, 1) := by decide +kernel
theorem dX8_holdsOf_5 : decode cX8_holdsOf 5 = .ok (.iconst 5, 1) := by decide +kernel
theorem dX8_holdsOf_6 : decode cX8_holdsOf 6 = .ok (.imul, 1) := by decide +kernel
theorem dX8_holdsOf_7 : decode cX8_holdsOf 7 = .ok (.iload_n 2, 1) := by decide +kernel
theorem dX8_holdsOf_8 : decode cX8_holdsOf 8 = .ok (.iadd, 1) := by decide +kernel
theorem dX8_holdsOf_9 : decode cX8_holdsOf 9 = .ok (.iaload, 1) := by decide +kernel
theorem dX8_holdsOf_10 : decode cX8_holdsOf 10 = .ok (.ireturn, 1) := by decide +kernel
theorem dX8_begunOn_0 : decode cX8_begunOn 0 = .ok (.aload_n 0, 1) := by decide +kernel
theorem dX8_begunOn_1 : decode cX8_begunOn 1 = .ok (.getfield 15, 3) := by decide +kernel
theorem dX8_begunOn_4 : decode cX8_begunOn 4 = .ok (.iload_n 1, 1) := by decide +kernel
theorem dX8_begunOn_5 : decode cX8_begunOn 5 = .ok (.iconst 5, 1) := by decide +kernel
theorem dX8_begunOn_6 : decode cX8_begunOn 6 = .ok (.imul, 1) := by decide +kernel
theorem dX8_begunOn_7 : decode cX8_begunOn 7 = .ok (.iload_n 2, 1) := by decide +kernel
theorem dX8_begunOn_8 : decode cX8_begunOn 8 = .ok (.iadd, 1) := by decide +kernel
theorem dX8_begunOn_9 : decode cX8_begunOn 9 = .ok (.iaload, 1) := by decide +kernel
theorem dX8_begunOn_10 : decode cX8_begunOn 10 = .ok (.ireturn, 1) := by decide +kernel
theorem dX8_zoneOf_0 : decode cX8_zoneOf 0 = .ok (.aload_n 0, 1) := by decide +kernel
theorem dX8_zoneOf_1 : decode cX8_zoneOf 1 = .ok (.getfield 18, 3) := by decide +kernel
theorem dX8_zoneOf_4 : decode cX8_zoneOf 4 = .ok (.iload_n 1, 1) := by decide +kernel
theorem dX8_zoneOf_5 : decode cX8_zoneOf 5 = .ok (.iconst 5, 1) := by decide +kernel
theorem dX8_zoneOf_6 : decode cX8_zoneOf 6 = .ok (.imul, 1) := by decide +kernel
theorem dX8_zoneOf_7 : decode cX8_zoneOf 7 = .ok (.iload_n 2, 1) := by decide +kernel
theorem dX8_zoneOf_8 : decode cX8_zoneOf 8 = .ok (.iadd, 1) := by decide +kernel
theorem dX8_zoneOf_9 : decode cX8_zoneOf 9 = .ok (.iconst 3, 1) := by decide +kernel
theorem dX8_zoneOf_10 : decode cX8_zoneOf 10 = .ok (.imul, 1) := by decide +kernel
theorem dX8_zoneOf_11 : decode cX8_zoneOf 11 = .ok (.iload_n 3, 1) := by decide +kernel
theorem dX8_zoneOf_12 : decode cX8_zoneOf 12 = .ok (.iadd, 1) := by decide +kernel
theorem dX8_zoneOf_13 : decode cX8_zoneOf 13 = .ok (.iaload, 1) := by decide +kernel
theorem dX8_zoneOf_14 : decode cX8_zoneOf 14 = .ok (.ireturn, 1) := by decide +kernel
theorem dX8_set_0 : decode cX8_set 0 = .ok (.aload_n 0, 1) := by decide +kernel
theorem dX8_set_1 : decode cX8_set 1 = .ok (.getfield 9, 3) := by decide +kernel
theorem dX8_set_4 : decode cX8_set 4 = .ok (.iload_n 1, 1) := by decide +kernel
theorem dX8_set_5 : decode cX8_set 5 = .ok (.iconst 5, 1) := by decide +kernel
theorem dX8_set_6 : decode cX8_set 6 = .ok (.imul, 1) := by decide +kernel
theorem dX8_set_7 : decode cX8_set 7 = .ok (.iload_n 2, 1) := by decide +kernel
theorem dX8_set_8 : decode cX8_set 8 = .ok (.iadd, 1) := by decide +kernel
theorem dX8_set_9 : decode cX8_set 9 = .ok (.iload_n 3, 1) := by decide +kernel
theorem dX8_set_10 : decode cX8_set 10 = .ok (.iastore, 1) := by decide +kernel
theorem dX8_set_11 : decode cX8_set 11 = .ok (.return_, 1) := by decide +kernel
theorem dX8_setZone_0 : decode cX8_setZone 0 = .ok (.aload_n 0, 1) := by decide +kernel
theorem dX8_setZone_1 : decode cX8_setZone 1 = .ok (.getfield 18, 3) := by decide +kernel
theorem dX8_setZone_4 : decode cX8_setZone 4 = .ok (.iload_n 1, 1) := by decide +kernel
theorem dX8_setZone_5 : decode cX8_setZone 5 = .ok (.iconst 5, 1) := by decide +kernel
theorem dX8_setZone_6 : decode cX8_setZone 6 = .ok (.imul, 1) := by decide +kernel
theorem dX8_setZone_7 : decode cX8_setZone 7 = .ok (.iload_n 2, 1) := by decide +kernel
theorem dX8_setZone_8 : decode cX8_setZone 8 = .ok (.iadd, 1) := by decide +kernel
theorem dX8_setZone_9 : decode cX8_setZone 9 = .ok (.iconst 3, 1) := by decide +kernel
theorem dX8_setZone_10 : decode cX8_setZone 10 = .ok (.imul, 1) := by decide +kernel
theorem dX8_setZone_11 : decode cX8_setZone 11 = .ok (.iload_n 3, 1) := by decide +kernel
theorem dX8_setZone_12 : decode cX8_setZone 12 = .ok (.iadd, 1) := by decide +kernel
theorem dX8_setZone_13 : decode cX8_setZone 13 = .ok (.iload 4, 2) := by decide +kernel
theorem dX8_setZone_15 : decode cX8_setZone 15 = .ok (.iastore, 1) := by decide +kernel
theorem dX8_setZone_16 : decode cX8_setZone 16 = .ok (.return_, 1) := by decide +kernel
theorem dX8_countBegun_0 : decode cX8_countBegun 0 = .ok (.aload_n 0, 1) := by decide +kernel
theorem dX8_countBegun_1 : decode cX8_countBegun 1 = .ok (.getfield 15, 3) := by decide +kernel
theorem dX8_countBegun_4 : decode cX8_countBegun 4 = .ok (.iload_n 1, 1) := by decide +kernel
theorem dX8_countBegun_5 : decode cX8_countBegun 5 = .ok (.iconst 5, 1) := by decide +kernel
theorem dX8_countBegun_6 : decode cX8_countBegun 6 = .ok (.imul, 1) := by decide +kernel
theorem dX8_countBegun_7 : decode cX8_countBegun 7 = .ok (.iload_n 2, 1) := by decide +kernel
theorem dX8_countBegun_8 : decode cX8_countBegun 8 = .ok (.iadd, 1) := by decide +kernel
theorem dX8_countBegun_9 : decode cX8_countBegun 9 = .ok (.dup2, 1) := by decide +kernel
theorem dX8_countBegun_10 : decode cX8_countBegun 10 = .ok (.iaload, 1) := by decide +kernel
theorem dX8_countBegun_11 : decode cX8_countBegun 11 = .ok (.iconst 1, 1) := by decide +kernel
theorem dX8_countBegun_12 : decode cX8_countBegun 12 = .ok (.iadd, 1) := by decide +kernel
theorem dX8_countBegun_13 : decode cX8_countBegun 13 = .ok (.iastore, 1) := by decide +kernel
theorem dX8_countBegun_14 : decode cX8_countBegun 14 = .ok (.return_, 1) := by decide +kernel
theorem dX8_zonesUpTo_0 : decode cX8_zonesUpTo 0 = .ok (.iconst 0, 1) := by decide +kernel
theorem dX8_zonesUpTo_1 : decode cX8_zonesUpTo 1 = .ok (.istore 4, 2) := by decide +kernel
theorem dX8_zonesUpTo_3 : decode cX8_zonesUpTo 3 = .ok (.iconst 0, 1) := by decide +kernel
theorem dX8_zonesUpTo_4 : decode cX8_zonesUpTo 4 = .ok (.istore 5, 2) := by decide +kernel
theorem dX8_zonesUpTo_6 : decode cX8_zonesUpTo 6 = .ok (.iload 5, 2) := by decide +kernel
theorem dX8_zonesUpTo_8 : decode cX8_zonesUpTo 8 = .ok (.iconst 3, 1) := by decide +kernel
theorem dX8_zonesUpTo_9 : decode cX8_zonesUpTo 9 = .ok (.if_icmp .ge 33, 3) := by decide +kernel
theorem dX8_zonesUpTo_12 : decode cX8_zonesUpTo 12 = .ok (.aload_n 0, 1) := by decide +kernel
theorem dX8_zonesUpTo_13 : decode cX8_zonesUpTo 13 = .ok (.iload_n 1, 1) := by decide +kernel
theorem dX8_zonesUpTo_14 : decode cX8_zonesUpTo 14 = .ok (.iload_n 2, 1) := by decide +kernel
theorem dX8_zonesUpTo_15 : decode cX8_zonesUpTo 15 = .ok (.iload 5, 2) := by decide +kernel
theorem dX8_zonesUpTo_17 : decode cX8_zonesUpTo 17 = .ok (.invokevirtual 27, 3) := by decide +kernel
theorem dX8_zonesUpTo_20 : decode cX8_zonesUpTo 20 = .ok (.istore 6, 2) := by decide +kernel
theorem dX8_zonesUpTo_22 : decode cX8_zonesUpTo 22 = .ok (.iload 6, 2) := by decide +kernel
theorem dX8_zonesUpTo_24 : decode cX8_zonesUpTo 24 = .ok (.ifCond .le 12, 3) := by decide +kernel
theorem dX8_zonesUpTo_27 : decode cX8_zonesUpTo 27 = .ok (.iload 6, 2) := by decide +kernel
theorem dX8_zonesUpTo_29 : decode cX8_zonesUpTo 29 = .ok (.iload_n 3, 1) := by decide +kernel
theorem dX8_zonesUpTo_30 : decode cX8_zonesUpTo 30 = .ok (.if_icmp .gt 6, 3) := by decide +kernel
theorem dX8_zonesUpTo_33 : decode cX8_zonesUpTo 33 = .ok (.iinc 4 1, 3) := by decide +kernel
theorem dX8_zonesUpTo_36 : decode cX8_zonesUpTo 36 = .ok (.iinc 5 1, 3) := by decide +kernel
theorem dX8_zonesUpTo_39 : decode cX8_zonesUpTo 39 = .ok (.goto (-33), 3) := by decide +kernel
theorem dX8_zonesUpTo_42 : decode cX8_zonesUpTo 42 = .ok (.iload 4, 2) := by decide +kernel
theorem dX8_zonesUpTo_44 : decode cX8_zonesUpTo 44 = .ok (.ireturn, 1) := by decide +kernel
theorem dX9_clear_0 : decode cX9_clear 0 = .ok (.aload_n 0, 1) := by decide +kernel
theorem dX9_clear_1 : decode cX9_clear 1 = .ok (.getfield 9, 3) := by decide +kernel
theorem dX9_clear_4 : decode cX9_clear 4 = .ok (.iconst 0, 1) := by decide +kernel
theorem dX9_clear_5 : decode cX9_clear 5 = .ok (.invokestatic 21, 3) := by decide +kernel
theorem dX9_clear_8 : decode cX9_clear 8 = .ok (.return_, 1) := by decide +kernel
theorem dX9_latest_0 : decode cX9_latest 0 = .ok (.iload_n 1, 1) := by decide +kernel
theorem dX9_latest_1 : decode cX9_latest 1 = .ok (.bipush 20, 2) := by decide +kernel
theorem dX9_latest_3 : decode cX9_latest 3 = .ok (.imul, 1) := by decide +kernel
theorem dX9_latest_4 : decode cX9_latest 4 = .ok (.aload_n 0, 1) := by decide +kernel
theorem dX9_latest_5 : decode cX9_latest 5 = .ok (.getfield 9, 3) := by decide +kernel
theorem dX9_latest_8 : decode cX9_latest 8 = .ok (.iload_n 1, 1) := by decide +kernel
theorem dX9_latest_9 : decode cX9_latest 9 = .ok (.iaload, 1) := by decide +kernel
theorem dX9_latest_10 : decode cX9_latest 10 = .ok (.iadd, 1) := by decide +kernel
theorem dX9_latest_11 : decode cX9_latest 11 = .ok (.iconst 1, 1) := by decide +kernel
theorem dX9_latest_12 : decode cX9_latest 12 = .ok (.isub, 1) := by decide +kernel
theorem dX9_latest_13 : decode cX9_latest 13 = .ok (.ireturn, 1) := by decide +kernel
theorem dX9_isOut_0 : decode cX9_isOut 0 = .ok (.aload_n 0, 1) := by decide +kernel
theorem dX9_isOut_1 : decode cX9_isOut 1 = .ok (.getfield 9, 3) := by decide +kernel
theorem dX9_isOut_4 : decode cX9_isOut 4 = .ok (.iload_n 1, 1) := by decide +kernel
theorem dX9_isOut_5 : decode cX9_isOut 5 = .ok (.iaload, 1) := by decide +kernel
theorem dX9_isOut_6 : decode cX9_isOut 6 = .ok (.ifCond .le 21, 3) := by decide +kernel
theorem dX9_isOut_9 : decode cX9_isOut 9 = .ok (.aload_n 0, 1) := by decide +kernel
theorem dX9_isOut_10 : decode cX9_isOut 10 = .ok (.getfield 18, 3) := by decide +kernel
theorem dX9_isOut_13 : decode cX9_isOut 13 = .ok (.aload_n 0, 1) := by decide +kernel
theorem dX9_isOut_14 : decode cX9_isOut 14 = .ok (.iload_n 1, 1) := by decide +kernel
theorem dX9_isOut_15 : decode cX9_isOut 15 = .ok (.invokevirtual 27, 3) := by decide +kernel
theorem dX9_isOut_18 : decode cX9_isOut 18 = .ok (.iaload, 1) := by decide +kernel
theorem dX9_isOut_19 : decode cX9_isOut 19 = .ok (.iconst (-1), 1) := by decide +kernel
theorem dX9_isOut_20 : decode cX9_isOut 20 = .ok (.if_icmp .ne 7, 3) := by decide +kernel
theorem dX9_isOut_23 : decode cX9_isOut 23 = .ok (.iconst 1, 1) := by decide +kernel
theorem dX9_isOut_24 : decode cX9_isOut 24 = .ok (.goto 4, 3) := by decide +kernel
theorem dX9_isOut_27 : decode cX9_isOut 27 = .ok (.iconst 0, 1) := by decide +kernel
theorem dX9_isOut_28 : decode cX9_isOut 28 = .ok (.ireturn, 1) := by decide +kernel
theorem dX9_goOut_0 : decode cX9_goOut 0 = .ok (.aload_n 0, 1) := by decide +kernel
theorem dX9_goOut_1 : decode cX9_goOut 1 = .ok (.getfield 9, 3) := by decide +kernel
theorem dX9_goOut_4 : decode cX9_goOut 4 = .ok (.iload_n 1, 1) := by decide +kernel
theorem dX9_goOut_5 : decode cX9_goOut 5 = .ok (.dup2, 1) := by decide +kernel
theorem dX9_goOut_6 : decode cX9_goOut 6 = .ok (.iaload, 1) := by decide +kernel
theorem dX9_goOut_7 : decode cX9_goOut 7 = .ok (.iconst 1, 1) := by decide +kernel
theorem dX9_goOut_8 : decode cX9_goOut 8 = .ok (.iadd, 1) := by decide +kernel
theorem dX9_goOut_9 : decode cX9_goOut 9 = .ok (.iastore, 1) := by decide +kernel
theorem dX9_goOut_10 : decode cX9_goOut 10 = .ok (.aload_n 0, 1) := by decide +kernel
theorem dX9_goOut_11 : decode cX9_goOut 11 = .ok (.getfield 15, 3) := by decide +kernel
theorem dX9_goOut_14 : decode cX9_goOut 14 = .ok (.aload_n 0, 1) := by decide +kernel
theorem dX9_goOut_15 : decode cX9_goOut 15 = .ok (.iload_n 1, 1) := by decide +kernel
theorem dX9_goOut_16 : decode cX9_goOut 16 = .ok (.invokevirtual 27, 3) := by decide +kernel
theorem dX9_goOut_19 : decode cX9_goOut 19 = .ok (.iload_n 2, 1) := by decide +kernel
theorem dX9_goOut_20 : decode cX9_goOut 20 = .ok (.iastore, 1) := by decide +kernel
theorem dX9_goOut_21 : decode cX9_goOut 21 = .ok (.aload_n 0, 1) := by decide +kernel
theorem dX9_goOut_22 : decode cX9_goOut 22 = .ok (.getfield 18, 3) := by decide +kernel
theorem dX9_goOut_25 : decode cX9_goOut 25 = .ok (.aload_n 0, 1) := by decide +kernel
theorem dX9_goOut_26 : decode cX9_goOut 26 = .ok (.iload_n 1, 1) := by decide +kernel
theorem dX9_goOut_27 : decode cX9_goOut 27 = .ok (.invokevirtual 27, 3) := by decide +kernel
theorem dX9_goOut_30 : decode cX9_goOut 30 = .ok (.iconst (-1), 1) := by decide +kernel
theorem dX9_goOut_31 : decode cX9_goOut 31 = .ok (.iastore, 1) := by decide +kernel
theorem dX9_goOut_32 : decode cX9_goOut 32 = .ok (.return_, 1) := by decide +kernel
theorem dX9_comeIn_0 : decode cX9_comeIn 0 = .ok (.aload_n 0, 1) := by decide +kernel
theorem dX9_comeIn_1 : decode cX9_comeIn 1 = .ok (.getfield 18, 3) := by decide +kernel
theorem dX9_comeIn_4 : decode cX9_comeIn 4 = .ok (.aload_n 0, 1) := by decide +kernel
theorem dX9_comeIn_5 : decode cX9_comeIn 5 = .ok (.iload_n 1, 1) := by decide +kernel
theorem dX9_comeIn_6 : decode cX9_comeIn 6 = .ok (.invokevirtual 27, 3) := by decide +kernel
theorem dX9_comeIn_9 : decode cX9_comeIn 9 = .ok (.iload_n 2, 1) := by decide +kernel
theorem dX9_comeIn_10 : decode cX9_comeIn 10 = .ok (.iastore, 1) := by decide +kernel
theorem dX9_comeIn_11 : decode cX9_comeIn 11 = .ok (.return_, 1) := by decide +kernel
theorem dX10_refuse_0 : decode cX10_refuse 0 = .ok (.aload_n 0, 1) := by decide +kernel
theorem dX10_refuse_1 : decode cX10_refuse 1 = .ok (.iload_n 1, 1) := by decide +kernel
theorem dX10_refuse_2 : decode cX10_refuse 2 = .ok (.putfield 71, 3) := by decide +kernel
theorem dX10_refuse_5 : decode cX10_refuse 5 = .ok (.iconst (-1), 1) := by decide +kernel
theorem dX10_refuse_6 : decode cX10_refuse 6 = .ok (.ireturn, 1) := by decide +kernel
theorem dX10_answer_0 : decode cX10_answer 0 = .ok (.aload_n 0, 1) := by decide +kernel
theorem dX10_answer_1 : decode cX10_answer 1 = .ok (.iconst 0, 1) := by decide +kernel
theorem dX10_answer_2 : decode cX10_answer 2 = .ok (.putfield 71, 3) := by decide +kernel
theorem dX10_answer_5 : decode cX10_answer 5 = .ok (.iload_n 1, 1) := by decide +kernel
theorem dX10_answer_6 : decode cX10_answer 6 = .ok (.ireturn, 1) := by decide +kernel
theorem dX10_deny_0 : decode cX10_deny 0 = .ok (.aload_n 0, 1) := by decide +kernel
theorem dX10_deny_1 : decode cX10_deny 1 = .ok (.iload_n 1, 1) := by decide +kernel
theorem dX10_deny_2 : decode cX10_deny 2 = .ok (.putfield 71, 3) := by decide +kernel
theorem dX10_deny_5 : decode cX10_deny 5 = .ok (.iconst 0, 1) := by decide +kernel
theorem dX10_deny_6 : decode cX10_deny 6 = .ok (.ireturn, 1) := by decide +kernel
theorem dX10_grant_0 : decode cX10_grant 0 = .ok (.aload_n 0, 1) := by decide +kernel
theorem dX10_grant_1 : decode cX10_grant 1 = .ok (.iconst 0, 1) := by decide +kernel
theorem dX10_grant_2 : decode cX10_grant 2 = .ok (.putfield 71, 3) := by decide +kernel
theorem dX10_grant_5 : decode cX10_grant 5 = .ok (.iconst 1, 1) := by decide +kernel
theorem dX10_grant_6 : decode cX10_grant 6 = .ok (.ireturn, 1) := by decide +kernel
theorem dX10_isDay_0 : decode cX10_isDay 0 = .ok (.iload_n 0, 1) := by decide +kernel
theorem dX10_isDay_1 : decode cX10_isDay 1 = .ok (.ifCond .lt 14, 3) := by decide +kernel
theorem dX10_isDay_4 : decode cX10_isDay 4 = .ok (.iload_n 0, 1) := by decide +kernel
theorem dX10_isDay_5 : decode cX10_isDay 5 = .ok (.sipush 999, 3) := by decide +kernel
theorem dX10_isDay_8 : decode cX10_isDay 8 = .ok (.if_icmp .gt 7, 3) := by decide +kernel
theorem dX10_isDay_11 : decode cX10_isDay 11 = .ok (.iconst 1, 1) := by decide +kernel
theorem dX10_isDay_12 : decode cX10_isDay 12 = .ok (.goto 4, 3) := by decide +kernel
theorem dX10_isDay_15 : decode cX10_isDay 15 = .ok (.iconst 0, 1) := by decide +kernel
theorem dX10_isDay_16 : decode cX10_isDay 16 = .ok (.ireturn, 1) := by decide +kernel
theorem dX10_zonesCanBe_0 : decode cX10_zonesCanBe 0 = .ok (.iload_n 0, 1) := by decide +kernel
theorem dX10_zonesCanBe_1 : decode cX10_zonesCanBe 1 = .ok (.iload_n 1, 1) := by decide +kernel
theorem dX10_zonesCanBe_2 : decode cX10_zonesCanBe 2 = .ok (.iconst 0, 1) := by decide +kernel
theorem dX10_zonesCanBe_3 : decode cX10_zonesCanBe 3 = .ok (.iconst 1, 1) := by decide +kernel
theorem dX10_zonesCanBe_4 : decode cX10_zonesCanBe 4 = .ok (.invokestatic 309, 3) := by decide +kernel
theorem dX10_zonesCanBe_7 : decode cX10_zonesCanBe 7 = .ok (.ifCond .eq 43, 3) := by decide +kernel
theorem dX10_zonesCanBe_10 : decode cX10_zonesCanBe 10 = .ok (.iload_n 0, 1) := by decide +kernel
theorem dX10_zonesCanBe_11 : decode cX10_zonesCanBe 11 = .ok (.iload_n 2, 1) := by decide +kernel
theorem dX10_zonesCanBe_12 : decode cX10_zonesCanBe 12 = .ok (.iload_n 1, 1) := by decide +kernel
theorem dX10_zonesCanBe_13 : decode cX10_zonesCanBe 13 = .ok (.iload_n 1, 1) := by decide +kernel
theorem dX10_zonesCanBe_14 : decode cX10_zonesCanBe 14 = .ok (.ifCond .eq 7, 3) := by decide +kernel
theorem dX10_zonesCanBe_17 : decode cX10_zonesCanBe 17 = .ok (.iconst 1, 1) := by decide +kernel
theorem dX10_zonesCanBe_18 : decode cX10_zonesCanBe 18 = .ok (.goto 4, 3) := by decide +kernel
theorem dX10_zonesCanBe_21 : decode cX10_zonesCanBe 21 = .ok (.iconst 0, 1) := by decide +kernel
theorem dX10_zonesCanBe_22 : decode cX10_zonesCanBe 22 = .ok (.invokestatic 309, 3) := by decide +kernel
theorem dX10_zonesCanBe_25 : decode cX10_zonesCanBe 25 = .ok (.ifCond .eq 25, 3) := by decide +kernel
theorem dX10_zonesCanBe_28 : decode cX10_zonesCanBe 28 = .ok (.iload_n 0, 1) := by decide +kernel
theorem dX10_zonesCanBe_29 : decode cX10_zonesCanBe 29 = .ok (.iload_n 3, 1) := by decide +kernel
theorem dX10_zonesCanBe_30 : decode cX10_zonesCanBe 30 = .ok (.iload_n 2, 1) := by decide +kernel
theorem dX10_zonesCanBe_31 : decode cX10_zonesCanBe 31 = .ok (.iload_n 2, 1) := by decide +kernel
theorem dX10_zonesCanBe_32 : decode cX10_zonesCanBe 32 = .ok (.ifCond .eq 7, 3) := by decide +kernel
theorem dX10_zonesCanBe_35 : decode cX10_zonesCanBe 35 = .ok (.iconst 1, 1) := by decide +kernel
theorem dX10_zonesCanBe_36 : decode cX10_zonesCanBe 36 = .ok (.goto 4, 3) := by decide +kernel
theorem dX10_zonesCanBe_39 : decode cX10_zonesCanBe 39 = .ok (.iconst 0, 1) := by decide +kernel
theorem dX10_zonesCanBe_40 : decode cX10_zonesCanBe 40 = .ok (.invokestatic 309, 3) := by decide +kernel
theorem dX10_zonesCanBe_43 : decode cX10_zonesCanBe 43 = .ok (.ifCond .eq 7, 3) := by decide +kernel
theorem dX10_zonesCanBe_46 : decode cX10_zonesCanBe 46 = .ok (.iconst 1, 1) := by decide +kernel
theorem dX10_zonesCanBe_47 : decode cX10_zonesCanBe 47 = .ok (.goto 4, 3) := by decide +kernel
theorem dX10_zonesCanBe_50 : decode cX10_zonesCanBe 50 = .ok (.iconst 0, 1) := by decide +kernel
theorem dX10_zonesCanBe_51 : decode cX10_zonesCanBe 51 = .ok (.ireturn, 1) := by decide +kernel
theorem dX10_zoneCanBe_0 : decode cX10_zoneCanBe 0 = .ok (.iload_n 1, 1) := by decide +kernel
theorem dX10_zoneCanBe_1 : decode cX10_zoneCanBe 1 = .ok (.ifCond .eq 17, 3) := by decide +kernel
theorem dX10_zoneCanBe_4 : decode cX10_zoneCanBe 4 = .ok (.iload_n 3, 1) := by decide +kernel
theorem dX10_zoneCanBe_5 : decode cX10_zoneCanBe 5 = .ok (.ifCond .eq 17, 3) := by decide +kernel
theorem dX10_zoneCanBe_8 : decode cX10_zoneCanBe 8 = .ok (.iload_n 1, 1) := by decide +kernel
theorem dX10_zoneCanBe_9 : decode cX10_zoneCanBe 9 = .ok (.iload_n 2, 1) := by decide +kernel
theorem dX10_zoneCanBe_10 : decode cX10_zoneCanBe 10 = .ok (.if_icmp .le 12, 3) := by decide +kernel
theorem dX10_zoneCanBe_13 : decode cX10_zoneCanBe 13 = .ok (.iload_n 1, 1) := by decide +kernel
theorem dX10_zoneCanBe_14 : decode cX10_zoneCanBe 14 = .ok (.iload_n 0, 1) := by decide +kernel
theorem dX10_zoneCanBe_15 : decode cX10_zoneCanBe 15 = .ok (.if_icmp .gt 7, 3) := by decide +kernel
theorem dX10_zoneCanBe_18 : decode cX10_zoneCanBe 18 = .ok (.iconst 1, 1) := by decide +kernel
theorem dX10_zoneCanBe_19 : decode cX10_zoneCanBe 19 = .ok (.goto 4, 3) := by decide +kernel
theorem dX10_zoneCanBe_22 : decode cX10_zoneCanBe 22 = .ok (.iconst 0, 1) := by decide +kernel
theorem dX10_zoneCanBe_23 : decode cX10_zoneCanBe 23 = .ok (.ireturn, 1) := by decide +kernel
