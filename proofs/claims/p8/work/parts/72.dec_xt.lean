theorem dX5_workRanks_0 : decode cX5_workRanks 0 = .ok (.aload_n 0, 1) := by decide +kernel
theorem dX5_workRanks_1 : decode cX5_workRanks 1 = .ok (.iload_n 2, 1) := by decide +kernel
theorem dX5_workRanks_2 : decode cX5_workRanks 2 = .ok (.invokevirtual 154, 3) := by decide +kernel
theorem dX5_workRanks_5 : decode cX5_workRanks 5 = .ok (.iconst 0, 1) := by decide +kernel
theorem dX5_workRanks_6 : decode cX5_workRanks 6 = .ok (.istore_n 3, 1) := by decide +kernel
theorem dX5_workRanks_7 : decode cX5_workRanks 7 = .ok (.iload_n 3, 1) := by decide +kernel
theorem dX5_workRanks_8 : decode cX5_workRanks 8 = .ok (.aload_n 0, 1) := by decide +kernel
theorem dX5_workRanks_9 : decode cX5_workRanks 9 = .ok (.getfield 51, 3) := by decide +kernel
theorem dX5_workRanks_12 : decode cX5_workRanks 12 = .ok (.getfield 157, 3) := by decide +kernel
theorem dX5_workRanks_15 : decode cX5_workRanks 15 = .ok (.if_icmp .ge 47, 3) := by decide +kernel
theorem dX5_workRanks_18 : decode cX5_workRanks 18 = .ok (.aload_n 0, 1) := by decide +kernel
theorem dX5_workRanks_19 : decode cX5_workRanks 19 = .ok (.iload_n 1, 1) := by decide +kernel
theorem dX5_workRanks_20 : decode cX5_workRanks 20 = .ok (.invokevirtual 162, 3) := by decide +kernel
theorem dX5_workRanks_23 : decode cX5_workRanks 23 = .ok (.istore 4, 2) := by decide +kernel
theorem dX5_workRanks_25 : decode cX5_workRanks 25 = .ok (.iload 4, 2) := by decide +kernel
theorem dX5_workRanks_27 : decode cX5_workRanks 27 = .ok (.iload_n 1, 1) := by decide +kernel
theorem dX5_workRanks_28 : decode cX5_workRanks 28 = .ok (.if_icmp .gt 28, 3) := by decide +kernel
theorem dX5_workRanks_31 : decode cX5_workRanks 31 = .ok (.aload_n 0, 1) := by decide +kernel
theorem dX5_workRanks_32 : decode cX5_workRanks 32 = .ok (.getfield 51, 3) := by decide +kernel
theorem dX5_workRanks_35 : decode cX5_workRanks 35 = .ok (.iload_n 1, 1) := by decide +kernel
theorem dX5_workRanks_36 : decode cX5_workRanks 36 = .ok (.iload_n 3, 1) := by decide +kernel
theorem dX5_workRanks_37 : decode cX5_workRanks 37 = .ok (.invokevirtual 166, 3) := by decide +kernel
theorem dX5_workRanks_40 : decode cX5_workRanks 40 = .ok (.ifCond .eq 16, 3) := by decide +kernel
theorem dX5_workRanks_43 : decode cX5_workRanks 43 = .ok (.aload_n 0, 1) := by decide +kernel
theorem dX5_workRanks_44 : decode cX5_workRanks 44 = .ok (.iload 4, 2) := by decide +kernel
theorem dX5_workRanks_46 : decode cX5_workRanks 46 = .ok (.iload_n 3, 1) := by decide +kernel
theorem dX5_workRanks_47 : decode cX5_workRanks 47 = .ok (.invokevirtual 170, 3) := by decide +kernel
theorem dX5_workRanks_50 : decode cX5_workRanks 50 = .ok (.iinc 4 1, 3) := by decide +kernel
theorem dX5_workRanks_53 : decode cX5_workRanks 53 = .ok (.goto (-28), 3) := by decide +kernel
theorem dX5_workRanks_56 : decode cX5_workRanks 56 = .ok (.iinc 3 1, 3) := by decide +kernel
theorem dX5_workRanks_59 : decode cX5_workRanks 59 = .ok (.goto (-52), 3) := by decide +kernel
theorem dX5_workRanks_62 : decode cX5_workRanks 62 = .ok (.iconst 0, 1) := by decide +kernel
theorem dX5_workRanks_63 : decode cX5_workRanks 63 = .ok (.istore_n 3, 1) := by decide +kernel
theorem dX5_workRanks_64 : decode cX5_workRanks 64 = .ok (.iload_n 3, 1) := by decide +kernel
theorem dX5_workRanks_65 : decode cX5_workRanks 65 = .ok (.aload_n 0, 1) := by decide +kernel
theorem dX5_workRanks_66 : decode cX5_workRanks 66 = .ok (.getfield 51, 3) := by decide +kernel
theorem dX5_workRanks_69 : decode cX5_workRanks 69 = .ok (.getfield 157, 3) := by decide +kernel
theorem dX5_workRanks_72 : decode cX5_workRanks 72 = .ok (.if_icmp .ge 39, 3) := by decide +kernel
theorem dX5_workRanks_75 : decode cX5_workRanks 75 = .ok (.aload_n 0, 1) := by decide +kernel
theorem dX5_workRanks_76 : decode cX5_workRanks 76 = .ok (.getfield 40, 3) := by decide +kernel
theorem dX5_workRanks_79 : decode cX5_workRanks 79 = .ok (.iload_n 3, 1) := by decide +kernel
theorem dX5_workRanks_80 : decode cX5_workRanks 80 = .ok (.aload_n 0, 1) := by decide +kernel
theorem dX5_workRanks_81 : decode cX5_workRanks 81 = .ok (.getfield 51, 3) := by decide +kernel
theorem dX5_workRanks_84 : decode cX5_workRanks 84 = .ok (.iload_n 1, 1) := by decide +kernel
theorem dX5_workRanks_85 : decode cX5_workRanks 85 = .ok (.iload_n 3, 1) := by decide +kernel
theorem dX5_workRanks_86 : decode cX5_workRanks 86 = .ok (.invokevirtual 166, 3) := by decide +kernel
theorem dX5_workRanks_89 : decode cX5_workRanks 89 = .ok (.ifCond .eq 14, 3) := by decide +kernel
theorem dX5_workRanks_92 : decode cX5_workRanks 92 = .ok (.iconst 1, 1) := by decide +kernel
theorem dX5_workRanks_93 : decode cX5_workRanks 93 = .ok (.aload_n 0, 1) := by decide +kernel
theorem dX5_workRanks_94 : decode cX5_workRanks 94 = .ok (.iload_n 1, 1) := by decide +kernel
theorem dX5_workRanks_95 : decode cX5_workRanks 95 = .ok (.iload_n 3, 1) := by decide +kernel
theorem dX5_workRanks_96 : decode cX5_workRanks 96 = .ok (.invokevirtual 174, 3) := by decide +kernel
theorem dX5_workRanks_99 : decode cX5_workRanks 99 = .ok (.iadd, 1) := by decide +kernel
theorem dX5_workRanks_100 : decode cX5_workRanks 100 = .ok (.goto 4, 3) := by decide +kernel
theorem dX5_workRanks_103 : decode cX5_workRanks 103 = .ok (.iconst (-1), 1) := by decide +kernel
theorem dX5_workRanks_104 : decode cX5_workRanks 104 = .ok (.iastore, 1) := by decide +kernel
theorem dX5_workRanks_105 : decode cX5_workRanks 105 = .ok (.iinc 3 1, 3) := by decide +kernel
theorem dX5_workRanks_108 : decode cX5_workRanks 108 = .ok (.goto (-44), 3) := by decide +kernel
theorem dX5_workRanks_111 : decode cX5_workRanks 111 = .ok (.return_, 1) := by decide +kernel
theorem dX5_starter_0 : decode cX5_starter 0 = .ok (.iconst 0, 1) := by decide +kernel
theorem dX5_starter_1 : decode cX5_starter 1 = .ok (.istore_n 3, 1) := by decide +kernel
theorem dX5_starter_2 : decode cX5_starter 2 = .ok (.iload_n 3, 1) := by decide +kernel
theorem dX5_starter_3 : decode cX5_starter 3 = .ok (.aload_n 0, 1) := by decide +kernel
theorem dX5_starter_4 : decode cX5_starter 4 = .ok (.getfield 51, 3) := by decide +kernel
theorem dX5_starter_7 : decode cX5_starter 7 = .ok (.getfield 157, 3) := by decide +kernel
theorem dX5_starter_10 : decode cX5_starter 10 = .ok (.if_icmp .ge 33, 3) := by decide +kernel
theorem dX5_starter_13 : decode cX5_starter 13 = .ok (.aload_n 0, 1) := by decide +kernel
theorem dX5_starter_14 : decode cX5_starter 14 = .ok (.getfield 51, 3) := by decide +kernel
theorem dX5_starter_17 : decode cX5_starter 17 = .ok (.iload_n 1, 1) := by decide +kernel
theorem dX5_starter_18 : decode cX5_starter 18 = .ok (.iload_n 3, 1) := by decide +kernel
theorem dX5_starter_19 : decode cX5_starter 19 = .ok (.invokevirtual 166, 3) := by decide +kernel
theorem dX5_starter_22 : decode cX5_starter 22 = .ok (.ifCond .eq 15, 3) := by decide +kernel
theorem dX5_starter_25 : decode cX5_starter 25 = .ok (.aload_n 0, 1) := by decide +kernel
theorem dX5_starter_26 : decode cX5_starter 26 = .ok (.iload_n 1, 1) := by decide +kernel
theorem dX5_starter_27 : decode cX5_starter 27 = .ok (.iload_n 3, 1) := by decide +kernel
theorem dX5_starter_28 : decode cX5_starter 28 = .ok (.invokevirtual 192, 3) := by decide +kernel
theorem dX5_starter_31 : decode cX5_starter 31 = .ok (.iload_n 2, 1) := by decide +kernel
theorem dX5_starter_32 : decode cX5_starter 32 = .ok (.if_icmp .ne 5, 3) := by decide +kernel
theorem dX5_starter_35 : decode cX5_starter 35 = .ok (.iload_n 3, 1) := by decide +kernel
theorem dX5_starter_36 : decode cX5_starter 36 = .ok (.ireturn, 1) := by decide +kernel
theorem dX5_starter_37 : decode cX5_starter 37 = .ok (.iinc 3 1, 3) := by decide +kernel
theorem dX5_starter_40 : decode cX5_starter 40 = .ok (.goto (-38), 3) := by decide +kernel
theorem dX5_starter_43 : decode cX5_starter 43 = .ok (.iconst (-1), 1) := by decide +kernel
theorem dX5_starter_44 : decode cX5_starter 44 = .ok (.ireturn, 1) := by decide +kernel
theorem dX5_manyStartAhead_0 : decode cX5_manyStartAhead 0 = .ok (.iconst 0, 1) := by decide +kernel
theorem dX5_manyStartAhead_1 : decode cX5_manyStartAhead 1 = .ok (.istore_n 3, 1) := by decide +kernel
theorem dX5_manyStartAhead_2 : decode cX5_manyStartAhead 2 = .ok (.iconst 0, 1) := by decide +kernel
theorem dX5_manyStartAhead_3 : decode cX5_manyStartAhead 3 = .ok (.istore 4, 2) := by decide +kernel
theorem dX5_manyStartAhead_5 : decode cX5_manyStartAhead 5 = .ok (.iload 4, 2) := by decide +kernel
theorem dX5_manyStartAhead_7 : decode cX5_manyStartAhead 7 = .ok (.aload_n 0, 1) := by decide +kernel
theorem dX5_manyStartAhead_8 : decode cX5_manyStartAhead 8 = .ok (.getfield 51, 3) := by decide +kernel
theorem dX5_manyStartAhead_11 : decode cX5_manyStartAhead 11 = .ok (.getfield 157, 3) := by decide +kernel
theorem dX5_manyStartAhead_14 : decode cX5_manyStartAhead 14 = .ok (.if_icmp .ge 63, 3) := by decide +kernel
theorem dX5_manyStartAhead_17 : decode cX5_manyStartAhead 17 = .ok (.aload_n 0, 1) := by decide +kernel
theorem dX5_manyStartAhead_18 : decode cX5_manyStartAhead 18 = .ok (.getfield 51, 3) := by decide +kernel
theorem dX5_manyStartAhead_21 : decode cX5_manyStartAhead 21 = .ok (.iload_n 1, 1) := by decide +kernel
theorem dX5_manyStartAhead_22 : decode cX5_manyStartAhead 22 = .ok (.iload 4, 2) := by decide +kernel
theorem dX5_manyStartAhead_24 : decode cX5_manyStartAhead 24 = .ok (.invokevirtual 166, 3) := by decide +kernel
theorem dX5_manyStartAhead_27 : decode cX5_manyStartAhead 27 = .ok (.ifCond .eq 44, 3) := by decide +kernel
theorem dX5_manyStartAhead_30 : decode cX5_manyStartAhead 30 = .ok (.aload_n 0, 1) := by decide +kernel
theorem dX5_manyStartAhead_31 : decode cX5_manyStartAhead 31 = .ok (.getfield 40, 3) := by decide +kernel
theorem dX5_manyStartAhead_34 : decode cX5_manyStartAhead 34 = .ok (.iload 4, 2) := by decide +kernel
theorem dX5_manyStartAhead_36 : decode cX5_manyStartAhead 36 = .ok (.iaload, 1) := by decide +kernel
theorem dX5_manyStartAhead_37 : decode cX5_manyStartAhead 37 = .ok (.aload_n 0, 1) := by decide +kernel
theorem dX5_manyStartAhead_38 : decode cX5_manyStartAhead 38 = .ok (.getfield 40, 3) := by decide +kernel
theorem dX5_manyStartAhead_41 : decode cX5_manyStartAhead 41 = .ok (.iload_n 2, 1) := by decide +kernel
theorem dX5_manyStartAhead_42 : decode cX5_manyStartAhead 42 = .ok (.iaload, 1) := by decide +kernel
theorem dX5_manyStartAhead_43 : decode cX5_manyStartAhead 43 = .ok (.if_icmp .gt 25, 3) := by decide +kernel
theorem dX5_manyStartAhead_46 : decode cX5_manyStartAhead 46 = .ok (.aload_n 0, 1) := by decide +kernel
theorem dX5_manyStartAhead_47 : decode cX5_manyStartAhead 47 = .ok (.getfield 40, 3) := by decide +kernel
theorem dX5_manyStartAhead_50 : decode cX5_manyStartAhead 50 = .ok (.iload 4, 2) := by decide +kernel
theorem dX5_manyStartAhead_52 : decode cX5_manyStartAhead 52 = .ok (.iaload, 1) := by decide +kernel
theorem dX5_manyStartAhead_53 : decode cX5_manyStartAhead 53 = .ok (.aload_n 0, 1) := by decide +kernel
theorem dX5_manyStartAhead_54 : decode cX5_manyStartAhead 54 = .ok (.getfield 40, 3) := by decide +kernel
theorem dX5_manyStartAhead_57 : decode cX5_manyStartAhead 57 = .ok (.iload_n 2, 1) := by decide +kernel
theorem dX5_manyStartAhead_58 : decode cX5_manyStartAhead 58 = .ok (.iaload, 1) := by decide +kernel
theorem dX5_manyStartAhead_59 : decode cX5_manyStartAhead 59 = .ok (.if_icmp .ne 12, 3) := by decide +kernel
theorem dX5_manyStartAhead_62 : decode cX5_manyStartAhead 62 = .ok (.iload 4, 2) := by decide +kernel
theorem dX5_manyStartAhead_64 : decode cX5_manyStartAhead 64 = .ok (.iload_n 2, 1) := by decide +kernel
theorem dX5_manyStartAhead_65 : decode cX5_manyStartAhead 65 = .ok (.if_icmp .le 6, 3) := by decide +kernel
theorem dX5_manyStartAhead_68 : decode cX5_manyStartAhead 68 = .ok (.iinc 3 1, 3) := by decide +kernel
theorem dX5_manyStartAhead_71 : decode cX5_manyStartAhead 71 = .ok (.iinc 4 1, 3) := by decide +kernel
theorem dX5_manyStartAhead_74 : decode cX5_manyStartAhead 74 = .ok (.goto (-69), 3) := by decide +kernel
theorem dX5_manyStartAhead_77 : decode cX5_manyStartAhead 77 = .ok (.iload_n 3, 1) := by decide +kernel
theorem dX5_manyStartAhead_78 : decode cX5_manyStartAhead 78 = .ok (.ireturn, 1) := by decide +kernel
theorem dX5_workPoints_0 : decode cX5_workPoints 0 = .ok (.aload_n 0, 1) := by decide +kernel
theorem dX5_workPoints_1 : decode cX5_workPoints 1 = .ok (.iload_n 2, 1) := by decide +kernel
theorem dX5_workPoints_2 : decode cX5_workPoints 2 = .ok (.invokevirtual 154, 3) := by decide +kernel
theorem dX5_workPoints_5 : decode cX5_workPoints 5 = .ok (.iconst 0, 1) := by decide +kernel
theorem dX5_workPoints_6 : decode cX5_workPoints 6 = .ok (.istore_n 3, 1) := by decide +kernel
theorem dX5_workPoints_7 : decode cX5_workPoints 7 = .ok (.iload_n 3, 1) := by decide +kernel
theorem dX5_workPoints_8 : decode cX5_workPoints 8 = .ok (.aload_n 0, 1) := by decide +kernel
theorem dX5_workPoints_9 : decode cX5_workPoints 9 = .ok (.getfield 51, 3) := by decide +kernel
theorem dX5_workPoints_12 : decode cX5_workPoints 12 = .ok (.getfield 157, 3) := by decide +kernel
theorem dX5_workPoints_15 : decode cX5_workPoints 15 = .ok (.if_icmp .ge 62, 3) := by decide +kernel
theorem dX5_workPoints_18 : decode cX5_workPoints 18 = .ok (.iconst 0, 1) := by decide +kernel
theorem dX5_workPoints_19 : decode cX5_workPoints 19 = .ok (.istore 4, 2) := by decide +kernel
theorem dX5_workPoints_21 : decode cX5_workPoints 21 = .ok (.iload 4, 2) := by decide +kernel
theorem dX5_workPoints_23 : decode cX5_workPoints 23 = .ok (.aload_n 0, 1) := by decide +kernel
theorem dX5_workPoints_24 : decode cX5_workPoints 24 = .ok (.getfield 43, 3) := by decide +kernel
theorem dX5_workPoints_27 : decode cX5_workPoints 27 = .ok (.iload_n 1, 1) := by decide +kernel
theorem dX5_workPoints_28 : decode cX5_workPoints 28 = .ok (.iconst 0, 1) := by decide +kernel
theorem dX5_workPoints_29 : decode cX5_workPoints 29 = .ok (.invokevirtual 126, 3) := by decide +kernel
theorem dX5_workPoints_32 : decode cX5_workPoints 32 = .ok (.if_icmp .ge 39, 3) := by decide +kernel
theorem dX5_workPoints_35 : decode cX5_workPoints 35 = .ok (.aload_n 0, 1) := by decide +kernel
theorem dX5_workPoints_36 : decode cX5_workPoints 36 = .ok (.iload_n 1, 1) := by decide +kernel
theorem dX5_workPoints_37 : decode cX5_workPoints 37 = .ok (.iload_n 3, 1) := by decide +kernel
theorem dX5_workPoints_38 : decode cX5_workPoints 38 = .ok (.iload 4, 2) := by decide +kernel
theorem dX5_workPoints_40 : decode cX5_workPoints 40 = .ok (.invokevirtual 131, 3) := by decide +kernel
theorem dX5_workPoints_43 : decode cX5_workPoints 43 = .ok (.aload_n 0, 1) := by decide +kernel
theorem dX5_workPoints_44 : decode cX5_workPoints 44 = .ok (.getfield 30, 3) := by decide +kernel
theorem dX5_workPoints_47 : decode cX5_workPoints 47 = .ok (.iload_n 3, 1) := by decide +kernel
theorem dX5_workPoints_48 : decode cX5_workPoints 48 = .ok (.iconst 5, 1) := by decide +kernel
theorem dX5_workPoints_49 : decode cX5_workPoints 49 = .ok (.imul, 1) := by decide +kernel
theorem dX5_workPoints_50 : decode cX5_workPoints 50 = .ok (.iload 4, 2) := by decide +kernel
theorem dX5_workPoints_52 : decode cX5_workPoints 52 = .ok (.iadd, 1) := by decide +kernel
theorem dX5_workPoints_53 : decode cX5_workPoints 53 = .ok (.aload_n 0, 1) := by decide +kernel
theorem dX5_workPoints_54 : decode cX5_workPoints 54 = .ok (.getfield 43, 3) := by decide +kernel
theorem dX5_workPoints_57 : decode cX5_workPoints 57 = .ok (.aload_n 0, 1) := by decide +kernel
theorem dX5_workPoints_58 : decode cX5_workPoints 58 = .ok (.getfield 27, 3) := by decide +kernel
theorem dX5_workPoints_61 : decode cX5_workPoints 61 = .ok (.invokevirtual 135, 3) := by decide +kernel
theorem dX5_workPoints_64 : decode cX5_workPoints 64 = .ok (.iastore, 1) := by decide +kernel
theorem dX5_workPoints_65 : decode cX5_workPoints 65 = .ok (.iinc 4 1, 3) := by decide +kernel
theorem dX5_workPoints_68 : decode cX5_workPoints 68 = .ok (.goto (-47), 3) := by decide +kernel
theorem dX5_workPoints_71 : decode cX5_workPoints 71 = .ok (.iinc 3 1, 3) := by decide +kernel
theorem dX5_workPoints_74 : decode cX5_workPoints 74 = .ok (.goto (-67), 3) := by decide +kernel
theorem dX5_workPoints_77 : decode cX5_workPoints 77 = .ok (.return_, 1) := by decide +kernel
theorem dX5_together_0 : decode cX5_together 0 = .ok (.lconst 0, 1) := by decide +kernel
theorem dX5_together_1 : decode cX5_together 1 = .ok (.lstore_n 3, 1) := by decide +kernel
theorem dX5_together_2 : decode cX5_together 2 = .ok (.iconst 0, 1) := by decide +kernel
theorem dX5_together_3 : decode cX5_together 3 = .ok (.istore 5, 2) := by decide +kernel
theorem dX5_together_5 : decode cX5_together 5 = .ok (.iload 5, 2) := by decide +kernel
theorem dX5_together_7 : decode cX5_together 7 = .ok (.iconst 5, 1) := by decide +kernel
theorem dX5_together_8 : decode cX5_together 8 = .ok (.if_icmp .ge 34, 3) := by decide +kernel
theorem dX5_together_11 : decode cX5_together 11 = .ok (.iload_n 2, 1) := by decide +kernel
theorem dX5_together_12 : decode cX5_together 12 = .ok (.iload 5, 2) := by decide +kernel
theorem dX5_together_14 : decode cX5_together 14 = .ok (.ishr, 1) := by decide +kernel
theorem dX5_together_15 : decode cX5_together 15 = .ok (.iconst 1, 1) := by decide +kernel
theorem dX5_together_16 : decode cX5_together 16 = .ok (.iand, 1) := by decide +kernel
theorem dX5_together_17 : decode cX5_together 17 = .ok (.iconst 1, 1) := by decide +kernel
theorem dX5_together_18 : decode cX5_together 18 = .ok (.if_icmp .ne 18, 3) := by decide +kernel
theorem dX5_together_21 : decode cX5_together 21 = .ok (.lload_n 3, 1) := by decide +kernel
theorem dX5_together_22 : decode cX5_together 22 = .ok (.aload_n 0, 1) := by decide +kernel
theorem dX5_together_23 : decode cX5_together 23 = .ok (.getfield 30, 3) := by decide +kernel
theorem dX5_together_26 : decode cX5_together 26 = .ok (.iload_n 1, 1) := by decide +kernel
theorem dX5_together_27 : decode cX5_together 27 = .ok (.iconst 5, 1) := by decide +kernel
theorem dX5_together_28 : decode cX5_together 28 = .ok (.imul, 1) := by decide +kernel
theorem dX5_together_29 : decode cX5_together 29 = .ok (.iload 5, 2) := by decide +kernel
theorem dX5_together_31 : decode cX5_together 31 = .ok (.iadd, 1) := by decide +kernel
theorem dX5_together_32 : decode cX5_together 32 = .ok (.iaload, 1) := by decide +kernel
theorem dX5_together_33 : decode cX5_together 33 = .ok (.i2l, 1) := by decide +kernel
theorem dX5_together_34 : decode cX5_together 34 = .ok (.ladd, 1) := by decide +kernel
theorem dX5_together_35 : decode cX5_together 35 = .ok (.lstore_n 3, 1) := by decide +kernel
theorem dX5_together_36 : decode cX5_together 36 = .ok (.iinc 5 1, 3) := by decide +kernel
theorem dX5_together_39 : decode cX5_together 39 = .ok (.goto (-34), 3) := by decide +kernel
theorem dX5_together_42 : decode cX5_together 42 = .ok (.lload_n 3, 1) := by decide +kernel
theorem dX5_together_43 : decode cX5_together 43 = .ok (.lreturn, 1) := by decide +kernel
theorem dX5_pairsParted_0 : decode cX5_pairsParted 0 = .ok (.iconst 0, 1) := by decide +kernel
theorem dX5_pairsParted_1 : decode cX5_pairsParted 1 = .ok (.istore_n 3, 1) := by decide +kernel
theorem dX5_pairsParted_2 : decode cX5_pairsParted 2 = .ok (.iconst 0, 1) := by decide +kernel
theorem dX5_pairsParted_3 : decode cX5_pairsParted 3 = .ok (.istore 4, 2) := by decide +kernel
theorem dX5_pairsParted_5 : decode cX5_pairsParted 5 = .ok (.iload 4, 2) := by decide +kernel
theorem dX5_pairsParted_7 : decode cX5_pairsParted 7 = .ok (.aload_n 0, 1) := by decide +kernel
theorem dX5_pairsParted_8 : decode cX5_pairsParted 8 = .ok (.getfield 51, 3) := by decide +kernel
theorem dX5_pairsParted_11 : decode cX5_pairsParted 11 = .ok (.getfield 157, 3) := by decide +kernel
theorem dX5_pairsParted_14 : decode cX5_pairsParted 14 = .ok (.if_icmp .ge 72, 3) := by decide +kernel
theorem dX5_pairsParted_17 : decode cX5_pairsParted 17 = .ok (.iconst 0, 1) := by decide +kernel
theorem dX5_pairsParted_18 : decode cX5_pairsParted 18 = .ok (.istore 5, 2) := by decide +kernel
theorem dX5_pairsParted_20 : decode cX5_pairsParted 20 = .ok (.iload 5, 2) := by decide +kernel
theorem dX5_pairsParted_22 : decode cX5_pairsParted 22 = .ok (.iload 4, 2) := by decide +kernel
theorem dX5_pairsParted_24 : decode cX5_pairsParted 24 = .ok (.if_icmp .ge 56, 3) := by decide +kernel
theorem dX5_pairsParted_27 : decode cX5_pairsParted 27 = .ok (.aload_n 0, 1) := by decide +kernel
theorem dX5_pairsParted_28 : decode cX5_pairsParted 28 = .ok (.getfield 51, 3) := by decide +kernel
theorem dX5_pairsParted_31 : decode cX5_pairsParted 31 = .ok (.iload_n 1, 1) := by decide +kernel
theorem dX5_pairsParted_32 : decode cX5_pairsParted 32 = .ok (.iload 4, 2) := by decide +kernel
theorem dX5_pairsParted_34 : decode cX5_pairsParted 34 = .ok (.invokevirtual 166, 3) := by decide +kernel
theorem dX5_pairsParted_37 : decode cX5_pairsParted 37 = .ok (.ifCond .eq 37, 3) := by decide +kernel
theorem dX5_pairsParted_40 : decode cX5_pairsParted 40 = .ok (.aload_n 0, 1) := by decide +kernel
theorem dX5_pairsParted_41 : decode cX5_pairsParted 41 = .ok (.getfield 51, 3) := by decide +kernel
theorem dX5_pairsParted_44 : decode cX5_pairsParted 44 = .ok (.iload_n 1, 1) := by decide +kernel
theorem dX5_pairsParted_45 : decode cX5_pairsParted 45 = .ok (.iload 5, 2) := by decide +kernel
theorem dX5_pairsParted_47 : decode cX5_pairsParted 47 = .ok (.invokevirtual 166, 3) := by decide +kernel
theorem dX5_pairsParted_50 : decode cX5_pairsParted 50 = .ok (.ifCond .eq 24, 3) := by decide +kernel
theorem dX5_pairsParted_53 : decode cX5_pairsParted 53 = .ok (.aload_n 0, 1) := by decide +kernel
theorem dX5_pairsParted_54 : decode cX5_pairsParted 54 = .ok (.iload 4, 2) := by decide +kernel
theorem dX5_pairsParted_56 : decode cX5_pairsParted 56 = .ok (.iload_n 2, 1) := by decide +kernel
theorem dX5_pairsParted_57 : decode cX5_pairsParted 57 = .ok (.invokevirtual 195, 3) := by decide +kernel
theorem dX5_pairsParted_60 : decode cX5_pairsParted 60 = .ok (.aload_n 0, 1) := by decide +kernel
theorem dX5_pairsParted_61 : decode cX5_pairsParted 61 = .ok (.iload 5, 2) := by decide +kernel
theorem dX5_pairsParted_63 : decode cX5_pairsParted 63 = .ok (.iload_n 2, 1) := by decide +kernel
theorem dX5_pairsParted_64 : decode cX5_pairsParted 64 = .ok (.invokevirtual 195, 3) := by decide +kernel
theorem dX5_pairsParted_67 : decode cX5_pairsParted 67 = .ok (.lcmp, 1) := by decide +kernel
theorem dX5_pairsParted_68 : decode cX5_pairsParted 68 = .ok (.ifCond .eq 6, 3) := by decide +kernel
theorem dX5_pairsParted_71 : decode cX5_pairsParted 71 = .ok (.iinc 3 1, 3) := by decide +kernel
theorem dX5_pairsParted_74 : decode cX5_pairsParted 74 = .ok (.iinc 5 1, 3) := by decide +kernel
theorem dX5_pairsParted_77 : decode cX5_pairsParted 77 = .ok (.goto (-57), 3) := by decide +kernel
theorem dX5_pairsParted_80 : decode cX5_pairsParted 80 = .ok (.iinc 4 1, 3) := by decide +kernel
theorem dX5_pairsParted_83 : decode cX5_pairsParted 83 = .ok (.goto (-78), 3) := by decide +kernel
theorem dX5_pairsParted_86 : decode cX5_pairsParted 86 = .ok (.iload_n 3, 1) := by decide +kernel
theorem dX5_pairsParted_87 : decode cX5_pairsParted 87 = .ok (.ireturn, 1) := by decide +kernel
theorem dX5_bestSet_0 : decode cX5_bestSet 0 = .ok (.iconst (-1), 1) := by decide +kernel
theorem dX5_bestSet_1 : decode cX5_bestSet 1 = .ok (.istore 4, 2) := by decide +kernel
theorem dX5_bestSet_3 : decode cX5_bestSet 3 = .ok (.iconst (-1), 1) := by decide +kernel
theorem dX5_bestSet_4 : decode cX5_bestSet 4 = .ok (.istore 5, 2) := by decide +kernel
theorem dX5_bestSet_6 : decode cX5_bestSet 6 = .ok (.iconst 1, 1) := by decide +kernel
theorem dX5_bestSet_7 : decode cX5_bestSet 7 = .ok (.istore 6, 2) := by decide +kernel
theorem dX5_bestSet_9 : decode cX5_bestSet 9 = .ok (.iload 6, 2) := by decide +kernel
theorem dX5_bestSet_11 : decode cX5_bestSet 11 = .ok (.iconst 1, 1) := by decide +kernel
theorem dX5_bestSet_12 : decode cX5_bestSet 12 = .ok (.iload_n 2, 1) := by decide +kernel
theorem dX5_bestSet_13 : decode cX5_bestSet 13 = .ok (.ishl, 1) := by decide +kernel
theorem dX5_bestSet_14 : decode cX5_bestSet 14 = .ok (.if_icmp .ge 42, 3) := by decide +kernel
theorem dX5_bestSet_17 : decode cX5_bestSet 17 = .ok (.iload 6, 2) := by decide +kernel
theorem dX5_bestSet_19 : decode cX5_bestSet 19 = .ok (.invokestatic 199, 3) := by decide +kernel
theorem dX5_bestSet_22 : decode cX5_bestSet 22 = .ok (.iload_n 3, 1) := by decide +kernel
theorem dX5_bestSet_23 : decode cX5_bestSet 23 = .ok (.if_icmp .ne 27, 3) := by decide +kernel
theorem dX5_bestSet_26 : decode cX5_bestSet 26 = .ok (.aload_n 0, 1) := by decide +kernel
theorem dX5_bestSet_27 : decode cX5_bestSet 27 = .ok (.iload_n 1, 1) := by decide +kernel
theorem dX5_bestSet_28 : decode cX5_bestSet 28 = .ok (.iload 6, 2) := by decide +kernel
theorem dX5_bestSet_30 : decode cX5_bestSet 30 = .ok (.invokevirtual 204, 3) := by decide +kernel
theorem dX5_bestSet_33 : decode cX5_bestSet 33 = .ok (.istore 7, 2) := by decide +kernel
theorem dX5_bestSet_35 : decode cX5_bestSet 35 = .ok (.iload 7, 2) := by decide +kernel
theorem dX5_bestSet_37 : decode cX5_bestSet 37 = .ok (.iload 5, 2) := by decide +kernel
theorem dX5_bestSet_39 : decode cX5_bestSet 39 = .ok (.if_icmp .le 11, 3) := by decide +kernel
theorem dX5_bestSet_42 : decode cX5_bestSet 42 = .ok (.iload 7, 2) := by decide +kernel
theorem dX5_bestSet_44 : decode cX5_bestSet 44 = .ok (.istore 5, 2) := by decide +kernel
theorem dX5_bestSet_46 : decode cX5_bestSet 46 = .ok (.iload 6, 2) := by decide +kernel
theorem dX5_bestSet_48 : decode cX5_bestSet 48 = .ok (.istore 4, 2) := by decide +kernel
theorem dX5_bestSet_50 : decode cX5_bestSet 50 = .ok (.iinc 6 1, 3) := by decide +kernel
theorem dX5_bestSet_53 : decode cX5_bestSet 53 = .ok (.goto (-44), 3) := by decide +kernel
theorem dX5_bestSet_56 : decode cX5_bestSet 56 = .ok (.iload 4, 2) := by decide +kernel
theorem dX5_bestSet_58 : decode cX5_bestSet 58 = .ok (.ireturn, 1) := by decide +kernel
