section
theorem dG_dX5_workRanks_0 : (decode cX5_workRanks 0 = .ok (.aload_n 0, 1)) ∧ (decode cX5_workRanks 1 = .ok (.iload_n 2, 1)) ∧ (decode cX5_workRanks 2 = .ok (.invokevirtual 154, 3)) ∧ (decode cX5_workRanks 5 = .ok (.iconst 0, 1)) ∧ (decode cX5_workRanks 6 = .ok (.istore_n 3, 1)) ∧ (decode cX5_workRanks 7 = .ok (.iload_n 3, 1)) ∧ (decode cX5_workRanks 8 = .ok (.aload_n 0, 1)) ∧ (decode cX5_workRanks 9 = .ok (.getfield 51, 3)) ∧ (decode cX5_workRanks 12 = .ok (.getfield 157, 3)) ∧ (decode cX5_workRanks 15 = .ok (.if_icmp .ge 47, 3)) ∧ (decode cX5_workRanks 18 = .ok (.aload_n 0, 1)) ∧ (decode cX5_workRanks 19 = .ok (.iload_n 1, 1)) := by decide +kernel
theorem dX5_workRanks_0 : decode cX5_workRanks 0 = .ok (.aload_n 0, 1) := dG_dX5_workRanks_0.1
theorem dX5_workRanks_1 : decode cX5_workRanks 1 = .ok (.iload_n 2, 1) := dG_dX5_workRanks_0.2.1
theorem dX5_workRanks_2 : decode cX5_workRanks 2 = .ok (.invokevirtual 154, 3) := dG_dX5_workRanks_0.2.2.1
theorem dX5_workRanks_5 : decode cX5_workRanks 5 = .ok (.iconst 0, 1) := dG_dX5_workRanks_0.2.2.2.1
theorem dX5_workRanks_6 : decode cX5_workRanks 6 = .ok (.istore_n 3, 1) := dG_dX5_workRanks_0.2.2.2.2.1
theorem dX5_workRanks_7 : decode cX5_workRanks 7 = .ok (.iload_n 3, 1) := dG_dX5_workRanks_0.2.2.2.2.2.1
theorem dX5_workRanks_8 : decode cX5_workRanks 8 = .ok (.aload_n 0, 1) := dG_dX5_workRanks_0.2.2.2.2.2.2.1
theorem dX5_workRanks_9 : decode cX5_workRanks 9 = .ok (.getfield 51, 3) := dG_dX5_workRanks_0.2.2.2.2.2.2.2.1
theorem dX5_workRanks_12 : decode cX5_workRanks 12 = .ok (.getfield 157, 3) := dG_dX5_workRanks_0.2.2.2.2.2.2.2.2.1
theorem dX5_workRanks_15 : decode cX5_workRanks 15 = .ok (.if_icmp .ge 47, 3) := dG_dX5_workRanks_0.2.2.2.2.2.2.2.2.2.1
theorem dX5_workRanks_18 : decode cX5_workRanks 18 = .ok (.aload_n 0, 1) := dG_dX5_workRanks_0.2.2.2.2.2.2.2.2.2.2.1
theorem dX5_workRanks_19 : decode cX5_workRanks 19 = .ok (.iload_n 1, 1) := dG_dX5_workRanks_0.2.2.2.2.2.2.2.2.2.2.2
theorem dG_dX5_workRanks_20 : (decode cX5_workRanks 20 = .ok (.invokevirtual 162, 3)) ∧ (decode cX5_workRanks 23 = .ok (.istore 4, 2)) ∧ (decode cX5_workRanks 25 = .ok (.iload 4, 2)) ∧ (decode cX5_workRanks 27 = .ok (.iload_n 1, 1)) ∧ (decode cX5_workRanks 28 = .ok (.if_icmp .gt 28, 3)) ∧ (decode cX5_workRanks 31 = .ok (.aload_n 0, 1)) ∧ (decode cX5_workRanks 32 = .ok (.getfield 51, 3)) ∧ (decode cX5_workRanks 35 = .ok (.iload_n 1, 1)) ∧ (decode cX5_workRanks 36 = .ok (.iload_n 3, 1)) ∧ (decode cX5_workRanks 37 = .ok (.invokevirtual 166, 3)) ∧ (decode cX5_workRanks 40 = .ok (.ifCond .eq 16, 3)) ∧ (decode cX5_workRanks 43 = .ok (.aload_n 0, 1)) := by decide +kernel
theorem dX5_workRanks_20 : decode cX5_workRanks 20 = .ok (.invokevirtual 162, 3) := dG_dX5_workRanks_20.1
theorem dX5_workRanks_23 : decode cX5_workRanks 23 = .ok (.istore 4, 2) := dG_dX5_workRanks_20.2.1
theorem dX5_workRanks_25 : decode cX5_workRanks 25 = .ok (.iload 4, 2) := dG_dX5_workRanks_20.2.2.1
theorem dX5_workRanks_27 : decode cX5_workRanks 27 = .ok (.iload_n 1, 1) := dG_dX5_workRanks_20.2.2.2.1
theorem dX5_workRanks_28 : decode cX5_workRanks 28 = .ok (.if_icmp .gt 28, 3) := dG_dX5_workRanks_20.2.2.2.2.1
theorem dX5_workRanks_31 : decode cX5_workRanks 31 = .ok (.aload_n 0, 1) := dG_dX5_workRanks_20.2.2.2.2.2.1
theorem dX5_workRanks_32 : decode cX5_workRanks 32 = .ok (.getfield 51, 3) := dG_dX5_workRanks_20.2.2.2.2.2.2.1
theorem dX5_workRanks_35 : decode cX5_workRanks 35 = .ok (.iload_n 1, 1) := dG_dX5_workRanks_20.2.2.2.2.2.2.2.1
theorem dX5_workRanks_36 : decode cX5_workRanks 36 = .ok (.iload_n 3, 1) := dG_dX5_workRanks_20.2.2.2.2.2.2.2.2.1
theorem dX5_workRanks_37 : decode cX5_workRanks 37 = .ok (.invokevirtual 166, 3) := dG_dX5_workRanks_20.2.2.2.2.2.2.2.2.2.1
theorem dX5_workRanks_40 : decode cX5_workRanks 40 = .ok (.ifCond .eq 16, 3) := dG_dX5_workRanks_20.2.2.2.2.2.2.2.2.2.2.1
theorem dX5_workRanks_43 : decode cX5_workRanks 43 = .ok (.aload_n 0, 1) := dG_dX5_workRanks_20.2.2.2.2.2.2.2.2.2.2.2
theorem dG_dX5_workRanks_44 : (decode cX5_workRanks 44 = .ok (.iload 4, 2)) ∧ (decode cX5_workRanks 46 = .ok (.iload_n 3, 1)) ∧ (decode cX5_workRanks 47 = .ok (.invokevirtual 170, 3)) ∧ (decode cX5_workRanks 50 = .ok (.iinc 4 1, 3)) ∧ (decode cX5_workRanks 53 = .ok (.goto (-28), 3)) ∧ (decode cX5_workRanks 56 = .ok (.iinc 3 1, 3)) ∧ (decode cX5_workRanks 59 = .ok (.goto (-52), 3)) ∧ (decode cX5_workRanks 62 = .ok (.iconst 0, 1)) ∧ (decode cX5_workRanks 63 = .ok (.istore_n 3, 1)) ∧ (decode cX5_workRanks 64 = .ok (.iload_n 3, 1)) ∧ (decode cX5_workRanks 65 = .ok (.aload_n 0, 1)) ∧ (decode cX5_workRanks 66 = .ok (.getfield 51, 3)) := by decide +kernel
theorem dX5_workRanks_44 : decode cX5_workRanks 44 = .ok (.iload 4, 2) := dG_dX5_workRanks_44.1
theorem dX5_workRanks_46 : decode cX5_workRanks 46 = .ok (.iload_n 3, 1) := dG_dX5_workRanks_44.2.1
theorem dX5_workRanks_47 : decode cX5_workRanks 47 = .ok (.invokevirtual 170, 3) := dG_dX5_workRanks_44.2.2.1
theorem dX5_workRanks_50 : decode cX5_workRanks 50 = .ok (.iinc 4 1, 3) := dG_dX5_workRanks_44.2.2.2.1
theorem dX5_workRanks_53 : decode cX5_workRanks 53 = .ok (.goto (-28), 3) := dG_dX5_workRanks_44.2.2.2.2.1
theorem dX5_workRanks_56 : decode cX5_workRanks 56 = .ok (.iinc 3 1, 3) := dG_dX5_workRanks_44.2.2.2.2.2.1
theorem dX5_workRanks_59 : decode cX5_workRanks 59 = .ok (.goto (-52), 3) := dG_dX5_workRanks_44.2.2.2.2.2.2.1
theorem dX5_workRanks_62 : decode cX5_workRanks 62 = .ok (.iconst 0, 1) := dG_dX5_workRanks_44.2.2.2.2.2.2.2.1
theorem dX5_workRanks_63 : decode cX5_workRanks 63 = .ok (.istore_n 3, 1) := dG_dX5_workRanks_44.2.2.2.2.2.2.2.2.1
theorem dX5_workRanks_64 : decode cX5_workRanks 64 = .ok (.iload_n 3, 1) := dG_dX5_workRanks_44.2.2.2.2.2.2.2.2.2.1
theorem dX5_workRanks_65 : decode cX5_workRanks 65 = .ok (.aload_n 0, 1) := dG_dX5_workRanks_44.2.2.2.2.2.2.2.2.2.2.1
theorem dX5_workRanks_66 : decode cX5_workRanks 66 = .ok (.getfield 51, 3) := dG_dX5_workRanks_44.2.2.2.2.2.2.2.2.2.2.2
theorem dG_dX5_workRanks_69 : (decode cX5_workRanks 69 = .ok (.getfield 157, 3)) ∧ (decode cX5_workRanks 72 = .ok (.if_icmp .ge 39, 3)) ∧ (decode cX5_workRanks 75 = .ok (.aload_n 0, 1)) ∧ (decode cX5_workRanks 76 = .ok (.getfield 40, 3)) ∧ (decode cX5_workRanks 79 = .ok (.iload_n 3, 1)) ∧ (decode cX5_workRanks 80 = .ok (.aload_n 0, 1)) ∧ (decode cX5_workRanks 81 = .ok (.getfield 51, 3)) ∧ (decode cX5_workRanks 84 = .ok (.iload_n 1, 1)) ∧ (decode cX5_workRanks 85 = .ok (.iload_n 3, 1)) ∧ (decode cX5_workRanks 86 = .ok (.invokevirtual 166, 3)) ∧ (decode cX5_workRanks 89 = .ok (.ifCond .eq 14, 3)) ∧ (decode cX5_workRanks 92 = .ok (.iconst 1, 1)) := by decide +kernel
theorem dX5_workRanks_69 : decode cX5_workRanks 69 = .ok (.getfield 157, 3) := dG_dX5_workRanks_69.1
theorem dX5_workRanks_72 : decode cX5_workRanks 72 = .ok (.if_icmp .ge 39, 3) := dG_dX5_workRanks_69.2.1
theorem dX5_workRanks_75 : decode cX5_workRanks 75 = .ok (.aload_n 0, 1) := dG_dX5_workRanks_69.2.2.1
theorem dX5_workRanks_76 : decode cX5_workRanks 76 = .ok (.getfield 40, 3) := dG_dX5_workRanks_69.2.2.2.1
theorem dX5_workRanks_79 : decode cX5_workRanks 79 = .ok (.iload_n 3, 1) := dG_dX5_workRanks_69.2.2.2.2.1
theorem dX5_workRanks_80 : decode cX5_workRanks 80 = .ok (.aload_n 0, 1) := dG_dX5_workRanks_69.2.2.2.2.2.1
theorem dX5_workRanks_81 : decode cX5_workRanks 81 = .ok (.getfield 51, 3) := dG_dX5_workRanks_69.2.2.2.2.2.2.1
theorem dX5_workRanks_84 : decode cX5_workRanks 84 = .ok (.iload_n 1, 1) := dG_dX5_workRanks_69.2.2.2.2.2.2.2.1
theorem dX5_workRanks_85 : decode cX5_workRanks 85 = .ok (.iload_n 3, 1) := dG_dX5_workRanks_69.2.2.2.2.2.2.2.2.1
theorem dX5_workRanks_86 : decode cX5_workRanks 86 = .ok (.invokevirtual 166, 3) := dG_dX5_workRanks_69.2.2.2.2.2.2.2.2.2.1
theorem dX5_workRanks_89 : decode cX5_workRanks 89 = .ok (.ifCond .eq 14, 3) := dG_dX5_workRanks_69.2.2.2.2.2.2.2.2.2.2.1
theorem dX5_workRanks_92 : decode cX5_workRanks 92 = .ok (.iconst 1, 1) := dG_dX5_workRanks_69.2.2.2.2.2.2.2.2.2.2.2
theorem dG_dX5_workRanks_93 : (decode cX5_workRanks 93 = .ok (.aload_n 0, 1)) ∧ (decode cX5_workRanks 94 = .ok (.iload_n 1, 1)) ∧ (decode cX5_workRanks 95 = .ok (.iload_n 3, 1)) ∧ (decode cX5_workRanks 96 = .ok (.invokevirtual 174, 3)) ∧ (decode cX5_workRanks 99 = .ok (.iadd, 1)) ∧ (decode cX5_workRanks 100 = .ok (.goto 4, 3)) ∧ (decode cX5_workRanks 103 = .ok (.iconst (-1), 1)) ∧ (decode cX5_workRanks 104 = .ok (.iastore, 1)) ∧ (decode cX5_workRanks 105 = .ok (.iinc 3 1, 3)) ∧ (decode cX5_workRanks 108 = .ok (.goto (-44), 3)) ∧ (decode cX5_workRanks 111 = .ok (.return_, 1)) ∧ (decode cX5_starter 0 = .ok (.iconst 0, 1)) := by decide +kernel
theorem dX5_workRanks_93 : decode cX5_workRanks 93 = .ok (.aload_n 0, 1) := dG_dX5_workRanks_93.1
theorem dX5_workRanks_94 : decode cX5_workRanks 94 = .ok (.iload_n 1, 1) := dG_dX5_workRanks_93.2.1
theorem dX5_workRanks_95 : decode cX5_workRanks 95 = .ok (.iload_n 3, 1) := dG_dX5_workRanks_93.2.2.1
theorem dX5_workRanks_96 : decode cX5_workRanks 96 = .ok (.invokevirtual 174, 3) := dG_dX5_workRanks_93.2.2.2.1
theorem dX5_workRanks_99 : decode cX5_workRanks 99 = .ok (.iadd, 1) := dG_dX5_workRanks_93.2.2.2.2.1
theorem dX5_workRanks_100 : decode cX5_workRanks 100 = .ok (.goto 4, 3) := dG_dX5_workRanks_93.2.2.2.2.2.1
theorem dX5_workRanks_103 : decode cX5_workRanks 103 = .ok (.iconst (-1), 1) := dG_dX5_workRanks_93.2.2.2.2.2.2.1
theorem dX5_workRanks_104 : decode cX5_workRanks 104 = .ok (.iastore, 1) := dG_dX5_workRanks_93.2.2.2.2.2.2.2.1
theorem dX5_workRanks_105 : decode cX5_workRanks 105 = .ok (.iinc 3 1, 3) := dG_dX5_workRanks_93.2.2.2.2.2.2.2.2.1
theorem dX5_workRanks_108 : decode cX5_workRanks 108 = .ok (.goto (-44), 3) := dG_dX5_workRanks_93.2.2.2.2.2.2.2.2.2.1
theorem dX5_workRanks_111 : decode cX5_workRanks 111 = .ok (.return_, 1) := dG_dX5_workRanks_93.2.2.2.2.2.2.2.2.2.2.1
theorem dX5_starter_0 : decode cX5_starter 0 = .ok (.iconst 0, 1) := dG_dX5_workRanks_93.2.2.2.2.2.2.2.2.2.2.2
theorem dG_dX5_starter_1 : (decode cX5_starter 1 = .ok (.istore_n 3, 1)) ∧ (decode cX5_starter 2 = .ok (.iload_n 3, 1)) ∧ (decode cX5_starter 3 = .ok (.aload_n 0, 1)) ∧ (decode cX5_starter 4 = .ok (.getfield 51, 3)) ∧ (decode cX5_starter 7 = .ok (.getfield 157, 3)) ∧ (decode cX5_starter 10 = .ok (.if_icmp .ge 33, 3)) ∧ (decode cX5_starter 13 = .ok (.aload_n 0, 1)) ∧ (decode cX5_starter 14 = .ok (.getfield 51, 3)) ∧ (decode cX5_starter 17 = .ok (.iload_n 1, 1)) ∧ (decode cX5_starter 18 = .ok (.iload_n 3, 1)) ∧ (decode cX5_starter 19 = .ok (.invokevirtual 166, 3)) ∧ (decode cX5_starter 22 = .ok (.ifCond .eq 15, 3)) := by decide +kernel
theorem dX5_starter_1 : decode cX5_starter 1 = .ok (.istore_n 3, 1) := dG_dX5_starter_1.1
theorem dX5_starter_2 : decode cX5_starter 2 = .ok (.iload_n 3, 1) := dG_dX5_starter_1.2.1
theorem dX5_starter_3 : decode cX5_starter 3 = .ok (.aload_n 0, 1) := dG_dX5_starter_1.2.2.1
theorem dX5_starter_4 : decode cX5_starter 4 = .ok (.getfield 51, 3) := dG_dX5_starter_1.2.2.2.1
theorem dX5_starter_7 : decode cX5_starter 7 = .ok (.getfield 157, 3) := dG_dX5_starter_1.2.2.2.2.1
theorem dX5_starter_10 : decode cX5_starter 10 = .ok (.if_icmp .ge 33, 3) := dG_dX5_starter_1.2.2.2.2.2.1
theorem dX5_starter_13 : decode cX5_starter 13 = .ok (.aload_n 0, 1) := dG_dX5_starter_1.2.2.2.2.2.2.1
theorem dX5_starter_14 : decode cX5_starter 14 = .ok (.getfield 51, 3) := dG_dX5_starter_1.2.2.2.2.2.2.2.1
theorem dX5_starter_17 : decode cX5_starter 17 = .ok (.iload_n 1, 1) := dG_dX5_starter_1.2.2.2.2.2.2.2.2.1
theorem dX5_starter_18 : decode cX5_starter 18 = .ok (.iload_n 3, 1) := dG_dX5_starter_1.2.2.2.2.2.2.2.2.2.1
theorem dX5_starter_19 : decode cX5_starter 19 = .ok (.invokevirtual 166, 3) := dG_dX5_starter_1.2.2.2.2.2.2.2.2.2.2.1
theorem dX5_starter_22 : decode cX5_starter 22 = .ok (.ifCond .eq 15, 3) := dG_dX5_starter_1.2.2.2.2.2.2.2.2.2.2.2
theorem dG_dX5_starter_25 : (decode cX5_starter 25 = .ok (.aload_n 0, 1)) ∧ (decode cX5_starter 26 = .ok (.iload_n 1, 1)) ∧ (decode cX5_starter 27 = .ok (.iload_n 3, 1)) ∧ (decode cX5_starter 28 = .ok (.invokevirtual 192, 3)) ∧ (decode cX5_starter 31 = .ok (.iload_n 2, 1)) ∧ (decode cX5_starter 32 = .ok (.if_icmp .ne 5, 3)) ∧ (decode cX5_starter 35 = .ok (.iload_n 3, 1)) ∧ (decode cX5_starter 36 = .ok (.ireturn, 1)) ∧ (decode cX5_starter 37 = .ok (.iinc 3 1, 3)) ∧ (decode cX5_starter 40 = .ok (.goto (-38), 3)) ∧ (decode cX5_starter 43 = .ok (.iconst (-1), 1)) ∧ (decode cX5_starter 44 = .ok (.ireturn, 1)) := by decide +kernel
theorem dX5_starter_25 : decode cX5_starter 25 = .ok (.aload_n 0, 1) := dG_dX5_starter_25.1
theorem dX5_starter_26 : decode cX5_starter 26 = .ok (.iload_n 1, 1) := dG_dX5_starter_25.2.1
theorem dX5_starter_27 : decode cX5_starter 27 = .ok (.iload_n 3, 1) := dG_dX5_starter_25.2.2.1
theorem dX5_starter_28 : decode cX5_starter 28 = .ok (.invokevirtual 192, 3) := dG_dX5_starter_25.2.2.2.1
theorem dX5_starter_31 : decode cX5_starter 31 = .ok (.iload_n 2, 1) := dG_dX5_starter_25.2.2.2.2.1
theorem dX5_starter_32 : decode cX5_starter 32 = .ok (.if_icmp .ne 5, 3) := dG_dX5_starter_25.2.2.2.2.2.1
theorem dX5_starter_35 : decode cX5_starter 35 = .ok (.iload_n 3, 1) := dG_dX5_starter_25.2.2.2.2.2.2.1
theorem dX5_starter_36 : decode cX5_starter 36 = .ok (.ireturn, 1) := dG_dX5_starter_25.2.2.2.2.2.2.2.1
theorem dX5_starter_37 : decode cX5_starter 37 = .ok (.iinc 3 1, 3) := dG_dX5_starter_25.2.2.2.2.2.2.2.2.1
theorem dX5_starter_40 : decode cX5_starter 40 = .ok (.goto (-38), 3) := dG_dX5_starter_25.2.2.2.2.2.2.2.2.2.1
theorem dX5_starter_43 : decode cX5_starter 43 = .ok (.iconst (-1), 1) := dG_dX5_starter_25.2.2.2.2.2.2.2.2.2.2.1
theorem dX5_starter_44 : decode cX5_starter 44 = .ok (.ireturn, 1) := dG_dX5_starter_25.2.2.2.2.2.2.2.2.2.2.2
theorem dG_dX5_manyStartAhead_0 : (decode cX5_manyStartAhead 0 = .ok (.iconst 0, 1)) ∧ (decode cX5_manyStartAhead 1 = .ok (.istore_n 3, 1)) ∧ (decode cX5_manyStartAhead 2 = .ok (.iconst 0, 1)) ∧ (decode cX5_manyStartAhead 3 = .ok (.istore 4, 2)) ∧ (decode cX5_manyStartAhead 5 = .ok (.iload 4, 2)) ∧ (decode cX5_manyStartAhead 7 = .ok (.aload_n 0, 1)) ∧ (decode cX5_manyStartAhead 8 = .ok (.getfield 51, 3)) ∧ (decode cX5_manyStartAhead 11 = .ok (.getfield 157, 3)) ∧ (decode cX5_manyStartAhead 14 = .ok (.if_icmp .ge 63, 3)) ∧ (decode cX5_manyStartAhead 17 = .ok (.aload_n 0, 1)) ∧ (decode cX5_manyStartAhead 18 = .ok (.getfield 51, 3)) ∧ (decode cX5_manyStartAhead 21 = .ok (.iload_n 1, 1)) := by decide +kernel
theorem dX5_manyStartAhead_0 : decode cX5_manyStartAhead 0 = .ok (.iconst 0, 1) := dG_dX5_manyStartAhead_0.1
theorem dX5_manyStartAhead_1 : decode cX5_manyStartAhead 1 = .ok (.istore_n 3, 1) := dG_dX5_manyStartAhead_0.2.1
theorem dX5_manyStartAhead_2 : decode cX5_manyStartAhead 2 = .ok (.iconst 0, 1) := dG_dX5_manyStartAhead_0.2.2.1
theorem dX5_manyStartAhead_3 : decode cX5_manyStartAhead 3 = .ok (.istore 4, 2) := dG_dX5_manyStartAhead_0.2.2.2.1
theorem dX5_manyStartAhead_5 : decode cX5_manyStartAhead 5 = .ok (.iload 4, 2) := dG_dX5_manyStartAhead_0.2.2.2.2.1
theorem dX5_manyStartAhead_7 : decode cX5_manyStartAhead 7 = .ok (.aload_n 0, 1) := dG_dX5_manyStartAhead_0.2.2.2.2.2.1
theorem dX5_manyStartAhead_8 : decode cX5_manyStartAhead 8 = .ok (.getfield 51, 3) := dG_dX5_manyStartAhead_0.2.2.2.2.2.2.1
theorem dX5_manyStartAhead_11 : decode cX5_manyStartAhead 11 = .ok (.getfield 157, 3) := dG_dX5_manyStartAhead_0.2.2.2.2.2.2.2.1
theorem dX5_manyStartAhead_14 : decode cX5_manyStartAhead 14 = .ok (.if_icmp .ge 63, 3) := dG_dX5_manyStartAhead_0.2.2.2.2.2.2.2.2.1
theorem dX5_manyStartAhead_17 : decode cX5_manyStartAhead 17 = .ok (.aload_n 0, 1) := dG_dX5_manyStartAhead_0.2.2.2.2.2.2.2.2.2.1
theorem dX5_manyStartAhead_18 : decode cX5_manyStartAhead 18 = .ok (.getfield 51, 3) := dG_dX5_manyStartAhead_0.2.2.2.2.2.2.2.2.2.2.1
theorem dX5_manyStartAhead_21 : decode cX5_manyStartAhead 21 = .ok (.iload_n 1, 1) := dG_dX5_manyStartAhead_0.2.2.2.2.2.2.2.2.2.2.2
theorem dG_dX5_manyStartAhead_22 : (decode cX5_manyStartAhead 22 = .ok (.iload 4, 2)) ∧ (decode cX5_manyStartAhead 24 = .ok (.invokevirtual 166, 3)) ∧ (decode cX5_manyStartAhead 27 = .ok (.ifCond .eq 44, 3)) ∧ (decode cX5_manyStartAhead 30 = .ok (.aload_n 0, 1)) ∧ (decode cX5_manyStartAhead 31 = .ok (.getfield 40, 3)) ∧ (decode cX5_manyStartAhead 34 = .ok (.iload 4, 2)) ∧ (decode cX5_manyStartAhead 36 = .ok (.iaload, 1)) ∧ (decode cX5_manyStartAhead 37 = .ok (.aload_n 0, 1)) ∧ (decode cX5_manyStartAhead 38 = .ok (.getfield 40, 3)) ∧ (decode cX5_manyStartAhead 41 = .ok (.iload_n 2, 1)) ∧ (decode cX5_manyStartAhead 42 = .ok (.iaload, 1)) ∧ (decode cX5_manyStartAhead 43 = .ok (.if_icmp .gt 25, 3)) := by decide +kernel
theorem dX5_manyStartAhead_22 : decode cX5_manyStartAhead 22 = .ok (.iload 4, 2) := dG_dX5_manyStartAhead_22.1
theorem dX5_manyStartAhead_24 : decode cX5_manyStartAhead 24 = .ok (.invokevirtual 166, 3) := dG_dX5_manyStartAhead_22.2.1
theorem dX5_manyStartAhead_27 : decode cX5_manyStartAhead 27 = .ok (.ifCond .eq 44, 3) := dG_dX5_manyStartAhead_22.2.2.1
theorem dX5_manyStartAhead_30 : decode cX5_manyStartAhead 30 = .ok (.aload_n 0, 1) := dG_dX5_manyStartAhead_22.2.2.2.1
theorem dX5_manyStartAhead_31 : decode cX5_manyStartAhead 31 = .ok (.getfield 40, 3) := dG_dX5_manyStartAhead_22.2.2.2.2.1
theorem dX5_manyStartAhead_34 : decode cX5_manyStartAhead 34 = .ok (.iload 4, 2) := dG_dX5_manyStartAhead_22.2.2.2.2.2.1
theorem dX5_manyStartAhead_36 : decode cX5_manyStartAhead 36 = .ok (.iaload, 1) := dG_dX5_manyStartAhead_22.2.2.2.2.2.2.1
theorem dX5_manyStartAhead_37 : decode cX5_manyStartAhead 37 = .ok (.aload_n 0, 1) := dG_dX5_manyStartAhead_22.2.2.2.2.2.2.2.1
theorem dX5_manyStartAhead_38 : decode cX5_manyStartAhead 38 = .ok (.getfield 40, 3) := dG_dX5_manyStartAhead_22.2.2.2.2.2.2.2.2.1
theorem dX5_manyStartAhead_41 : decode cX5_manyStartAhead 41 = .ok (.iload_n 2, 1) := dG_dX5_manyStartAhead_22.2.2.2.2.2.2.2.2.2.1
theorem dX5_manyStartAhead_42 : decode cX5_manyStartAhead 42 = .ok (.iaload, 1) := dG_dX5_manyStartAhead_22.2.2.2.2.2.2.2.2.2.2.1
theorem dX5_manyStartAhead_43 : decode cX5_manyStartAhead 43 = .ok (.if_icmp .gt 25, 3) := dG_dX5_manyStartAhead_22.2.2.2.2.2.2.2.2.2.2.2
theorem dG_dX5_manyStartAhead_46 : (decode cX5_manyStartAhead 46 = .ok (.aload_n 0, 1)) ∧ (decode cX5_manyStartAhead 47 = .ok (.getfield 40, 3)) ∧ (decode cX5_manyStartAhead 50 = .ok (.iload 4, 2)) ∧ (decode cX5_manyStartAhead 52 = .ok (.iaload, 1)) ∧ (decode cX5_manyStartAhead 53 = .ok (.aload_n 0, 1)) ∧ (decode cX5_manyStartAhead 54 = .ok (.getfield 40, 3)) ∧ (decode cX5_manyStartAhead 57 = .ok (.iload_n 2, 1)) ∧ (decode cX5_manyStartAhead 58 = .ok (.iaload, 1)) ∧ (decode cX5_manyStartAhead 59 = .ok (.if_icmp .ne 12, 3)) ∧ (decode cX5_manyStartAhead 62 = .ok (.iload 4, 2)) ∧ (decode cX5_manyStartAhead 64 = .ok (.iload_n 2, 1)) ∧ (decode cX5_manyStartAhead 65 = .ok (.if_icmp .le 6, 3)) := by decide +kernel
theorem dX5_manyStartAhead_46 : decode cX5_manyStartAhead 46 = .ok (.aload_n 0, 1) := dG_dX5_manyStartAhead_46.1
theorem dX5_manyStartAhead_47 : decode cX5_manyStartAhead 47 = .ok (.getfield 40, 3) := dG_dX5_manyStartAhead_46.2.1
theorem dX5_manyStartAhead_50 : decode cX5_manyStartAhead 50 = .ok (.iload 4, 2) := dG_dX5_manyStartAhead_46.2.2.1
theorem dX5_manyStartAhead_52 : decode cX5_manyStartAhead 52 = .ok (.iaload, 1) := dG_dX5_manyStartAhead_46.2.2.2.1
theorem dX5_manyStartAhead_53 : decode cX5_manyStartAhead 53 = .ok (.aload_n 0, 1) := dG_dX5_manyStartAhead_46.2.2.2.2.1
theorem dX5_manyStartAhead_54 : decode cX5_manyStartAhead 54 = .ok (.getfield 40, 3) := dG_dX5_manyStartAhead_46.2.2.2.2.2.1
theorem dX5_manyStartAhead_57 : decode cX5_manyStartAhead 57 = .ok (.iload_n 2, 1) := dG_dX5_manyStartAhead_46.2.2.2.2.2.2.1
theorem dX5_manyStartAhead_58 : decode cX5_manyStartAhead 58 = .ok (.iaload, 1) := dG_dX5_manyStartAhead_46.2.2.2.2.2.2.2.1
theorem dX5_manyStartAhead_59 : decode cX5_manyStartAhead 59 = .ok (.if_icmp .ne 12, 3) := dG_dX5_manyStartAhead_46.2.2.2.2.2.2.2.2.1
theorem dX5_manyStartAhead_62 : decode cX5_manyStartAhead 62 = .ok (.iload 4, 2) := dG_dX5_manyStartAhead_46.2.2.2.2.2.2.2.2.2.1
theorem dX5_manyStartAhead_64 : decode cX5_manyStartAhead 64 = .ok (.iload_n 2, 1) := dG_dX5_manyStartAhead_46.2.2.2.2.2.2.2.2.2.2.1
theorem dX5_manyStartAhead_65 : decode cX5_manyStartAhead 65 = .ok (.if_icmp .le 6, 3) := dG_dX5_manyStartAhead_46.2.2.2.2.2.2.2.2.2.2.2
theorem dG_dX5_manyStartAhead_68 : (decode cX5_manyStartAhead 68 = .ok (.iinc 3 1, 3)) ∧ (decode cX5_manyStartAhead 71 = .ok (.iinc 4 1, 3)) ∧ (decode cX5_manyStartAhead 74 = .ok (.goto (-69), 3)) ∧ (decode cX5_manyStartAhead 77 = .ok (.iload_n 3, 1)) ∧ (decode cX5_manyStartAhead 78 = .ok (.ireturn, 1)) ∧ (decode cX5_workPoints 0 = .ok (.aload_n 0, 1)) ∧ (decode cX5_workPoints 1 = .ok (.iload_n 2, 1)) ∧ (decode cX5_workPoints 2 = .ok (.invokevirtual 154, 3)) ∧ (decode cX5_workPoints 5 = .ok (.iconst 0, 1)) ∧ (decode cX5_workPoints 6 = .ok (.istore_n 3, 1)) ∧ (decode cX5_workPoints 7 = .ok (.iload_n 3, 1)) ∧ (decode cX5_workPoints 8 = .ok (.aload_n 0, 1)) := by decide +kernel
theorem dX5_manyStartAhead_68 : decode cX5_manyStartAhead 68 = .ok (.iinc 3 1, 3) := dG_dX5_manyStartAhead_68.1
theorem dX5_manyStartAhead_71 : decode cX5_manyStartAhead 71 = .ok (.iinc 4 1, 3) := dG_dX5_manyStartAhead_68.2.1
theorem dX5_manyStartAhead_74 : decode cX5_manyStartAhead 74 = .ok (.goto (-69), 3) := dG_dX5_manyStartAhead_68.2.2.1
theorem dX5_manyStartAhead_77 : decode cX5_manyStartAhead 77 = .ok (.iload_n 3, 1) := dG_dX5_manyStartAhead_68.2.2.2.1
theorem dX5_manyStartAhead_78 : decode cX5_manyStartAhead 78 = .ok (.ireturn, 1) := dG_dX5_manyStartAhead_68.2.2.2.2.1
theorem dX5_workPoints_0 : decode cX5_workPoints 0 = .ok (.aload_n 0, 1) := dG_dX5_manyStartAhead_68.2.2.2.2.2.1
theorem dX5_workPoints_1 : decode cX5_workPoints 1 = .ok (.iload_n 2, 1) := dG_dX5_manyStartAhead_68.2.2.2.2.2.2.1
theorem dX5_workPoints_2 : decode cX5_workPoints 2 = .ok (.invokevirtual 154, 3) := dG_dX5_manyStartAhead_68.2.2.2.2.2.2.2.1
theorem dX5_workPoints_5 : decode cX5_workPoints 5 = .ok (.iconst 0, 1) := dG_dX5_manyStartAhead_68.2.2.2.2.2.2.2.2.1
theorem dX5_workPoints_6 : decode cX5_workPoints 6 = .ok (.istore_n 3, 1) := dG_dX5_manyStartAhead_68.2.2.2.2.2.2.2.2.2.1
theorem dX5_workPoints_7 : decode cX5_workPoints 7 = .ok (.iload_n 3, 1) := dG_dX5_manyStartAhead_68.2.2.2.2.2.2.2.2.2.2.1
theorem dX5_workPoints_8 : decode cX5_workPoints 8 = .ok (.aload_n 0, 1) := dG_dX5_manyStartAhead_68.2.2.2.2.2.2.2.2.2.2.2
theorem dG_dX5_workPoints_9 : (decode cX5_workPoints 9 = .ok (.getfield 51, 3)) ∧ (decode cX5_workPoints 12 = .ok (.getfield 157, 3)) ∧ (decode cX5_workPoints 15 = .ok (.if_icmp .ge 62, 3)) ∧ (decode cX5_workPoints 18 = .ok (.iconst 0, 1)) ∧ (decode cX5_workPoints 19 = .ok (.istore 4, 2)) ∧ (decode cX5_workPoints 21 = .ok (.iload 4, 2)) ∧ (decode cX5_workPoints 23 = .ok (.aload_n 0, 1)) ∧ (decode cX5_workPoints 24 = .ok (.getfield 43, 3)) ∧ (decode cX5_workPoints 27 = .ok (.iload_n 1, 1)) ∧ (decode cX5_workPoints 28 = .ok (.iconst 0, 1)) ∧ (decode cX5_workPoints 29 = .ok (.invokevirtual 126, 3)) ∧ (decode cX5_workPoints 32 = .ok (.if_icmp .ge 39, 3)) := by decide +kernel
theorem dX5_workPoints_9 : decode cX5_workPoints 9 = .ok (.getfield 51, 3) := dG_dX5_workPoints_9.1
theorem dX5_workPoints_12 : decode cX5_workPoints 12 = .ok (.getfield 157, 3) := dG_dX5_workPoints_9.2.1
theorem dX5_workPoints_15 : decode cX5_workPoints 15 = .ok (.if_icmp .ge 62, 3) := dG_dX5_workPoints_9.2.2.1
theorem dX5_workPoints_18 : decode cX5_workPoints 18 = .ok (.iconst 0, 1) := dG_dX5_workPoints_9.2.2.2.1
theorem dX5_workPoints_19 : decode cX5_workPoints 19 = .ok (.istore 4, 2) := dG_dX5_workPoints_9.2.2.2.2.1
theorem dX5_workPoints_21 : decode cX5_workPoints 21 = .ok (.iload 4, 2) := dG_dX5_workPoints_9.2.2.2.2.2.1
theorem dX5_workPoints_23 : decode cX5_workPoints 23 = .ok (.aload_n 0, 1) := dG_dX5_workPoints_9.2.2.2.2.2.2.1
theorem dX5_workPoints_24 : decode cX5_workPoints 24 = .ok (.getfield 43, 3) := dG_dX5_workPoints_9.2.2.2.2.2.2.2.1
theorem dX5_workPoints_27 : decode cX5_workPoints 27 = .ok (.iload_n 1, 1) := dG_dX5_workPoints_9.2.2.2.2.2.2.2.2.1
theorem dX5_workPoints_28 : decode cX5_workPoints 28 = .ok (.iconst 0, 1) := dG_dX5_workPoints_9.2.2.2.2.2.2.2.2.2.1
theorem dX5_workPoints_29 : decode cX5_workPoints 29 = .ok (.invokevirtual 126, 3) := dG_dX5_workPoints_9.2.2.2.2.2.2.2.2.2.2.1
theorem dX5_workPoints_32 : decode cX5_workPoints 32 = .ok (.if_icmp .ge 39, 3) := dG_dX5_workPoints_9.2.2.2.2.2.2.2.2.2.2.2
theorem dG_dX5_workPoints_35 : (decode cX5_workPoints 35 = .ok (.aload_n 0, 1)) ∧ (decode cX5_workPoints 36 = .ok (.iload_n 1, 1)) ∧ (decode cX5_workPoints 37 = .ok (.iload_n 3, 1)) ∧ (decode cX5_workPoints 38 = .ok (.iload 4, 2)) ∧ (decode cX5_workPoints 40 = .ok (.invokevirtual 131, 3)) ∧ (decode cX5_workPoints 43 = .ok (.aload_n 0, 1)) ∧ (decode cX5_workPoints 44 = .ok (.getfield 30, 3)) ∧ (decode cX5_workPoints 47 = .ok (.iload_n 3, 1)) ∧ (decode cX5_workPoints 48 = .ok (.iconst 5, 1)) ∧ (decode cX5_workPoints 49 = .ok (.imul, 1)) ∧ (decode cX5_workPoints 50 = .ok (.iload 4, 2)) ∧ (decode cX5_workPoints 52 = .ok (.iadd, 1)) := by decide +kernel
theorem dX5_workPoints_35 : decode cX5_workPoints 35 = .ok (.aload_n 0, 1) := dG_dX5_workPoints_35.1
theorem dX5_workPoints_36 : decode cX5_workPoints 36 = .ok (.iload_n 1, 1) := dG_dX5_workPoints_35.2.1
theorem dX5_workPoints_37 : decode cX5_workPoints 37 = .ok (.iload_n 3, 1) := dG_dX5_workPoints_35.2.2.1
theorem dX5_workPoints_38 : decode cX5_workPoints 38 = .ok (.iload 4, 2) := dG_dX5_workPoints_35.2.2.2.1
theorem dX5_workPoints_40 : decode cX5_workPoints 40 = .ok (.invokevirtual 131, 3) := dG_dX5_workPoints_35.2.2.2.2.1
theorem dX5_workPoints_43 : decode cX5_workPoints 43 = .ok (.aload_n 0, 1) := dG_dX5_workPoints_35.2.2.2.2.2.1
theorem dX5_workPoints_44 : decode cX5_workPoints 44 = .ok (.getfield 30, 3) := dG_dX5_workPoints_35.2.2.2.2.2.2.1
theorem dX5_workPoints_47 : decode cX5_workPoints 47 = .ok (.iload_n 3, 1) := dG_dX5_workPoints_35.2.2.2.2.2.2.2.1
theorem dX5_workPoints_48 : decode cX5_workPoints 48 = .ok (.iconst 5, 1) := dG_dX5_workPoints_35.2.2.2.2.2.2.2.2.1
theorem dX5_workPoints_49 : decode cX5_workPoints 49 = .ok (.imul, 1) := dG_dX5_workPoints_35.2.2.2.2.2.2.2.2.2.1
theorem dX5_workPoints_50 : decode cX5_workPoints 50 = .ok (.iload 4, 2) := dG_dX5_workPoints_35.2.2.2.2.2.2.2.2.2.2.1
theorem dX5_workPoints_52 : decode cX5_workPoints 52 = .ok (.iadd, 1) := dG_dX5_workPoints_35.2.2.2.2.2.2.2.2.2.2.2
theorem dG_dX5_workPoints_53 : (decode cX5_workPoints 53 = .ok (.aload_n 0, 1)) ∧ (decode cX5_workPoints 54 = .ok (.getfield 43, 3)) ∧ (decode cX5_workPoints 57 = .ok (.aload_n 0, 1)) ∧ (decode cX5_workPoints 58 = .ok (.getfield 27, 3)) ∧ (decode cX5_workPoints 61 = .ok (.invokevirtual 135, 3)) ∧ (decode cX5_workPoints 64 = .ok (.iastore, 1)) ∧ (decode cX5_workPoints 65 = .ok (.iinc 4 1, 3)) ∧ (decode cX5_workPoints 68 = .ok (.goto (-47), 3)) ∧ (decode cX5_workPoints 71 = .ok (.iinc 3 1, 3)) ∧ (decode cX5_workPoints 74 = .ok (.goto (-67), 3)) ∧ (decode cX5_workPoints 77 = .ok (.return_, 1)) ∧ (decode cX5_together 0 = .ok (.lconst 0, 1)) := by decide +kernel
theorem dX5_workPoints_53 : decode cX5_workPoints 53 = .ok (.aload_n 0, 1) := dG_dX5_workPoints_53.1
theorem dX5_workPoints_54 : decode cX5_workPoints 54 = .ok (.getfield 43, 3) := dG_dX5_workPoints_53.2.1
theorem dX5_workPoints_57 : decode cX5_workPoints 57 = .ok (.aload_n 0, 1) := dG_dX5_workPoints_53.2.2.1
theorem dX5_workPoints_58 : decode cX5_workPoints 58 = .ok (.getfield 27, 3) := dG_dX5_workPoints_53.2.2.2.1
theorem dX5_workPoints_61 : decode cX5_workPoints 61 = .ok (.invokevirtual 135, 3) := dG_dX5_workPoints_53.2.2.2.2.1
theorem dX5_workPoints_64 : decode cX5_workPoints 64 = .ok (.iastore, 1) := dG_dX5_workPoints_53.2.2.2.2.2.1
theorem dX5_workPoints_65 : decode cX5_workPoints 65 = .ok (.iinc 4 1, 3) := dG_dX5_workPoints_53.2.2.2.2.2.2.1
theorem dX5_workPoints_68 : decode cX5_workPoints 68 = .ok (.goto (-47), 3) := dG_dX5_workPoints_53.2.2.2.2.2.2.2.1
theorem dX5_workPoints_71 : decode cX5_workPoints 71 = .ok (.iinc 3 1, 3) := dG_dX5_workPoints_53.2.2.2.2.2.2.2.2.1
theorem dX5_workPoints_74 : decode cX5_workPoints 74 = .ok (.goto (-67), 3) := dG_dX5_workPoints_53.2.2.2.2.2.2.2.2.2.1
theorem dX5_workPoints_77 : decode cX5_workPoints 77 = .ok (.return_, 1) := dG_dX5_workPoints_53.2.2.2.2.2.2.2.2.2.2.1
theorem dX5_together_0 : decode cX5_together 0 = .ok (.lconst 0, 1) := dG_dX5_workPoints_53.2.2.2.2.2.2.2.2.2.2.2
theorem dG_dX5_together_1 : (decode cX5_together 1 = .ok (.lstore_n 3, 1)) ∧ (decode cX5_together 2 = .ok (.iconst 0, 1)) ∧ (decode cX5_together 3 = .ok (.istore 5, 2)) ∧ (decode cX5_together 5 = .ok (.iload 5, 2)) ∧ (decode cX5_together 7 = .ok (.iconst 5, 1)) ∧ (decode cX5_together 8 = .ok (.if_icmp .ge 34, 3)) ∧ (decode cX5_together 11 = .ok (.iload_n 2, 1)) ∧ (decode cX5_together 12 = .ok (.iload 5, 2)) ∧ (decode cX5_together 14 = .ok (.ishr, 1)) ∧ (decode cX5_together 15 = .ok (.iconst 1, 1)) ∧ (decode cX5_together 16 = .ok (.iand, 1)) ∧ (decode cX5_together 17 = .ok (.iconst 1, 1)) := by decide +kernel
theorem dX5_together_1 : decode cX5_together 1 = .ok (.lstore_n 3, 1) := dG_dX5_together_1.1
theorem dX5_together_2 : decode cX5_together 2 = .ok (.iconst 0, 1) := dG_dX5_together_1.2.1
theorem dX5_together_3 : decode cX5_together 3 = .ok (.istore 5, 2) := dG_dX5_together_1.2.2.1
theorem dX5_together_5 : decode cX5_together 5 = .ok (.iload 5, 2) := dG_dX5_together_1.2.2.2.1
theorem dX5_together_7 : decode cX5_together 7 = .ok (.iconst 5, 1) := dG_dX5_together_1.2.2.2.2.1
theorem dX5_together_8 : decode cX5_together 8 = .ok (.if_icmp .ge 34, 3) := dG_dX5_together_1.2.2.2.2.2.1
theorem dX5_together_11 : decode cX5_together 11 = .ok (.iload_n 2, 1) := dG_dX5_together_1.2.2.2.2.2.2.1
theorem dX5_together_12 : decode cX5_together 12 = .ok (.iload 5, 2) := dG_dX5_together_1.2.2.2.2.2.2.2.1
theorem dX5_together_14 : decode cX5_together 14 = .ok (.ishr, 1) := dG_dX5_together_1.2.2.2.2.2.2.2.2.1
theorem dX5_together_15 : decode cX5_together 15 = .ok (.iconst 1, 1) := dG_dX5_together_1.2.2.2.2.2.2.2.2.2.1
theorem dX5_together_16 : decode cX5_together 16 = .ok (.iand, 1) := dG_dX5_together_1.2.2.2.2.2.2.2.2.2.2.1
theorem dX5_together_17 : decode cX5_together 17 = .ok (.iconst 1, 1) := dG_dX5_together_1.2.2.2.2.2.2.2.2.2.2.2
theorem dG_dX5_together_18 : (decode cX5_together 18 = .ok (.if_icmp .ne 18, 3)) ∧ (decode cX5_together 21 = .ok (.lload_n 3, 1)) ∧ (decode cX5_together 22 = .ok (.aload_n 0, 1)) ∧ (decode cX5_together 23 = .ok (.getfield 30, 3)) ∧ (decode cX5_together 26 = .ok (.iload_n 1, 1)) ∧ (decode cX5_together 27 = .ok (.iconst 5, 1)) ∧ (decode cX5_together 28 = .ok (.imul, 1)) ∧ (decode cX5_together 29 = .ok (.iload 5, 2)) ∧ (decode cX5_together 31 = .ok (.iadd, 1)) ∧ (decode cX5_together 32 = .ok (.iaload, 1)) ∧ (decode cX5_together 33 = .ok (.i2l, 1)) ∧ (decode cX5_together 34 = .ok (.ladd, 1)) := by decide +kernel
theorem dX5_together_18 : decode cX5_together 18 = .ok (.if_icmp .ne 18, 3) := dG_dX5_together_18.1
theorem dX5_together_21 : decode cX5_together 21 = .ok (.lload_n 3, 1) := dG_dX5_together_18.2.1
theorem dX5_together_22 : decode cX5_together 22 = .ok (.aload_n 0, 1) := dG_dX5_together_18.2.2.1
theorem dX5_together_23 : decode cX5_together 23 = .ok (.getfield 30, 3) := dG_dX5_together_18.2.2.2.1
theorem dX5_together_26 : decode cX5_together 26 = .ok (.iload_n 1, 1) := dG_dX5_together_18.2.2.2.2.1
theorem dX5_together_27 : decode cX5_together 27 = .ok (.iconst 5, 1) := dG_dX5_together_18.2.2.2.2.2.1
theorem dX5_together_28 : decode cX5_together 28 = .ok (.imul, 1) := dG_dX5_together_18.2.2.2.2.2.2.1
theorem dX5_together_29 : decode cX5_together 29 = .ok (.iload 5, 2) := dG_dX5_together_18.2.2.2.2.2.2.2.1
theorem dX5_together_31 : decode cX5_together 31 = .ok (.iadd, 1) := dG_dX5_together_18.2.2.2.2.2.2.2.2.1
theorem dX5_together_32 : decode cX5_together 32 = .ok (.iaload, 1) := dG_dX5_together_18.2.2.2.2.2.2.2.2.2.1
theorem dX5_together_33 : decode cX5_together 33 = .ok (.i2l, 1) := dG_dX5_together_18.2.2.2.2.2.2.2.2.2.2.1
theorem dX5_together_34 : decode cX5_together 34 = .ok (.ladd, 1) := dG_dX5_together_18.2.2.2.2.2.2.2.2.2.2.2
theorem dG_dX5_together_35 : (decode cX5_together 35 = .ok (.lstore_n 3, 1)) ∧ (decode cX5_together 36 = .ok (.iinc 5 1, 3)) ∧ (decode cX5_together 39 = .ok (.goto (-34), 3)) ∧ (decode cX5_together 42 = .ok (.lload_n 3, 1)) ∧ (decode cX5_together 43 = .ok (.lreturn, 1)) ∧ (decode cX5_pairsParted 0 = .ok (.iconst 0, 1)) ∧ (decode cX5_pairsParted 1 = .ok (.istore_n 3, 1)) ∧ (decode cX5_pairsParted 2 = .ok (.iconst 0, 1)) ∧ (decode cX5_pairsParted 3 = .ok (.istore 4, 2)) ∧ (decode cX5_pairsParted 5 = .ok (.iload 4, 2)) ∧ (decode cX5_pairsParted 7 = .ok (.aload_n 0, 1)) ∧ (decode cX5_pairsParted 8 = .ok (.getfield 51, 3)) := by decide +kernel
theorem dX5_together_35 : decode cX5_together 35 = .ok (.lstore_n 3, 1) := dG_dX5_together_35.1
theorem dX5_together_36 : decode cX5_together 36 = .ok (.iinc 5 1, 3) := dG_dX5_together_35.2.1
theorem dX5_together_39 : decode cX5_together 39 = .ok (.goto (-34), 3) := dG_dX5_together_35.2.2.1
theorem dX5_together_42 : decode cX5_together 42 = .ok (.lload_n 3, 1) := dG_dX5_together_35.2.2.2.1
theorem dX5_together_43 : decode cX5_together 43 = .ok (.lreturn, 1) := dG_dX5_together_35.2.2.2.2.1
theorem dX5_pairsParted_0 : decode cX5_pairsParted 0 = .ok (.iconst 0, 1) := dG_dX5_together_35.2.2.2.2.2.1
theorem dX5_pairsParted_1 : decode cX5_pairsParted 1 = .ok (.istore_n 3, 1) := dG_dX5_together_35.2.2.2.2.2.2.1
theorem dX5_pairsParted_2 : decode cX5_pairsParted 2 = .ok (.iconst 0, 1) := dG_dX5_together_35.2.2.2.2.2.2.2.1
theorem dX5_pairsParted_3 : decode cX5_pairsParted 3 = .ok (.istore 4, 2) := dG_dX5_together_35.2.2.2.2.2.2.2.2.1
theorem dX5_pairsParted_5 : decode cX5_pairsParted 5 = .ok (.iload 4, 2) := dG_dX5_together_35.2.2.2.2.2.2.2.2.2.1
theorem dX5_pairsParted_7 : decode cX5_pairsParted 7 = .ok (.aload_n 0, 1) := dG_dX5_together_35.2.2.2.2.2.2.2.2.2.2.1
theorem dX5_pairsParted_8 : decode cX5_pairsParted 8 = .ok (.getfield 51, 3) := dG_dX5_together_35.2.2.2.2.2.2.2.2.2.2.2
theorem dG_dX5_pairsParted_11 : (decode cX5_pairsParted 11 = .ok (.getfield 157, 3)) ∧ (decode cX5_pairsParted 14 = .ok (.if_icmp .ge 72, 3)) ∧ (decode cX5_pairsParted 17 = .ok (.iconst 0, 1)) ∧ (decode cX5_pairsParted 18 = .ok (.istore 5, 2)) ∧ (decode cX5_pairsParted 20 = .ok (.iload 5, 2)) ∧ (decode cX5_pairsParted 22 = .ok (.iload 4, 2)) ∧ (decode cX5_pairsParted 24 = .ok (.if_icmp .ge 56, 3)) ∧ (decode cX5_pairsParted 27 = .ok (.aload_n 0, 1)) ∧ (decode cX5_pairsParted 28 = .ok (.getfield 51, 3)) ∧ (decode cX5_pairsParted 31 = .ok (.iload_n 1, 1)) ∧ (decode cX5_pairsParted 32 = .ok (.iload 4, 2)) ∧ (decode cX5_pairsParted 34 = .ok (.invokevirtual 166, 3)) := by decide +kernel
theorem dX5_pairsParted_11 : decode cX5_pairsParted 11 = .ok (.getfield 157, 3) := dG_dX5_pairsParted_11.1
theorem dX5_pairsParted_14 : decode cX5_pairsParted 14 = .ok (.if_icmp .ge 72, 3) := dG_dX5_pairsParted_11.2.1
theorem dX5_pairsParted_17 : decode cX5_pairsParted 17 = .ok (.iconst 0, 1) := dG_dX5_pairsParted_11.2.2.1
theorem dX5_pairsParted_18 : decode cX5_pairsParted 18 = .ok (.istore 5, 2) := dG_dX5_pairsParted_11.2.2.2.1
theorem dX5_pairsParted_20 : decode cX5_pairsParted 20 = .ok (.iload 5, 2) := dG_dX5_pairsParted_11.2.2.2.2.1
theorem dX5_pairsParted_22 : decode cX5_pairsParted 22 = .ok (.iload 4, 2) := dG_dX5_pairsParted_11.2.2.2.2.2.1
theorem dX5_pairsParted_24 : decode cX5_pairsParted 24 = .ok (.if_icmp .ge 56, 3) := dG_dX5_pairsParted_11.2.2.2.2.2.2.1
theorem dX5_pairsParted_27 : decode cX5_pairsParted 27 = .ok (.aload_n 0, 1) := dG_dX5_pairsParted_11.2.2.2.2.2.2.2.1
theorem dX5_pairsParted_28 : decode cX5_pairsParted 28 = .ok (.getfield 51, 3) := dG_dX5_pairsParted_11.2.2.2.2.2.2.2.2.1
theorem dX5_pairsParted_31 : decode cX5_pairsParted 31 = .ok (.iload_n 1, 1) := dG_dX5_pairsParted_11.2.2.2.2.2.2.2.2.2.1
theorem dX5_pairsParted_32 : decode cX5_pairsParted 32 = .ok (.iload 4, 2) := dG_dX5_pairsParted_11.2.2.2.2.2.2.2.2.2.2.1
theorem dX5_pairsParted_34 : decode cX5_pairsParted 34 = .ok (.invokevirtual 166, 3) := dG_dX5_pairsParted_11.2.2.2.2.2.2.2.2.2.2.2
theorem dG_dX5_pairsParted_37 : (decode cX5_pairsParted 37 = .ok (.ifCond .eq 37, 3)) ∧ (decode cX5_pairsParted 40 = .ok (.aload_n 0, 1)) ∧ (decode cX5_pairsParted 41 = .ok (.getfield 51, 3)) ∧ (decode cX5_pairsParted 44 = .ok (.iload_n 1, 1)) ∧ (decode cX5_pairsParted 45 = .ok (.iload 5, 2)) ∧ (decode cX5_pairsParted 47 = .ok (.invokevirtual 166, 3)) ∧ (decode cX5_pairsParted 50 = .ok (.ifCond .eq 24, 3)) ∧ (decode cX5_pairsParted 53 = .ok (.aload_n 0, 1)) ∧ (decode cX5_pairsParted 54 = .ok (.iload 4, 2)) ∧ (decode cX5_pairsParted 56 = .ok (.iload_n 2, 1)) ∧ (decode cX5_pairsParted 57 = .ok (.invokevirtual 195, 3)) ∧ (decode cX5_pairsParted 60 = .ok (.aload_n 0, 1)) := by decide +kernel
theorem dX5_pairsParted_37 : decode cX5_pairsParted 37 = .ok (.ifCond .eq 37, 3) := dG_dX5_pairsParted_37.1
theorem dX5_pairsParted_40 : decode cX5_pairsParted 40 = .ok (.aload_n 0, 1) := dG_dX5_pairsParted_37.2.1
theorem dX5_pairsParted_41 : decode cX5_pairsParted 41 = .ok (.getfield 51, 3) := dG_dX5_pairsParted_37.2.2.1
theorem dX5_pairsParted_44 : decode cX5_pairsParted 44 = .ok (.iload_n 1, 1) := dG_dX5_pairsParted_37.2.2.2.1
theorem dX5_pairsParted_45 : decode cX5_pairsParted 45 = .ok (.iload 5, 2) := dG_dX5_pairsParted_37.2.2.2.2.1
theorem dX5_pairsParted_47 : decode cX5_pairsParted 47 = .ok (.invokevirtual 166, 3) := dG_dX5_pairsParted_37.2.2.2.2.2.1
theorem dX5_pairsParted_50 : decode cX5_pairsParted 50 = .ok (.ifCond .eq 24, 3) := dG_dX5_pairsParted_37.2.2.2.2.2.2.1
theorem dX5_pairsParted_53 : decode cX5_pairsParted 53 = .ok (.aload_n 0, 1) := dG_dX5_pairsParted_37.2.2.2.2.2.2.2.1
theorem dX5_pairsParted_54 : decode cX5_pairsParted 54 = .ok (.iload 4, 2) := dG_dX5_pairsParted_37.2.2.2.2.2.2.2.2.1
theorem dX5_pairsParted_56 : decode cX5_pairsParted 56 = .ok (.iload_n 2, 1) := dG_dX5_pairsParted_37.2.2.2.2.2.2.2.2.2.1
theorem dX5_pairsParted_57 : decode cX5_pairsParted 57 = .ok (.invokevirtual 195, 3) := dG_dX5_pairsParted_37.2.2.2.2.2.2.2.2.2.2.1
theorem dX5_pairsParted_60 : decode cX5_pairsParted 60 = .ok (.aload_n 0, 1) := dG_dX5_pairsParted_37.2.2.2.2.2.2.2.2.2.2.2
theorem dG_dX5_pairsParted_61 : (decode cX5_pairsParted 61 = .ok (.iload 5, 2)) ∧ (decode cX5_pairsParted 63 = .ok (.iload_n 2, 1)) ∧ (decode cX5_pairsParted 64 = .ok (.invokevirtual 195, 3)) ∧ (decode cX5_pairsParted 67 = .ok (.lcmp, 1)) ∧ (decode cX5_pairsParted 68 = .ok (.ifCond .eq 6, 3)) ∧ (decode cX5_pairsParted 71 = .ok (.iinc 3 1, 3)) ∧ (decode cX5_pairsParted 74 = .ok (.iinc 5 1, 3)) ∧ (decode cX5_pairsParted 77 = .ok (.goto (-57), 3)) ∧ (decode cX5_pairsParted 80 = .ok (.iinc 4 1, 3)) ∧ (decode cX5_pairsParted 83 = .ok (.goto (-78), 3)) ∧ (decode cX5_pairsParted 86 = .ok (.iload_n 3, 1)) ∧ (decode cX5_pairsParted 87 = .ok (.ireturn, 1)) := by decide +kernel
theorem dX5_pairsParted_61 : decode cX5_pairsParted 61 = .ok (.iload 5, 2) := dG_dX5_pairsParted_61.1
theorem dX5_pairsParted_63 : decode cX5_pairsParted 63 = .ok (.iload_n 2, 1) := dG_dX5_pairsParted_61.2.1
theorem dX5_pairsParted_64 : decode cX5_pairsParted 64 = .ok (.invokevirtual 195, 3) := dG_dX5_pairsParted_61.2.2.1
theorem dX5_pairsParted_67 : decode cX5_pairsParted 67 = .ok (.lcmp, 1) := dG_dX5_pairsParted_61.2.2.2.1
theorem dX5_pairsParted_68 : decode cX5_pairsParted 68 = .ok (.ifCond .eq 6, 3) := dG_dX5_pairsParted_61.2.2.2.2.1
theorem dX5_pairsParted_71 : decode cX5_pairsParted 71 = .ok (.iinc 3 1, 3) := dG_dX5_pairsParted_61.2.2.2.2.2.1
theorem dX5_pairsParted_74 : decode cX5_pairsParted 74 = .ok (.iinc 5 1, 3) := dG_dX5_pairsParted_61.2.2.2.2.2.2.1
theorem dX5_pairsParted_77 : decode cX5_pairsParted 77 = .ok (.goto (-57), 3) := dG_dX5_pairsParted_61.2.2.2.2.2.2.2.1
theorem dX5_pairsParted_80 : decode cX5_pairsParted 80 = .ok (.iinc 4 1, 3) := dG_dX5_pairsParted_61.2.2.2.2.2.2.2.2.1
theorem dX5_pairsParted_83 : decode cX5_pairsParted 83 = .ok (.goto (-78), 3) := dG_dX5_pairsParted_61.2.2.2.2.2.2.2.2.2.1
theorem dX5_pairsParted_86 : decode cX5_pairsParted 86 = .ok (.iload_n 3, 1) := dG_dX5_pairsParted_61.2.2.2.2.2.2.2.2.2.2.1
theorem dX5_pairsParted_87 : decode cX5_pairsParted 87 = .ok (.ireturn, 1) := dG_dX5_pairsParted_61.2.2.2.2.2.2.2.2.2.2.2
theorem dG_dX5_bestSet_0 : (decode cX5_bestSet 0 = .ok (.iconst (-1), 1)) ∧ (decode cX5_bestSet 1 = .ok (.istore 4, 2)) ∧ (decode cX5_bestSet 3 = .ok (.iconst (-1), 1)) ∧ (decode cX5_bestSet 4 = .ok (.istore 5, 2)) ∧ (decode cX5_bestSet 6 = .ok (.iconst 1, 1)) ∧ (decode cX5_bestSet 7 = .ok (.istore 6, 2)) ∧ (decode cX5_bestSet 9 = .ok (.iload 6, 2)) ∧ (decode cX5_bestSet 11 = .ok (.iconst 1, 1)) ∧ (decode cX5_bestSet 12 = .ok (.iload_n 2, 1)) ∧ (decode cX5_bestSet 13 = .ok (.ishl, 1)) ∧ (decode cX5_bestSet 14 = .ok (.if_icmp .ge 42, 3)) ∧ (decode cX5_bestSet 17 = .ok (.iload 6, 2)) := by decide +kernel
theorem dX5_bestSet_0 : decode cX5_bestSet 0 = .ok (.iconst (-1), 1) := dG_dX5_bestSet_0.1
theorem dX5_bestSet_1 : decode cX5_bestSet 1 = .ok (.istore 4, 2) := dG_dX5_bestSet_0.2.1
theorem dX5_bestSet_3 : decode cX5_bestSet 3 = .ok (.iconst (-1), 1) := dG_dX5_bestSet_0.2.2.1
theorem dX5_bestSet_4 : decode cX5_bestSet 4 = .ok (.istore 5, 2) := dG_dX5_bestSet_0.2.2.2.1
theorem dX5_bestSet_6 : decode cX5_bestSet 6 = .ok (.iconst 1, 1) := dG_dX5_bestSet_0.2.2.2.2.1
theorem dX5_bestSet_7 : decode cX5_bestSet 7 = .ok (.istore 6, 2) := dG_dX5_bestSet_0.2.2.2.2.2.1
theorem dX5_bestSet_9 : decode cX5_bestSet 9 = .ok (.iload 6, 2) := dG_dX5_bestSet_0.2.2.2.2.2.2.1
theorem dX5_bestSet_11 : decode cX5_bestSet 11 = .ok (.iconst 1, 1) := dG_dX5_bestSet_0.2.2.2.2.2.2.2.1
theorem dX5_bestSet_12 : decode cX5_bestSet 12 = .ok (.iload_n 2, 1) := dG_dX5_bestSet_0.2.2.2.2.2.2.2.2.1
theorem dX5_bestSet_13 : decode cX5_bestSet 13 = .ok (.ishl, 1) := dG_dX5_bestSet_0.2.2.2.2.2.2.2.2.2.1
theorem dX5_bestSet_14 : decode cX5_bestSet 14 = .ok (.if_icmp .ge 42, 3) := dG_dX5_bestSet_0.2.2.2.2.2.2.2.2.2.2.1
theorem dX5_bestSet_17 : decode cX5_bestSet 17 = .ok (.iload 6, 2) := dG_dX5_bestSet_0.2.2.2.2.2.2.2.2.2.2.2
theorem dG_dX5_bestSet_19 : (decode cX5_bestSet 19 = .ok (.invokestatic 199, 3)) ∧ (decode cX5_bestSet 22 = .ok (.iload_n 3, 1)) ∧ (decode cX5_bestSet 23 = .ok (.if_icmp .ne 27, 3)) ∧ (decode cX5_bestSet 26 = .ok (.aload_n 0, 1)) ∧ (decode cX5_bestSet 27 = .ok (.iload_n 1, 1)) ∧ (decode cX5_bestSet 28 = .ok (.iload 6, 2)) ∧ (decode cX5_bestSet 30 = .ok (.invokevirtual 204, 3)) ∧ (decode cX5_bestSet 33 = .ok (.istore 7, 2)) ∧ (decode cX5_bestSet 35 = .ok (.iload 7, 2)) ∧ (decode cX5_bestSet 37 = .ok (.iload 5, 2)) ∧ (decode cX5_bestSet 39 = .ok (.if_icmp .le 11, 3)) ∧ (decode cX5_bestSet 42 = .ok (.iload 7, 2)) := by decide +kernel
theorem dX5_bestSet_19 : decode cX5_bestSet 19 = .ok (.invokestatic 199, 3) := dG_dX5_bestSet_19.1
theorem dX5_bestSet_22 : decode cX5_bestSet 22 = .ok (.iload_n 3, 1) := dG_dX5_bestSet_19.2.1
theorem dX5_bestSet_23 : decode cX5_bestSet 23 = .ok (.if_icmp .ne 27, 3) := dG_dX5_bestSet_19.2.2.1
theorem dX5_bestSet_26 : decode cX5_bestSet 26 = .ok (.aload_n 0, 1) := dG_dX5_bestSet_19.2.2.2.1
theorem dX5_bestSet_27 : decode cX5_bestSet 27 = .ok (.iload_n 1, 1) := dG_dX5_bestSet_19.2.2.2.2.1
theorem dX5_bestSet_28 : decode cX5_bestSet 28 = .ok (.iload 6, 2) := dG_dX5_bestSet_19.2.2.2.2.2.1
theorem dX5_bestSet_30 : decode cX5_bestSet 30 = .ok (.invokevirtual 204, 3) := dG_dX5_bestSet_19.2.2.2.2.2.2.1
theorem dX5_bestSet_33 : decode cX5_bestSet 33 = .ok (.istore 7, 2) := dG_dX5_bestSet_19.2.2.2.2.2.2.2.1
theorem dX5_bestSet_35 : decode cX5_bestSet 35 = .ok (.iload 7, 2) := dG_dX5_bestSet_19.2.2.2.2.2.2.2.2.1
theorem dX5_bestSet_37 : decode cX5_bestSet 37 = .ok (.iload 5, 2) := dG_dX5_bestSet_19.2.2.2.2.2.2.2.2.2.1
theorem dX5_bestSet_39 : decode cX5_bestSet 39 = .ok (.if_icmp .le 11, 3) := dG_dX5_bestSet_19.2.2.2.2.2.2.2.2.2.2.1
theorem dX5_bestSet_42 : decode cX5_bestSet 42 = .ok (.iload 7, 2) := dG_dX5_bestSet_19.2.2.2.2.2.2.2.2.2.2.2
theorem dG_dX5_bestSet_44 : (decode cX5_bestSet 44 = .ok (.istore 5, 2)) ∧ (decode cX5_bestSet 46 = .ok (.iload 6, 2)) ∧ (decode cX5_bestSet 48 = .ok (.istore 4, 2)) ∧ (decode cX5_bestSet 50 = .ok (.iinc 6 1, 3)) ∧ (decode cX5_bestSet 53 = .ok (.goto (-44), 3)) ∧ (decode cX5_bestSet 56 = .ok (.iload 4, 2)) ∧ (decode cX5_bestSet 58 = .ok (.ireturn, 1)) := by decide +kernel
theorem dX5_bestSet_44 : decode cX5_bestSet 44 = .ok (.istore 5, 2) := dG_dX5_bestSet_44.1
theorem dX5_bestSet_46 : decode cX5_bestSet 46 = .ok (.iload 6, 2) := dG_dX5_bestSet_44.2.1
theorem dX5_bestSet_48 : decode cX5_bestSet 48 = .ok (.istore 4, 2) := dG_dX5_bestSet_44.2.2.1
theorem dX5_bestSet_50 : decode cX5_bestSet 50 = .ok (.iinc 6 1, 3) := dG_dX5_bestSet_44.2.2.2.1
theorem dX5_bestSet_53 : decode cX5_bestSet 53 = .ok (.goto (-44), 3) := dG_dX5_bestSet_44.2.2.2.2.1
theorem dX5_bestSet_56 : decode cX5_bestSet 56 = .ok (.iload 4, 2) := dG_dX5_bestSet_44.2.2.2.2.2.1
theorem dX5_bestSet_58 : decode cX5_bestSet 58 = .ok (.ireturn, 1) := dG_dX5_bestSet_44.2.2.2.2.2.2
end

section
set_option maxHeartbeats 4000000 in
set_option maxRecDepth 100000 in
theorem x_Re_workRanks (l : Launch) (D : va_G) (k : Nat → ClassId) (A : Nat → Prop) (ad : Nat → Nat) (hD : rwD A k ad) (v : gV) (f g : gF) (a1 : Int) (a2 : Int) (h_a1 : inR a1) (h_a2 : inR a2) (hs : shOk (v 1) (f 1)) (h1 : 0 ≤ a1 ∧ a1 ≤ 3) (hrd : a1 < (v 1)) : GM l D k A (rwT k ad) yX5_workRanks cX5_workRanks 5 none 4 109 [.ref (ad 47), .int (iI a1), .int (iI a2)] v f g (fun r v1 f1 g1 => ∃ (a34_ : Int → Int) (a35_ : Int → Int) (a36_ : Int → Int) (a37_ : Int → Int) (a38_ : Int → Int) (a39_ : Int → Int) (a41_ : Int → Int) (b0_ : Int → Int) (b2_ : Int → Int) (b3_ : Int → Int), r = none ∧ v = v1 ∧ (va_up (va_up (va_up (va_up (va_up (va_up (va_up f 34 a34_) 35 a35_) 36 a36_) 37 a37_) 38 a38_) 39 a39_) 41 a41_) = f1 ∧ (va_up (va_up (va_up g 0 b0_) 2 b2_) 3 b3_) = g1 ∧ (∀ c, 0 ≤ c → c < (v 21) → a41_ c = rkF (kvF (f 2) (f 3) (f 4) (fun r => (f 1) (r * 4)) (v 2) (gFd (f 20) (f 21) (f 22) (f 23) (f 24) (f 25) (f 26) (f 28) (f 29) (f 30) (f 15) (f 17) (v 23) (v 24) a2)) (f 5) (v 3) (v 4) (f 18) (v 21) a1 c)) := by
  refine GM.of (by decide) (Nat.le_of_ble_eq_true rfl) ?_
  intro p e s m args below meth c Q ls hQ C hml hr hlocks hP hl
  have hx := C.1
  have hb := C.2.1
  have hok := hP.2
  have hS : va_S A s.heap s.heap [] := va_S.rf
  have hl : lv_has ls 5 [(0, .ref (ad 47)), (1, .int (iI a1)), (2, .int (iI a2))] := hl
  have hP : gWd D (rwT k ad) v (va_up (va_up (va_up (va_up (va_up (va_up (va_up f 34 (f 34)) 35 (f 35)) 36 (f 36)) 37 (f 37)) 38 (f 38)) 39 (f 39)) 41 (f 41)) (va_up (va_up (va_up g 0 (g 0)) 2 (g 2)) 3 (g 3)) s.heap := by rw [va_id, va_id, va_id, va_id, va_id, va_id, va_id, va_id, va_id, va_id]; exact hP
  have hnu : ∀ k, 0 ≤ (f 3) k ∧ (f 3) k ≤ 999999 := fun k => hok.2 3 k
  have hit : ∀ k, 0 ≤ (f 2) k ∧ (f 2) k ≤ 10 := fun k => hok.2 2 k
  have hFr : ∀ r t c i, (-2000000) ≤ gFd (f 20) (f 21) (f 22) (f 23) (f 24) (f 25) (f 26) (f 28) (f 29) (f 30) (f 15) (f 17) (v 23) (v 24) a2 r t c i ∧ gFd (f 20) (f 21) (f 22) (f 23) (f 24) (f 25) (f 26) (f 28) (f 29) (f 30) (f 15) (f 17) (v 23) (v 24) a2 r t c i ≤ 2000000 := fun r t c i => Fd_r (hok.2 25) (hok.2 29) (hok.2 24) (hok.2 23) (hok.1 23) i
  have hPr : ∀ r t c, (-1000000000) ≤ evR (f 2) (f 3) (gFd (f 20) (f 21) (f 22) (f 23) (f 24) (f 25) (f 26) (f 28) (f 29) (f 30) (f 15) (f 17) (v 23) (v 24) a2 r t c) (v 2) ∧ evR (f 2) (f 3) (gFd (f 20) (f 21) (f 22) (f 23) (f 24) (f 25) (f 26) (f 28) (f 29) (f 30) (f 15) (f 17) (v 23) (v 24) a2 r t c) (v 2) ≤ 1000000000 := fun r t c => pt_r hnu (fun k => (hit k).1) (hFr r t c)
  have r_1 : 0 ≤ (v 21) ∧ (v 21) ≤ 16 := hok.1 21
  have r_2 : 0 ≤ (v 3) ∧ (v 3) ≤ 4 := hok.1 3
  have r_3 : 0 ≤ (v 4) ∧ (v 4) ≤ 1 := hok.1 4
  refine lv_aload_n hx hb dX5_workRanks_0 rfl (lv_at hl 0 rfl) ?_
  refine lv_iload_n hx hb dX5_workRanks_1 rfl (lv_at hl 2 rfl) ?_
  refine g_cv (As := [.int (iI a2)]) (rest := []) (n := 1) C hml (x_Re_survey l D k A ad hD v (va_up (va_up (va_up (va_up (va_up (va_up (va_up f 34 (f 34)) 35 (f 35)) 36 (f 36)) 37 (f 37)) 38 (f 38)) 39 (f 39)) 41 (f 41)) (va_up (va_up (va_up g 0 (g 0)) 2 (g 2)) 3 (g 3)) a2 (by omega)) mM_X5_154 mI_X5_survey mE_X5_survey mN_X5 mC_X5_survey (by decide +kernel) 47 (ci := 5) rfl rfl hP hS (fun _ h => h) ⟨Nat.le_of_ble_eq_true rfl, Nat.le_of_ble_eq_true rfl⟩ ⟨Nat.zero_le _, Nat.zero_le _⟩ hl.1 rfl rfl (Nat.le_of_ble_eq_true rfl) dX5_workRanks_2 (fun r_4 v_4 f_4 g_4 H locs hq_4 hP _ hS => ?_)
  obtain ⟨a34_4, a35_4, a36_4, a37_4, a38_4, rfl, rfl, rfl, rfl, p0_4, p1_4⟩ := hq_4
  show W p l e (gRm 4 109) s m args below meth c _ _ 0 0 Q (F0 m 5 ls [])
  have hP : gWd D (rwT k ad) v (va_up (va_up (va_up (va_up (va_up (va_up (va_up f 34 a34_4) 35 a35_4) 36 a36_4) 37 a37_4) 38 a38_4) 39 (f 39)) 41 (f 41)) (va_up (va_up (va_up g 0 (g 0)) 2 (g 2)) 3 (g 3)) H := ⟨hP.1, (gF_up (V := rwV) (F := rwF) (gF_up (V := rwV) (F := rwF) (gF_up (V := rwV) (F := rwF) (gF_up (V := rwV) (F := rwF) (gF_up (V := rwV) (F := rwF) (gF_up (V := rwV) (F := rwF) (gF_up (V := rwV) (F := rwF) ⟨hok.1, hok.2⟩ 34 (hP.2.2 34)) 35 (hP.2.2 35)) 36 (hP.2.2 36)) 37 (hP.2.2 37)) 38 (hP.2.2 38)) 39 (hP.2.2 39)) 41 (hP.2.2 41))⟩
  replace p0_4 : svOk (f 20) (f 21) (f 22) (f 26) (Fk (f 28) (f 29) (f 30) (f 25) (v 24) a2) (v 23) a36_4 a37_4 a38_4 := p0_4
  replace p1_4 : ∀ k, 0 ≤ k → k < (v 23) → a34_4 k = (Fk (f 28) (f 29) (f 30) (f 25) (v 24) a2) k := p1_4
  have hsv := p0_4
  have hkn := p1_4
  refine lv_iconst (v := iI 0) hx hb dX5_workRanks_5 rfl ?_
  refine lv_istore_n (lv' := [(3, .int (iI 0)), (0, .ref (ad 47)), (1, .int (iI a1)), (2, .int (iI a2))]) hx hb dX5_workRanks_6 rfl hl (by decide) rfl (fun ls hl => ?_)
  have L_5 : ∀ (n : Nat) (x3 : Int) (c39_5 : Int → Int) (d0_5 : Int → Int) (d2_5 : Int → Int) (d3_5 : Int → Int) (H : Heap) (locs : List Loc) (ls : Array Slot), 16 - x3 < (n : Int) → (0 ≤ x3 ∧ x3 ≤ (v 21)) → (krOk (qG d3_5) (kvF (f 2) (f 3) (f 4) (fun r => (f 1) (r * 4)) (v 2) (gFd (f 20) (f 21) (f 22) (f 23) (f 24) (f 25) (f 26) (f 28) (f 29) (f 30) (f 15) (f 17) (v 23) (v 24) a2)) (f 18) (v 3) (v 4) a1 x3) → gWd D (rwT k ad) v (va_up (va_up (va_up (va_up (va_up (va_up (va_up f 34 a34_4) 35 a35_4) 36 a36_4) 37 a37_4) 38 a38_4) 39 c39_5) 41 (f 41)) (va_up (va_up (va_up g 0 d0_5) 2 d2_5) 3 d3_5) H → va_S A s.heap H locs → lv_has ls 5 [(0, .ref (ad 47)), (1, .int (iI a1)), (2, .int (iI a2)), (3, .int (iI x3))] → W p l e (gRm 4 109) s m args below meth c H locs 0 0 Q (F0 m 7 ls []) := by
    intro n
    induction n with
    | zero =>
      intro x3 c39_5 d0_5 d2_5 d3_5 H locs ls hn_5 i5_0 i5_1 hP hS hl
      exfalso; omega
    | succ n ih_7 =>
      intro x3 c39_5 d0_5 d2_5 d3_5 H locs ls hn_5 i5_0 i5_1 hP hS hl
      have hO := i5_1
      refine lv_iload_n hx hb dX5_workRanks_7 rfl (lv_at hl 3 rfl) ?_
      refine lv_aload_n hx hb dX5_workRanks_8 rfl (lv_at hl 0 rfl) ?_
      refine rwG_results_field C hP mF_X5_51 dX5_workRanks_9 ?_
      refine rwG_field_climbers C hP mF_X5_157 dX5_workRanks_12 ?_
      refine gi_cge (tgt := 62) hx hb dX5_workRanks_15 (by decide) (by omega) (by omega) (fun c_6 => ?_) (fun c_6 => ?_)
      · have hOf : krOk (qG d3_5) (kvF (f 2) (f 3) (f 4) (fun r => (f 1) (r * 4)) (v 2) (gFd (f 20) (f 21) (f 22) (f 23) (f 24) (f 25) (f 26) (f 28) (f 29) (f 30) (f 15) (f 17) (v 23) (v 24) a2)) (f 18) (v 3) (v 4) a1 (v 21) := by rw [show (v 21) = x3 by omega]; exact hO
        refine lv_iconst (v := iI 0) hx hb dX5_workRanks_62 rfl ?_
        refine lv_istore_n (lv' := [(3, .int (iI 0)), (0, .ref (ad 47)), (1, .int (iI a1)), (2, .int (iI a2))]) hx hb dX5_workRanks_63 rfl hl (by decide) rfl (fun ls hl => ?_)
        have L_7 : ∀ (n : Nat) (x3 : Int) (c41_7 : Int → Int) (H : Heap) (locs : List Loc) (ls : Array Slot), 16 - x3 < (n : Int) → (0 ≤ x3 ∧ x3 ≤ (v 21)) → (∀ c, 0 ≤ c → c < x3 → c41_7 c = rkF (kvF (f 2) (f 3) (f 4) (fun r => (f 1) (r * 4)) (v 2) (gFd (f 20) (f 21) (f 22) (f 23) (f 24) (f 25) (f 26) (f 28) (f 29) (f 30) (f 15) (f 17) (v 23) (v 24) a2)) (f 5) (v 3) (v 4) (f 18) (v 21) a1 c) → gWd D (rwT k ad) v (va_up (va_up (va_up (va_up (va_up (va_up (va_up f 34 a34_4) 35 a35_4) 36 a36_4) 37 a37_4) 38 a38_4) 39 c39_5) 41 c41_7) (va_up (va_up (va_up g 0 d0_5) 2 d2_5) 3 d3_5) H → va_S A s.heap H locs → lv_has ls 5 [(0, .ref (ad 47)), (1, .int (iI a1)), (2, .int (iI a2)), (3, .int (iI x3))] → W p l e (gRm 4 109) s m args below meth c H locs 0 0 Q (F0 m 64 ls []) := by
          intro n
          induction n with
          | zero =>
            intro x3 c41_7 H locs ls hn_7 i7_0 i7_1 hP hS hl
            exfalso; omega
          | succ n ih_64 =>
            intro x3 c41_7 H locs ls hn_7 i7_0 i7_1 hP hS hl
            have hK := i7_1
            refine lv_iload_n hx hb dX5_workRanks_64 rfl (lv_at hl 3 rfl) ?_
            refine lv_aload_n hx hb dX5_workRanks_65 rfl (lv_at hl 0 rfl) ?_
            refine rwG_results_field C hP mF_X5_51 dX5_workRanks_66 ?_
            refine rwG_field_climbers C hP mF_X5_157 dX5_workRanks_69 ?_
            refine gi_cge (tgt := 111) hx hb dX5_workRanks_72 (by decide) (by omega) (by omega) (fun c_8 => ?_) (fun c_8 => ?_)
            · exact g_vret hQ C hr hlocks hP hS dX5_workRanks_111 ⟨a34_4, a35_4, a36_4, a37_4, a38_4, c39_5, c41_7, d0_5, d2_5, d3_5, rfl, rfl, rfl, rfl, (fun c h0 h1 => hK c h0 (by omega))⟩
            · refine lv_aload_n hx hb dX5_workRanks_75 rfl (lv_at hl 0 rfl) ?_
              refine rwG_results_ranks C hP mF_X5_40 dX5_workRanks_76 ?_
              refine lv_iload_n hx hb dX5_workRanks_79 rfl (lv_at hl 3 rfl) ?_
              refine lv_aload_n hx hb dX5_workRanks_80 rfl (lv_at hl 0 rfl) ?_
              refine rwG_results_field C hP mF_X5_51 dX5_workRanks_81 ?_
              refine lv_iload_n hx hb dX5_workRanks_84 rfl (lv_at hl 1 rfl) ?_
              refine lv_iload_n hx hb dX5_workRanks_85 rfl (lv_at hl 3 rfl) ?_
              refine g_cv (As := [.int (iI a1), .int (iI x3)]) (rest := [.int (iI x3), .ref (ad 57)]) (n := 2) C hml (c_X2_isIn l D k A ad hD v (va_up (va_up (va_up (va_up (va_up (va_up (va_up f 34 a34_4) 35 a35_4) 36 a36_4) 37 a37_4) 38 a38_4) 39 c39_5) 41 c41_7) (va_up (va_up (va_up g 0 d0_5) 2 d2_5) 3 d3_5) a1 x3 (by omega) (by omega)) mM_X5_166 mI_X2_isIn mE_X2_isIn mN_X2 mC_X2_isIn (by decide +kernel) 27 (ci := 2) rfl rfl hP hS (fun _ h => h) ⟨Nat.le_of_ble_eq_true rfl, Nat.le_of_ble_eq_true rfl⟩ ⟨Nat.zero_le _, Nat.zero_le _⟩ hl.1 rfl rfl (Nat.le_of_ble_eq_true rfl) dX5_workRanks_86 (fun r_9 v_9 f_9 g_9 H locs hq_9 hP _ hS => ?_)
              obtain ⟨z_9, rfl, rfl, rfl, rfl, p0_9⟩ := hq_9
              show W p l e (gRm 4 109) s m args below meth c _ _ 0 0 Q (F0 m 89 ls [.int (iI z_9), .int (iI x3), .ref (ad 57)])
              replace p0_9 : z_9 = (if (0 ≤ x3 ∧ x3 < (v 21)) ∧ a1 ≤ (f 18) x3 then 1 else 0) := p0_9
              have w_9 := gif (P := (0 ≤ x3 ∧ x3 < (v 21)) ∧ a1 ≤ (f 18) x3) p0_9
              clear p0_9
              have hz_9 : inR z_9 := (by first | omega | (rw [p0_9]; split <;> omega))
              refine gi_zeq (tgt := 103) hx hb dX5_workRanks_89 (by decide) (by omega) (fun c_10 => ?_) (fun c_10 => ?_)
              · have vz_9 := gif0 w_9 c_10
                clear w_9
                refine lv_iconst (v := iI (-1)) hx hb dX5_workRanks_103 rfl ?_
                refine rwS_results_ranks (f1 := (va_up (va_up (va_up (va_up (va_up (va_up (va_up f 34 a34_4) 35 a35_4) 36 a36_4) 37 a37_4) 38 a38_4) 39 c39_5) 41 (u1 c41_7 x3 (-1)))) C hP hD hS (by omega) (by omega) (by decide) rfl (Or.inr (gF_up (V := rwV) (F := rwF) (gF_up (V := rwV) (F := rwF) (gF_up (V := rwV) (F := rwF) (gF_up (V := rwV) (F := rwF) (gF_up (V := rwV) (F := rwF) (gF_up (V := rwV) (F := rwF) (gF_up (V := rwV) (F := rwF) ⟨hok.1, hok.2⟩ 34 (hP.2.2 34)) 35 (hP.2.2 35)) 36 (hP.2.2 36)) 37 (hP.2.2 37)) 38 (hP.2.2 38)) 39 (hP.2.2 39)) 41 (u1_rng (hP.2.2 41) (show (-1) ≤ (-1) ∧ (-1) ≤ 17 from (by decide))))) dX5_workRanks_104 (fun H locs hP hS => ?_)
                refine lv_iinc (v := iI (x3 + 1)) (lv' := [(3, .int (iI (x3 + 1))), (0, .ref (ad 47)), (1, .int (iI a1)), (2, .int (iI a2))]) hx hb dX5_workRanks_105 hl (k := 3) rfl (by show iI _ + iI 1 = _; rw [iI_add]) (by decide) rfl (fun ls hl => ?_)
                refine lv_goto (tgt := 64) hx hb dX5_workRanks_108 (by decide) ?_
                exact ih_64 (x3 + 1) (u1 c41_7 x3 (-1)) _ _ _ (by omega) (by omega) (rk_s (K := rkF (kvF (f 2) (f 3) (f 4) (fun r => (f 1) (r * 4)) (v 2) (gFd (f 20) (f 21) (f 22) (f 23) (f 24) (f 25) (f 26) (f 28) (f 29) (f 30) (f 15) (f 17) (v 23) (v 24) a2)) (f 5) (v 3) (v 4) (f 18) (v 21) a1) hK (by unfold rkF; first | (rw [if_neg (by omega)]) | (rw [if_pos (by omega), ← rk_eq hOf (by omega) (by omega) (by omega), hma]))) hP hS (lv_sub hl [1, 2, 3, 0] rfl)
              · have vz_9 := gif1 w_9 c_10
                clear w_9
                refine lv_iconst (v := iI 1) hx hb dX5_workRanks_92 rfl ?_
                refine lv_aload_n hx hb dX5_workRanks_93 rfl (lv_at hl 0 rfl) ?_
                refine lv_iload_n hx hb dX5_workRanks_94 rfl (lv_at hl 1 rfl) ?_
                refine lv_iload_n hx hb dX5_workRanks_95 rfl (lv_at hl 3 rfl) ?_
                refine g_cv (As := [.int (iI a1), .int (iI x3)]) (rest := [.int (iI 1), .int (iI x3), .ref (ad 57)]) (n := 2) C hml (x_Re_manyAhead l D k A ad hD v (va_up (va_up (va_up (va_up (va_up (va_up (va_up f 34 a34_4) 35 a35_4) 36 a36_4) 37 a37_4) 38 a38_4) 39 c39_5) 41 c41_7) (va_up (va_up (va_up g 0 d0_5) 2 d2_5) 3 d3_5) a1 x3 (by omega) (by omega) (show 0 ≤ a1 ∧ a1 ≤ 3 from by omega) (show 0 ≤ x3 ∧ x3 ≤ 15 from by omega) (show x3 < (v 21) ∧ a1 ≤ (f 18) x3 from ⟨by omega, by omega⟩) (show ∀ c, 0 ≤ c → c < (v 21) → a1 ≤ (f 18) c → ∀ r k, 0 ≤ r → r ≤ a1 → ((v 4) = 0 → r = a1) → 0 ≤ k → k < (v 3) → ((-5000000000) ≤ (qG d3_5) r c k ∧ (qG d3_5) r c k ≤ 5000000000) from fun c c0 c1 c2 r k r0 r1 rb k0 k1 => by rw [hOf c c0 c1 c2 r k r0 (by omega) rb k0 k1]; exact kV_r hPr hFr (by show (f 1) (r * 4) ≤ 5; have := (hs r r0 (by omega)).1; omega))) mM_X5_174 mI_X5_manyAhead mE_X5_manyAhead mN_X5 mC_X5_manyAhead (by decide +kernel) 47 (ci := 5) rfl rfl hP hS (fun _ h => h) ⟨Nat.le_of_ble_eq_true rfl, Nat.le_of_ble_eq_true rfl⟩ ⟨Nat.zero_le _, Nat.zero_le _⟩ hl.1 rfl rfl (Nat.le_of_ble_eq_true rfl) dX5_workRanks_96 (fun r_11 v_11 f_11 g_11 H locs hq_11 hP _ hS => ?_)
                obtain ⟨z_11, rfl, rfl, rfl, rfl, p0_11, p1_11⟩ := hq_11
                show W p l e (gRm 4 109) s m args below meth c _ _ 0 0 Q (F0 m 99 ls [.int (iI z_11), .int (iI 1), .int (iI x3), .ref (ad 57)])
                replace p0_11 : z_11 = (cn (pAh (qG d3_5) (f 5) (v 3) (v 4) (f 18) a1 x3) (v 21).toNat) := p0_11
                replace p1_11 : 0 ≤ z_11 ∧ z_11 ≤ 16 := p1_11
                have hz_11 : inR z_11 := (by first | omega | (rw [p0_11]; split <;> omega))
                have hma := p0_11
                refine gi_add (z := (1 + z_11)) hx hb dX5_workRanks_99 rfl ?_
                refine lv_goto (tgt := 104) hx hb dX5_workRanks_100 (by decide) ?_
                refine rwS_results_ranks (f1 := (va_up (va_up (va_up (va_up (va_up (va_up (va_up f 34 a34_4) 35 a35_4) 36 a36_4) 37 a37_4) 38 a38_4) 39 c39_5) 41 (u1 c41_7 x3 (1 + z_11)))) C hP hD hS (by omega) (by omega) (by omega) rfl (Or.inr (gF_up (V := rwV) (F := rwF) (gF_up (V := rwV) (F := rwF) (gF_up (V := rwV) (F := rwF) (gF_up (V := rwV) (F := rwF) (gF_up (V := rwV) (F := rwF) (gF_up (V := rwV) (F := rwF) (gF_up (V := rwV) (F := rwF) ⟨hok.1, hok.2⟩ 34 (hP.2.2 34)) 35 (hP.2.2 35)) 36 (hP.2.2 36)) 37 (hP.2.2 37)) 38 (hP.2.2 38)) 39 (hP.2.2 39)) 41 (u1_rng (hP.2.2 41) (show (-1) ≤ (1 + z_11) ∧ (1 + z_11) ≤ 17 from (by omega))))) dX5_workRanks_104 (fun H locs hP hS => ?_)
                refine lv_iinc (v := iI (x3 + 1)) (lv' := [(3, .int (iI (x3 + 1))), (0, .ref (ad 47)), (1, .int (iI a1)), (2, .int (iI a2))]) hx hb dX5_workRanks_105 hl (k := 3) rfl (by show iI _ + iI 1 = _; rw [iI_add]) (by decide) rfl (fun ls hl => ?_)
                refine lv_goto (tgt := 64) hx hb dX5_workRanks_108 (by decide) ?_
                exact ih_64 (x3 + 1) (u1 c41_7 x3 (1 + z_11)) _ _ _ (by omega) (by omega) (rk_s (K := rkF (kvF (f 2) (f 3) (f 4) (fun r => (f 1) (r * 4)) (v 2) (gFd (f 20) (f 21) (f 22) (f 23) (f 24) (f 25) (f 26) (f 28) (f 29) (f 30) (f 15) (f 17) (v 23) (v 24) a2)) (f 5) (v 3) (v 4) (f 18) (v 21) a1) hK (by unfold rkF; first | (rw [if_neg (by omega)]) | (rw [if_pos (by omega), ← rk_eq hOf (by omega) (by omega) (by omega), hma]))) hP hS (lv_sub hl [1, 2, 3, 0] rfl)
        exact L_7 17 0 (f 41) _ _ _ (by omega) (by omega) (fun c h0 h1 => by omega) hP hS (lv_sub hl [1, 2, 3, 0] rfl)
      · refine lv_aload_n hx hb dX5_workRanks_18 rfl (lv_at hl 0 rfl) ?_
        refine lv_iload_n hx hb dX5_workRanks_19 rfl (lv_at hl 1 rfl) ?_
        refine g_cv (As := [.int (iI a1)]) (rest := []) (n := 1) C hml (c_X5_lowestAsked l D k A ad hD v (va_up (va_up (va_up (va_up (va_up (va_up (va_up f 34 a34_4) 35 a35_4) 36 a36_4) 37 a37_4) 38 a38_4) 39 c39_5) 41 (f 41)) (va_up (va_up (va_up g 0 d0_5) 2 d2_5) 3 d3_5) a1 (by omega) (show 0 ≤ a1 from by omega)) mM_X5_162 mI_X5_lowestAsked mE_X5_lowestAsked mN_X5 mC_X5_lowestAsked (by decide +kernel) 47 (ci := 5) rfl rfl hP hS (fun _ h => h) ⟨Nat.le_of_ble_eq_true rfl, Nat.le_of_ble_eq_true rfl⟩ ⟨Nat.zero_le _, Nat.zero_le _⟩ hl.1 rfl rfl (Nat.le_of_ble_eq_true rfl) dX5_workRanks_20 (fun r_12 v_12 f_12 g_12 H locs hq_12 hP _ hS => ?_)
        obtain ⟨z_12, rfl, rfl, rfl, rfl, p0_12, p1_12⟩ := hq_12
        show W p l e (gRm 4 109) s m args below meth c _ _ 0 0 Q (F0 m 23 ls [.int (iI z_12)])
        replace p0_12 : z_12 = (if (v 4) = 0 then a1 else 0) := p0_12
        replace p1_12 : 0 ≤ z_12 ∧ z_12 ≤ a1 := p1_12
        have hz_12 : inR z_12 := (by first | omega | (rw [p0_12]; split <;> omega))
        refine lv_istore (lv' := [(4, .int (iI z_12)), (0, .ref (ad 47)), (1, .int (iI a1)), (2, .int (iI a2)), (3, .int (iI x3))]) hx hb dX5_workRanks_23 hl (by decide) rfl (fun ls hl => ?_)
        have L_13 : ∀ (n : Nat) (x4 : Int) (c39_13 : Int → Int) (d0_13 : Int → Int) (d2_13 : Int → Int) (d3_13 : Int → Int) (H : Heap) (locs : List Loc) (ls : Array Slot), a1 + 1 - x4 < (n : Int) → (0 ≤ x4 ∧ x4 ≤ a1 + 1) → ((v 4) = 0 → a1 ≤ x4) → (krOk (qG d3_13) (kvF (f 2) (f 3) (f 4) (fun r => (f 1) (r * 4)) (v 2) (gFd (f 20) (f 21) (f 22) (f 23) (f 24) (f 25) (f 26) (f 28) (f 29) (f 30) (f 15) (f 17) (v 23) (v 24) a2)) (f 18) (v 3) (v 4) a1 x3) → (krC (qG d3_13) (kvF (f 2) (f 3) (f 4) (fun r => (f 1) (r * 4)) (v 2) (gFd (f 20) (f 21) (f 22) (f 23) (f 24) (f 25) (f 26) (f 28) (f 29) (f 30) (f 15) (f 17) (v 23) (v 24) a2)) (v 3) (v 4) a1 x3 x4) → gWd D (rwT k ad) v (va_up (va_up (va_up (va_up (va_up (va_up (va_up f 34 a34_4) 35 a35_4) 36 a36_4) 37 a37_4) 38 a38_4) 39 c39_13) 41 (f 41)) (va_up (va_up (va_up g 0 d0_13) 2 d2_13) 3 d3_13) H → va_S A s.heap H locs → lv_has ls 5 [(0, .ref (ad 47)), (1, .int (iI a1)), (2, .int (iI a2)), (3, .int (iI x3)), (4, .int (iI x4))] → W p l e (gRm 4 109) s m args below meth c H locs 0 0 Q (F0 m 25 ls []) := by
          intro n
          induction n with
          | zero =>
            intro x4 c39_13 d0_13 d2_13 d3_13 H locs ls hn_13 i13_0 i13_1 i13_2 i13_3 hP hS hl
            exfalso; omega
          | succ n ih_25 =>
            intro x4 c39_13 d0_13 d2_13 d3_13 H locs ls hn_13 i13_0 i13_1 i13_2 i13_3 hP hS hl
            have hO2 := i13_2
            have hC2 := i13_3
            refine lv_iload hx hb dX5_workRanks_25 (lv_at hl 4 rfl) ?_
            refine lv_iload_n hx hb dX5_workRanks_27 rfl (lv_at hl 1 rfl) ?_
            refine gi_cgt (tgt := 56) hx hb dX5_workRanks_28 (by decide) (by omega) (by omega) (fun c_14 => ?_) (fun c_14 => ?_)
            · refine lv_iinc (v := iI (x3 + 1)) (lv' := [(3, .int (iI (x3 + 1))), (0, .ref (ad 47)), (1, .int (iI a1)), (2, .int (iI a2)), (4, .int (iI x4))]) hx hb dX5_workRanks_56 hl (k := 3) rfl (by show iI _ + iI 1 = _; rw [iI_add]) (by decide) rfl (fun ls hl => ?_)
              refine lv_goto (tgt := 7) hx hb dX5_workRanks_59 (by decide) ?_
              exact ih_7 (x3 + 1) c39_13 d0_13 d2_13 d3_13 _ _ _ (by omega) (by omega) (krOk_s hO2 (fun h => by first | (exfalso; omega) | (have h9 := hC2; rw [show x4 = a1 + 1 by omega] at h9; exact h9))) hP hS (lv_sub hl [1, 2, 3, 0] rfl)
            · refine lv_aload_n hx hb dX5_workRanks_31 rfl (lv_at hl 0 rfl) ?_
              refine rwG_results_field C hP mF_X5_51 dX5_workRanks_32 ?_
              refine lv_iload_n hx hb dX5_workRanks_35 rfl (lv_at hl 1 rfl) ?_
              refine lv_iload_n hx hb dX5_workRanks_36 rfl (lv_at hl 3 rfl) ?_
              refine g_cv (As := [.int (iI a1), .int (iI x3)]) (rest := []) (n := 2) C hml (c_X2_isIn l D k A ad hD v (va_up (va_up (va_up (va_up (va_up (va_up (va_up f 34 a34_4) 35 a35_4) 36 a36_4) 37 a37_4) 38 a38_4) 39 c39_13) 41 (f 41)) (va_up (va_up (va_up g 0 d0_13) 2 d2_13) 3 d3_13) a1 x3 (by omega) (by omega)) mM_X5_166 mI_X2_isIn mE_X2_isIn mN_X2 mC_X2_isIn (by decide +kernel) 27 (ci := 2) rfl rfl hP hS (fun _ h => h) ⟨Nat.le_of_ble_eq_true rfl, Nat.le_of_ble_eq_true rfl⟩ ⟨Nat.zero_le _, Nat.zero_le _⟩ hl.1 rfl rfl (Nat.le_of_ble_eq_true rfl) dX5_workRanks_37 (fun r_15 v_15 f_15 g_15 H locs hq_15 hP _ hS => ?_)
              obtain ⟨z_15, rfl, rfl, rfl, rfl, p0_15⟩ := hq_15
              show W p l e (gRm 4 109) s m args below meth c _ _ 0 0 Q (F0 m 40 ls [.int (iI z_15)])
              replace p0_15 : z_15 = (if (0 ≤ x3 ∧ x3 < (v 21)) ∧ a1 ≤ (f 18) x3 then 1 else 0) := p0_15
              have w_15 := gif (P := (0 ≤ x3 ∧ x3 < (v 21)) ∧ a1 ≤ (f 18) x3) p0_15
              clear p0_15
              have hz_15 : inR z_15 := (by first | omega | (rw [p0_15]; split <;> omega))
              refine gi_zeq (tgt := 56) hx hb dX5_workRanks_40 (by decide) (by omega) (fun c_16 => ?_) (fun c_16 => ?_)
              · have vz_15 := gif0 w_15 c_16
                clear w_15
                refine lv_iinc (v := iI (x3 + 1)) (lv' := [(3, .int (iI (x3 + 1))), (0, .ref (ad 47)), (1, .int (iI a1)), (2, .int (iI a2)), (4, .int (iI x4))]) hx hb dX5_workRanks_56 hl (k := 3) rfl (by show iI _ + iI 1 = _; rw [iI_add]) (by decide) rfl (fun ls hl => ?_)
                refine lv_goto (tgt := 7) hx hb dX5_workRanks_59 (by decide) ?_
                exact ih_7 (x3 + 1) c39_13 d0_13 d2_13 d3_13 _ _ _ (by omega) (by omega) (krOk_s hO2 (fun h => by first | (exfalso; omega) | (have h9 := hC2; rw [show x4 = a1 + 1 by omega] at h9; exact h9))) hP hS (lv_sub hl [1, 2, 3, 0] rfl)
              · have vz_15 := gif1 w_15 c_16
                clear w_15
                refine lv_aload_n hx hb dX5_workRanks_43 rfl (lv_at hl 0 rfl) ?_
                refine lv_iload hx hb dX5_workRanks_44 (lv_at hl 4 rfl) ?_
                refine lv_iload_n hx hb dX5_workRanks_46 rfl (lv_at hl 3 rfl) ?_
                refine g_cv (As := [.int (iI x4), .int (iI x3)]) (rest := []) (n := 2) C hml (x_Re_workKeys l D k A ad hD v (va_up (va_up (va_up (va_up (va_up (va_up (va_up f 34 a34_4) 35 a35_4) 36 a36_4) 37 a37_4) 38 a38_4) 39 c39_13) 41 (f 41)) (va_up (va_up (va_up g 0 d0_13) 2 d2_13) 3 d3_13) x4 x3 a2 (by omega) (by omega) (show shOk (v 1) (f 1) from hs) (show 0 ≤ x4 ∧ x4 ≤ 3 from by omega) (show 0 ≤ x3 ∧ x3 ≤ 15 from by omega) (show x4 < (v 1) from by omega) (show svOk (f 20) (f 21) (f 22) (f 26) (Fk (f 28) (f 29) (f 30) (f 25) (v 24) a2) (v 23) a36_4 a37_4 a38_4 from hsv) (show ∀ k, 0 ≤ k → k < (v 23) → a34_4 k = (Fk (f 28) (f 29) (f 30) (f 25) (v 24) a2) k from hkn)) mM_X5_170 mI_X5_workKeys mE_X5_workKeys mN_X5 mC_X5_workKeys (by decide +kernel) 47 (ci := 5) rfl rfl hP hS (fun _ h => h) ⟨Nat.le_of_ble_eq_true rfl, Nat.le_of_ble_eq_true rfl⟩ ⟨Nat.zero_le _, Nat.zero_le _⟩ hl.1 rfl rfl (Nat.le_of_ble_eq_true rfl) dX5_workRanks_47 (fun r_17 v_17 f_17 g_17 H locs hq_17 hP _ hS => ?_)
                obtain ⟨a39_17, b0_17, b2_17, b3_17, rfl, rfl, rfl, rfl, p0_17, p1_17⟩ := hq_17
                show W p l e (gRm 4 109) s m args below meth c _ _ 0 0 Q (F0 m 50 ls [])
                have hP : gWd D (rwT k ad) v (va_up (va_up (va_up (va_up (va_up (va_up (va_up f 34 a34_4) 35 a35_4) 36 a36_4) 37 a37_4) 38 a38_4) 39 a39_17) 41 (f 41)) (va_up (va_up (va_up g 0 b0_17) 2 b2_17) 3 b3_17) H := ⟨hP.1, (gF_up (V := rwV) (F := rwF) (gF_up (V := rwV) (F := rwF) (gF_up (V := rwV) (F := rwF) (gF_up (V := rwV) (F := rwF) (gF_up (V := rwV) (F := rwF) (gF_up (V := rwV) (F := rwF) (gF_up (V := rwV) (F := rwF) ⟨hok.1, hok.2⟩ 34 (hP.2.2 34)) 35 (hP.2.2 35)) 36 (hP.2.2 36)) 37 (hP.2.2 37)) 38 (hP.2.2 38)) 39 (hP.2.2 39)) 41 (hP.2.2 41))⟩
                replace p0_17 : ∀ j, 0 ≤ j → j < (v 3) → b3_17 ((x4 * 16 + x3) * 4 + j) = kV (f 2) (f 3) (v 2) (gFd (f 20) (f 21) (f 22) (f 23) (f 24) (f 25) (f 26) (f 28) (f 29) (f 30) (f 15) (f 17) (v 23) (v 24) a2) ((f 1) (x4 * 4)) ((f 4) j) x4 x3 := p0_17
                replace p1_17 : ∀ e, e < (x4 * 16 + x3) * 4 ∨ (x4 * 16 + x3) * 4 + 4 ≤ e → b3_17 e = d3_13 e := p1_17
                have hW0 := p0_17
                have hW1 := p1_17
                refine lv_iinc (v := iI (x4 + 1)) (lv' := [(4, .int (iI (x4 + 1))), (0, .ref (ad 47)), (1, .int (iI a1)), (2, .int (iI a2)), (3, .int (iI x3))]) hx hb dX5_workRanks_50 hl (k := 4) rfl (by show iI _ + iI 1 = _; rw [iI_add]) (by decide) rfl (fun ls hl => ?_)
                refine lv_goto (tgt := 25) hx hb dX5_workRanks_53 (by decide) ?_
                exact ih_25 (x4 + 1) a39_17 b0_17 b2_17 b3_17 _ _ _ (by omega) (by omega) (by omega) (krOk_keep hO2 (by omega) (by omega) hW1) (krC_s hC2 (by omega) hW0 hW1) hP hS (lv_sub hl [1, 2, 3, 4, 0] rfl)
        exact L_13 5 z_12 c39_5 d0_5 d2_5 d3_5 _ _ _ (by omega) (by omega) (by omega) hO (krC_0 (by omega) (by omega) (by omega)) hP hS (lv_sub hl [1, 2, 3, 4, 0] rfl)
  exact L_5 17 0 (f 39) (g 0) (g 2) (g 3) _ _ _ (by omega) (by omega) krOk_0 hP hS (lv_sub hl [1, 2, 3, 0] rfl)

set_option maxHeartbeats 4000000 in
set_option maxRecDepth 100000 in
theorem x_Re_workPoints (l : Launch) (D : va_G) (k : Nat → ClassId) (A : Nat → Prop) (ad : Nat → Nat) (hD : rwD A k ad) (v : gV) (f g : gF) (a1 : Int) (a2 : Int) (h_a1 : inR a1) (h_a2 : inR a2) (hs : shOk (v 1) (f 1)) (h1 : 0 ≤ a1 ∧ a1 ≤ 3) (hrd : a1 < (v 1)) : GM l D k A (rwT k ad) yX5_workPoints cX5_workPoints 5 none 3 85 [.ref (ad 47), .int (iI a1), .int (iI a2)] v f g (fun r v1 f1 g1 => ∃ (a34_ : Int → Int) (a35_ : Int → Int) (a36_ : Int → Int) (a37_ : Int → Int) (a38_ : Int → Int) (a39_ : Int → Int) (a40_ : Int → Int) (b0_ : Int → Int), r = none ∧ v = v1 ∧ (va_up (va_up (va_up (va_up (va_up (va_up (va_up f 34 a34_) 35 a35_) 36 a36_) 37 a37_) 38 a38_) 39 a39_) 40 a40_) = f1 ∧ (va_up g 0 b0_) = g1 ∧ (ptOk a40_ (fun c t => evR (f 2) (f 3) (gFd (f 20) (f 21) (f 22) (f 23) (f 24) (f 25) (f 26) (f 28) (f 29) (f 30) (f 15) (f 17) (v 23) (v 24) a2 a1 t c) (v 2)) (v 21) ((f 1) (a1 * 4)))) := by
  refine GM.of (by decide) (Nat.le_of_ble_eq_true rfl) ?_
  intro p e s m args below meth c Q ls hQ C hml hr hlocks hP hl
  have hx := C.1
  have hb := C.2.1
  have hok := hP.2
  have hS : va_S A s.heap s.heap [] := va_S.rf
  have hl : lv_has ls 5 [(0, .ref (ad 47)), (1, .int (iI a1)), (2, .int (iI a2))] := hl
  have hP : gWd D (rwT k ad) v (va_up (va_up (va_up (va_up (va_up (va_up (va_up f 34 (f 34)) 35 (f 35)) 36 (f 36)) 37 (f 37)) 38 (f 38)) 39 (f 39)) 40 (f 40)) (va_up g 0 (g 0)) s.heap := by rw [va_id, va_id, va_id, va_id, va_id, va_id, va_id, va_id]; exact hP
  have hnu : ∀ k, 0 ≤ (f 3) k ∧ (f 3) k ≤ 999999 := fun k => hok.2 3 k
  have hit : ∀ k, 0 ≤ (f 2) k ∧ (f 2) k ≤ 10 := fun k => hok.2 2 k
  have hFr : ∀ r t c i, (-2000000) ≤ gFd (f 20) (f 21) (f 22) (f 23) (f 24) (f 25) (f 26) (f 28) (f 29) (f 30) (f 15) (f 17) (v 23) (v 24) a2 r t c i ∧ gFd (f 20) (f 21) (f 22) (f 23) (f 24) (f 25) (f 26) (f 28) (f 29) (f 30) (f 15) (f 17) (v 23) (v 24) a2 r t c i ≤ 2000000 := fun r t c i => Fd_r (hok.2 25) (hok.2 29) (hok.2 24) (hok.2 23) (hok.1 23) i
  have hPr : ∀ r t c, (-1000000000) ≤ evR (f 2) (f 3) (gFd (f 20) (f 21) (f 22) (f 23) (f 24) (f 25) (f 26) (f 28) (f 29) (f 30) (f 15) (f 17) (v 23) (v 24) a2 r t c) (v 2) ∧ evR (f 2) (f 3) (gFd (f 20) (f 21) (f 22) (f 23) (f 24) (f 25) (f 26) (f 28) (f 29) (f 30) (f 15) (f 17) (v 23) (v 24) a2 r t c) (v 2) ≤ 1000000000 := fun r t c => pt_r hnu (fun k => (hit k).1) (hFr r t c)
  have hRR := (hs a1 (by omega) (by omega)).1
  have r_1 : 0 ≤ (v 21) ∧ (v 21) ≤ 16 := hok.1 21
  refine lv_aload_n hx hb dX5_workPoints_0 rfl (lv_at hl 0 rfl) ?_
  refine lv_iload_n hx hb dX5_workPoints_1 rfl (lv_at hl 2 rfl) ?_
  refine g_cv (As := [.int (iI a2)]) (rest := []) (n := 1) C hml (x_Re_survey l D k A ad hD v (va_up (va_up (va_up (va_up (va_up (va_up (va_up f 34 (f 34)) 35 (f 35)) 36 (f 36)) 37 (f 37)) 38 (f 38)) 39 (f 39)) 40 (f 40)) (va_up g 0 (g 0)) a2 (by omega)) mM_X5_154 mI_X5_survey mE_X5_survey mN_X5 mC_X5_survey (by decide +kernel) 47 (ci := 5) rfl rfl hP hS (fun _ h => h) ⟨Nat.le_of_ble_eq_true rfl, Nat.le_of_ble_eq_true rfl⟩ ⟨Nat.zero_le _, Nat.zero_le _⟩ hl.1 rfl rfl (Nat.le_of_ble_eq_true rfl) dX5_workPoints_2 (fun r_2 v_2 f_2 g_2 H locs hq_2 hP _ hS => ?_)
  obtain ⟨a34_2, a35_2, a36_2, a37_2, a38_2, rfl, rfl, rfl, rfl, p0_2, p1_2⟩ := hq_2
  show W p l e (gRm 3 85) s m args below meth c _ _ 0 0 Q (F0 m 5 ls [])
  have hP : gWd D (rwT k ad) v (va_up (va_up (va_up (va_up (va_up (va_up (va_up f 34 a34_2) 35 a35_2) 36 a36_2) 37 a37_2) 38 a38_2) 39 (f 39)) 40 (f 40)) (va_up g 0 (g 0)) H := ⟨hP.1, (gF_up (V := rwV) (F := rwF) (gF_up (V := rwV) (F := rwF) (gF_up (V := rwV) (F := rwF) (gF_up (V := rwV) (F := rwF) (gF_up (V := rwV) (F := rwF) (gF_up (V := rwV) (F := rwF) (gF_up (V := rwV) (F := rwF) ⟨hok.1, hok.2⟩ 34 (hP.2.2 34)) 35 (hP.2.2 35)) 36 (hP.2.2 36)) 37 (hP.2.2 37)) 38 (hP.2.2 38)) 39 (hP.2.2 39)) 40 (hP.2.2 40))⟩
  replace p0_2 : svOk (f 20) (f 21) (f 22) (f 26) (Fk (f 28) (f 29) (f 30) (f 25) (v 24) a2) (v 23) a36_2 a37_2 a38_2 := p0_2
  replace p1_2 : ∀ k, 0 ≤ k → k < (v 23) → a34_2 k = (Fk (f 28) (f 29) (f 30) (f 25) (v 24) a2) k := p1_2
  have hsv := p0_2
  have hkn := p1_2
  refine lv_iconst (v := iI 0) hx hb dX5_workPoints_5 rfl ?_
  refine lv_istore_n (lv' := [(3, .int (iI 0)), (0, .ref (ad 47)), (1, .int (iI a1)), (2, .int (iI a2))]) hx hb dX5_workPoints_6 rfl hl (by decide) rfl (fun ls hl => ?_)
  have L_3 : ∀ (n : Nat) (x3 : Int) (c39_3 : Int → Int) (c40_3 : Int → Int) (d0_3 : Int → Int) (H : Heap) (locs : List Loc) (ls : Array Slot), 16 - x3 < (n : Int) → (0 ≤ x3 ∧ x3 ≤ (v 21)) → (ptOk c40_3 (fun c t => evR (f 2) (f 3) (gFd (f 20) (f 21) (f 22) (f 23) (f 24) (f 25) (f 26) (f 28) (f 29) (f 30) (f 15) (f 17) (v 23) (v 24) a2 a1 t c) (v 2)) x3 ((f 1) (a1 * 4))) → gWd D (rwT k ad) v (va_up (va_up (va_up (va_up (va_up (va_up (va_up f 34 a34_2) 35 a35_2) 36 a36_2) 37 a37_2) 38 a38_2) 39 c39_3) 40 c40_3) (va_up g 0 d0_3) H → va_S A s.heap H locs → lv_has ls 5 [(0, .ref (ad 47)), (1, .int (iI a1)), (2, .int (iI a2)), (3, .int (iI x3))] → W p l e (gRm 3 85) s m args below meth c H locs 0 0 Q (F0 m 7 ls []) := by
    intro n
    induction n with
    | zero =>
      intro x3 c39_3 c40_3 d0_3 H locs ls hn_3 i3_0 i3_1 hP hS hl
      exfalso; omega
    | succ n ih_7 =>
      intro x3 c39_3 c40_3 d0_3 H locs ls hn_3 i3_0 i3_1 hP hS hl
      have hO := i3_1
      refine lv_iload_n hx hb dX5_workPoints_7 rfl (lv_at hl 3 rfl) ?_
      refine lv_aload_n hx hb dX5_workPoints_8 rfl (lv_at hl 0 rfl) ?_
      refine rwG_results_field C hP mF_X5_51 dX5_workPoints_9 ?_
      refine rwG_field_climbers C hP mF_X5_157 dX5_workPoints_12 ?_
      refine gi_cge (tgt := 77) hx hb dX5_workPoints_15 (by decide) (by omega) (by omega) (fun c_4 => ?_) (fun c_4 => ?_)
      · exact g_vret hQ C hr hlocks hP hS dX5_workPoints_77 ⟨a34_2, a35_2, a36_2, a37_2, a38_2, c39_3, c40_3, d0_3, rfl, rfl, rfl, rfl, (by rw [show (v 21) = x3 by omega]; exact hO)⟩
      · refine lv_iconst (v := iI 0) hx hb dX5_workPoints_18 rfl ?_
        refine lv_istore (lv' := [(4, .int (iI 0)), (0, .ref (ad 47)), (1, .int (iI a1)), (2, .int (iI a2)), (3, .int (iI x3))]) hx hb dX5_workPoints_19 hl (by decide) rfl (fun ls hl => ?_)
        have L_5 : ∀ (n : Nat) (x4 : Int) (c39_5 : Int → Int) (c40_5 : Int → Int) (d0_5 : Int → Int) (H : Heap) (locs : List Loc) (ls : Array Slot), 5 - x4 < (n : Int) → (0 ≤ x4 ∧ x4 ≤ ((f 1) (a1 * 4))) → (ptOk c40_5 (fun c t => evR (f 2) (f 3) (gFd (f 20) (f 21) (f 22) (f 23) (f 24) (f 25) (f 26) (f 28) (f 29) (f 30) (f 15) (f 17) (v 23) (v 24) a2 a1 t c) (v 2)) x3 ((f 1) (a1 * 4))) → (∀ t, 0 ≤ t → t < x4 → c40_5 (x3 * 5 + t) = (fun c t => evR (f 2) (f 3) (gFd (f 20) (f 21) (f 22) (f 23) (f 24) (f 25) (f 26) (f 28) (f 29) (f 30) (f 15) (f 17) (v 23) (v 24) a2 a1 t c) (v 2)) x3 t) → gWd D (rwT k ad) v (va_up (va_up (va_up (va_up (va_up (va_up (va_up f 34 a34_2) 35 a35_2) 36 a36_2) 37 a37_2) 38 a38_2) 39 c39_5) 40 c40_5) (va_up g 0 d0_5) H → va_S A s.heap H locs → lv_has ls 5 [(0, .ref (ad 47)), (1, .int (iI a1)), (2, .int (iI a2)), (3, .int (iI x3)), (4, .int (iI x4))] → W p l e (gRm 3 85) s m args below meth c H locs 0 0 Q (F0 m 21 ls []) := by
          intro n
          induction n with
          | zero =>
            intro x4 c39_5 c40_5 d0_5 H locs ls hn_5 i5_0 i5_1 i5_2 hP hS hl
            exfalso; omega
          | succ n ih_21 =>
            intro x4 c39_5 c40_5 d0_5 H locs ls hn_5 i5_0 i5_1 i5_2 hP hS hl
            have hO2 := i5_1
            have hC2 := i5_2
            refine lv_iload hx hb dX5_workPoints_21 (lv_at hl 4 rfl) ?_
            refine lv_aload_n hx hb dX5_workPoints_23 rfl (lv_at hl 0 rfl) ?_
            refine rwG_results_laws C hP mF_X5_43 dX5_workPoints_24 ?_
            refine lv_iload_n hx hb dX5_workPoints_27 rfl (lv_at hl 1 rfl) ?_
            refine lv_iconst (v := iI 0) hx hb dX5_workPoints_28 rfl ?_
            refine g_cv (As := [.int (iI a1), .int (iI 0)]) (rest := [.int (iI x4)]) (n := 2) C hml (c_X4_shapeOf l D k A ad hD v (va_up (va_up (va_up (va_up (va_up (va_up (va_up f 34 a34_2) 35 a35_2) 36 a36_2) 37 a37_2) 38 a38_2) 39 c39_5) 40 c40_5) (va_up g 0 d0_5) a1 0 (by omega) (by decide)) mM_X5_126 mI_X4_shapeOf mE_X4_shapeOf mN_X4 mC_X4_shapeOf (by decide +kernel) 2 (ci := 4) rfl rfl hP hS (fun _ h => h) ⟨Nat.le_of_ble_eq_true rfl, Nat.le_of_ble_eq_true rfl⟩ ⟨Nat.zero_le _, Nat.zero_le _⟩ hl.1 rfl rfl (Nat.le_of_ble_eq_true rfl) dX5_workPoints_29 (fun r_6 v_6 f_6 g_6 H locs hq_6 hP _ hS => ?_)
            obtain ⟨z_6, rfl, rfl, rfl, rfl, p0_6, p1_6⟩ := hq_6
            show W p l e (gRm 3 85) s m args below meth c _ _ 0 0 Q (F0 m 32 ls [.int (iI z_6), .int (iI x4)])
            replace p0_6 : z_6 = (if (0 ≤ a1 ∧ a1 < (v 1)) ∧ 0 ≤ (0 : Int) ∧ (0 : Int) < 4 then (f 1) (a1 * 4 + (0 : Int)) else 0) := p0_6
            replace p1_6 : 0 ≤ z_6 ∧ z_6 ≤ 999999 := p1_6
            have hz_6 : inR z_6 := (by first | omega | (rw [p0_6]; split <;> omega))
            have hR_6 : z_6 = (f 1) (a1 * 4) := by rw [p0_6, if_pos (by omega), Int.add_zero]
            refine gi_cge (tgt := 71) hx hb dX5_workPoints_32 (by decide) (by omega) (by omega) (fun c_7 => ?_) (fun c_7 => ?_)
            · refine lv_iinc (v := iI (x3 + 1)) (lv' := [(3, .int (iI (x3 + 1))), (0, .ref (ad 47)), (1, .int (iI a1)), (2, .int (iI a2)), (4, .int (iI x4))]) hx hb dX5_workPoints_71 hl (k := 3) rfl (by show iI _ + iI 1 = _; rw [iI_add]) (by decide) rfl (fun ls hl => ?_)
              refine lv_goto (tgt := 7) hx hb dX5_workPoints_74 (by decide) ?_
              exact ih_7 (x3 + 1) c39_5 c40_5 d0_5 _ _ _ (by omega) (by omega) (pt_n hO2 (fun t t0 t1 => hC2 t t0 (by omega))) hP hS (lv_sub hl [1, 2, 3, 0] rfl)
            · refine lv_aload_n hx hb dX5_workPoints_35 rfl (lv_at hl 0 rfl) ?_
              refine lv_iload_n hx hb dX5_workPoints_36 rfl (lv_at hl 1 rfl) ?_
              refine lv_iload_n hx hb dX5_workPoints_37 rfl (lv_at hl 3 rfl) ?_
              refine lv_iload hx hb dX5_workPoints_38 (lv_at hl 4 rfl) ?_
              refine g_cv (As := [.int (iI a1), .int (iI x3), .int (iI x4)]) (rest := []) (n := 3) C hml (x_Re_workFacts l D k A ad hD v (va_up (va_up (va_up (va_up (va_up (va_up (va_up f 34 a34_2) 35 a35_2) 36 a36_2) 37 a37_2) 38 a38_2) 39 c39_5) 40 c40_5) (va_up g 0 d0_5) a1 x3 x4 a2 (by omega) (by omega) (by omega) (show 0 ≤ a1 ∧ a1 ≤ 3 from by omega) (show 0 ≤ x3 ∧ x3 ≤ 15 from by omega) (show 0 ≤ x4 ∧ x4 ≤ 4 from by omega) (show svOk (f 20) (f 21) (f 22) (f 26) (Fk (f 28) (f 29) (f 30) (f 25) (v 24) a2) (v 23) a36_2 a37_2 a38_2 from hsv) (show ∀ k, 0 ≤ k → k < (v 23) → a34_2 k = (Fk (f 28) (f 29) (f 30) (f 25) (v 24) a2) k from hkn)) mM_X5_131 mI_X5_workFacts mE_X5_workFacts mN_X5 mC_X5_workFacts (by decide +kernel) 47 (ci := 5) rfl rfl hP hS (fun _ h => h) ⟨Nat.le_of_ble_eq_true rfl, Nat.le_of_ble_eq_true rfl⟩ ⟨Nat.zero_le _, Nat.zero_le _⟩ hl.1 rfl rfl (Nat.le_of_ble_eq_true rfl) dX5_workPoints_40 (fun r_8 v_8 f_8 g_8 H locs hq_8 hP _ hS => ?_)
              obtain ⟨a39_8, rfl, rfl, rfl, rfl, p0_8⟩ := hq_8
              show W p l e (gRm 3 85) s m args below meth c _ _ 0 0 Q (F0 m 43 ls [])
              have hP : gWd D (rwT k ad) v (va_up (va_up (va_up (va_up (va_up (va_up (va_up f 34 a34_2) 35 a35_2) 36 a36_2) 37 a37_2) 38 a38_2) 39 a39_8) 40 c40_5) (va_up g 0 d0_5) H := ⟨hP.1, (gF_up (V := rwV) (F := rwF) (gF_up (V := rwV) (F := rwF) (gF_up (V := rwV) (F := rwF) (gF_up (V := rwV) (F := rwF) (gF_up (V := rwV) (F := rwF) (gF_up (V := rwV) (F := rwF) (gF_up (V := rwV) (F := rwF) ⟨hok.1, hok.2⟩ 34 (hP.2.2 34)) 35 (hP.2.2 35)) 36 (hP.2.2 36)) 37 (hP.2.2 37)) 38 (hP.2.2 38)) 39 (hP.2.2 39)) 40 (hP.2.2 40))⟩
              replace p0_8 : a39_8 0 = gFd (f 20) (f 21) (f 22) (f 23) (f 24) (f 25) (f 26) (f 28) (f 29) (f 30) (f 15) (f 17) (v 23) (v 24) a2 a1 x4 x3 0 ∧ a39_8 1 = gFd (f 20) (f 21) (f 22) (f 23) (f 24) (f 25) (f 26) (f 28) (f 29) (f 30) (f 15) (f 17) (v 23) (v 24) a2 a1 x4 x3 1 ∧ a39_8 2 = gFd (f 20) (f 21) (f 22) (f 23) (f 24) (f 25) (f 26) (f 28) (f 29) (f 30) (f 15) (f 17) (v 23) (v 24) a2 a1 x4 x3 2 ∧ a39_8 3 = gFd (f 20) (f 21) (f 22) (f 23) (f 24) (f 25) (f 26) (f 28) (f 29) (f 30) (f 15) (f 17) (v 23) (v 24) a2 a1 x4 x3 3 ∧ a39_8 4 = gFd (f 20) (f 21) (f 22) (f 23) (f 24) (f 25) (f 26) (f 28) (f 29) (f 30) (f 15) (f 17) (v 23) (v 24) a2 a1 x4 x3 4 ∧ a39_8 5 = gFd (f 20) (f 21) (f 22) (f 23) (f 24) (f 25) (f 26) (f 28) (f 29) (f 30) (f 15) (f 17) (v 23) (v 24) a2 a1 x4 x3 5 := p0_8
              have hF := p0_8
              refine lv_aload_n hx hb dX5_workPoints_43 rfl (lv_at hl 0 rfl) ?_
              refine rwG_results_points C hP mF_X5_30 dX5_workPoints_44 ?_
              refine lv_iload_n hx hb dX5_workPoints_47 rfl (lv_at hl 3 rfl) ?_
              refine lv_iconst (v := iI 5) hx hb dX5_workPoints_48 rfl ?_
              refine gi_mul (z := (x3 * 5)) hx hb dX5_workPoints_49 rfl ?_
              refine lv_iload hx hb dX5_workPoints_50 (lv_at hl 4 rfl) ?_
              refine gi_add (z := ((x3 * 5) + x4)) hx hb dX5_workPoints_52 rfl ?_
              refine lv_aload_n hx hb dX5_workPoints_53 rfl (lv_at hl 0 rfl) ?_
              refine rwG_results_laws C hP mF_X5_43 dX5_workPoints_54 ?_
              refine lv_aload_n hx hb dX5_workPoints_57 rfl (lv_at hl 0 rfl) ?_
              refine rwG_results_facts C hP mF_X5_27 dX5_workPoints_58 ?_
              refine g_cv (As := [.ref (ad 53)]) (rest := [.int (iI ((x3 * 5) + x4)), .ref (ad 54)]) (n := 1) C hml (x_La_pointsFor l D k A ad hD v (va_up (va_up (va_up (va_up (va_up (va_up (va_up f 34 a34_2) 35 a35_2) 36 a36_2) 37 a37_2) 38 a38_2) 39 a39_8) 40 c40_5) (va_up g 0 d0_5)) mM_X5_135 mI_X4_pointsFor mE_X4_pointsFor mN_X4 mC_X4_pointsFor (by decide +kernel) 2 (ci := 4) rfl rfl hP hS (fun _ h => h) ⟨Nat.le_of_ble_eq_true rfl, Nat.le_of_ble_eq_true rfl⟩ ⟨Nat.zero_le _, Nat.zero_le _⟩ hl.1 rfl rfl (Nat.le_of_ble_eq_true rfl) dX5_workPoints_61 (fun r_9 v_9 f_9 g_9 H locs hq_9 hP _ hS => ?_)
              obtain ⟨z_9, b0_9, rfl, rfl, rfl, rfl, p0_9, p1_9⟩ := hq_9
              show W p l e (gRm 3 85) s m args below meth c _ _ 0 0 Q (F0 m 64 ls [.int (iI z_9), .int (iI ((x3 * 5) + x4)), .ref (ad 54)])
              have hP : gWd D (rwT k ad) v (va_up (va_up (va_up (va_up (va_up (va_up (va_up f 34 a34_2) 35 a35_2) 36 a36_2) 37 a37_2) 38 a38_2) 39 a39_8) 40 c40_5) (va_up g 0 b0_9) H := ⟨hP.1, (gF_up (V := rwV) (F := rwF) (gF_up (V := rwV) (F := rwF) (gF_up (V := rwV) (F := rwF) (gF_up (V := rwV) (F := rwF) (gF_up (V := rwV) (F := rwF) (gF_up (V := rwV) (F := rwF) (gF_up (V := rwV) (F := rwF) ⟨hok.1, hok.2⟩ 34 (hP.2.2 34)) 35 (hP.2.2 35)) 36 (hP.2.2 36)) 37 (hP.2.2 37)) 38 (hP.2.2 38)) 39 (hP.2.2 39)) 40 (hP.2.2 40))⟩
              replace p0_9 : z_9 = (evR (f 2) (f 3) a39_8 (v 2)) := p0_9
              replace p1_9 : (-1000000000) ≤ z_9 ∧ z_9 ≤ 1000000000 := p1_9
              have hz_9 : inR z_9 := (by first | omega | (rw [p0_9]; split <;> omega))
              have hpt : z_9 = evR (f 2) (f 3) (gFd (f 20) (f 21) (f 22) (f 23) (f 24) (f 25) (f 26) (f 28) (f 29) (f 30) (f 15) (f 17) (v 23) (v 24) a2 a1 x4 x3) (v 2) := by rw [p0_9]; unfold evR; rw [evL_fa (fun k => ⟨(hit k).1, by have := (hit k).2; omega⟩) (fun i i0 i1 => fa_i hF i0 i1)]
              refine rwS_results_points (f1 := (va_up (va_up (va_up (va_up (va_up (va_up (va_up f 34 a34_2) 35 a35_2) 36 a36_2) 37 a37_2) 38 a38_2) 39 a39_8) 40 (u1 c40_5 ((x3 * 5) + x4) z_9))) C hP hD hS (by omega) (by omega) (by omega) rfl (Or.inr (gF_up (V := rwV) (F := rwF) (gF_up (V := rwV) (F := rwF) (gF_up (V := rwV) (F := rwF) (gF_up (V := rwV) (F := rwF) (gF_up (V := rwV) (F := rwF) (gF_up (V := rwV) (F := rwF) (gF_up (V := rwV) (F := rwF) ⟨hok.1, hok.2⟩ 34 (hP.2.2 34)) 35 (hP.2.2 35)) 36 (hP.2.2 36)) 37 (hP.2.2 37)) 38 (hP.2.2 38)) 39 (hP.2.2 39)) 40 (u1_rng (hP.2.2 40) (show (-2147483648) ≤ z_9 ∧ z_9 ≤ 2147483647 from (by omega))))) dX5_workPoints_64 (fun H locs hP hS => ?_)
              refine lv_iinc (v := iI (x4 + 1)) (lv' := [(4, .int (iI (x4 + 1))), (0, .ref (ad 47)), (1, .int (iI a1)), (2, .int (iI a2)), (3, .int (iI x3))]) hx hb dX5_workPoints_65 hl (k := 4) rfl (by show iI _ + iI 1 = _; rw [iI_add]) (by decide) rfl (fun ls hl => ?_)
              refine lv_goto (tgt := 21) hx hb dX5_workPoints_68 (by decide) ?_
              exact ih_21 (x4 + 1) a39_8 (u1 c40_5 ((x3 * 5) + x4) z_9) b0_9 _ _ _ (by omega) (by omega) (pt_s hO2 hC2 (by omega) (by omega) (by omega) hpt).1 (pt_s hO2 hC2 (by omega) (by omega) (by omega) hpt).2 hP hS (lv_sub hl [1, 2, 3, 4, 0] rfl)
        exact L_5 6 0 c39_3 c40_3 d0_3 _ _ _ (by omega) (by omega) hO (fun t h0 h1 => by omega) hP hS (lv_sub hl [1, 2, 3, 4, 0] rfl)
  exact L_3 17 0 (f 39) (f 40) (g 0) _ _ _ (by omega) (by omega) (fun c t c0 c1 => by omega) hP hS (lv_sub hl [1, 2, 3, 0] rfl)

set_option maxHeartbeats 4000000 in
set_option maxRecDepth 100000 in
theorem x_Re_together (l : Launch) (D : va_G) (k : Nat → ClassId) (A : Nat → Prop) (ad : Nat → Nat) (hD : rwD A k ad) (v : gV) (f g : gF) (a1 : Int) (a2 : Int) (h_a1 : inR a1) (h_a2 : inR a2) (h1 : 0 ≤ a1 ∧ a1 ≤ 15) : GM l D k A (rwT k ad) yX5_together cX5_together 6 (some .long) 0 0 [.ref (ad 47), .int (iI a1), .int (iI a2)] v f g (fun r v1 f1 g1 => ∃ (z : Int), r = some (.long (iL z)) ∧ v = v1 ∧ f = f1 ∧ g = g1 ∧ (z = (tgU (fun c t => (f 40) (c * 5 + t)) a2 a1)) ∧ ((-10737418240) ≤ z ∧ z ≤ 10737418240)) := by
  refine GM.of (by decide) (Nat.le_of_ble_eq_true rfl) ?_
  intro p e s m args below meth c Q ls hQ C hml hr hlocks hP hl
  have hx := C.1
  have hb := C.2.1
  have hok := hP.2
  have hS : va_S A s.heap s.heap [] := va_S.rf
  have hl : lv_has ls 6 [(0, .ref (ad 47)), (1, .int (iI a1)), (2, .int (iI a2))] := hl
  refine lv_lconst (v := iL 0) hx hb dX5_together_0 (by decide) ?_
  refine lv_lstore_n (lv' := [(3, .long (iL 0)), (0, .ref (ad 47)), (1, .int (iI a1)), (2, .int (iI a2))]) hx hb dX5_together_1 rfl hl (by decide) rfl (fun ls hl => ?_)
  refine lv_iconst (v := iI 0) hx hb dX5_together_2 rfl ?_
  refine lv_istore (lv' := [(5, .int (iI 0)), (3, .long (iL 0)), (0, .ref (ad 47)), (1, .int (iI a1)), (2, .int (iI a2))]) hx hb dX5_together_3 hl (by decide) rfl (fun ls hl => ?_)
  have L_1 : ∀ (n : Nat) (y3 : Int) (x5 : Int) (H : Heap) (locs : List Loc) (ls : Array Slot), 5 - x5 < (n : Int) → (0 ≤ x5 ∧ x5 ≤ 5) → (y3 = tgS (fun t => (f 40) (a1 * 5 + t)) a2 x5.toNat) → gWd D (rwT k ad) v f g H → va_S A s.heap H locs → lv_has ls 6 [(0, .ref (ad 47)), (1, .int (iI a1)), (2, .int (iI a2)), (3, .long (iL y3)), (5, .int (iI x5))] → W p l e (gRm 0 0) s m args below meth c H locs 0 0 Q (F0 m 5 ls []) := by
    intro n
    induction n with
    | zero =>
      intro y3 x5 H locs ls hn_1 i1_0 i1_1 hP hS hl
      exfalso; omega
    | succ n ih_5 =>
      intro y3 x5 H locs ls hn_1 i1_0 i1_1 hP hS hl
      have hI := i1_1
      refine lv_iload hx hb dX5_together_5 (lv_at hl 4 rfl) ?_
      refine lv_iconst (v := iI 5) hx hb dX5_together_7 rfl ?_
      refine gi_cge (tgt := 42) hx hb dX5_together_8 (by decide) (by omega) (by decide) (fun c_2 => ?_) (fun c_2 => ?_)
      · refine lv_lload_n hx hb dX5_together_42 rfl (lv_at hl 3 rfl) ?_
        exact g_lret hQ C hr hlocks hP hS dX5_together_43 ⟨y3, rfl, rfl, rfl, rfl, (by show _ = tgS (fun t => (f 40) (a1 * 5 + t)) a2 (5 : Int).toNat; rw [hI, show x5 = 5 by omega]), (by rw [hI]; have h := tgS_r (p := (fun t => (f 40) (a1 * 5 + t))) (s := a2) (fun k => hok.2 40 _) x5.toNat; omega)⟩
      · refine lv_iload_n hx hb dX5_together_11 rfl (lv_at hl 2 rfl) ?_
        refine lv_iload hx hb dX5_together_12 (lv_at hl 4 rfl) ?_
        obtain ⟨x_3, ex_3, hx_3⟩ : ∃ z : Int, iI a2 >>> (iI x5 &&& 31) = iI z ∧ inR z := ⟨(iI a2 >>> (iI x5 &&& 31)).toInt, (iI_of _).symm, iI_rng _⟩
        refine gi_shr (z := x_3) hx hb dX5_together_14 ex_3 ?_
        refine lv_iconst (v := iI 1) hx hb dX5_together_15 rfl ?_
        obtain ⟨x_4, ex_4, hx_4⟩ := gAnd x_3 1 1 (by decide) (by decide)
        refine gi_and (z := x_4) hx hb dX5_together_16 ex_4 ?_
        have hbt : btI a2 x5 = x_4 := bt_of ex_3 ex_4 (by omega)
        refine lv_iconst (v := iI 1) hx hb dX5_together_17 rfl ?_
        refine gi_cne (tgt := 36) hx hb dX5_together_18 (by decide) (by omega) (by decide) (fun c_5 => ?_) (fun c_5 => ?_)
        · refine lv_iinc (v := iI (x5 + 1)) (lv' := [(5, .int (iI (x5 + 1))), (0, .ref (ad 47)), (1, .int (iI a1)), (2, .int (iI a2)), (3, .long (iL y3))]) hx hb dX5_together_36 hl (k := 4) rfl (by show iI _ + iI 1 = _; rw [iI_add]) (by decide) rfl (fun ls hl => ?_)
          refine lv_goto (tgt := 5) hx hb dX5_together_39 (by decide) ?_
          exact ih_5 y3 (x5 + 1) _ _ _ (by omega) (by omega) (by rw [tgS_s (by omega), hbt]; first | (rw [if_pos (by omega)]; omega) | (rw [if_neg (by omega)]; omega)) hP hS (lv_sub hl [1, 2, 3, 4, 0] rfl)
        · refine lv_lload_n hx hb dX5_together_21 rfl (lv_at hl 3 rfl) ?_
          refine lv_aload_n hx hb dX5_together_22 rfl (lv_at hl 0 rfl) ?_
          refine rwG_results_points C hP mF_X5_30 dX5_together_23 ?_
          refine lv_iload_n hx hb dX5_together_26 rfl (lv_at hl 1 rfl) ?_
          refine lv_iconst (v := iI 5) hx hb dX5_together_27 rfl ?_
          refine gi_mul (z := (a1 * 5)) hx hb dX5_together_28 rfl ?_
          refine lv_iload hx hb dX5_together_29 (lv_at hl 4 rfl) ?_
          refine gi_add (z := ((a1 * 5) + x5)) hx hb dX5_together_31 rfl ?_
          refine rwL_results_points C hP (by omega) (by omega) dX5_together_32 ?_
          have r_6 : (-2147483648) ≤ (f 40 ((a1 * 5) + x5)) ∧ (f 40 ((a1 * 5) + x5)) ≤ 2147483647 := hP.2.2 40 ((a1 * 5) + x5)
          refine gi_i2l hx hb (by omega) dX5_together_33 ?_
          refine gl_add (z := (y3 + (f 40 ((a1 * 5) + x5)))) hx hb dX5_together_34 rfl ?_
          refine lv_lstore_n (lv' := [(3, .long (iL (y3 + (f 40 ((a1 * 5) + x5))))), (0, .ref (ad 47)), (1, .int (iI a1)), (2, .int (iI a2)), (5, .int (iI x5))]) hx hb dX5_together_35 rfl hl (by decide) rfl (fun ls hl => ?_)
          refine lv_iinc (v := iI (x5 + 1)) (lv' := [(5, .int (iI (x5 + 1))), (3, .long (iL (y3 + (f 40 ((a1 * 5) + x5))))), (0, .ref (ad 47)), (1, .int (iI a1)), (2, .int (iI a2))]) hx hb dX5_together_36 hl (k := 4) rfl (by show iI _ + iI 1 = _; rw [iI_add]) (by decide) rfl (fun ls hl => ?_)
          refine lv_goto (tgt := 5) hx hb dX5_together_39 (by decide) ?_
          exact ih_5 (y3 + (f 40 ((a1 * 5) + x5))) (x5 + 1) _ _ _ (by omega) (by omega) (by rw [tgS_s (by omega), hbt]; first | (rw [if_pos (by omega)]; omega) | (rw [if_neg (by omega)]; omega)) hP hS (lv_sub hl [2, 3, 4, 1, 0] rfl)
  exact L_1 6 0 0 _ _ _ (by omega) (by omega) rfl hP hS (lv_sub hl [2, 3, 4, 1, 0] rfl)

set_option maxHeartbeats 4000000 in
set_option maxRecDepth 100000 in
theorem x_Re_pairsParted (l : Launch) (D : va_G) (k : Nat → ClassId) (A : Nat → Prop) (ad : Nat → Nat) (hD : rwD A k ad) (v : gV) (f g : gF) (a1 : Int) (a2 : Int) (h_a1 : inR a1) (h_a2 : inR a2) (h1 : 0 ≤ a1 ∧ a1 ≤ 3) : GM l D k A (rwT k ad) yX5_pairsParted cX5_pairsParted 6 (some .int) 2 43 [.ref (ad 47), .int (iI a1), .int (iI a2)] v f g (fun r v1 f1 g1 => ∃ (z : Int), r = some (.int (iI z)) ∧ v = v1 ∧ f = f1 ∧ g = g1 ∧ (z = (prC (f 18) a1 (tgU (fun c t => (f 40) (c * 5 + t)) a2) (v 21).toNat)) ∧ (0 ≤ z ∧ z ≤ 256)) := by
  refine GM.of (by decide) (Nat.le_of_ble_eq_true rfl) ?_
  intro p e s m args below meth c Q ls hQ C hml hr hlocks hP hl
  have hx := C.1
  have hb := C.2.1
  have hok := hP.2
  have hS : va_S A s.heap s.heap [] := va_S.rf
  have hl : lv_has ls 6 [(0, .ref (ad 47)), (1, .int (iI a1)), (2, .int (iI a2))] := hl
  have r_1 : 0 ≤ (v 21) ∧ (v 21) ≤ 16 := hok.1 21
  refine lv_iconst (v := iI 0) hx hb dX5_pairsParted_0 rfl ?_
  refine lv_istore_n (lv' := [(3, .int (iI 0)), (0, .ref (ad 47)), (1, .int (iI a1)), (2, .int (iI a2))]) hx hb dX5_pairsParted_1 rfl hl (by decide) rfl (fun ls hl => ?_)
  refine lv_iconst (v := iI 0) hx hb dX5_pairsParted_2 rfl ?_
  refine lv_istore (lv' := [(4, .int (iI 0)), (3, .int (iI 0)), (0, .ref (ad 47)), (1, .int (iI a1)), (2, .int (iI a2))]) hx hb dX5_pairsParted_3 hl (by decide) rfl (fun ls hl => ?_)
  have L_2 : ∀ (n : Nat) (x3 : Int) (x4 : Int) (H : Heap) (locs : List Loc) (ls : Array Slot), 16 - x4 < (n : Int) → (0 ≤ x4 ∧ x4 ≤ (v 21)) → (0 ≤ x3 ∧ x3 ≤ x4 * 16) → (x3 = prC (f 18) a1 (tgU (fun c t => (f 40) (c * 5 + t)) a2) x4.toNat) → gWd D (rwT k ad) v f g H → va_S A s.heap H locs → lv_has ls 6 [(0, .ref (ad 47)), (1, .int (iI a1)), (2, .int (iI a2)), (3, .int (iI x3)), (4, .int (iI x4))] → W p l e (gRm 2 43) s m args below meth c H locs 0 0 Q (F0 m 5 ls []) := by
    intro n
    induction n with
    | zero =>
      intro x3 x4 H locs ls hn_2 i2_0 i2_1 i2_2 hP hS hl
      exfalso; omega
    | succ n ih_5 =>
      intro x3 x4 H locs ls hn_2 i2_0 i2_1 i2_2 hP hS hl
      have hI := i2_2
      refine lv_iload hx hb dX5_pairsParted_5 (lv_at hl 4 rfl) ?_
      refine lv_aload_n hx hb dX5_pairsParted_7 rfl (lv_at hl 0 rfl) ?_
      refine rwG_results_field C hP mF_X5_51 dX5_pairsParted_8 ?_
      refine rwG_field_climbers C hP mF_X5_157 dX5_pairsParted_11 ?_
      refine gi_cge (tgt := 86) hx hb dX5_pairsParted_14 (by decide) (by omega) (by omega) (fun c_3 => ?_) (fun c_3 => ?_)
      · refine lv_iload_n hx hb dX5_pairsParted_86 rfl (lv_at hl 3 rfl) ?_
        exact g_iret hQ C hr hlocks hP hS dX5_pairsParted_87 ⟨x3, rfl, rfl, rfl, rfl, (by rw [show (v 21) = x4 by omega]; exact hI), (by first | omega | ((repeat' split) <;> omega))⟩
      · refine lv_iconst (v := iI 0) hx hb dX5_pairsParted_17 rfl ?_
        refine lv_istore (lv' := [(5, .int (iI 0)), (0, .ref (ad 47)), (1, .int (iI a1)), (2, .int (iI a2)), (3, .int (iI x3)), (4, .int (iI x4))]) hx hb dX5_pairsParted_18 hl (by decide) rfl (fun ls hl => ?_)
        have L_4 : ∀ (n : Nat) (x3 : Int) (x5 : Int) (H : Heap) (locs : List Loc) (ls : Array Slot), 16 - x5 < (n : Int) → (0 ≤ x5 ∧ x5 ≤ x4) → (0 ≤ x3 ∧ x3 ≤ x4 * 16 + x5) → (x3 = prC (f 18) a1 (tgU (fun c t => (f 40) (c * 5 + t)) a2) x4.toNat + cn (pPr (f 18) a1 (tgU (fun c t => (f 40) (c * 5 + t)) a2) x4) x5.toNat) → gWd D (rwT k ad) v f g H → va_S A s.heap H locs → lv_has ls 6 [(0, .ref (ad 47)), (1, .int (iI a1)), (2, .int (iI a2)), (3, .int (iI x3)), (4, .int (iI x4)), (5, .int (iI x5))] → W p l e (gRm 2 43) s m args below meth c H locs 0 0 Q (F0 m 20 ls []) := by
          intro n
          induction n with
          | zero =>
            intro x3 x5 H locs ls hn_4 i4_0 i4_1 i4_2 hP hS hl
            exfalso; omega
          | succ n ih_20 =>
            intro x3 x5 H locs ls hn_4 i4_0 i4_1 i4_2 hP hS hl
            have hJ := i4_2
            refine lv_iload hx hb dX5_pairsParted_20 (lv_at hl 5 rfl) ?_
            refine lv_iload hx hb dX5_pairsParted_22 (lv_at hl 4 rfl) ?_
            refine gi_cge (tgt := 80) hx hb dX5_pairsParted_24 (by decide) (by omega) (by omega) (fun c_5 => ?_) (fun c_5 => ?_)
            · refine lv_iinc (v := iI (x4 + 1)) (lv' := [(4, .int (iI (x4 + 1))), (0, .ref (ad 47)), (1, .int (iI a1)), (2, .int (iI a2)), (3, .int (iI x3)), (5, .int (iI x5))]) hx hb dX5_pairsParted_80 hl (k := 4) rfl (by show iI _ + iI 1 = _; rw [iI_add]) (by decide) rfl (fun ls hl => ?_)
              refine lv_goto (tgt := 5) hx hb dX5_pairsParted_83 (by decide) ?_
              exact ih_5 x3 (x4 + 1) _ _ _ (by omega) (by omega) (by omega) (by rw [prC_s (by omega)]; have h9 := hJ; rw [show x5 = x4 - 0 by omega, Int.sub_zero] at h9; exact h9) hP hS (lv_sub hl [1, 2, 3, 4, 0] rfl)
            · refine lv_aload_n hx hb dX5_pairsParted_27 rfl (lv_at hl 0 rfl) ?_
              refine rwG_results_field C hP mF_X5_51 dX5_pairsParted_28 ?_
              refine lv_iload_n hx hb dX5_pairsParted_31 rfl (lv_at hl 1 rfl) ?_
              refine lv_iload hx hb dX5_pairsParted_32 (lv_at hl 4 rfl) ?_
              refine g_cv (As := [.int (iI a1), .int (iI x4)]) (rest := []) (n := 2) C hml (c_X2_isIn l D k A ad hD v f g a1 x4 (by omega) (by omega)) mM_X5_166 mI_X2_isIn mE_X2_isIn mN_X2 mC_X2_isIn (by decide +kernel) 27 (ci := 2) rfl rfl hP hS (fun _ h => h) ⟨Nat.le_of_ble_eq_true rfl, Nat.le_of_ble_eq_true rfl⟩ ⟨Nat.zero_le _, Nat.zero_le _⟩ hl.1 rfl rfl (Nat.le_of_ble_eq_true rfl) dX5_pairsParted_34 (fun r_6 v_6 f_6 g_6 H locs hq_6 hP _ hS => ?_)
              obtain ⟨z_6, rfl, rfl, rfl, rfl, p0_6⟩ := hq_6
              show W p l e (gRm 2 43) s m args below meth c _ _ 0 0 Q (F0 m 37 ls [.int (iI z_6)])
              replace p0_6 : z_6 = (if (0 ≤ x4 ∧ x4 < (v 21)) ∧ a1 ≤ (f 18) x4 then 1 else 0) := p0_6
              have w_6 := gif (P := (0 ≤ x4 ∧ x4 < (v 21)) ∧ a1 ≤ (f 18) x4) p0_6
              clear p0_6
              have hz_6 : inR z_6 := (by first | omega | (rw [p0_6]; split <;> omega))
              refine gi_zeq (tgt := 74) hx hb dX5_pairsParted_37 (by decide) (by omega) (fun c_7 => ?_) (fun c_7 => ?_)
              · have vz_6 := gif0 w_6 c_7
                clear w_6
                refine lv_iinc (v := iI (x5 + 1)) (lv' := [(5, .int (iI (x5 + 1))), (0, .ref (ad 47)), (1, .int (iI a1)), (2, .int (iI a2)), (3, .int (iI x3)), (4, .int (iI x4))]) hx hb dX5_pairsParted_74 hl (k := 5) rfl (by show iI _ + iI 1 = _; rw [iI_add]) (by decide) rfl (fun ls hl => ?_)
                refine lv_goto (tgt := 20) hx hb dX5_pairsParted_77 (by decide) ?_
                exact ih_20 x3 (x5 + 1) _ _ _ (by omega) (by omega) (by omega) (by first | (rw [cn_y (by omega) (decide_eq_true ⟨by omega, by omega⟩)]; omega) | (rw [cn_n (by omega) (decide_eq_false (fun h => by have h1 := h.1; have h2 := h.2; omega))]; omega)) hP hS (lv_sub hl [1, 2, 3, 4, 5, 0] rfl)
              · have vz_6 := gif1 w_6 c_7
                clear w_6
                refine lv_aload_n hx hb dX5_pairsParted_40 rfl (lv_at hl 0 rfl) ?_
                refine rwG_results_field C hP mF_X5_51 dX5_pairsParted_41 ?_
                refine lv_iload_n hx hb dX5_pairsParted_44 rfl (lv_at hl 1 rfl) ?_
                refine lv_iload hx hb dX5_pairsParted_45 (lv_at hl 5 rfl) ?_
                refine g_cv (As := [.int (iI a1), .int (iI x5)]) (rest := []) (n := 2) C hml (c_X2_isIn l D k A ad hD v f g a1 x5 (by omega) (by omega)) mM_X5_166 mI_X2_isIn mE_X2_isIn mN_X2 mC_X2_isIn (by decide +kernel) 27 (ci := 2) rfl rfl hP hS (fun _ h => h) ⟨Nat.le_of_ble_eq_true rfl, Nat.le_of_ble_eq_true rfl⟩ ⟨Nat.zero_le _, Nat.zero_le _⟩ hl.1 rfl rfl (Nat.le_of_ble_eq_true rfl) dX5_pairsParted_47 (fun r_8 v_8 f_8 g_8 H locs hq_8 hP _ hS => ?_)
                obtain ⟨z_8, rfl, rfl, rfl, rfl, p0_8⟩ := hq_8
                show W p l e (gRm 2 43) s m args below meth c _ _ 0 0 Q (F0 m 50 ls [.int (iI z_8)])
                replace p0_8 : z_8 = (if (0 ≤ x5 ∧ x5 < (v 21)) ∧ a1 ≤ (f 18) x5 then 1 else 0) := p0_8
                have w_8 := gif (P := (0 ≤ x5 ∧ x5 < (v 21)) ∧ a1 ≤ (f 18) x5) p0_8
                clear p0_8
                have hz_8 : inR z_8 := (by first | omega | (rw [p0_8]; split <;> omega))
                refine gi_zeq (tgt := 74) hx hb dX5_pairsParted_50 (by decide) (by omega) (fun c_9 => ?_) (fun c_9 => ?_)
                · have vz_8 := gif0 w_8 c_9
                  clear w_8
                  refine lv_iinc (v := iI (x5 + 1)) (lv' := [(5, .int (iI (x5 + 1))), (0, .ref (ad 47)), (1, .int (iI a1)), (2, .int (iI a2)), (3, .int (iI x3)), (4, .int (iI x4))]) hx hb dX5_pairsParted_74 hl (k := 5) rfl (by show iI _ + iI 1 = _; rw [iI_add]) (by decide) rfl (fun ls hl => ?_)
                  refine lv_goto (tgt := 20) hx hb dX5_pairsParted_77 (by decide) ?_
                  exact ih_20 x3 (x5 + 1) _ _ _ (by omega) (by omega) (by omega) (by first | (rw [cn_y (by omega) (decide_eq_true ⟨by omega, by omega⟩)]; omega) | (rw [cn_n (by omega) (decide_eq_false (fun h => by have h1 := h.1; have h2 := h.2; omega))]; omega)) hP hS (lv_sub hl [1, 2, 3, 4, 5, 0] rfl)
                · have vz_8 := gif1 w_8 c_9
                  clear w_8
                  refine lv_aload_n hx hb dX5_pairsParted_53 rfl (lv_at hl 0 rfl) ?_
                  refine lv_iload hx hb dX5_pairsParted_54 (lv_at hl 4 rfl) ?_
                  refine lv_iload_n hx hb dX5_pairsParted_56 rfl (lv_at hl 2 rfl) ?_
                  refine g_cv (As := [.int (iI x4), .int (iI a2)]) (rest := []) (n := 2) C hml (x_Re_together l D k A ad hD v f g x4 a2 (by omega) (by omega) (show 0 ≤ x4 ∧ x4 ≤ 15 from by omega)) mM_X5_195 mI_X5_together mE_X5_together mN_X5 mC_X5_together (by decide +kernel) 47 (ci := 5) rfl rfl hP hS (fun _ h => h) ⟨Nat.le_of_ble_eq_true rfl, Nat.le_of_ble_eq_true rfl⟩ ⟨Nat.zero_le _, Nat.zero_le _⟩ hl.1 rfl rfl (Nat.le_of_ble_eq_true rfl) dX5_pairsParted_57 (fun r_10 v_10 f_10 g_10 H locs hq_10 hP _ hS => ?_)
                  obtain ⟨z_10, rfl, rfl, rfl, rfl, p0_10, p1_10⟩ := hq_10
                  show W p l e (gRm 2 43) s m args below meth c _ _ 0 0 Q (F0 m 60 ls [.long (iL z_10)])
                  replace p0_10 : z_10 = (tgU (fun c t => (f 40) (c * 5 + t)) a2 x4) := p0_10
                  replace p1_10 : (-10737418240) ≤ z_10 ∧ z_10 ≤ 10737418240 := p1_10
                  refine lv_aload_n hx hb dX5_pairsParted_60 rfl (lv_at hl 0 rfl) ?_
                  refine lv_iload hx hb dX5_pairsParted_61 (lv_at hl 5 rfl) ?_
                  refine lv_iload_n hx hb dX5_pairsParted_63 rfl (lv_at hl 2 rfl) ?_
                  refine g_cv (As := [.int (iI x5), .int (iI a2)]) (rest := [.long (iL z_10)]) (n := 2) C hml (x_Re_together l D k A ad hD v f g x5 a2 (by omega) (by omega) (show 0 ≤ x5 ∧ x5 ≤ 15 from by omega)) mM_X5_195 mI_X5_together mE_X5_together mN_X5 mC_X5_together (by decide +kernel) 47 (ci := 5) rfl rfl hP hS (fun _ h => h) ⟨Nat.le_of_ble_eq_true rfl, Nat.le_of_ble_eq_true rfl⟩ ⟨Nat.zero_le _, Nat.zero_le _⟩ hl.1 rfl rfl (Nat.le_of_ble_eq_true rfl) dX5_pairsParted_64 (fun r_11 v_11 f_11 g_11 H locs hq_11 hP _ hS => ?_)
                  obtain ⟨z_11, rfl, rfl, rfl, rfl, p0_11, p1_11⟩ := hq_11
                  show W p l e (gRm 2 43) s m args below meth c _ _ 0 0 Q (F0 m 67 ls [.long (iL z_11), .long (iL z_10)])
                  replace p0_11 : z_11 = (tgU (fun c t => (f 40) (c * 5 + t)) a2 x5) := p0_11
                  replace p1_11 : (-10737418240) ≤ z_11 ∧ z_11 ≤ 10737418240 := p1_11
                  refine gl_cmpE hx hb (by omega) (by omega) dX5_pairsParted_67 (fun x_12 hx_12 => ?_)
                  refine gi_zeq (tgt := 74) hx hb dX5_pairsParted_68 (by decide) (by omega) (fun c_13 => ?_) (fun c_13 => ?_)
                  · refine lv_iinc (v := iI (x5 + 1)) (lv' := [(5, .int (iI (x5 + 1))), (0, .ref (ad 47)), (1, .int (iI a1)), (2, .int (iI a2)), (3, .int (iI x3)), (4, .int (iI x4))]) hx hb dX5_pairsParted_74 hl (k := 5) rfl (by show iI _ + iI 1 = _; rw [iI_add]) (by decide) rfl (fun ls hl => ?_)
                    refine lv_goto (tgt := 20) hx hb dX5_pairsParted_77 (by decide) ?_
                    exact ih_20 x3 (x5 + 1) _ _ _ (by omega) (by omega) (by omega) (by first | (rw [cn_y (by omega) (decide_eq_true ⟨by omega, by omega⟩)]; omega) | (rw [cn_n (by omega) (decide_eq_false (fun h => by have h1 := h.1; have h2 := h.2; omega))]; omega)) hP hS (lv_sub hl [1, 2, 3, 4, 5, 0] rfl)
                  · refine lv_iinc (v := iI (x3 + 1)) (lv' := [(3, .int (iI (x3 + 1))), (0, .ref (ad 47)), (1, .int (iI a1)), (2, .int (iI a2)), (4, .int (iI x4)), (5, .int (iI x5))]) hx hb dX5_pairsParted_71 hl (k := 3) rfl (by show iI _ + iI 1 = _; rw [iI_add]) (by decide) rfl (fun ls hl => ?_)
                    refine lv_iinc (v := iI (x5 + 1)) (lv' := [(5, .int (iI (x5 + 1))), (3, .int (iI (x3 + 1))), (0, .ref (ad 47)), (1, .int (iI a1)), (2, .int (iI a2)), (4, .int (iI x4))]) hx hb dX5_pairsParted_74 hl (k := 5) rfl (by show iI _ + iI 1 = _; rw [iI_add]) (by decide) rfl (fun ls hl => ?_)
                    refine lv_goto (tgt := 20) hx hb dX5_pairsParted_77 (by decide) ?_
                    exact ih_20 (x3 + 1) (x5 + 1) _ _ _ (by omega) (by omega) (by omega) (by first | (rw [cn_y (by omega) (decide_eq_true ⟨by omega, by omega⟩)]; omega) | (rw [cn_n (by omega) (decide_eq_false (fun h => by have h1 := h.1; have h2 := h.2; omega))]; omega)) hP hS (lv_sub hl [2, 3, 4, 1, 5, 0] rfl)
        exact L_4 17 x3 0 _ _ _ (by omega) (by omega) (by omega) (by rw [cn_0]; omega) hP hS (lv_sub hl [1, 2, 3, 4, 5, 0] rfl)
  exact L_2 17 0 0 _ _ _ (by omega) (by omega) (by omega) rfl hP hS (lv_sub hl [2, 3, 4, 1, 0] rfl)

set_option maxHeartbeats 4000000 in
set_option maxRecDepth 100000 in
theorem x_Re_bestSet (l : Launch) (D : va_G) (k : Nat → ClassId) (A : Nat → Prop) (ad : Nat → Nat) (hD : rwD A k ad) (v : gV) (f g : gF) (a1 : Int) (a2 : Int) (a3 : Int) (h_a1 : inR a1) (h_a2 : inR a2) (h_a3 : inR a3) (h1 : 0 ≤ a1 ∧ a1 ≤ 3) (h2 : 1 ≤ a2 ∧ a2 ≤ 5) (h3 : 1 ≤ a3) : GM l D k A (rwT k ad) yX5_bestSet cX5_bestSet 8 (some .int) 3 68 [.ref (ad 47), .int (iI a1), .int (iI a2), .int (iI a3)] v f g (fun r v1 f1 g1 => ∃ (z : Int), r = some (.int (iI z)) ∧ v = v1 ∧ f = f1 ∧ g = g1 ∧ (z = (bsF (fun s => prC (f 18) a1 (tgU (fun c t => (f 40) (c * 5 + t)) s) (v 21).toNat) bcI a3 (pw2 a2).toNat).1) ∧ ((-1) ≤ z ∧ z ≤ 31)) := by
  refine GM.of (by decide) (Nat.le_of_ble_eq_true rfl) ?_
  intro p e s m args below meth c Q ls hQ C hml hr hlocks hP hl
  have hx := C.1
  have hb := C.2.1
  have hok := hP.2
  have hS : va_S A s.heap s.heap [] := va_S.rf
  have hl : lv_has ls 8 [(0, .ref (ad 47)), (1, .int (iI a1)), (2, .int (iI a2)), (3, .int (iI a3))] := hl
  have hp2 := pw2_r a2
  refine lv_iconst (v := iI (-1)) hx hb dX5_bestSet_0 rfl ?_
  refine lv_istore (lv' := [(4, .int (iI (-1))), (0, .ref (ad 47)), (1, .int (iI a1)), (2, .int (iI a2)), (3, .int (iI a3))]) hx hb dX5_bestSet_1 hl (by decide) rfl (fun ls hl => ?_)
  refine lv_iconst (v := iI (-1)) hx hb dX5_bestSet_3 rfl ?_
  refine lv_istore (lv' := [(5, .int (iI (-1))), (4, .int (iI (-1))), (0, .ref (ad 47)), (1, .int (iI a1)), (2, .int (iI a2)), (3, .int (iI a3))]) hx hb dX5_bestSet_4 hl (by decide) rfl (fun ls hl => ?_)
  refine lv_iconst (v := iI 1) hx hb dX5_bestSet_6 rfl ?_
  refine lv_istore (lv' := [(6, .int (iI 1)), (5, .int (iI (-1))), (4, .int (iI (-1))), (0, .ref (ad 47)), (1, .int (iI a1)), (2, .int (iI a2)), (3, .int (iI a3))]) hx hb dX5_bestSet_7 hl (by decide) rfl (fun ls hl => ?_)
  have L_1 : ∀ (n : Nat) (x4 : Int) (x5 : Int) (x6 : Int) (H : Heap) (locs : List Loc) (ls : Array Slot), 32 - x6 < (n : Int) → (1 ≤ x6 ∧ x6 ≤ 32 ∧ x6 ≤ pw2 a2) → ((-1) ≤ x4 ∧ x4 ≤ 31) → ((-1) ≤ x5 ∧ x5 ≤ 256) → ((bsF (fun s => prC (f 18) a1 (tgU (fun c t => (f 40) (c * 5 + t)) s) (v 21).toNat) bcI a3 x6.toNat) = (x4, x5)) → gWd D (rwT k ad) v f g H → va_S A s.heap H locs → lv_has ls 8 [(0, .ref (ad 47)), (1, .int (iI a1)), (2, .int (iI a2)), (3, .int (iI a3)), (4, .int (iI x4)), (5, .int (iI x5)), (6, .int (iI x6))] → W p l e (gRm 3 68) s m args below meth c H locs 0 0 Q (F0 m 9 ls []) := by
    intro n
    induction n with
    | zero =>
      intro x4 x5 x6 H locs ls hn_1 i1_0 i1_1 i1_2 i1_3 hP hS hl
      exfalso; omega
    | succ n ih_9 =>
      intro x4 x5 x6 H locs ls hn_1 i1_0 i1_1 i1_2 i1_3 hP hS hl
      have hI := i1_3
      refine lv_iload hx hb dX5_bestSet_9 (lv_at hl 6 rfl) ?_
      refine lv_iconst (v := iI 1) hx hb dX5_bestSet_11 rfl ?_
      refine lv_iload_n hx hb dX5_bestSet_12 rfl (lv_at hl 2 rfl) ?_
      have q_2 := pw2_r a2
      refine gi_shl (z := (pw2 a2)) hx hb dX5_bestSet_13 (gShlE a2 (by omega)) ?_
      refine gi_cge (tgt := 56) hx hb dX5_bestSet_14 (by decide) (by omega) (by omega) (fun c_3 => ?_) (fun c_3 => ?_)
      · refine lv_iload hx hb dX5_bestSet_56 (lv_at hl 4 rfl) ?_
        exact g_iret hQ C hr hlocks hP hS dX5_bestSet_58 ⟨x4, rfl, rfl, rfl, rfl, (by rw [show pw2 a2 = x6 by omega, hI]), (by first | omega | ((repeat' split) <;> omega))⟩
      · refine lv_iload hx hb dX5_bestSet_17 (lv_at hl 6 rfl) ?_
        refine g_cs (As := [.int (iI x6)]) (rest := []) (n := 1) C hml (x_bitCount l D k A ad hD v f g x6 (by omega)) mM_X5_199 mS_J6_bitCount_0f7a4 mN_J6 mC_J6_bitCount_0f7a4 (by decide +kernel) hP hS (fun _ h => h) ⟨Nat.le_of_ble_eq_true rfl, Nat.le_of_ble_eq_true rfl⟩ ⟨Nat.zero_le _, Nat.zero_le _⟩ hl.1 rfl rfl (Nat.le_of_ble_eq_true rfl) dX5_bestSet_19 (fun r_4 v_4 f_4 g_4 H locs hq_4 hP _ hS => ?_)
        obtain ⟨z_4, rfl, rfl, rfl, rfl, p0_4, p1_4⟩ := hq_4
        show W p l e (gRm 3 68) s m args below meth c _ _ 0 0 Q (F0 m 22 ls [.int (iI z_4)])
        replace p0_4 : z_4 = (bcI x6) := p0_4
        replace p1_4 : (-2147483648) ≤ z_4 ∧ z_4 ≤ 2147483647 := p1_4
        have hz_4 : inR z_4 := (by first | omega | (rw [p0_4]; split <;> omega))
        refine lv_iload_n hx hb dX5_bestSet_22 rfl (lv_at hl 3 rfl) ?_
        refine gi_cne (tgt := 50) hx hb dX5_bestSet_23 (by decide) (by omega) (by omega) (fun c_5 => ?_) (fun c_5 => ?_)
        · refine lv_iinc (v := iI (x6 + 1)) (lv' := [(6, .int (iI (x6 + 1))), (0, .ref (ad 47)), (1, .int (iI a1)), (2, .int (iI a2)), (3, .int (iI a3)), (4, .int (iI x4)), (5, .int (iI x5))]) hx hb dX5_bestSet_50 hl (k := 6) rfl (by show iI _ + iI 1 = _; rw [iI_add]) (by decide) rfl (fun ls hl => ?_)
          refine lv_goto (tgt := 9) hx hb dX5_bestSet_53 (by decide) ?_
          exact ih_9 x4 x5 (x6 + 1) _ _ _ (by omega) (by omega) (by omega) (by omega) (by rw [bsF_s (by omega), hI]; first | (rw [if_pos ⟨by omega, by show _ < prC _ _ _ _; omega⟩]; congr 1; omega) | (rw [if_neg (fun h => by have h1 := h.1; have h2 : _ < prC _ _ _ _ := h.2; omega)])) hP hS (lv_sub hl [1, 2, 3, 4, 5, 6, 0] rfl)
        · refine lv_aload_n hx hb dX5_bestSet_26 rfl (lv_at hl 0 rfl) ?_
          refine lv_iload_n hx hb dX5_bestSet_27 rfl (lv_at hl 1 rfl) ?_
          refine lv_iload hx hb dX5_bestSet_28 (lv_at hl 6 rfl) ?_
          refine g_cv (As := [.int (iI a1), .int (iI x6)]) (rest := []) (n := 2) C hml (x_Re_pairsParted l D k A ad hD v f g a1 x6 (by omega) (by omega) (show 0 ≤ a1 ∧ a1 ≤ 3 from by omega)) mM_X5_204 mI_X5_pairsParted mE_X5_pairsParted mN_X5 mC_X5_pairsParted (by decide +kernel) 47 (ci := 5) rfl rfl hP hS (fun _ h => h) ⟨Nat.le_of_ble_eq_true rfl, Nat.le_of_ble_eq_true rfl⟩ ⟨Nat.zero_le _, Nat.zero_le _⟩ hl.1 rfl rfl (Nat.le_of_ble_eq_true rfl) dX5_bestSet_30 (fun r_6 v_6 f_6 g_6 H locs hq_6 hP _ hS => ?_)
          obtain ⟨z_6, rfl, rfl, rfl, rfl, p0_6, p1_6⟩ := hq_6
          show W p l e (gRm 3 68) s m args below meth c _ _ 0 0 Q (F0 m 33 ls [.int (iI z_6)])
          replace p0_6 : z_6 = (prC (f 18) a1 (tgU (fun c t => (f 40) (c * 5 + t)) x6) (v 21).toNat) := p0_6
          replace p1_6 : 0 ≤ z_6 ∧ z_6 ≤ 256 := p1_6
          have hz_6 : inR z_6 := (by first | omega | (rw [p0_6]; split <;> omega))
          refine lv_istore (lv' := [(7, .int (iI z_6)), (0, .ref (ad 47)), (1, .int (iI a1)), (2, .int (iI a2)), (3, .int (iI a3)), (4, .int (iI x4)), (5, .int (iI x5)), (6, .int (iI x6))]) hx hb dX5_bestSet_33 hl (by decide) rfl (fun ls hl => ?_)
          refine lv_iload hx hb dX5_bestSet_35 (lv_at hl 0 rfl) ?_
          refine lv_iload hx hb dX5_bestSet_37 (lv_at hl 6 rfl) ?_
          refine gi_cle (tgt := 50) hx hb dX5_bestSet_39 (by decide) (by omega) (by omega) (fun c_7 => ?_) (fun c_7 => ?_)
          · refine lv_iinc (v := iI (x6 + 1)) (lv' := [(6, .int (iI (x6 + 1))), (7, .int (iI z_6)), (0, .ref (ad 47)), (1, .int (iI a1)), (2, .int (iI a2)), (3, .int (iI a3)), (4, .int (iI x4)), (5, .int (iI x5))]) hx hb dX5_bestSet_50 hl (k := 7) rfl (by show iI _ + iI 1 = _; rw [iI_add]) (by decide) rfl (fun ls hl => ?_)
            refine lv_goto (tgt := 9) hx hb dX5_bestSet_53 (by decide) ?_
            exact ih_9 x4 x5 (x6 + 1) _ _ _ (by omega) (by omega) (by omega) (by omega) (by rw [bsF_s (by omega), hI]; first | (rw [if_pos ⟨by omega, by show _ < prC _ _ _ _; omega⟩]; congr 1; omega) | (rw [if_neg (fun h => by have h1 := h.1; have h2 : _ < prC _ _ _ _ := h.2; omega)])) hP hS (lv_sub hl [2, 3, 4, 5, 6, 7, 0] rfl)
          · refine lv_iload hx hb dX5_bestSet_42 (lv_at hl 0 rfl) ?_
            refine lv_istore (lv' := [(5, .int (iI z_6)), (7, .int (iI z_6)), (0, .ref (ad 47)), (1, .int (iI a1)), (2, .int (iI a2)), (3, .int (iI a3)), (4, .int (iI x4)), (6, .int (iI x6))]) hx hb dX5_bestSet_44 hl (by decide) rfl (fun ls hl => ?_)
            refine lv_iload hx hb dX5_bestSet_46 (lv_at hl 7 rfl) ?_
            refine lv_istore (lv' := [(4, .int (iI x6)), (5, .int (iI z_6)), (7, .int (iI z_6)), (0, .ref (ad 47)), (1, .int (iI a1)), (2, .int (iI a2)), (3, .int (iI a3)), (6, .int (iI x6))]) hx hb dX5_bestSet_48 hl (by decide) rfl (fun ls hl => ?_)
            refine lv_iinc (v := iI (x6 + 1)) (lv' := [(6, .int (iI (x6 + 1))), (4, .int (iI x6)), (5, .int (iI z_6)), (7, .int (iI z_6)), (0, .ref (ad 47)), (1, .int (iI a1)), (2, .int (iI a2)), (3, .int (iI a3))]) hx hb dX5_bestSet_50 hl (k := 7) rfl (by show iI _ + iI 1 = _; rw [iI_add]) (by decide) rfl (fun ls hl => ?_)
            refine lv_goto (tgt := 9) hx hb dX5_bestSet_53 (by decide) ?_
            exact ih_9 x6 z_6 (x6 + 1) _ _ _ (by omega) (by omega) (by omega) (by omega) (by rw [bsF_s (by omega), hI]; first | (rw [if_pos ⟨by omega, by show _ < prC _ _ _ _; omega⟩]; congr 1; omega) | (rw [if_neg (fun h => by have h1 := h.1; have h2 : _ < prC _ _ _ _ := h.2; omega)])) hP hS (lv_sub hl [4, 5, 6, 7, 1, 2, 0] rfl)
  exact L_1 33 (-1) (-1) 1 _ _ _ (by omega) (by have := pw2_r a2; unfold pw2; (repeat' split) <;> omega) (by omega) (by omega) (by rw [show (1 : Int) = 0 + 1 by omega, bsF_s (by omega), if_neg (by rw [bc_z]; omega)]; rfl) hP hS (lv_sub hl [3, 4, 5, 6, 2, 1, 0] rfl)

set_option maxHeartbeats 4000000 in
set_option maxRecDepth 100000 in
theorem c_X5_manyStartAhead (l : Launch) (D : va_G) (k : Nat → ClassId) (A : Nat → Prop) (ad : Nat → Nat) (hD : rwD A k ad) (v : gV) (f g : gF) (a1 : Int) (a2 : Int) (h_a1 : inR a1) (h_a2 : inR a2) (h1 : 0 ≤ a1 ∧ a1 ≤ 3) (h2 : 0 ≤ a2 ∧ a2 ≤ 15) : GM l D k A (rwT k ad) yX5_manyStartAhead cX5_manyStartAhead 5 (some .int) 2 43 [.ref (ad 47), .int (iI a1), .int (iI a2)] v f g (fun r v1 f1 g1 => ∃ (z : Int), r = some (.int (iI z)) ∧ v = v1 ∧ f = f1 ∧ g = g1 ∧ (0 ≤ z ∧ z ≤ 16)) := by
  refine GM.of (by decide) (Nat.le_of_ble_eq_true rfl) ?_
  intro p e s m args below meth c Q ls hQ C hml hr hlocks hP hl
  have hx := C.1
  have hb := C.2.1
  have hok := hP.2
  have hS : va_S A s.heap s.heap [] := va_S.rf
  have hl : lv_has ls 5 [(0, .ref (ad 47)), (1, .int (iI a1)), (2, .int (iI a2))] := hl
  have r_1 : 0 ≤ (v 21) ∧ (v 21) ≤ 16 := hok.1 21
  refine lv_iconst (v := iI 0) hx hb dX5_manyStartAhead_0 rfl ?_
  refine lv_istore_n (lv' := [(3, .int (iI 0)), (0, .ref (ad 47)), (1, .int (iI a1)), (2, .int (iI a2))]) hx hb dX5_manyStartAhead_1 rfl hl (by decide) rfl (fun ls hl => ?_)
  refine lv_iconst (v := iI 0) hx hb dX5_manyStartAhead_2 rfl ?_
  refine lv_istore (lv' := [(4, .int (iI 0)), (3, .int (iI 0)), (0, .ref (ad 47)), (1, .int (iI a1)), (2, .int (iI a2))]) hx hb dX5_manyStartAhead_3 hl (by decide) rfl (fun ls hl => ?_)
  have L_2 : ∀ (n : Nat) (x3 : Int) (x4 : Int) (H : Heap) (locs : List Loc) (ls : Array Slot), 16 - x4 < (n : Int) → (0 ≤ x4 ∧ x4 ≤ (v 21)) → (0 ≤ x3 ∧ x3 ≤ x4) → gWd D (rwT k ad) v f g H → va_S A s.heap H locs → lv_has ls 5 [(0, .ref (ad 47)), (1, .int (iI a1)), (2, .int (iI a2)), (3, .int (iI x3)), (4, .int (iI x4))] → W p l e (gRm 2 43) s m args below meth c H locs 0 0 Q (F0 m 5 ls []) := by
    intro n
    induction n with
    | zero =>
      intro x3 x4 H locs ls hn_2 i2_0 i2_1 hP hS hl
      exfalso; omega
    | succ n ih_5 =>
      intro x3 x4 H locs ls hn_2 i2_0 i2_1 hP hS hl
      refine lv_iload hx hb dX5_manyStartAhead_5 (lv_at hl 4 rfl) ?_
      refine lv_aload_n hx hb dX5_manyStartAhead_7 rfl (lv_at hl 0 rfl) ?_
      refine rwG_results_field C hP mF_X5_51 dX5_manyStartAhead_8 ?_
      refine rwG_field_climbers C hP mF_X5_157 dX5_manyStartAhead_11 ?_
      refine gi_cge (tgt := 77) hx hb dX5_manyStartAhead_14 (by decide) (by omega) (by omega) (fun c_3 => ?_) (fun c_3 => ?_)
      · refine lv_iload_n hx hb dX5_manyStartAhead_77 rfl (lv_at hl 3 rfl) ?_
        exact g_iret hQ C hr hlocks hP hS dX5_manyStartAhead_78 ⟨x3, rfl, rfl, rfl, rfl, (by first | omega | ((repeat' split) <;> omega))⟩
      · refine lv_aload_n hx hb dX5_manyStartAhead_17 rfl (lv_at hl 0 rfl) ?_
        refine rwG_results_field C hP mF_X5_51 dX5_manyStartAhead_18 ?_
        refine lv_iload_n hx hb dX5_manyStartAhead_21 rfl (lv_at hl 1 rfl) ?_
        refine lv_iload hx hb dX5_manyStartAhead_22 (lv_at hl 4 rfl) ?_
        refine g_cv (As := [.int (iI a1), .int (iI x4)]) (rest := []) (n := 2) C hml (c_X2_isIn l D k A ad hD v f g a1 x4 (by omega) (by omega)) mM_X5_166 mI_X2_isIn mE_X2_isIn mN_X2 mC_X2_isIn (by decide +kernel) 27 (ci := 2) rfl rfl hP hS (fun _ h => h) ⟨Nat.le_of_ble_eq_true rfl, Nat.le_of_ble_eq_true rfl⟩ ⟨Nat.zero_le _, Nat.zero_le _⟩ hl.1 rfl rfl (Nat.le_of_ble_eq_true rfl) dX5_manyStartAhead_24 (fun r_4 v_4 f_4 g_4 H locs hq_4 hP _ hS => ?_)
        obtain ⟨z_4, rfl, rfl, rfl, rfl, p0_4⟩ := hq_4
        show W p l e (gRm 2 43) s m args below meth c _ _ 0 0 Q (F0 m 27 ls [.int (iI z_4)])
        replace p0_4 : z_4 = (if (0 ≤ x4 ∧ x4 < (v 21)) ∧ a1 ≤ (f 18) x4 then 1 else 0) := p0_4
        have w_4 := gif (P := (0 ≤ x4 ∧ x4 < (v 21)) ∧ a1 ≤ (f 18) x4) p0_4
        clear p0_4
        have hz_4 : inR z_4 := (by first | omega | (rw [p0_4]; split <;> omega))
        refine gi_zeq (tgt := 71) hx hb dX5_manyStartAhead_27 (by decide) (by omega) (fun c_5 => ?_) (fun c_5 => ?_)
        · have vz_4 := gif0 w_4 c_5
          clear w_4
          refine lv_iinc (v := iI (x4 + 1)) (lv' := [(4, .int (iI (x4 + 1))), (0, .ref (ad 47)), (1, .int (iI a1)), (2, .int (iI a2)), (3, .int (iI x3))]) hx hb dX5_manyStartAhead_71 hl (k := 4) rfl (by show iI _ + iI 1 = _; rw [iI_add]) (by decide) rfl (fun ls hl => ?_)
          refine lv_goto (tgt := 5) hx hb dX5_manyStartAhead_74 (by decide) ?_
          exact ih_5 x3 (x4 + 1) _ _ _ (by omega) (by omega) (by omega) hP hS (lv_sub hl [1, 2, 3, 4, 0] rfl)
        · have vz_4 := gif1 w_4 c_5
          clear w_4
          refine lv_aload_n hx hb dX5_manyStartAhead_30 rfl (lv_at hl 0 rfl) ?_
          refine rwG_results_ranks C hP mF_X5_40 dX5_manyStartAhead_31 ?_
          refine lv_iload hx hb dX5_manyStartAhead_34 (lv_at hl 4 rfl) ?_
          refine rwL_results_ranks C hP (by omega) (by omega) dX5_manyStartAhead_36 ?_
          have r_6 : (-1) ≤ (f 41 x4) ∧ (f 41 x4) ≤ 17 := hP.2.2 41 x4
          refine lv_aload_n hx hb dX5_manyStartAhead_37 rfl (lv_at hl 0 rfl) ?_
          refine rwG_results_ranks C hP mF_X5_40 dX5_manyStartAhead_38 ?_
          refine lv_iload_n hx hb dX5_manyStartAhead_41 rfl (lv_at hl 2 rfl) ?_
          refine rwL_results_ranks C hP (by omega) (by omega) dX5_manyStartAhead_42 ?_
          have r_7 : (-1) ≤ (f 41 a2) ∧ (f 41 a2) ≤ 17 := hP.2.2 41 a2
          refine gi_cgt (tgt := 68) hx hb dX5_manyStartAhead_43 (by decide) (by omega) (by omega) (fun c_8 => ?_) (fun c_8 => ?_)
          · refine lv_iinc (v := iI (x3 + 1)) (lv' := [(3, .int (iI (x3 + 1))), (0, .ref (ad 47)), (1, .int (iI a1)), (2, .int (iI a2)), (4, .int (iI x4))]) hx hb dX5_manyStartAhead_68 hl (k := 3) rfl (by show iI _ + iI 1 = _; rw [iI_add]) (by decide) rfl (fun ls hl => ?_)
            refine lv_iinc (v := iI (x4 + 1)) (lv' := [(4, .int (iI (x4 + 1))), (3, .int (iI (x3 + 1))), (0, .ref (ad 47)), (1, .int (iI a1)), (2, .int (iI a2))]) hx hb dX5_manyStartAhead_71 hl (k := 4) rfl (by show iI _ + iI 1 = _; rw [iI_add]) (by decide) rfl (fun ls hl => ?_)
            refine lv_goto (tgt := 5) hx hb dX5_manyStartAhead_74 (by decide) ?_
            exact ih_5 (x3 + 1) (x4 + 1) _ _ _ (by omega) (by omega) (by omega) hP hS (lv_sub hl [2, 3, 4, 1, 0] rfl)
          · refine lv_aload_n hx hb dX5_manyStartAhead_46 rfl (lv_at hl 0 rfl) ?_
            refine rwG_results_ranks C hP mF_X5_40 dX5_manyStartAhead_47 ?_
            refine lv_iload hx hb dX5_manyStartAhead_50 (lv_at hl 4 rfl) ?_
            refine rwL_results_ranks C hP (by omega) (by omega) dX5_manyStartAhead_52 ?_
            refine lv_aload_n hx hb dX5_manyStartAhead_53 rfl (lv_at hl 0 rfl) ?_
            refine rwG_results_ranks C hP mF_X5_40 dX5_manyStartAhead_54 ?_
            refine lv_iload_n hx hb dX5_manyStartAhead_57 rfl (lv_at hl 2 rfl) ?_
            refine rwL_results_ranks C hP (by omega) (by omega) dX5_manyStartAhead_58 ?_
            refine gi_cne (tgt := 71) hx hb dX5_manyStartAhead_59 (by decide) (by omega) (by omega) (fun c_9 => ?_) (fun c_9 => ?_)
            · refine lv_iinc (v := iI (x4 + 1)) (lv' := [(4, .int (iI (x4 + 1))), (0, .ref (ad 47)), (1, .int (iI a1)), (2, .int (iI a2)), (3, .int (iI x3))]) hx hb dX5_manyStartAhead_71 hl (k := 4) rfl (by show iI _ + iI 1 = _; rw [iI_add]) (by decide) rfl (fun ls hl => ?_)
              refine lv_goto (tgt := 5) hx hb dX5_manyStartAhead_74 (by decide) ?_
              exact ih_5 x3 (x4 + 1) _ _ _ (by omega) (by omega) (by omega) hP hS (lv_sub hl [1, 2, 3, 4, 0] rfl)
            · refine lv_iload hx hb dX5_manyStartAhead_62 (lv_at hl 4 rfl) ?_
              refine lv_iload_n hx hb dX5_manyStartAhead_64 rfl (lv_at hl 2 rfl) ?_
              refine gi_cle (tgt := 71) hx hb dX5_manyStartAhead_65 (by decide) (by omega) (by omega) (fun c_10 => ?_) (fun c_10 => ?_)
              · refine lv_iinc (v := iI (x4 + 1)) (lv' := [(4, .int (iI (x4 + 1))), (0, .ref (ad 47)), (1, .int (iI a1)), (2, .int (iI a2)), (3, .int (iI x3))]) hx hb dX5_manyStartAhead_71 hl (k := 4) rfl (by show iI _ + iI 1 = _; rw [iI_add]) (by decide) rfl (fun ls hl => ?_)
                refine lv_goto (tgt := 5) hx hb dX5_manyStartAhead_74 (by decide) ?_
                exact ih_5 x3 (x4 + 1) _ _ _ (by omega) (by omega) (by omega) hP hS (lv_sub hl [1, 2, 3, 4, 0] rfl)
              · refine lv_iinc (v := iI (x3 + 1)) (lv' := [(3, .int (iI (x3 + 1))), (0, .ref (ad 47)), (1, .int (iI a1)), (2, .int (iI a2)), (4, .int (iI x4))]) hx hb dX5_manyStartAhead_68 hl (k := 3) rfl (by show iI _ + iI 1 = _; rw [iI_add]) (by decide) rfl (fun ls hl => ?_)
                refine lv_iinc (v := iI (x4 + 1)) (lv' := [(4, .int (iI (x4 + 1))), (3, .int (iI (x3 + 1))), (0, .ref (ad 47)), (1, .int (iI a1)), (2, .int (iI a2))]) hx hb dX5_manyStartAhead_71 hl (k := 4) rfl (by show iI _ + iI 1 = _; rw [iI_add]) (by decide) rfl (fun ls hl => ?_)
                refine lv_goto (tgt := 5) hx hb dX5_manyStartAhead_74 (by decide) ?_
                exact ih_5 (x3 + 1) (x4 + 1) _ _ _ (by omega) (by omega) (by omega) hP hS (lv_sub hl [2, 3, 4, 1, 0] rfl)
  exact L_2 17 0 0 _ _ _ (by omega) (by omega) (by omega) hP hS (lv_sub hl [2, 3, 4, 1, 0] rfl)

set_option maxHeartbeats 4000000 in
set_option maxRecDepth 100000 in
theorem c_X5_starter (l : Launch) (D : va_G) (k : Nat → ClassId) (A : Nat → Prop) (ad : Nat → Nat) (hD : rwD A k ad) (v : gV) (f g : gF) (a1 : Int) (a2 : Int) (h_a1 : inR a1) (h_a2 : inR a2) (h1 : 0 ≤ a1 ∧ a1 ≤ 3) : GM l D k A (rwT k ad) yX5_starter cX5_starter 4 (some .int) 3 67 [.ref (ad 47), .int (iI a1), .int (iI a2)] v f g (fun r v1 f1 g1 => ∃ (z : Int), r = some (.int (iI z)) ∧ v = v1 ∧ f = f1 ∧ g = g1 ∧ ((-1) ≤ z ∧ z ≤ 15)) := by
  refine GM.of (by decide) (Nat.le_of_ble_eq_true rfl) ?_
  intro p e s m args below meth c Q ls hQ C hml hr hlocks hP hl
  have hx := C.1
  have hb := C.2.1
  have hok := hP.2
  have hS : va_S A s.heap s.heap [] := va_S.rf
  have hl : lv_has ls 4 [(0, .ref (ad 47)), (1, .int (iI a1)), (2, .int (iI a2))] := hl
  have r_1 : 0 ≤ (v 21) ∧ (v 21) ≤ 16 := hok.1 21
  refine lv_iconst (v := iI 0) hx hb dX5_starter_0 rfl ?_
  refine lv_istore_n (lv' := [(3, .int (iI 0)), (0, .ref (ad 47)), (1, .int (iI a1)), (2, .int (iI a2))]) hx hb dX5_starter_1 rfl hl (by decide) rfl (fun ls hl => ?_)
  have L_2 : ∀ (n : Nat) (x3 : Int) (H : Heap) (locs : List Loc) (ls : Array Slot), 16 - x3 < (n : Int) → (0 ≤ x3 ∧ x3 ≤ (v 21)) → gWd D (rwT k ad) v f g H → va_S A s.heap H locs → lv_has ls 4 [(0, .ref (ad 47)), (1, .int (iI a1)), (2, .int (iI a2)), (3, .int (iI x3))] → W p l e (gRm 3 67) s m args below meth c H locs 0 0 Q (F0 m 2 ls []) := by
    intro n
    induction n with
    | zero =>
      intro x3 H locs ls hn_2 i2_0 hP hS hl
      exfalso; omega
    | succ n ih_2 =>
      intro x3 H locs ls hn_2 i2_0 hP hS hl
      refine lv_iload_n hx hb dX5_starter_2 rfl (lv_at hl 3 rfl) ?_
      refine lv_aload_n hx hb dX5_starter_3 rfl (lv_at hl 0 rfl) ?_
      refine rwG_results_field C hP mF_X5_51 dX5_starter_4 ?_
      refine rwG_field_climbers C hP mF_X5_157 dX5_starter_7 ?_
      refine gi_cge (tgt := 43) hx hb dX5_starter_10 (by decide) (by omega) (by omega) (fun c_3 => ?_) (fun c_3 => ?_)
      · refine lv_iconst (v := iI (-1)) hx hb dX5_starter_43 rfl ?_
        exact g_iret hQ C hr hlocks hP hS dX5_starter_44 ⟨(-1), rfl, rfl, rfl, rfl, (by first | omega | ((repeat' split) <;> omega))⟩
      · refine lv_aload_n hx hb dX5_starter_13 rfl (lv_at hl 0 rfl) ?_
        refine rwG_results_field C hP mF_X5_51 dX5_starter_14 ?_
        refine lv_iload_n hx hb dX5_starter_17 rfl (lv_at hl 1 rfl) ?_
        refine lv_iload_n hx hb dX5_starter_18 rfl (lv_at hl 3 rfl) ?_
        refine g_cv (As := [.int (iI a1), .int (iI x3)]) (rest := []) (n := 2) C hml (c_X2_isIn l D k A ad hD v f g a1 x3 (by omega) (by omega)) mM_X5_166 mI_X2_isIn mE_X2_isIn mN_X2 mC_X2_isIn (by decide +kernel) 27 (ci := 2) rfl rfl hP hS (fun _ h => h) ⟨Nat.le_of_ble_eq_true rfl, Nat.le_of_ble_eq_true rfl⟩ ⟨Nat.zero_le _, Nat.zero_le _⟩ hl.1 rfl rfl (Nat.le_of_ble_eq_true rfl) dX5_starter_19 (fun r_4 v_4 f_4 g_4 H locs hq_4 hP _ hS => ?_)
        obtain ⟨z_4, rfl, rfl, rfl, rfl, p0_4⟩ := hq_4
        show W p l e (gRm 3 67) s m args below meth c _ _ 0 0 Q (F0 m 22 ls [.int (iI z_4)])
        replace p0_4 : z_4 = (if (0 ≤ x3 ∧ x3 < (v 21)) ∧ a1 ≤ (f 18) x3 then 1 else 0) := p0_4
        have w_4 := gif (P := (0 ≤ x3 ∧ x3 < (v 21)) ∧ a1 ≤ (f 18) x3) p0_4
        clear p0_4
        have hz_4 : inR z_4 := (by first | omega | (rw [p0_4]; split <;> omega))
        refine gi_zeq (tgt := 37) hx hb dX5_starter_22 (by decide) (by omega) (fun c_5 => ?_) (fun c_5 => ?_)
        · have vz_4 := gif0 w_4 c_5
          clear w_4
          refine lv_iinc (v := iI (x3 + 1)) (lv' := [(3, .int (iI (x3 + 1))), (0, .ref (ad 47)), (1, .int (iI a1)), (2, .int (iI a2))]) hx hb dX5_starter_37 hl (k := 3) rfl (by show iI _ + iI 1 = _; rw [iI_add]) (by decide) rfl (fun ls hl => ?_)
          refine lv_goto (tgt := 2) hx hb dX5_starter_40 (by decide) ?_
          exact ih_2 (x3 + 1) _ _ _ (by omega) (by omega) hP hS (lv_sub hl [1, 2, 3, 0] rfl)
        · have vz_4 := gif1 w_4 c_5
          clear w_4
          refine lv_aload_n hx hb dX5_starter_25 rfl (lv_at hl 0 rfl) ?_
          refine lv_iload_n hx hb dX5_starter_26 rfl (lv_at hl 1 rfl) ?_
          refine lv_iload_n hx hb dX5_starter_27 rfl (lv_at hl 3 rfl) ?_
          refine g_cv (As := [.int (iI a1), .int (iI x3)]) (rest := []) (n := 2) C hml (c_X5_manyStartAhead l D k A ad hD v f g a1 x3 (by omega) (by omega) (show 0 ≤ a1 ∧ a1 ≤ 3 from by omega) (show 0 ≤ x3 ∧ x3 ≤ 15 from by omega)) mM_X5_192 mI_X5_manyStartAhead mE_X5_manyStartAhead mN_X5 mC_X5_manyStartAhead (by decide +kernel) 47 (ci := 5) rfl rfl hP hS (fun _ h => h) ⟨Nat.le_of_ble_eq_true rfl, Nat.le_of_ble_eq_true rfl⟩ ⟨Nat.zero_le _, Nat.zero_le _⟩ hl.1 rfl rfl (Nat.le_of_ble_eq_true rfl) dX5_starter_28 (fun r_6 v_6 f_6 g_6 H locs hq_6 hP _ hS => ?_)
          obtain ⟨z_6, rfl, rfl, rfl, rfl, p0_6⟩ := hq_6
          show W p l e (gRm 3 67) s m args below meth c _ _ 0 0 Q (F0 m 31 ls [.int (iI z_6)])
          replace p0_6 : 0 ≤ z_6 ∧ z_6 ≤ 16 := p0_6
          refine lv_iload_n hx hb dX5_starter_31 rfl (lv_at hl 2 rfl) ?_
          refine gi_cne (tgt := 37) hx hb dX5_starter_32 (by decide) (by omega) (by omega) (fun c_7 => ?_) (fun c_7 => ?_)
          · refine lv_iinc (v := iI (x3 + 1)) (lv' := [(3, .int (iI (x3 + 1))), (0, .ref (ad 47)), (1, .int (iI a1)), (2, .int (iI a2))]) hx hb dX5_starter_37 hl (k := 3) rfl (by show iI _ + iI 1 = _; rw [iI_add]) (by decide) rfl (fun ls hl => ?_)
            refine lv_goto (tgt := 2) hx hb dX5_starter_40 (by decide) ?_
            exact ih_2 (x3 + 1) _ _ _ (by omega) (by omega) hP hS (lv_sub hl [1, 2, 3, 0] rfl)
          · refine lv_iload_n hx hb dX5_starter_35 rfl (lv_at hl 3 rfl) ?_
            exact g_iret hQ C hr hlocks hP hS dX5_starter_36 ⟨x3, rfl, rfl, rfl, rfl, (by first | omega | ((repeat' split) <;> omega))⟩
  exact L_2 17 0 _ _ _ (by omega) (by omega) hP hS (lv_sub hl [1, 2, 3, 0] rfl)
end
