section
theorem dG_dX10_climber_0 : (decode cX10_climber 0 = .ok (.aload_n 0, 1)) ∧ (decode cX10_climber 1 = .ok (.getfield 16, 3)) ∧ (decode cX10_climber 4 = .ok (.getfield 117, 3)) ∧ (decode cX10_climber 7 = .ok (.ifCond .ne 9, 3)) ∧ (decode cX10_climber 10 = .ok (.aload_n 0, 1)) ∧ (decode cX10_climber 11 = .ok (.iconst 1, 1)) ∧ (decode cX10_climber 12 = .ok (.invokevirtual 88, 3)) ∧ (decode cX10_climber 15 = .ok (.ireturn, 1)) ∧ (decode cX10_climber 16 = .ok (.aload_n 0, 1)) ∧ (decode cX10_climber 17 = .ok (.getfield 37, 3)) ∧ (decode cX10_climber 20 = .ok (.getfield 123, 3)) ∧ (decode cX10_climber 23 = .ok (.bipush 16, 2)) := by decide +kernel
theorem dX10_climber_0 : decode cX10_climber 0 = .ok (.aload_n 0, 1) := dG_dX10_climber_0.1
theorem dX10_climber_1 : decode cX10_climber 1 = .ok (.getfield 16, 3) := dG_dX10_climber_0.2.1
theorem dX10_climber_4 : decode cX10_climber 4 = .ok (.getfield 117, 3) := dG_dX10_climber_0.2.2.1
theorem dX10_climber_7 : decode cX10_climber 7 = .ok (.ifCond .ne 9, 3) := dG_dX10_climber_0.2.2.2.1
theorem dX10_climber_10 : decode cX10_climber 10 = .ok (.aload_n 0, 1) := dG_dX10_climber_0.2.2.2.2.1
theorem dX10_climber_11 : decode cX10_climber 11 = .ok (.iconst 1, 1) := dG_dX10_climber_0.2.2.2.2.2.1
theorem dX10_climber_12 : decode cX10_climber 12 = .ok (.invokevirtual 88, 3) := dG_dX10_climber_0.2.2.2.2.2.2.1
theorem dX10_climber_15 : decode cX10_climber 15 = .ok (.ireturn, 1) := dG_dX10_climber_0.2.2.2.2.2.2.2.1
theorem dX10_climber_16 : decode cX10_climber 16 = .ok (.aload_n 0, 1) := dG_dX10_climber_0.2.2.2.2.2.2.2.2.1
theorem dX10_climber_17 : decode cX10_climber 17 = .ok (.getfield 37, 3) := dG_dX10_climber_0.2.2.2.2.2.2.2.2.2.1
theorem dX10_climber_20 : decode cX10_climber 20 = .ok (.getfield 123, 3) := dG_dX10_climber_0.2.2.2.2.2.2.2.2.2.2.1
theorem dX10_climber_23 : decode cX10_climber 23 = .ok (.bipush 16, 2) := dG_dX10_climber_0.2.2.2.2.2.2.2.2.2.2.2
theorem dG_dX10_climber_25 : (decode cX10_climber 25 = .ok (.if_icmp .lt 9, 3)) ∧ (decode cX10_climber 28 = .ok (.aload_n 0, 1)) ∧ (decode cX10_climber 29 = .ok (.iconst 3, 1)) ∧ (decode cX10_climber 30 = .ok (.invokevirtual 88, 3)) ∧ (decode cX10_climber 33 = .ok (.ireturn, 1)) ∧ (decode cX10_climber 34 = .ok (.aload_n 0, 1)) ∧ (decode cX10_climber 35 = .ok (.getfield 44, 3)) ∧ (decode cX10_climber 38 = .ok (.getfield 126, 3)) ∧ (decode cX10_climber 41 = .ok (.ifCond .gt 13, 3)) ∧ (decode cX10_climber 44 = .ok (.aload_n 0, 1)) ∧ (decode cX10_climber 45 = .ok (.getfield 37, 3)) ∧ (decode cX10_climber 48 = .ok (.getfield 129, 3)) := by decide +kernel
theorem dX10_climber_25 : decode cX10_climber 25 = .ok (.if_icmp .lt 9, 3) := dG_dX10_climber_25.1
theorem dX10_climber_28 : decode cX10_climber 28 = .ok (.aload_n 0, 1) := dG_dX10_climber_25.2.1
theorem dX10_climber_29 : decode cX10_climber 29 = .ok (.iconst 3, 1) := dG_dX10_climber_25.2.2.1
theorem dX10_climber_30 : decode cX10_climber 30 = .ok (.invokevirtual 88, 3) := dG_dX10_climber_25.2.2.2.1
theorem dX10_climber_33 : decode cX10_climber 33 = .ok (.ireturn, 1) := dG_dX10_climber_25.2.2.2.2.1
theorem dX10_climber_34 : decode cX10_climber 34 = .ok (.aload_n 0, 1) := dG_dX10_climber_25.2.2.2.2.2.1
theorem dX10_climber_35 : decode cX10_climber 35 = .ok (.getfield 44, 3) := dG_dX10_climber_25.2.2.2.2.2.2.1
theorem dX10_climber_38 : decode cX10_climber 38 = .ok (.getfield 126, 3) := dG_dX10_climber_25.2.2.2.2.2.2.2.1
theorem dX10_climber_41 : decode cX10_climber 41 = .ok (.ifCond .gt 13, 3) := dG_dX10_climber_25.2.2.2.2.2.2.2.2.1
theorem dX10_climber_44 : decode cX10_climber 44 = .ok (.aload_n 0, 1) := dG_dX10_climber_25.2.2.2.2.2.2.2.2.2.1
theorem dX10_climber_45 : decode cX10_climber 45 = .ok (.getfield 37, 3) := dG_dX10_climber_25.2.2.2.2.2.2.2.2.2.2.1
theorem dX10_climber_48 : decode cX10_climber 48 = .ok (.getfield 129, 3) := dG_dX10_climber_25.2.2.2.2.2.2.2.2.2.2.2
theorem dG_dX10_climber_51 : (decode cX10_climber 51 = .ok (.ifCond .le 10, 3)) ∧ (decode cX10_climber 54 = .ok (.aload_n 0, 1)) ∧ (decode cX10_climber 55 = .ok (.bipush 10, 2)) ∧ (decode cX10_climber 57 = .ok (.invokevirtual 88, 3)) ∧ (decode cX10_climber 60 = .ok (.ireturn, 1)) ∧ (decode cX10_climber 61 = .ok (.aload_n 0, 1)) ∧ (decode cX10_climber 62 = .ok (.aload_n 0, 1)) ∧ (decode cX10_climber 63 = .ok (.getfield 37, 3)) ∧ (decode cX10_climber 66 = .ok (.invokevirtual 132, 3)) ∧ (decode cX10_climber 69 = .ok (.invokevirtual 120, 3)) ∧ (decode cX10_climber 72 = .ok (.ireturn, 1)) ∧ (decode cX10_route 0 = .ok (.aload_n 0, 1)) := by decide +kernel
theorem dX10_climber_51 : decode cX10_climber 51 = .ok (.ifCond .le 10, 3) := dG_dX10_climber_51.1
theorem dX10_climber_54 : decode cX10_climber 54 = .ok (.aload_n 0, 1) := dG_dX10_climber_51.2.1
theorem dX10_climber_55 : decode cX10_climber 55 = .ok (.bipush 10, 2) := dG_dX10_climber_51.2.2.1
theorem dX10_climber_57 : decode cX10_climber 57 = .ok (.invokevirtual 88, 3) := dG_dX10_climber_51.2.2.2.1
theorem dX10_climber_60 : decode cX10_climber 60 = .ok (.ireturn, 1) := dG_dX10_climber_51.2.2.2.2.1
theorem dX10_climber_61 : decode cX10_climber 61 = .ok (.aload_n 0, 1) := dG_dX10_climber_51.2.2.2.2.2.1
theorem dX10_climber_62 : decode cX10_climber 62 = .ok (.aload_n 0, 1) := dG_dX10_climber_51.2.2.2.2.2.2.1
theorem dX10_climber_63 : decode cX10_climber 63 = .ok (.getfield 37, 3) := dG_dX10_climber_51.2.2.2.2.2.2.2.1
theorem dX10_climber_66 : decode cX10_climber 66 = .ok (.invokevirtual 132, 3) := dG_dX10_climber_51.2.2.2.2.2.2.2.2.1
theorem dX10_climber_69 : decode cX10_climber 69 = .ok (.invokevirtual 120, 3) := dG_dX10_climber_51.2.2.2.2.2.2.2.2.2.1
theorem dX10_climber_72 : decode cX10_climber 72 = .ok (.ireturn, 1) := dG_dX10_climber_51.2.2.2.2.2.2.2.2.2.2.1
theorem dX10_route_0 : decode cX10_route 0 = .ok (.aload_n 0, 1) := dG_dX10_climber_51.2.2.2.2.2.2.2.2.2.2.2
theorem dG_dX10_route_1 : (decode cX10_route 1 = .ok (.getfield 16, 3)) ∧ (decode cX10_route 4 = .ok (.iload_n 1, 1)) ∧ (decode cX10_route 5 = .ok (.iload_n 2, 1)) ∧ (decode cX10_route 6 = .ok (.invokevirtual 136, 3)) ∧ (decode cX10_route 9 = .ok (.ifCond .ne 9, 3)) ∧ (decode cX10_route 12 = .ok (.aload_n 0, 1)) ∧ (decode cX10_route 13 = .ok (.iconst 1, 1)) ∧ (decode cX10_route 14 = .ok (.invokevirtual 140, 3)) ∧ (decode cX10_route 17 = .ok (.ireturn, 1)) ∧ (decode cX10_route 18 = .ok (.iload_n 3, 1)) ∧ (decode cX10_route 19 = .ok (.iconst 2, 1)) ∧ (decode cX10_route 20 = .ok (.if_icmp .lt 22, 3)) := by decide +kernel
theorem dX10_route_1 : decode cX10_route 1 = .ok (.getfield 16, 3) := dG_dX10_route_1.1
theorem dX10_route_4 : decode cX10_route 4 = .ok (.iload_n 1, 1) := dG_dX10_route_1.2.1
theorem dX10_route_5 : decode cX10_route 5 = .ok (.iload_n 2, 1) := dG_dX10_route_1.2.2.1
theorem dX10_route_6 : decode cX10_route 6 = .ok (.invokevirtual 136, 3) := dG_dX10_route_1.2.2.2.1
theorem dX10_route_9 : decode cX10_route 9 = .ok (.ifCond .ne 9, 3) := dG_dX10_route_1.2.2.2.2.1
theorem dX10_route_12 : decode cX10_route 12 = .ok (.aload_n 0, 1) := dG_dX10_route_1.2.2.2.2.2.1
theorem dX10_route_13 : decode cX10_route 13 = .ok (.iconst 1, 1) := dG_dX10_route_1.2.2.2.2.2.2.1
theorem dX10_route_14 : decode cX10_route 14 = .ok (.invokevirtual 140, 3) := dG_dX10_route_1.2.2.2.2.2.2.2.1
theorem dX10_route_17 : decode cX10_route 17 = .ok (.ireturn, 1) := dG_dX10_route_1.2.2.2.2.2.2.2.2.1
theorem dX10_route_18 : decode cX10_route 18 = .ok (.iload_n 3, 1) := dG_dX10_route_1.2.2.2.2.2.2.2.2.2.1
theorem dX10_route_19 : decode cX10_route 19 = .ok (.iconst 2, 1) := dG_dX10_route_1.2.2.2.2.2.2.2.2.2.2.1
theorem dX10_route_20 : decode cX10_route 20 = .ok (.if_icmp .lt 22, 3) := dG_dX10_route_1.2.2.2.2.2.2.2.2.2.2.2
theorem dG_dX10_route_23 : (decode cX10_route 23 = .ok (.iload_n 3, 1)) ∧ (decode cX10_route 24 = .ok (.bipush 60, 2)) ∧ (decode cX10_route 26 = .ok (.if_icmp .gt 16, 3)) ∧ (decode cX10_route 29 = .ok (.iload_n 3, 1)) ∧ (decode cX10_route 30 = .ok (.iload 4, 2)) ∧ (decode cX10_route 32 = .ok (.iload 5, 2)) ∧ (decode cX10_route 34 = .ok (.iload 6, 2)) ∧ (decode cX10_route 36 = .ok (.invokestatic 144, 3)) ∧ (decode cX10_route 39 = .ok (.ifCond .ne 9, 3)) ∧ (decode cX10_route 42 = .ok (.aload_n 0, 1)) ∧ (decode cX10_route 43 = .ok (.iconst 2, 1)) ∧ (decode cX10_route 44 = .ok (.invokevirtual 140, 3)) := by decide +kernel
theorem dX10_route_23 : decode cX10_route 23 = .ok (.iload_n 3, 1) := dG_dX10_route_23.1
theorem dX10_route_24 : decode cX10_route 24 = .ok (.bipush 60, 2) := dG_dX10_route_23.2.1
theorem dX10_route_26 : decode cX10_route 26 = .ok (.if_icmp .gt 16, 3) := dG_dX10_route_23.2.2.1
theorem dX10_route_29 : decode cX10_route 29 = .ok (.iload_n 3, 1) := dG_dX10_route_23.2.2.2.1
theorem dX10_route_30 : decode cX10_route 30 = .ok (.iload 4, 2) := dG_dX10_route_23.2.2.2.2.1
theorem dX10_route_32 : decode cX10_route 32 = .ok (.iload 5, 2) := dG_dX10_route_23.2.2.2.2.2.1
theorem dX10_route_34 : decode cX10_route 34 = .ok (.iload 6, 2) := dG_dX10_route_23.2.2.2.2.2.2.1
theorem dX10_route_36 : decode cX10_route 36 = .ok (.invokestatic 144, 3) := dG_dX10_route_23.2.2.2.2.2.2.2.1
theorem dX10_route_39 : decode cX10_route 39 = .ok (.ifCond .ne 9, 3) := dG_dX10_route_23.2.2.2.2.2.2.2.2.1
theorem dX10_route_42 : decode cX10_route 42 = .ok (.aload_n 0, 1) := dG_dX10_route_23.2.2.2.2.2.2.2.2.2.1
theorem dX10_route_43 : decode cX10_route 43 = .ok (.iconst 2, 1) := dG_dX10_route_23.2.2.2.2.2.2.2.2.2.2.1
theorem dX10_route_44 : decode cX10_route 44 = .ok (.invokevirtual 140, 3) := dG_dX10_route_23.2.2.2.2.2.2.2.2.2.2.2
theorem dG_dX10_route_47 : (decode cX10_route 47 = .ok (.ireturn, 1)) ∧ (decode cX10_route 48 = .ok (.aload_n 0, 1)) ∧ (decode cX10_route 49 = .ok (.getfield 30, 3)) ∧ (decode cX10_route 52 = .ok (.iload_n 1, 1)) ∧ (decode cX10_route 53 = .ok (.iload_n 2, 1)) ∧ (decode cX10_route 54 = .ok (.invokevirtual 148, 3)) ∧ (decode cX10_route 57 = .ok (.ifCond .le 10, 3)) ∧ (decode cX10_route 60 = .ok (.aload_n 0, 1)) ∧ (decode cX10_route 61 = .ok (.bipush 10, 2)) ∧ (decode cX10_route 63 = .ok (.invokevirtual 140, 3)) ∧ (decode cX10_route 66 = .ok (.ireturn, 1)) ∧ (decode cX10_route 67 = .ok (.aload_n 0, 1)) := by decide +kernel
theorem dX10_route_47 : decode cX10_route 47 = .ok (.ireturn, 1) := dG_dX10_route_47.1
theorem dX10_route_48 : decode cX10_route 48 = .ok (.aload_n 0, 1) := dG_dX10_route_47.2.1
theorem dX10_route_49 : decode cX10_route 49 = .ok (.getfield 30, 3) := dG_dX10_route_47.2.2.1
theorem dX10_route_52 : decode cX10_route 52 = .ok (.iload_n 1, 1) := dG_dX10_route_47.2.2.2.1
theorem dX10_route_53 : decode cX10_route 53 = .ok (.iload_n 2, 1) := dG_dX10_route_47.2.2.2.2.1
theorem dX10_route_54 : decode cX10_route 54 = .ok (.invokevirtual 148, 3) := dG_dX10_route_47.2.2.2.2.2.1
theorem dX10_route_57 : decode cX10_route 57 = .ok (.ifCond .le 10, 3) := dG_dX10_route_47.2.2.2.2.2.2.1
theorem dX10_route_60 : decode cX10_route 60 = .ok (.aload_n 0, 1) := dG_dX10_route_47.2.2.2.2.2.2.2.1
theorem dX10_route_61 : decode cX10_route 61 = .ok (.bipush 10, 2) := dG_dX10_route_47.2.2.2.2.2.2.2.2.1
theorem dX10_route_63 : decode cX10_route 63 = .ok (.invokevirtual 140, 3) := dG_dX10_route_47.2.2.2.2.2.2.2.2.2.1
theorem dX10_route_66 : decode cX10_route 66 = .ok (.ireturn, 1) := dG_dX10_route_47.2.2.2.2.2.2.2.2.2.2.1
theorem dX10_route_67 : decode cX10_route 67 = .ok (.aload_n 0, 1) := dG_dX10_route_47.2.2.2.2.2.2.2.2.2.2.2
theorem dG_dX10_route_68 : (decode cX10_route 68 = .ok (.getfield 30, 3)) ∧ (decode cX10_route 71 = .ok (.iload_n 1, 1)) ∧ (decode cX10_route 72 = .ok (.iload_n 2, 1)) ∧ (decode cX10_route 73 = .ok (.iload_n 3, 1)) ∧ (decode cX10_route 74 = .ok (.invokevirtual 152, 3)) ∧ (decode cX10_route 77 = .ok (.aload_n 0, 1)) ∧ (decode cX10_route 78 = .ok (.getfield 30, 3)) ∧ (decode cX10_route 81 = .ok (.iload_n 1, 1)) ∧ (decode cX10_route 82 = .ok (.iload_n 2, 1)) ∧ (decode cX10_route 83 = .ok (.iconst 0, 1)) ∧ (decode cX10_route 84 = .ok (.iload 4, 2)) ∧ (decode cX10_route 86 = .ok (.invokevirtual 156, 3)) := by decide +kernel
theorem dX10_route_68 : decode cX10_route 68 = .ok (.getfield 30, 3) := dG_dX10_route_68.1
theorem dX10_route_71 : decode cX10_route 71 = .ok (.iload_n 1, 1) := dG_dX10_route_68.2.1
theorem dX10_route_72 : decode cX10_route 72 = .ok (.iload_n 2, 1) := dG_dX10_route_68.2.2.1
theorem dX10_route_73 : decode cX10_route 73 = .ok (.iload_n 3, 1) := dG_dX10_route_68.2.2.2.1
theorem dX10_route_74 : decode cX10_route 74 = .ok (.invokevirtual 152, 3) := dG_dX10_route_68.2.2.2.2.1
theorem dX10_route_77 : decode cX10_route 77 = .ok (.aload_n 0, 1) := dG_dX10_route_68.2.2.2.2.2.1
theorem dX10_route_78 : decode cX10_route 78 = .ok (.getfield 30, 3) := dG_dX10_route_68.2.2.2.2.2.2.1
theorem dX10_route_81 : decode cX10_route 81 = .ok (.iload_n 1, 1) := dG_dX10_route_68.2.2.2.2.2.2.2.1
theorem dX10_route_82 : decode cX10_route 82 = .ok (.iload_n 2, 1) := dG_dX10_route_68.2.2.2.2.2.2.2.2.1
theorem dX10_route_83 : decode cX10_route 83 = .ok (.iconst 0, 1) := dG_dX10_route_68.2.2.2.2.2.2.2.2.2.1
theorem dX10_route_84 : decode cX10_route 84 = .ok (.iload 4, 2) := dG_dX10_route_68.2.2.2.2.2.2.2.2.2.2.1
theorem dX10_route_86 : decode cX10_route 86 = .ok (.invokevirtual 156, 3) := dG_dX10_route_68.2.2.2.2.2.2.2.2.2.2.2
theorem dG_dX10_route_89 : (decode cX10_route 89 = .ok (.aload_n 0, 1)) ∧ (decode cX10_route 90 = .ok (.getfield 30, 3)) ∧ (decode cX10_route 93 = .ok (.iload_n 1, 1)) ∧ (decode cX10_route 94 = .ok (.iload_n 2, 1)) ∧ (decode cX10_route 95 = .ok (.iconst 1, 1)) ∧ (decode cX10_route 96 = .ok (.iload 5, 2)) ∧ (decode cX10_route 98 = .ok (.invokevirtual 156, 3)) ∧ (decode cX10_route 101 = .ok (.aload_n 0, 1)) ∧ (decode cX10_route 102 = .ok (.getfield 30, 3)) ∧ (decode cX10_route 105 = .ok (.iload_n 1, 1)) ∧ (decode cX10_route 106 = .ok (.iload_n 2, 1)) ∧ (decode cX10_route 107 = .ok (.iconst 2, 1)) := by decide +kernel
theorem dX10_route_89 : decode cX10_route 89 = .ok (.aload_n 0, 1) := dG_dX10_route_89.1
theorem dX10_route_90 : decode cX10_route 90 = .ok (.getfield 30, 3) := dG_dX10_route_89.2.1
theorem dX10_route_93 : decode cX10_route 93 = .ok (.iload_n 1, 1) := dG_dX10_route_89.2.2.1
theorem dX10_route_94 : decode cX10_route 94 = .ok (.iload_n 2, 1) := dG_dX10_route_89.2.2.2.1
theorem dX10_route_95 : decode cX10_route 95 = .ok (.iconst 1, 1) := dG_dX10_route_89.2.2.2.2.1
theorem dX10_route_96 : decode cX10_route 96 = .ok (.iload 5, 2) := dG_dX10_route_89.2.2.2.2.2.1
theorem dX10_route_98 : decode cX10_route 98 = .ok (.invokevirtual 156, 3) := dG_dX10_route_89.2.2.2.2.2.2.1
theorem dX10_route_101 : decode cX10_route 101 = .ok (.aload_n 0, 1) := dG_dX10_route_89.2.2.2.2.2.2.2.1
theorem dX10_route_102 : decode cX10_route 102 = .ok (.getfield 30, 3) := dG_dX10_route_89.2.2.2.2.2.2.2.2.1
theorem dX10_route_105 : decode cX10_route 105 = .ok (.iload_n 1, 1) := dG_dX10_route_89.2.2.2.2.2.2.2.2.2.1
theorem dX10_route_106 : decode cX10_route 106 = .ok (.iload_n 2, 1) := dG_dX10_route_89.2.2.2.2.2.2.2.2.2.2.1
theorem dX10_route_107 : decode cX10_route 107 = .ok (.iconst 2, 1) := dG_dX10_route_89.2.2.2.2.2.2.2.2.2.2.2
theorem dG_dX10_route_108 : (decode cX10_route 108 = .ok (.iload 6, 2)) ∧ (decode cX10_route 110 = .ok (.invokevirtual 156, 3)) ∧ (decode cX10_route 113 = .ok (.aload_n 0, 1)) ∧ (decode cX10_route 114 = .ok (.invokevirtual 160, 3)) ∧ (decode cX10_route 117 = .ok (.ireturn, 1)) ∧ (decode cX10_told 0 = .ok (.iload_n 2, 1)) ∧ (decode cX10_told 1 = .ok (.iconst (-1), 1)) ∧ (decode cX10_told 2 = .ok (.if_icmp .ne 7, 3)) ∧ (decode cX10_told 5 = .ok (.iconst 1, 1)) ∧ (decode cX10_told 6 = .ok (.goto 4, 3)) ∧ (decode cX10_told 9 = .ok (.iconst 0, 1)) ∧ (decode cX10_told 10 = .ok (.istore 4, 2)) := by decide +kernel
theorem dX10_route_108 : decode cX10_route 108 = .ok (.iload 6, 2) := dG_dX10_route_108.1
theorem dX10_route_110 : decode cX10_route 110 = .ok (.invokevirtual 156, 3) := dG_dX10_route_108.2.1
theorem dX10_route_113 : decode cX10_route 113 = .ok (.aload_n 0, 1) := dG_dX10_route_108.2.2.1
theorem dX10_route_114 : decode cX10_route 114 = .ok (.invokevirtual 160, 3) := dG_dX10_route_108.2.2.2.1
theorem dX10_route_117 : decode cX10_route 117 = .ok (.ireturn, 1) := dG_dX10_route_108.2.2.2.2.1
theorem dX10_told_0 : decode cX10_told 0 = .ok (.iload_n 2, 1) := dG_dX10_route_108.2.2.2.2.2.1
theorem dX10_told_1 : decode cX10_told 1 = .ok (.iconst (-1), 1) := dG_dX10_route_108.2.2.2.2.2.2.1
theorem dX10_told_2 : decode cX10_told 2 = .ok (.if_icmp .ne 7, 3) := dG_dX10_route_108.2.2.2.2.2.2.2.1
theorem dX10_told_5 : decode cX10_told 5 = .ok (.iconst 1, 1) := dG_dX10_route_108.2.2.2.2.2.2.2.2.1
theorem dX10_told_6 : decode cX10_told 6 = .ok (.goto 4, 3) := dG_dX10_route_108.2.2.2.2.2.2.2.2.2.1
theorem dX10_told_9 : decode cX10_told 9 = .ok (.iconst 0, 1) := dG_dX10_route_108.2.2.2.2.2.2.2.2.2.2.1
theorem dX10_told_10 : decode cX10_told 10 = .ok (.istore 4, 2) := dG_dX10_route_108.2.2.2.2.2.2.2.2.2.2.2
theorem dG_dX10_told_12 : (decode cX10_told 12 = .ok (.iload 4, 2)) ∧ (decode cX10_told 14 = .ok (.ifCond .eq 17, 3)) ∧ (decode cX10_told 17 = .ok (.aload_n 0, 1)) ∧ (decode cX10_told 18 = .ok (.getfield 16, 3)) ∧ (decode cX10_told 21 = .ok (.iload_n 1, 1)) ∧ (decode cX10_told 22 = .ok (.invokevirtual 164, 3)) ∧ (decode cX10_told 25 = .ok (.ifCond .ne 24, 3)) ∧ (decode cX10_told 28 = .ok (.goto 15, 3)) ∧ (decode cX10_told 31 = .ok (.aload_n 0, 1)) ∧ (decode cX10_told 32 = .ok (.getfield 16, 3)) ∧ (decode cX10_told 35 = .ok (.iload_n 1, 1)) ∧ (decode cX10_told 36 = .ok (.iload_n 2, 1)) := by decide +kernel
theorem dX10_told_12 : decode cX10_told 12 = .ok (.iload 4, 2) := dG_dX10_told_12.1
theorem dX10_told_14 : decode cX10_told 14 = .ok (.ifCond .eq 17, 3) := dG_dX10_told_12.2.1
theorem dX10_told_17 : decode cX10_told 17 = .ok (.aload_n 0, 1) := dG_dX10_told_12.2.2.1
theorem dX10_told_18 : decode cX10_told 18 = .ok (.getfield 16, 3) := dG_dX10_told_12.2.2.2.1
theorem dX10_told_21 : decode cX10_told 21 = .ok (.iload_n 1, 1) := dG_dX10_told_12.2.2.2.2.1
theorem dX10_told_22 : decode cX10_told 22 = .ok (.invokevirtual 164, 3) := dG_dX10_told_12.2.2.2.2.2.1
theorem dX10_told_25 : decode cX10_told 25 = .ok (.ifCond .ne 24, 3) := dG_dX10_told_12.2.2.2.2.2.2.1
theorem dX10_told_28 : decode cX10_told 28 = .ok (.goto 15, 3) := dG_dX10_told_12.2.2.2.2.2.2.2.1
theorem dX10_told_31 : decode cX10_told 31 = .ok (.aload_n 0, 1) := dG_dX10_told_12.2.2.2.2.2.2.2.2.1
theorem dX10_told_32 : decode cX10_told 32 = .ok (.getfield 16, 3) := dG_dX10_told_12.2.2.2.2.2.2.2.2.2.1
theorem dX10_told_35 : decode cX10_told 35 = .ok (.iload_n 1, 1) := dG_dX10_told_12.2.2.2.2.2.2.2.2.2.2.1
theorem dX10_told_36 : decode cX10_told 36 = .ok (.iload_n 2, 1) := dG_dX10_told_12.2.2.2.2.2.2.2.2.2.2.2
theorem dG_dX10_told_37 : (decode cX10_told 37 = .ok (.invokevirtual 136, 3)) ∧ (decode cX10_told 40 = .ok (.ifCond .ne 9, 3)) ∧ (decode cX10_told 43 = .ok (.aload_n 0, 1)) ∧ (decode cX10_told 44 = .ok (.iconst 1, 1)) ∧ (decode cX10_told 45 = .ok (.invokevirtual 88, 3)) ∧ (decode cX10_told 48 = .ok (.ireturn, 1)) ∧ (decode cX10_told 49 = .ok (.iload_n 3, 1)) ∧ (decode cX10_told 50 = .ok (.ifCond .lt 8, 3)) ∧ (decode cX10_told 53 = .ok (.iload_n 3, 1)) ∧ (decode cX10_told 54 = .ok (.iconst 4, 1)) ∧ (decode cX10_told 55 = .ok (.if_icmp .le 9, 3)) ∧ (decode cX10_told 58 = .ok (.aload_n 0, 1)) := by decide +kernel
theorem dX10_told_37 : decode cX10_told 37 = .ok (.invokevirtual 136, 3) := dG_dX10_told_37.1
theorem dX10_told_40 : decode cX10_told 40 = .ok (.ifCond .ne 9, 3) := dG_dX10_told_37.2.1
theorem dX10_told_43 : decode cX10_told 43 = .ok (.aload_n 0, 1) := dG_dX10_told_37.2.2.1
theorem dX10_told_44 : decode cX10_told 44 = .ok (.iconst 1, 1) := dG_dX10_told_37.2.2.2.1
theorem dX10_told_45 : decode cX10_told 45 = .ok (.invokevirtual 88, 3) := dG_dX10_told_37.2.2.2.2.1
theorem dX10_told_48 : decode cX10_told 48 = .ok (.ireturn, 1) := dG_dX10_told_37.2.2.2.2.2.1
theorem dX10_told_49 : decode cX10_told 49 = .ok (.iload_n 3, 1) := dG_dX10_told_37.2.2.2.2.2.2.1
theorem dX10_told_50 : decode cX10_told 50 = .ok (.ifCond .lt 8, 3) := dG_dX10_told_37.2.2.2.2.2.2.2.1
theorem dX10_told_53 : decode cX10_told 53 = .ok (.iload_n 3, 1) := dG_dX10_told_37.2.2.2.2.2.2.2.2.1
theorem dX10_told_54 : decode cX10_told 54 = .ok (.iconst 4, 1) := dG_dX10_told_37.2.2.2.2.2.2.2.2.2.1
theorem dX10_told_55 : decode cX10_told 55 = .ok (.if_icmp .le 9, 3) := dG_dX10_told_37.2.2.2.2.2.2.2.2.2.2.1
theorem dX10_told_58 : decode cX10_told 58 = .ok (.aload_n 0, 1) := dG_dX10_told_37.2.2.2.2.2.2.2.2.2.2.2
theorem dG_dX10_told_59 : (decode cX10_told 59 = .ok (.iconst 2, 1)) ∧ (decode cX10_told 60 = .ok (.invokevirtual 88, 3)) ∧ (decode cX10_told 63 = .ok (.ireturn, 1)) ∧ (decode cX10_told 64 = .ok (.iload 4, 2)) ∧ (decode cX10_told 66 = .ok (.ifCond .eq 33, 3)) ∧ (decode cX10_told 69 = .ok (.aload_n 0, 1)) ∧ (decode cX10_told 70 = .ok (.iload_n 3, 1)) ∧ (decode cX10_told 71 = .ok (.iconst 4, 1)) ∧ (decode cX10_told 72 = .ok (.if_icmp .ne 14, 3)) ∧ (decode cX10_told 75 = .ok (.aload_n 0, 1)) ∧ (decode cX10_told 76 = .ok (.getfield 37, 3)) ∧ (decode cX10_told 79 = .ok (.iload_n 1, 1)) := by decide +kernel
theorem dX10_told_59 : decode cX10_told 59 = .ok (.iconst 2, 1) := dG_dX10_told_59.1
theorem dX10_told_60 : decode cX10_told 60 = .ok (.invokevirtual 88, 3) := dG_dX10_told_59.2.1
theorem dX10_told_63 : decode cX10_told 63 = .ok (.ireturn, 1) := dG_dX10_told_59.2.2.1
theorem dX10_told_64 : decode cX10_told 64 = .ok (.iload 4, 2) := dG_dX10_told_59.2.2.2.1
theorem dX10_told_66 : decode cX10_told 66 = .ok (.ifCond .eq 33, 3) := dG_dX10_told_59.2.2.2.2.1
theorem dX10_told_69 : decode cX10_told 69 = .ok (.aload_n 0, 1) := dG_dX10_told_59.2.2.2.2.2.1
theorem dX10_told_70 : decode cX10_told 70 = .ok (.iload_n 3, 1) := dG_dX10_told_59.2.2.2.2.2.2.1
theorem dX10_told_71 : decode cX10_told 71 = .ok (.iconst 4, 1) := dG_dX10_told_59.2.2.2.2.2.2.2.1
theorem dX10_told_72 : decode cX10_told 72 = .ok (.if_icmp .ne 14, 3) := dG_dX10_told_59.2.2.2.2.2.2.2.2.1
theorem dX10_told_75 : decode cX10_told 75 = .ok (.aload_n 0, 1) := dG_dX10_told_59.2.2.2.2.2.2.2.2.2.1
theorem dX10_told_76 : decode cX10_told 76 = .ok (.getfield 37, 3) := dG_dX10_told_59.2.2.2.2.2.2.2.2.2.2.1
theorem dX10_told_79 : decode cX10_told 79 = .ok (.iload_n 1, 1) := dG_dX10_told_59.2.2.2.2.2.2.2.2.2.2.2
theorem dG_dX10_told_80 : (decode cX10_told 80 = .ok (.invokevirtual 167, 3)) ∧ (decode cX10_told 83 = .ok (.goto 12, 3)) ∧ (decode cX10_told 86 = .ok (.aload_n 0, 1)) ∧ (decode cX10_told 87 = .ok (.getfield 16, 3)) ∧ (decode cX10_told 90 = .ok (.iload_n 1, 1)) ∧ (decode cX10_told 91 = .ok (.iload_n 3, 1)) ∧ (decode cX10_told 92 = .ok (.invokevirtual 170, 3)) ∧ (decode cX10_told 95 = .ok (.invokevirtual 120, 3)) ∧ (decode cX10_told 98 = .ok (.ireturn, 1)) ∧ (decode cX10_told 99 = .ok (.iload_n 3, 1)) ∧ (decode cX10_told 100 = .ok (.ifCond .ne 17, 3)) ∧ (decode cX10_told 103 = .ok (.aload_n 0, 1)) := by decide +kernel
theorem dX10_told_80 : decode cX10_told 80 = .ok (.invokevirtual 167, 3) := dG_dX10_told_80.1
theorem dX10_told_83 : decode cX10_told 83 = .ok (.goto 12, 3) := dG_dX10_told_80.2.1
theorem dX10_told_86 : decode cX10_told 86 = .ok (.aload_n 0, 1) := dG_dX10_told_80.2.2.1
theorem dX10_told_87 : decode cX10_told 87 = .ok (.getfield 16, 3) := dG_dX10_told_80.2.2.2.1
theorem dX10_told_90 : decode cX10_told 90 = .ok (.iload_n 1, 1) := dG_dX10_told_80.2.2.2.2.1
theorem dX10_told_91 : decode cX10_told 91 = .ok (.iload_n 3, 1) := dG_dX10_told_80.2.2.2.2.2.1
theorem dX10_told_92 : decode cX10_told 92 = .ok (.invokevirtual 170, 3) := dG_dX10_told_80.2.2.2.2.2.2.1
theorem dX10_told_95 : decode cX10_told 95 = .ok (.invokevirtual 120, 3) := dG_dX10_told_80.2.2.2.2.2.2.2.1
theorem dX10_told_98 : decode cX10_told 98 = .ok (.ireturn, 1) := dG_dX10_told_80.2.2.2.2.2.2.2.2.1
theorem dX10_told_99 : decode cX10_told 99 = .ok (.iload_n 3, 1) := dG_dX10_told_80.2.2.2.2.2.2.2.2.2.1
theorem dX10_told_100 : decode cX10_told 100 = .ok (.ifCond .ne 17, 3) := dG_dX10_told_80.2.2.2.2.2.2.2.2.2.2.1
theorem dX10_told_103 : decode cX10_told 103 = .ok (.aload_n 0, 1) := dG_dX10_told_80.2.2.2.2.2.2.2.2.2.2.2
theorem dG_dX10_told_104 : (decode cX10_told 104 = .ok (.aload_n 0, 1)) ∧ (decode cX10_told 105 = .ok (.getfield 30, 3)) ∧ (decode cX10_told 108 = .ok (.iload_n 1, 1)) ∧ (decode cX10_told 109 = .ok (.iload_n 2, 1)) ∧ (decode cX10_told 110 = .ok (.invokevirtual 173, 3)) ∧ (decode cX10_told 113 = .ok (.invokevirtual 120, 3)) ∧ (decode cX10_told 116 = .ok (.ireturn, 1)) ∧ (decode cX10_told 117 = .ok (.aload_n 0, 1)) ∧ (decode cX10_told 118 = .ok (.iload_n 3, 1)) ∧ (decode cX10_told 119 = .ok (.iconst 4, 1)) ∧ (decode cX10_told 120 = .ok (.if_icmp .ne 15, 3)) ∧ (decode cX10_told 123 = .ok (.aload_n 0, 1)) := by decide +kernel
theorem dX10_told_104 : decode cX10_told 104 = .ok (.aload_n 0, 1) := dG_dX10_told_104.1
theorem dX10_told_105 : decode cX10_told 105 = .ok (.getfield 30, 3) := dG_dX10_told_104.2.1
theorem dX10_told_108 : decode cX10_told 108 = .ok (.iload_n 1, 1) := dG_dX10_told_104.2.2.1
theorem dX10_told_109 : decode cX10_told 109 = .ok (.iload_n 2, 1) := dG_dX10_told_104.2.2.2.1
theorem dX10_told_110 : decode cX10_told 110 = .ok (.invokevirtual 173, 3) := dG_dX10_told_104.2.2.2.2.1
theorem dX10_told_113 : decode cX10_told 113 = .ok (.invokevirtual 120, 3) := dG_dX10_told_104.2.2.2.2.2.1
theorem dX10_told_116 : decode cX10_told 116 = .ok (.ireturn, 1) := dG_dX10_told_104.2.2.2.2.2.2.1
theorem dX10_told_117 : decode cX10_told 117 = .ok (.aload_n 0, 1) := dG_dX10_told_104.2.2.2.2.2.2.2.1
theorem dX10_told_118 : decode cX10_told 118 = .ok (.iload_n 3, 1) := dG_dX10_told_104.2.2.2.2.2.2.2.2.1
theorem dX10_told_119 : decode cX10_told 119 = .ok (.iconst 4, 1) := dG_dX10_told_104.2.2.2.2.2.2.2.2.2.1
theorem dX10_told_120 : decode cX10_told 120 = .ok (.if_icmp .ne 15, 3) := dG_dX10_told_104.2.2.2.2.2.2.2.2.2.2.1
theorem dX10_told_123 : decode cX10_told 123 = .ok (.aload_n 0, 1) := dG_dX10_told_104.2.2.2.2.2.2.2.2.2.2.2
theorem dG_dX10_told_124 : (decode cX10_told 124 = .ok (.getfield 30, 3)) ∧ (decode cX10_told 127 = .ok (.iload_n 1, 1)) ∧ (decode cX10_told 128 = .ok (.iload_n 2, 1)) ∧ (decode cX10_told 129 = .ok (.invokevirtual 148, 3)) ∧ (decode cX10_told 132 = .ok (.goto 15, 3)) ∧ (decode cX10_told 135 = .ok (.aload_n 0, 1)) ∧ (decode cX10_told 136 = .ok (.getfield 30, 3)) ∧ (decode cX10_told 139 = .ok (.iload_n 1, 1)) ∧ (decode cX10_told 140 = .ok (.iload_n 2, 1)) ∧ (decode cX10_told 141 = .ok (.iload_n 3, 1)) ∧ (decode cX10_told 142 = .ok (.iconst 1, 1)) ∧ (decode cX10_told 143 = .ok (.isub, 1)) := by decide +kernel
theorem dX10_told_124 : decode cX10_told 124 = .ok (.getfield 30, 3) := dG_dX10_told_124.1
theorem dX10_told_127 : decode cX10_told 127 = .ok (.iload_n 1, 1) := dG_dX10_told_124.2.1
theorem dX10_told_128 : decode cX10_told 128 = .ok (.iload_n 2, 1) := dG_dX10_told_124.2.2.1
theorem dX10_told_129 : decode cX10_told 129 = .ok (.invokevirtual 148, 3) := dG_dX10_told_124.2.2.2.1
theorem dX10_told_132 : decode cX10_told 132 = .ok (.goto 15, 3) := dG_dX10_told_124.2.2.2.2.1
theorem dX10_told_135 : decode cX10_told 135 = .ok (.aload_n 0, 1) := dG_dX10_told_124.2.2.2.2.2.1
theorem dX10_told_136 : decode cX10_told 136 = .ok (.getfield 30, 3) := dG_dX10_told_124.2.2.2.2.2.2.1
theorem dX10_told_139 : decode cX10_told 139 = .ok (.iload_n 1, 1) := dG_dX10_told_124.2.2.2.2.2.2.2.1
theorem dX10_told_140 : decode cX10_told 140 = .ok (.iload_n 2, 1) := dG_dX10_told_124.2.2.2.2.2.2.2.2.1
theorem dX10_told_141 : decode cX10_told 141 = .ok (.iload_n 3, 1) := dG_dX10_told_124.2.2.2.2.2.2.2.2.2.1
theorem dX10_told_142 : decode cX10_told 142 = .ok (.iconst 1, 1) := dG_dX10_told_124.2.2.2.2.2.2.2.2.2.2.1
theorem dX10_told_143 : decode cX10_told 143 = .ok (.isub, 1) := dG_dX10_told_124.2.2.2.2.2.2.2.2.2.2.2
theorem dG_dX10_told_144 : (decode cX10_told 144 = .ok (.invokevirtual 176, 3)) ∧ (decode cX10_told 147 = .ok (.invokevirtual 120, 3)) ∧ (decode cX10_told 150 = .ok (.ireturn, 1)) ∧ (decode cX10_begin 0 = .ok (.iconst 1, 1)) ∧ (decode cX10_begin 1 = .ok (.istore 4, 2)) ∧ (decode cX10_begin 3 = .ok (.aload_n 0, 1)) ∧ (decode cX10_begin 4 = .ok (.getfield 37, 3)) ∧ (decode cX10_begin 7 = .ok (.iload_n 1, 1)) ∧ (decode cX10_begin 8 = .ok (.invokevirtual 180, 3)) ∧ (decode cX10_begin 11 = .ok (.ifCond .eq 28, 3)) ∧ (decode cX10_begin 14 = .ok (.aload_n 0, 1)) ∧ (decode cX10_begin 15 = .ok (.getfield 16, 3)) := by decide +kernel
theorem dX10_told_144 : decode cX10_told 144 = .ok (.invokevirtual 176, 3) := dG_dX10_told_144.1
theorem dX10_told_147 : decode cX10_told 147 = .ok (.invokevirtual 120, 3) := dG_dX10_told_144.2.1
theorem dX10_told_150 : decode cX10_told 150 = .ok (.ireturn, 1) := dG_dX10_told_144.2.2.1
theorem dX10_begin_0 : decode cX10_begin 0 = .ok (.iconst 1, 1) := dG_dX10_told_144.2.2.2.1
theorem dX10_begin_1 : decode cX10_begin 1 = .ok (.istore 4, 2) := dG_dX10_told_144.2.2.2.2.1
theorem dX10_begin_3 : decode cX10_begin 3 = .ok (.aload_n 0, 1) := dG_dX10_told_144.2.2.2.2.2.1
theorem dX10_begin_4 : decode cX10_begin 4 = .ok (.getfield 37, 3) := dG_dX10_told_144.2.2.2.2.2.2.1
theorem dX10_begin_7 : decode cX10_begin 7 = .ok (.iload_n 1, 1) := dG_dX10_told_144.2.2.2.2.2.2.2.1
theorem dX10_begin_8 : decode cX10_begin 8 = .ok (.invokevirtual 180, 3) := dG_dX10_told_144.2.2.2.2.2.2.2.2.1
theorem dX10_begin_11 : decode cX10_begin 11 = .ok (.ifCond .eq 28, 3) := dG_dX10_told_144.2.2.2.2.2.2.2.2.2.1
theorem dX10_begin_14 : decode cX10_begin 14 = .ok (.aload_n 0, 1) := dG_dX10_told_144.2.2.2.2.2.2.2.2.2.2.1
theorem dX10_begin_15 : decode cX10_begin 15 = .ok (.getfield 16, 3) := dG_dX10_told_144.2.2.2.2.2.2.2.2.2.2.2
theorem dG_dX10_begin_18 : (decode cX10_begin 18 = .ok (.aload_n 0, 1)) ∧ (decode cX10_begin 19 = .ok (.getfield 37, 3)) ∧ (decode cX10_begin 22 = .ok (.getfield 129, 3)) ∧ (decode cX10_begin 25 = .ok (.iload_n 2, 1)) ∧ (decode cX10_begin 26 = .ok (.invokevirtual 136, 3)) ∧ (decode cX10_begin 29 = .ok (.ifCond .eq 10, 3)) ∧ (decode cX10_begin 32 = .ok (.aload_n 0, 1)) ∧ (decode cX10_begin 33 = .ok (.iload_n 3, 1)) ∧ (decode cX10_begin 34 = .ok (.invokevirtual 183, 3)) ∧ (decode cX10_begin 37 = .ok (.istore 4, 2)) ∧ (decode cX10_begin 39 = .ok (.iload 4, 2)) ∧ (decode cX10_begin 41 = .ok (.ifCond .ne 11, 3)) := by decide +kernel
theorem dX10_begin_18 : decode cX10_begin 18 = .ok (.aload_n 0, 1) := dG_dX10_begin_18.1
theorem dX10_begin_19 : decode cX10_begin 19 = .ok (.getfield 37, 3) := dG_dX10_begin_18.2.1
theorem dX10_begin_22 : decode cX10_begin 22 = .ok (.getfield 129, 3) := dG_dX10_begin_18.2.2.1
theorem dX10_begin_25 : decode cX10_begin 25 = .ok (.iload_n 2, 1) := dG_dX10_begin_18.2.2.2.1
theorem dX10_begin_26 : decode cX10_begin 26 = .ok (.invokevirtual 136, 3) := dG_dX10_begin_18.2.2.2.2.1
theorem dX10_begin_29 : decode cX10_begin 29 = .ok (.ifCond .eq 10, 3) := dG_dX10_begin_18.2.2.2.2.2.1
theorem dX10_begin_32 : decode cX10_begin 32 = .ok (.aload_n 0, 1) := dG_dX10_begin_18.2.2.2.2.2.2.1
theorem dX10_begin_33 : decode cX10_begin 33 = .ok (.iload_n 3, 1) := dG_dX10_begin_18.2.2.2.2.2.2.2.1
theorem dX10_begin_34 : decode cX10_begin 34 = .ok (.invokevirtual 183, 3) := dG_dX10_begin_18.2.2.2.2.2.2.2.2.1
theorem dX10_begin_37 : decode cX10_begin 37 = .ok (.istore 4, 2) := dG_dX10_begin_18.2.2.2.2.2.2.2.2.2.1
theorem dX10_begin_39 : decode cX10_begin 39 = .ok (.iload 4, 2) := dG_dX10_begin_18.2.2.2.2.2.2.2.2.2.2.1
theorem dX10_begin_41 : decode cX10_begin 41 = .ok (.ifCond .ne 11, 3) := dG_dX10_begin_18.2.2.2.2.2.2.2.2.2.2.2
theorem dG_dX10_begin_44 : (decode cX10_begin 44 = .ok (.aload_n 0, 1)) ∧ (decode cX10_begin 45 = .ok (.iload_n 1, 1)) ∧ (decode cX10_begin 46 = .ok (.iload_n 2, 1)) ∧ (decode cX10_begin 47 = .ok (.invokevirtual 186, 3)) ∧ (decode cX10_begin 50 = .ok (.istore 4, 2)) ∧ (decode cX10_begin 52 = .ok (.iload 4, 2)) ∧ (decode cX10_begin 54 = .ok (.ifCond .eq 10, 3)) ∧ (decode cX10_begin 57 = .ok (.aload_n 0, 1)) ∧ (decode cX10_begin 58 = .ok (.iload 4, 2)) ∧ (decode cX10_begin 60 = .ok (.invokevirtual 88, 3)) ∧ (decode cX10_begin 63 = .ok (.ireturn, 1)) ∧ (decode cX10_begin 64 = .ok (.aload_n 0, 1)) := by decide +kernel
theorem dX10_begin_44 : decode cX10_begin 44 = .ok (.aload_n 0, 1) := dG_dX10_begin_44.1
theorem dX10_begin_45 : decode cX10_begin 45 = .ok (.iload_n 1, 1) := dG_dX10_begin_44.2.1
theorem dX10_begin_46 : decode cX10_begin 46 = .ok (.iload_n 2, 1) := dG_dX10_begin_44.2.2.1
theorem dX10_begin_47 : decode cX10_begin 47 = .ok (.invokevirtual 186, 3) := dG_dX10_begin_44.2.2.2.1
theorem dX10_begin_50 : decode cX10_begin 50 = .ok (.istore 4, 2) := dG_dX10_begin_44.2.2.2.2.1
theorem dX10_begin_52 : decode cX10_begin 52 = .ok (.iload 4, 2) := dG_dX10_begin_44.2.2.2.2.2.1
theorem dX10_begin_54 : decode cX10_begin 54 = .ok (.ifCond .eq 10, 3) := dG_dX10_begin_44.2.2.2.2.2.2.1
theorem dX10_begin_57 : decode cX10_begin 57 = .ok (.aload_n 0, 1) := dG_dX10_begin_44.2.2.2.2.2.2.2.1
theorem dX10_begin_58 : decode cX10_begin 58 = .ok (.iload 4, 2) := dG_dX10_begin_44.2.2.2.2.2.2.2.2.1
theorem dX10_begin_60 : decode cX10_begin 60 = .ok (.invokevirtual 88, 3) := dG_dX10_begin_44.2.2.2.2.2.2.2.2.2.1
theorem dX10_begin_63 : decode cX10_begin 63 = .ok (.ireturn, 1) := dG_dX10_begin_44.2.2.2.2.2.2.2.2.2.2.1
theorem dX10_begin_64 : decode cX10_begin 64 = .ok (.aload_n 0, 1) := dG_dX10_begin_44.2.2.2.2.2.2.2.2.2.2.2
theorem dG_dX10_begin_65 : (decode cX10_begin 65 = .ok (.getfield 30, 3)) ∧ (decode cX10_begin 68 = .ok (.aload_n 0, 1)) ∧ (decode cX10_begin 69 = .ok (.getfield 37, 3)) ∧ (decode cX10_begin 72 = .ok (.getfield 129, 3)) ∧ (decode cX10_begin 75 = .ok (.iload_n 2, 1)) ∧ (decode cX10_begin 76 = .ok (.invokevirtual 189, 3)) ∧ (decode cX10_begin 79 = .ok (.aload_n 0, 1)) ∧ (decode cX10_begin 80 = .ok (.aload_n 0, 1)) ∧ (decode cX10_begin 81 = .ok (.getfield 44, 3)) ∧ (decode cX10_begin 84 = .ok (.iload_n 1, 1)) ∧ (decode cX10_begin 85 = .ok (.aload_n 0, 1)) ∧ (decode cX10_begin 86 = .ok (.getfield 37, 3)) := by decide +kernel
theorem dX10_begin_65 : decode cX10_begin 65 = .ok (.getfield 30, 3) := dG_dX10_begin_65.1
theorem dX10_begin_68 : decode cX10_begin 68 = .ok (.aload_n 0, 1) := dG_dX10_begin_65.2.1
theorem dX10_begin_69 : decode cX10_begin 69 = .ok (.getfield 37, 3) := dG_dX10_begin_65.2.2.1
theorem dX10_begin_72 : decode cX10_begin 72 = .ok (.getfield 129, 3) := dG_dX10_begin_65.2.2.2.1
theorem dX10_begin_75 : decode cX10_begin 75 = .ok (.iload_n 2, 1) := dG_dX10_begin_65.2.2.2.2.1
theorem dX10_begin_76 : decode cX10_begin 76 = .ok (.invokevirtual 189, 3) := dG_dX10_begin_65.2.2.2.2.2.1
theorem dX10_begin_79 : decode cX10_begin 79 = .ok (.aload_n 0, 1) := dG_dX10_begin_65.2.2.2.2.2.2.1
theorem dX10_begin_80 : decode cX10_begin 80 = .ok (.aload_n 0, 1) := dG_dX10_begin_65.2.2.2.2.2.2.2.1
theorem dX10_begin_81 : decode cX10_begin 81 = .ok (.getfield 44, 3) := dG_dX10_begin_65.2.2.2.2.2.2.2.2.1
theorem dX10_begin_84 : decode cX10_begin 84 = .ok (.iload_n 1, 1) := dG_dX10_begin_65.2.2.2.2.2.2.2.2.2.1
theorem dX10_begin_85 : decode cX10_begin 85 = .ok (.aload_n 0, 1) := dG_dX10_begin_65.2.2.2.2.2.2.2.2.2.2.1
theorem dX10_begin_86 : decode cX10_begin 86 = .ok (.getfield 37, 3) := dG_dX10_begin_65.2.2.2.2.2.2.2.2.2.2.2
theorem dG_dX10_begin_89 : (decode cX10_begin 89 = .ok (.getfield 129, 3)) ∧ (decode cX10_begin 92 = .ok (.iload_n 2, 1)) ∧ (decode cX10_begin 93 = .ok (.aload_n 0, 1)) ∧ (decode cX10_begin 94 = .ok (.getfield 114, 3)) ∧ (decode cX10_begin 97 = .ok (.invokevirtual 193, 3)) ∧ (decode cX10_begin 100 = .ok (.invokevirtual 120, 3)) ∧ (decode cX10_begin 103 = .ok (.ireturn, 1)) ∧ (decode cX10_reach 0 = .ok (.iconst 1, 1)) ∧ (decode cX10_reach 1 = .ok (.istore 4, 2)) ∧ (decode cX10_reach 3 = .ok (.aload_n 0, 1)) ∧ (decode cX10_reach 4 = .ok (.getfield 37, 3)) ∧ (decode cX10_reach 7 = .ok (.iload_n 1, 1)) := by decide +kernel
theorem dX10_begin_89 : decode cX10_begin 89 = .ok (.getfield 129, 3) := dG_dX10_begin_89.1
theorem dX10_begin_92 : decode cX10_begin 92 = .ok (.iload_n 2, 1) := dG_dX10_begin_89.2.1
theorem dX10_begin_93 : decode cX10_begin 93 = .ok (.aload_n 0, 1) := dG_dX10_begin_89.2.2.1
theorem dX10_begin_94 : decode cX10_begin 94 = .ok (.getfield 114, 3) := dG_dX10_begin_89.2.2.2.1
theorem dX10_begin_97 : decode cX10_begin 97 = .ok (.invokevirtual 193, 3) := dG_dX10_begin_89.2.2.2.2.1
theorem dX10_begin_100 : decode cX10_begin 100 = .ok (.invokevirtual 120, 3) := dG_dX10_begin_89.2.2.2.2.2.1
theorem dX10_begin_103 : decode cX10_begin 103 = .ok (.ireturn, 1) := dG_dX10_begin_89.2.2.2.2.2.2.1
theorem dX10_reach_0 : decode cX10_reach 0 = .ok (.iconst 1, 1) := dG_dX10_begin_89.2.2.2.2.2.2.2.1
theorem dX10_reach_1 : decode cX10_reach 1 = .ok (.istore 4, 2) := dG_dX10_begin_89.2.2.2.2.2.2.2.2.1
theorem dX10_reach_3 : decode cX10_reach 3 = .ok (.aload_n 0, 1) := dG_dX10_begin_89.2.2.2.2.2.2.2.2.2.1
theorem dX10_reach_4 : decode cX10_reach 4 = .ok (.getfield 37, 3) := dG_dX10_begin_89.2.2.2.2.2.2.2.2.2.2.1
theorem dX10_reach_7 : decode cX10_reach 7 = .ok (.iload_n 1, 1) := dG_dX10_begin_89.2.2.2.2.2.2.2.2.2.2.2
theorem dG_dX10_reach_8 : (decode cX10_reach 8 = .ok (.invokevirtual 180, 3)) ∧ (decode cX10_reach 11 = .ok (.ifCond .eq 25, 3)) ∧ (decode cX10_reach 14 = .ok (.iload_n 2, 1)) ∧ (decode cX10_reach 15 = .ok (.iconst 1, 1)) ∧ (decode cX10_reach 16 = .ok (.if_icmp .lt 9, 3)) ∧ (decode cX10_reach 19 = .ok (.iload_n 2, 1)) ∧ (decode cX10_reach 20 = .ok (.bipush 60, 2)) ∧ (decode cX10_reach 22 = .ok (.if_icmp .le 7, 3)) ∧ (decode cX10_reach 25 = .ok (.iconst 2, 1)) ∧ (decode cX10_reach 26 = .ok (.goto 8, 3)) ∧ (decode cX10_reach 29 = .ok (.aload_n 0, 1)) ∧ (decode cX10_reach 30 = .ok (.iload_n 3, 1)) := by decide +kernel
theorem dX10_reach_8 : decode cX10_reach 8 = .ok (.invokevirtual 180, 3) := dG_dX10_reach_8.1
theorem dX10_reach_11 : decode cX10_reach 11 = .ok (.ifCond .eq 25, 3) := dG_dX10_reach_8.2.1
theorem dX10_reach_14 : decode cX10_reach 14 = .ok (.iload_n 2, 1) := dG_dX10_reach_8.2.2.1
theorem dX10_reach_15 : decode cX10_reach 15 = .ok (.iconst 1, 1) := dG_dX10_reach_8.2.2.2.1
theorem dX10_reach_16 : decode cX10_reach 16 = .ok (.if_icmp .lt 9, 3) := dG_dX10_reach_8.2.2.2.2.1
theorem dX10_reach_19 : decode cX10_reach 19 = .ok (.iload_n 2, 1) := dG_dX10_reach_8.2.2.2.2.2.1
theorem dX10_reach_20 : decode cX10_reach 20 = .ok (.bipush 60, 2) := dG_dX10_reach_8.2.2.2.2.2.2.1
theorem dX10_reach_22 : decode cX10_reach 22 = .ok (.if_icmp .le 7, 3) := dG_dX10_reach_8.2.2.2.2.2.2.2.1
theorem dX10_reach_25 : decode cX10_reach 25 = .ok (.iconst 2, 1) := dG_dX10_reach_8.2.2.2.2.2.2.2.2.1
theorem dX10_reach_26 : decode cX10_reach 26 = .ok (.goto 8, 3) := dG_dX10_reach_8.2.2.2.2.2.2.2.2.2.1
theorem dX10_reach_29 : decode cX10_reach 29 = .ok (.aload_n 0, 1) := dG_dX10_reach_8.2.2.2.2.2.2.2.2.2.2.1
theorem dX10_reach_30 : decode cX10_reach 30 = .ok (.iload_n 3, 1) := dG_dX10_reach_8.2.2.2.2.2.2.2.2.2.2.2
theorem dG_dX10_reach_31 : (decode cX10_reach 31 = .ok (.invokevirtual 183, 3)) ∧ (decode cX10_reach 34 = .ok (.istore 4, 2)) ∧ (decode cX10_reach 36 = .ok (.iload 4, 2)) ∧ (decode cX10_reach 38 = .ok (.ifCond .eq 10, 3)) ∧ (decode cX10_reach 41 = .ok (.aload_n 0, 1)) ∧ (decode cX10_reach 42 = .ok (.iload 4, 2)) ∧ (decode cX10_reach 44 = .ok (.invokevirtual 88, 3)) ∧ (decode cX10_reach 47 = .ok (.ireturn, 1)) ∧ (decode cX10_reach 48 = .ok (.aload_n 0, 1)) ∧ (decode cX10_reach 49 = .ok (.getfield 44, 3)) ∧ (decode cX10_reach 52 = .ok (.iload_n 1, 1)) ∧ (decode cX10_reach 53 = .ok (.invokevirtual 197, 3)) := by decide +kernel
theorem dX10_reach_31 : decode cX10_reach 31 = .ok (.invokevirtual 183, 3) := dG_dX10_reach_31.1
theorem dX10_reach_34 : decode cX10_reach 34 = .ok (.istore 4, 2) := dG_dX10_reach_31.2.1
theorem dX10_reach_36 : decode cX10_reach 36 = .ok (.iload 4, 2) := dG_dX10_reach_31.2.2.1
theorem dX10_reach_38 : decode cX10_reach 38 = .ok (.ifCond .eq 10, 3) := dG_dX10_reach_31.2.2.2.1
theorem dX10_reach_41 : decode cX10_reach 41 = .ok (.aload_n 0, 1) := dG_dX10_reach_31.2.2.2.2.1
theorem dX10_reach_42 : decode cX10_reach 42 = .ok (.iload 4, 2) := dG_dX10_reach_31.2.2.2.2.2.1
theorem dX10_reach_44 : decode cX10_reach 44 = .ok (.invokevirtual 88, 3) := dG_dX10_reach_31.2.2.2.2.2.2.1
theorem dX10_reach_47 : decode cX10_reach 47 = .ok (.ireturn, 1) := dG_dX10_reach_31.2.2.2.2.2.2.2.1
theorem dX10_reach_48 : decode cX10_reach 48 = .ok (.aload_n 0, 1) := dG_dX10_reach_31.2.2.2.2.2.2.2.2.1
theorem dX10_reach_49 : decode cX10_reach 49 = .ok (.getfield 44, 3) := dG_dX10_reach_31.2.2.2.2.2.2.2.2.2.1
theorem dX10_reach_52 : decode cX10_reach 52 = .ok (.iload_n 1, 1) := dG_dX10_reach_31.2.2.2.2.2.2.2.2.2.2.1
theorem dX10_reach_53 : decode cX10_reach 53 = .ok (.invokevirtual 197, 3) := dG_dX10_reach_31.2.2.2.2.2.2.2.2.2.2.2
theorem dG_dX10_reach_56 : (decode cX10_reach 56 = .ok (.istore 5, 2)) ∧ (decode cX10_reach 58 = .ok (.iload 5, 2)) ∧ (decode cX10_reach 60 = .ok (.iconst (-1), 1)) ∧ (decode cX10_reach 61 = .ok (.if_icmp .ne 9, 3)) ∧ (decode cX10_reach 64 = .ok (.aload_n 0, 1)) ∧ (decode cX10_reach 65 = .ok (.iconst 5, 1)) ∧ (decode cX10_reach 66 = .ok (.invokevirtual 88, 3)) ∧ (decode cX10_reach 69 = .ok (.ireturn, 1)) ∧ (decode cX10_reach 70 = .ok (.aload_n 0, 1)) ∧ (decode cX10_reach 71 = .ok (.getfield 30, 3)) ∧ (decode cX10_reach 74 = .ok (.aload_n 0, 1)) ∧ (decode cX10_reach 75 = .ok (.getfield 44, 3)) := by decide +kernel
theorem dX10_reach_56 : decode cX10_reach 56 = .ok (.istore 5, 2) := dG_dX10_reach_56.1
theorem dX10_reach_58 : decode cX10_reach 58 = .ok (.iload 5, 2) := dG_dX10_reach_56.2.1
theorem dX10_reach_60 : decode cX10_reach 60 = .ok (.iconst (-1), 1) := dG_dX10_reach_56.2.2.1
theorem dX10_reach_61 : decode cX10_reach 61 = .ok (.if_icmp .ne 9, 3) := dG_dX10_reach_56.2.2.2.1
theorem dX10_reach_64 : decode cX10_reach 64 = .ok (.aload_n 0, 1) := dG_dX10_reach_56.2.2.2.2.1
theorem dX10_reach_65 : decode cX10_reach 65 = .ok (.iconst 5, 1) := dG_dX10_reach_56.2.2.2.2.2.1
theorem dX10_reach_66 : decode cX10_reach 66 = .ok (.invokevirtual 88, 3) := dG_dX10_reach_56.2.2.2.2.2.2.1
theorem dX10_reach_69 : decode cX10_reach 69 = .ok (.ireturn, 1) := dG_dX10_reach_56.2.2.2.2.2.2.2.1
theorem dX10_reach_70 : decode cX10_reach 70 = .ok (.aload_n 0, 1) := dG_dX10_reach_56.2.2.2.2.2.2.2.2.1
theorem dX10_reach_71 : decode cX10_reach 71 = .ok (.getfield 30, 3) := dG_dX10_reach_56.2.2.2.2.2.2.2.2.2.1
theorem dX10_reach_74 : decode cX10_reach 74 = .ok (.aload_n 0, 1) := dG_dX10_reach_56.2.2.2.2.2.2.2.2.2.2.1
theorem dX10_reach_75 : decode cX10_reach 75 = .ok (.getfield 44, 3) := dG_dX10_reach_56.2.2.2.2.2.2.2.2.2.2.2
theorem dG_dX10_reach_78 : (decode cX10_reach 78 = .ok (.getfield 200, 3)) ∧ (decode cX10_reach 81 = .ok (.iload 5, 2)) ∧ (decode cX10_reach 83 = .ok (.iaload, 1)) ∧ (decode cX10_reach 84 = .ok (.aload_n 0, 1)) ∧ (decode cX10_reach 85 = .ok (.getfield 44, 3)) ∧ (decode cX10_reach 88 = .ok (.getfield 203, 3)) ∧ (decode cX10_reach 91 = .ok (.iload 5, 2)) ∧ (decode cX10_reach 93 = .ok (.iaload, 1)) ∧ (decode cX10_reach 94 = .ok (.invokevirtual 173, 3)) ∧ (decode cX10_reach 97 = .ok (.istore 6, 2)) ∧ (decode cX10_reach 99 = .ok (.iload_n 2, 1)) ∧ (decode cX10_reach 100 = .ok (.aload_n 0, 1)) := by decide +kernel
theorem dX10_reach_78 : decode cX10_reach 78 = .ok (.getfield 200, 3) := dG_dX10_reach_78.1
theorem dX10_reach_81 : decode cX10_reach 81 = .ok (.iload 5, 2) := dG_dX10_reach_78.2.1
theorem dX10_reach_83 : decode cX10_reach 83 = .ok (.iaload, 1) := dG_dX10_reach_78.2.2.1
theorem dX10_reach_84 : decode cX10_reach 84 = .ok (.aload_n 0, 1) := dG_dX10_reach_78.2.2.2.1
theorem dX10_reach_85 : decode cX10_reach 85 = .ok (.getfield 44, 3) := dG_dX10_reach_78.2.2.2.2.1
theorem dX10_reach_88 : decode cX10_reach 88 = .ok (.getfield 203, 3) := dG_dX10_reach_78.2.2.2.2.2.1
theorem dX10_reach_91 : decode cX10_reach 91 = .ok (.iload 5, 2) := dG_dX10_reach_78.2.2.2.2.2.2.1
theorem dX10_reach_93 : decode cX10_reach 93 = .ok (.iaload, 1) := dG_dX10_reach_78.2.2.2.2.2.2.2.1
theorem dX10_reach_94 : decode cX10_reach 94 = .ok (.invokevirtual 173, 3) := dG_dX10_reach_78.2.2.2.2.2.2.2.2.1
theorem dX10_reach_97 : decode cX10_reach 97 = .ok (.istore 6, 2) := dG_dX10_reach_78.2.2.2.2.2.2.2.2.2.1
theorem dX10_reach_99 : decode cX10_reach 99 = .ok (.iload_n 2, 1) := dG_dX10_reach_78.2.2.2.2.2.2.2.2.2.2.1
theorem dX10_reach_100 : decode cX10_reach 100 = .ok (.aload_n 0, 1) := dG_dX10_reach_78.2.2.2.2.2.2.2.2.2.2.2
theorem dG_dX10_reach_101 : (decode cX10_reach 101 = .ok (.getfield 44, 3)) ∧ (decode cX10_reach 104 = .ok (.getfield 206, 3)) ∧ (decode cX10_reach 107 = .ok (.iload 5, 2)) ∧ (decode cX10_reach 109 = .ok (.iaload, 1)) ∧ (decode cX10_reach 110 = .ok (.if_icmp .le 9, 3)) ∧ (decode cX10_reach 113 = .ok (.iload_n 2, 1)) ∧ (decode cX10_reach 114 = .ok (.iload 6, 2)) ∧ (decode cX10_reach 116 = .ok (.if_icmp .le 10, 3)) ∧ (decode cX10_reach 119 = .ok (.aload_n 0, 1)) ∧ (decode cX10_reach 120 = .ok (.bipush 10, 2)) ∧ (decode cX10_reach 122 = .ok (.invokevirtual 88, 3)) ∧ (decode cX10_reach 125 = .ok (.ireturn, 1)) := by decide +kernel
theorem dX10_reach_101 : decode cX10_reach 101 = .ok (.getfield 44, 3) := dG_dX10_reach_101.1
theorem dX10_reach_104 : decode cX10_reach 104 = .ok (.getfield 206, 3) := dG_dX10_reach_101.2.1
theorem dX10_reach_107 : decode cX10_reach 107 = .ok (.iload 5, 2) := dG_dX10_reach_101.2.2.1
theorem dX10_reach_109 : decode cX10_reach 109 = .ok (.iaload, 1) := dG_dX10_reach_101.2.2.2.1
theorem dX10_reach_110 : decode cX10_reach 110 = .ok (.if_icmp .le 9, 3) := dG_dX10_reach_101.2.2.2.2.1
theorem dX10_reach_113 : decode cX10_reach 113 = .ok (.iload_n 2, 1) := dG_dX10_reach_101.2.2.2.2.2.1
theorem dX10_reach_114 : decode cX10_reach 114 = .ok (.iload 6, 2) := dG_dX10_reach_101.2.2.2.2.2.2.1
theorem dX10_reach_116 : decode cX10_reach 116 = .ok (.if_icmp .le 10, 3) := dG_dX10_reach_101.2.2.2.2.2.2.2.1
theorem dX10_reach_119 : decode cX10_reach 119 = .ok (.aload_n 0, 1) := dG_dX10_reach_101.2.2.2.2.2.2.2.2.1
theorem dX10_reach_120 : decode cX10_reach 120 = .ok (.bipush 10, 2) := dG_dX10_reach_101.2.2.2.2.2.2.2.2.2.1
theorem dX10_reach_122 : decode cX10_reach 122 = .ok (.invokevirtual 88, 3) := dG_dX10_reach_101.2.2.2.2.2.2.2.2.2.2.1
theorem dX10_reach_125 : decode cX10_reach 125 = .ok (.ireturn, 1) := dG_dX10_reach_101.2.2.2.2.2.2.2.2.2.2.2
theorem dG_dX10_reach_126 : (decode cX10_reach 126 = .ok (.aload_n 0, 1)) ∧ (decode cX10_reach 127 = .ok (.getfield 44, 3)) ∧ (decode cX10_reach 130 = .ok (.getfield 206, 3)) ∧ (decode cX10_reach 133 = .ok (.iload 5, 2)) ∧ (decode cX10_reach 135 = .ok (.iload_n 2, 1)) ∧ (decode cX10_reach 136 = .ok (.iastore, 1)) ∧ (decode cX10_reach 137 = .ok (.iload_n 2, 1)) ∧ (decode cX10_reach 138 = .ok (.iload 6, 2)) ∧ (decode cX10_reach 140 = .ok (.if_icmp .ge 9, 3)) ∧ (decode cX10_reach 143 = .ok (.aload_n 0, 1)) ∧ (decode cX10_reach 144 = .ok (.iconst 0, 1)) ∧ (decode cX10_reach 145 = .ok (.invokevirtual 120, 3)) := by decide +kernel
theorem dX10_reach_126 : decode cX10_reach 126 = .ok (.aload_n 0, 1) := dG_dX10_reach_126.1
theorem dX10_reach_127 : decode cX10_reach 127 = .ok (.getfield 44, 3) := dG_dX10_reach_126.2.1
theorem dX10_reach_130 : decode cX10_reach 130 = .ok (.getfield 206, 3) := dG_dX10_reach_126.2.2.1
theorem dX10_reach_133 : decode cX10_reach 133 = .ok (.iload 5, 2) := dG_dX10_reach_126.2.2.2.1
theorem dX10_reach_135 : decode cX10_reach 135 = .ok (.iload_n 2, 1) := dG_dX10_reach_126.2.2.2.2.1
theorem dX10_reach_136 : decode cX10_reach 136 = .ok (.iastore, 1) := dG_dX10_reach_126.2.2.2.2.2.1
theorem dX10_reach_137 : decode cX10_reach 137 = .ok (.iload_n 2, 1) := dG_dX10_reach_126.2.2.2.2.2.2.1
theorem dX10_reach_138 : decode cX10_reach 138 = .ok (.iload 6, 2) := dG_dX10_reach_126.2.2.2.2.2.2.2.1
theorem dX10_reach_140 : decode cX10_reach 140 = .ok (.if_icmp .ge 9, 3) := dG_dX10_reach_126.2.2.2.2.2.2.2.2.1
theorem dX10_reach_143 : decode cX10_reach 143 = .ok (.aload_n 0, 1) := dG_dX10_reach_126.2.2.2.2.2.2.2.2.2.1
theorem dX10_reach_144 : decode cX10_reach 144 = .ok (.iconst 0, 1) := dG_dX10_reach_126.2.2.2.2.2.2.2.2.2.2.1
theorem dX10_reach_145 : decode cX10_reach 145 = .ok (.invokevirtual 120, 3) := dG_dX10_reach_126.2.2.2.2.2.2.2.2.2.2.2
theorem dG_dX10_reach_148 : (decode cX10_reach 148 = .ok (.ireturn, 1)) ∧ (decode cX10_reach 149 = .ok (.aload_n 0, 1)) ∧ (decode cX10_reach 150 = .ok (.getfield 44, 3)) ∧ (decode cX10_reach 153 = .ok (.iload 5, 2)) ∧ (decode cX10_reach 155 = .ok (.aload_n 0, 1)) ∧ (decode cX10_reach 156 = .ok (.getfield 114, 3)) ∧ (decode cX10_reach 159 = .ok (.iconst 1, 1)) ∧ (decode cX10_reach 160 = .ok (.invokevirtual 209, 3)) ∧ (decode cX10_reach 163 = .ok (.aload_n 0, 1)) ∧ (decode cX10_reach 164 = .ok (.iconst 1, 1)) ∧ (decode cX10_reach 165 = .ok (.invokevirtual 120, 3)) ∧ (decode cX10_reach 168 = .ok (.ireturn, 1)) := by decide +kernel
theorem dX10_reach_148 : decode cX10_reach 148 = .ok (.ireturn, 1) := dG_dX10_reach_148.1
theorem dX10_reach_149 : decode cX10_reach 149 = .ok (.aload_n 0, 1) := dG_dX10_reach_148.2.1
theorem dX10_reach_150 : decode cX10_reach 150 = .ok (.getfield 44, 3) := dG_dX10_reach_148.2.2.1
theorem dX10_reach_153 : decode cX10_reach 153 = .ok (.iload 5, 2) := dG_dX10_reach_148.2.2.2.1
theorem dX10_reach_155 : decode cX10_reach 155 = .ok (.aload_n 0, 1) := dG_dX10_reach_148.2.2.2.2.1
theorem dX10_reach_156 : decode cX10_reach 156 = .ok (.getfield 114, 3) := dG_dX10_reach_148.2.2.2.2.2.1
theorem dX10_reach_159 : decode cX10_reach 159 = .ok (.iconst 1, 1) := dG_dX10_reach_148.2.2.2.2.2.2.1
theorem dX10_reach_160 : decode cX10_reach 160 = .ok (.invokevirtual 209, 3) := dG_dX10_reach_148.2.2.2.2.2.2.2.1
theorem dX10_reach_163 : decode cX10_reach 163 = .ok (.aload_n 0, 1) := dG_dX10_reach_148.2.2.2.2.2.2.2.2.1
theorem dX10_reach_164 : decode cX10_reach 164 = .ok (.iconst 1, 1) := dG_dX10_reach_148.2.2.2.2.2.2.2.2.2.1
theorem dX10_reach_165 : decode cX10_reach 165 = .ok (.invokevirtual 120, 3) := dG_dX10_reach_148.2.2.2.2.2.2.2.2.2.2.1
theorem dX10_reach_168 : decode cX10_reach 168 = .ok (.ireturn, 1) := dG_dX10_reach_148.2.2.2.2.2.2.2.2.2.2.2
theorem dG_dX10_fall_0 : (decode cX10_fall 0 = .ok (.aload_n 0, 1)) ∧ (decode cX10_fall 1 = .ok (.getfield 37, 3)) ∧ (decode cX10_fall 4 = .ok (.iload_n 1, 1)) ∧ (decode cX10_fall 5 = .ok (.invokevirtual 180, 3)) ∧ (decode cX10_fall 8 = .ok (.ifCond .eq 11, 3)) ∧ (decode cX10_fall 11 = .ok (.aload_n 0, 1)) ∧ (decode cX10_fall 12 = .ok (.iload_n 2, 1)) ∧ (decode cX10_fall 13 = .ok (.invokevirtual 183, 3)) ∧ (decode cX10_fall 16 = .ok (.goto 4, 3)) ∧ (decode cX10_fall 19 = .ok (.iconst 1, 1)) ∧ (decode cX10_fall 20 = .ok (.istore 4, 2)) ∧ (decode cX10_fall 22 = .ok (.iload 4, 2)) := by decide +kernel
theorem dX10_fall_0 : decode cX10_fall 0 = .ok (.aload_n 0, 1) := dG_dX10_fall_0.1
theorem dX10_fall_1 : decode cX10_fall 1 = .ok (.getfield 37, 3) := dG_dX10_fall_0.2.1
theorem dX10_fall_4 : decode cX10_fall 4 = .ok (.iload_n 1, 1) := dG_dX10_fall_0.2.2.1
theorem dX10_fall_5 : decode cX10_fall 5 = .ok (.invokevirtual 180, 3) := dG_dX10_fall_0.2.2.2.1
theorem dX10_fall_8 : decode cX10_fall 8 = .ok (.ifCond .eq 11, 3) := dG_dX10_fall_0.2.2.2.2.1
theorem dX10_fall_11 : decode cX10_fall 11 = .ok (.aload_n 0, 1) := dG_dX10_fall_0.2.2.2.2.2.1
theorem dX10_fall_12 : decode cX10_fall 12 = .ok (.iload_n 2, 1) := dG_dX10_fall_0.2.2.2.2.2.2.1
theorem dX10_fall_13 : decode cX10_fall 13 = .ok (.invokevirtual 183, 3) := dG_dX10_fall_0.2.2.2.2.2.2.2.1
theorem dX10_fall_16 : decode cX10_fall 16 = .ok (.goto 4, 3) := dG_dX10_fall_0.2.2.2.2.2.2.2.2.1
theorem dX10_fall_19 : decode cX10_fall 19 = .ok (.iconst 1, 1) := dG_dX10_fall_0.2.2.2.2.2.2.2.2.2.1
theorem dX10_fall_20 : decode cX10_fall 20 = .ok (.istore 4, 2) := dG_dX10_fall_0.2.2.2.2.2.2.2.2.2.2.1
theorem dX10_fall_22 : decode cX10_fall 22 = .ok (.iload 4, 2) := dG_dX10_fall_0.2.2.2.2.2.2.2.2.2.2.2
theorem dG_dX10_fall_24 : (decode cX10_fall 24 = .ok (.ifCond .eq 10, 3)) ∧ (decode cX10_fall 27 = .ok (.aload_n 0, 1)) ∧ (decode cX10_fall 28 = .ok (.iload 4, 2)) ∧ (decode cX10_fall 30 = .ok (.invokevirtual 140, 3)) ∧ (decode cX10_fall 33 = .ok (.ireturn, 1)) ∧ (decode cX10_fall 34 = .ok (.aload_n 0, 1)) ∧ (decode cX10_fall 35 = .ok (.getfield 44, 3)) ∧ (decode cX10_fall 38 = .ok (.iload_n 1, 1)) ∧ (decode cX10_fall 39 = .ok (.invokevirtual 197, 3)) ∧ (decode cX10_fall 42 = .ok (.istore 5, 2)) ∧ (decode cX10_fall 44 = .ok (.iload 5, 2)) ∧ (decode cX10_fall 46 = .ok (.iconst (-1), 1)) := by decide +kernel
theorem dX10_fall_24 : decode cX10_fall 24 = .ok (.ifCond .eq 10, 3) := dG_dX10_fall_24.1
theorem dX10_fall_27 : decode cX10_fall 27 = .ok (.aload_n 0, 1) := dG_dX10_fall_24.2.1
theorem dX10_fall_28 : decode cX10_fall 28 = .ok (.iload 4, 2) := dG_dX10_fall_24.2.2.1
theorem dX10_fall_30 : decode cX10_fall 30 = .ok (.invokevirtual 140, 3) := dG_dX10_fall_24.2.2.2.1
theorem dX10_fall_33 : decode cX10_fall 33 = .ok (.ireturn, 1) := dG_dX10_fall_24.2.2.2.2.1
theorem dX10_fall_34 : decode cX10_fall 34 = .ok (.aload_n 0, 1) := dG_dX10_fall_24.2.2.2.2.2.1
theorem dX10_fall_35 : decode cX10_fall 35 = .ok (.getfield 44, 3) := dG_dX10_fall_24.2.2.2.2.2.2.1
theorem dX10_fall_38 : decode cX10_fall 38 = .ok (.iload_n 1, 1) := dG_dX10_fall_24.2.2.2.2.2.2.2.1
theorem dX10_fall_39 : decode cX10_fall 39 = .ok (.invokevirtual 197, 3) := dG_dX10_fall_24.2.2.2.2.2.2.2.2.1
theorem dX10_fall_42 : decode cX10_fall 42 = .ok (.istore 5, 2) := dG_dX10_fall_24.2.2.2.2.2.2.2.2.2.1
theorem dX10_fall_44 : decode cX10_fall 44 = .ok (.iload 5, 2) := dG_dX10_fall_24.2.2.2.2.2.2.2.2.2.2.1
theorem dX10_fall_46 : decode cX10_fall 46 = .ok (.iconst (-1), 1) := dG_dX10_fall_24.2.2.2.2.2.2.2.2.2.2.2
theorem dG_dX10_fall_47 : (decode cX10_fall 47 = .ok (.if_icmp .ne 9, 3)) ∧ (decode cX10_fall 50 = .ok (.aload_n 0, 1)) ∧ (decode cX10_fall 51 = .ok (.iconst 5, 1)) ∧ (decode cX10_fall 52 = .ok (.invokevirtual 140, 3)) ∧ (decode cX10_fall 55 = .ok (.ireturn, 1)) ∧ (decode cX10_fall 56 = .ok (.aload_n 0, 1)) ∧ (decode cX10_fall 57 = .ok (.getfield 44, 3)) ∧ (decode cX10_fall 60 = .ok (.iload 5, 2)) ∧ (decode cX10_fall 62 = .ok (.aload_n 0, 1)) ∧ (decode cX10_fall 63 = .ok (.getfield 114, 3)) ∧ (decode cX10_fall 66 = .ok (.iload_n 3, 1)) ∧ (decode cX10_fall 67 = .ok (.ifCond .eq 7, 3)) := by decide +kernel
theorem dX10_fall_47 : decode cX10_fall 47 = .ok (.if_icmp .ne 9, 3) := dG_dX10_fall_47.1
theorem dX10_fall_50 : decode cX10_fall 50 = .ok (.aload_n 0, 1) := dG_dX10_fall_47.2.1
theorem dX10_fall_51 : decode cX10_fall 51 = .ok (.iconst 5, 1) := dG_dX10_fall_47.2.2.1
theorem dX10_fall_52 : decode cX10_fall 52 = .ok (.invokevirtual 140, 3) := dG_dX10_fall_47.2.2.2.1
theorem dX10_fall_55 : decode cX10_fall 55 = .ok (.ireturn, 1) := dG_dX10_fall_47.2.2.2.2.1
theorem dX10_fall_56 : decode cX10_fall 56 = .ok (.aload_n 0, 1) := dG_dX10_fall_47.2.2.2.2.2.1
theorem dX10_fall_57 : decode cX10_fall 57 = .ok (.getfield 44, 3) := dG_dX10_fall_47.2.2.2.2.2.2.1
theorem dX10_fall_60 : decode cX10_fall 60 = .ok (.iload 5, 2) := dG_dX10_fall_47.2.2.2.2.2.2.2.1
theorem dX10_fall_62 : decode cX10_fall 62 = .ok (.aload_n 0, 1) := dG_dX10_fall_47.2.2.2.2.2.2.2.2.1
theorem dX10_fall_63 : decode cX10_fall 63 = .ok (.getfield 114, 3) := dG_dX10_fall_47.2.2.2.2.2.2.2.2.2.1
theorem dX10_fall_66 : decode cX10_fall 66 = .ok (.iload_n 3, 1) := dG_dX10_fall_47.2.2.2.2.2.2.2.2.2.2.1
theorem dX10_fall_67 : decode cX10_fall 67 = .ok (.ifCond .eq 7, 3) := dG_dX10_fall_47.2.2.2.2.2.2.2.2.2.2.2
theorem dG_dX10_fall_70 : (decode cX10_fall 70 = .ok (.iconst 4, 1)) ∧ (decode cX10_fall 71 = .ok (.goto 4, 3)) ∧ (decode cX10_fall 74 = .ok (.iconst 2, 1)) ∧ (decode cX10_fall 75 = .ok (.invokevirtual 209, 3)) ∧ (decode cX10_fall 78 = .ok (.aload_n 0, 1)) ∧ (decode cX10_fall 79 = .ok (.invokevirtual 160, 3)) ∧ (decode cX10_fall 82 = .ok (.ireturn, 1)) ∧ (decode cX10_out 0 = .ok (.aload_n 0, 1)) ∧ (decode cX10_out 1 = .ok (.getfield 37, 3)) ∧ (decode cX10_out 4 = .ok (.iload_n 1, 1)) ∧ (decode cX10_out 5 = .ok (.invokevirtual 180, 3)) ∧ (decode cX10_out 8 = .ok (.ifCond .eq 11, 3)) := by decide +kernel
theorem dX10_fall_70 : decode cX10_fall 70 = .ok (.iconst 4, 1) := dG_dX10_fall_70.1
theorem dX10_fall_71 : decode cX10_fall 71 = .ok (.goto 4, 3) := dG_dX10_fall_70.2.1
theorem dX10_fall_74 : decode cX10_fall 74 = .ok (.iconst 2, 1) := dG_dX10_fall_70.2.2.1
theorem dX10_fall_75 : decode cX10_fall 75 = .ok (.invokevirtual 209, 3) := dG_dX10_fall_70.2.2.2.1
theorem dX10_fall_78 : decode cX10_fall 78 = .ok (.aload_n 0, 1) := dG_dX10_fall_70.2.2.2.2.1
theorem dX10_fall_79 : decode cX10_fall 79 = .ok (.invokevirtual 160, 3) := dG_dX10_fall_70.2.2.2.2.2.1
theorem dX10_fall_82 : decode cX10_fall 82 = .ok (.ireturn, 1) := dG_dX10_fall_70.2.2.2.2.2.2.1
theorem dX10_out_0 : decode cX10_out 0 = .ok (.aload_n 0, 1) := dG_dX10_fall_70.2.2.2.2.2.2.2.1
theorem dX10_out_1 : decode cX10_out 1 = .ok (.getfield 37, 3) := dG_dX10_fall_70.2.2.2.2.2.2.2.2.1
theorem dX10_out_4 : decode cX10_out 4 = .ok (.iload_n 1, 1) := dG_dX10_fall_70.2.2.2.2.2.2.2.2.2.1
theorem dX10_out_5 : decode cX10_out 5 = .ok (.invokevirtual 180, 3) := dG_dX10_fall_70.2.2.2.2.2.2.2.2.2.2.1
theorem dX10_out_8 : decode cX10_out 8 = .ok (.ifCond .eq 11, 3) := dG_dX10_fall_70.2.2.2.2.2.2.2.2.2.2.2
theorem dG_dX10_out_11 : (decode cX10_out 11 = .ok (.aload_n 0, 1)) ∧ (decode cX10_out 12 = .ok (.iload_n 2, 1)) ∧ (decode cX10_out 13 = .ok (.invokevirtual 183, 3)) ∧ (decode cX10_out 16 = .ok (.goto 4, 3)) ∧ (decode cX10_out 19 = .ok (.iconst 1, 1)) ∧ (decode cX10_out 20 = .ok (.istore 4, 2)) ∧ (decode cX10_out 22 = .ok (.iload 4, 2)) ∧ (decode cX10_out 24 = .ok (.ifCond .eq 10, 3)) ∧ (decode cX10_out 27 = .ok (.aload_n 0, 1)) ∧ (decode cX10_out 28 = .ok (.iload 4, 2)) ∧ (decode cX10_out 30 = .ok (.invokevirtual 140, 3)) ∧ (decode cX10_out 33 = .ok (.ireturn, 1)) := by decide +kernel
theorem dX10_out_11 : decode cX10_out 11 = .ok (.aload_n 0, 1) := dG_dX10_out_11.1
theorem dX10_out_12 : decode cX10_out 12 = .ok (.iload_n 2, 1) := dG_dX10_out_11.2.1
theorem dX10_out_13 : decode cX10_out 13 = .ok (.invokevirtual 183, 3) := dG_dX10_out_11.2.2.1
theorem dX10_out_16 : decode cX10_out 16 = .ok (.goto 4, 3) := dG_dX10_out_11.2.2.2.1
theorem dX10_out_19 : decode cX10_out 19 = .ok (.iconst 1, 1) := dG_dX10_out_11.2.2.2.2.1
theorem dX10_out_20 : decode cX10_out 20 = .ok (.istore 4, 2) := dG_dX10_out_11.2.2.2.2.2.1
theorem dX10_out_22 : decode cX10_out 22 = .ok (.iload 4, 2) := dG_dX10_out_11.2.2.2.2.2.2.1
theorem dX10_out_24 : decode cX10_out 24 = .ok (.ifCond .eq 10, 3) := dG_dX10_out_11.2.2.2.2.2.2.2.1
theorem dX10_out_27 : decode cX10_out 27 = .ok (.aload_n 0, 1) := dG_dX10_out_11.2.2.2.2.2.2.2.2.1
theorem dX10_out_28 : decode cX10_out 28 = .ok (.iload 4, 2) := dG_dX10_out_11.2.2.2.2.2.2.2.2.2.1
theorem dX10_out_30 : decode cX10_out 30 = .ok (.invokevirtual 140, 3) := dG_dX10_out_11.2.2.2.2.2.2.2.2.2.2.1
theorem dX10_out_33 : decode cX10_out 33 = .ok (.ireturn, 1) := dG_dX10_out_11.2.2.2.2.2.2.2.2.2.2.2
theorem dG_dX10_out_34 : (decode cX10_out 34 = .ok (.aload_n 0, 1)) ∧ (decode cX10_out 35 = .ok (.getfield 58, 3)) ∧ (decode cX10_out 38 = .ok (.iload_n 1, 1)) ∧ (decode cX10_out 39 = .ok (.invokevirtual 212, 3)) ∧ (decode cX10_out 42 = .ok (.iload_n 3, 1)) ∧ (decode cX10_out 43 = .ok (.if_icmp .ne 10, 3)) ∧ (decode cX10_out 46 = .ok (.aload_n 0, 1)) ∧ (decode cX10_out 47 = .ok (.bipush 10, 2)) ∧ (decode cX10_out 49 = .ok (.invokevirtual 140, 3)) ∧ (decode cX10_out 52 = .ok (.ireturn, 1)) ∧ (decode cX10_out 53 = .ok (.iload_n 3, 1)) ∧ (decode cX10_out 54 = .ok (.ifCond .ne 20, 3)) := by decide +kernel
theorem dX10_out_34 : decode cX10_out 34 = .ok (.aload_n 0, 1) := dG_dX10_out_34.1
theorem dX10_out_35 : decode cX10_out 35 = .ok (.getfield 58, 3) := dG_dX10_out_34.2.1
theorem dX10_out_38 : decode cX10_out 38 = .ok (.iload_n 1, 1) := dG_dX10_out_34.2.2.1
theorem dX10_out_39 : decode cX10_out 39 = .ok (.invokevirtual 212, 3) := dG_dX10_out_34.2.2.2.1
theorem dX10_out_42 : decode cX10_out 42 = .ok (.iload_n 3, 1) := dG_dX10_out_34.2.2.2.2.1
theorem dX10_out_43 : decode cX10_out 43 = .ok (.if_icmp .ne 10, 3) := dG_dX10_out_34.2.2.2.2.2.1
theorem dX10_out_46 : decode cX10_out 46 = .ok (.aload_n 0, 1) := dG_dX10_out_34.2.2.2.2.2.2.1
theorem dX10_out_47 : decode cX10_out 47 = .ok (.bipush 10, 2) := dG_dX10_out_34.2.2.2.2.2.2.2.1
theorem dX10_out_49 : decode cX10_out 49 = .ok (.invokevirtual 140, 3) := dG_dX10_out_34.2.2.2.2.2.2.2.2.1
theorem dX10_out_52 : decode cX10_out 52 = .ok (.ireturn, 1) := dG_dX10_out_34.2.2.2.2.2.2.2.2.2.1
theorem dX10_out_53 : decode cX10_out 53 = .ok (.iload_n 3, 1) := dG_dX10_out_34.2.2.2.2.2.2.2.2.2.2.1
theorem dX10_out_54 : decode cX10_out 54 = .ok (.ifCond .ne 20, 3) := dG_dX10_out_34.2.2.2.2.2.2.2.2.2.2.2
theorem dG_dX10_out_57 : (decode cX10_out 57 = .ok (.aload_n 0, 1)) ∧ (decode cX10_out 58 = .ok (.getfield 58, 3)) ∧ (decode cX10_out 61 = .ok (.iload_n 1, 1)) ∧ (decode cX10_out 62 = .ok (.aload_n 0, 1)) ∧ (decode cX10_out 63 = .ok (.getfield 114, 3)) ∧ (decode cX10_out 66 = .ok (.invokevirtual 215, 3)) ∧ (decode cX10_out 69 = .ok (.aload_n 0, 1)) ∧ (decode cX10_out 70 = .ok (.invokevirtual 160, 3)) ∧ (decode cX10_out 73 = .ok (.ireturn, 1)) ∧ (decode cX10_out 74 = .ok (.aload_n 0, 1)) ∧ (decode cX10_out 75 = .ok (.getfield 58, 3)) ∧ (decode cX10_out 78 = .ok (.getfield 218, 3)) := by decide +kernel
theorem dX10_out_57 : decode cX10_out 57 = .ok (.aload_n 0, 1) := dG_dX10_out_57.1
theorem dX10_out_58 : decode cX10_out 58 = .ok (.getfield 58, 3) := dG_dX10_out_57.2.1
theorem dX10_out_61 : decode cX10_out 61 = .ok (.iload_n 1, 1) := dG_dX10_out_57.2.2.1
theorem dX10_out_62 : decode cX10_out 62 = .ok (.aload_n 0, 1) := dG_dX10_out_57.2.2.2.1
theorem dX10_out_63 : decode cX10_out 63 = .ok (.getfield 114, 3) := dG_dX10_out_57.2.2.2.2.1
theorem dX10_out_66 : decode cX10_out 66 = .ok (.invokevirtual 215, 3) := dG_dX10_out_57.2.2.2.2.2.1
theorem dX10_out_69 : decode cX10_out 69 = .ok (.aload_n 0, 1) := dG_dX10_out_57.2.2.2.2.2.2.1
theorem dX10_out_70 : decode cX10_out 70 = .ok (.invokevirtual 160, 3) := dG_dX10_out_57.2.2.2.2.2.2.2.1
theorem dX10_out_73 : decode cX10_out 73 = .ok (.ireturn, 1) := dG_dX10_out_57.2.2.2.2.2.2.2.2.1
theorem dX10_out_74 : decode cX10_out 74 = .ok (.aload_n 0, 1) := dG_dX10_out_57.2.2.2.2.2.2.2.2.2.1
theorem dX10_out_75 : decode cX10_out 75 = .ok (.getfield 58, 3) := dG_dX10_out_57.2.2.2.2.2.2.2.2.2.2.1
theorem dX10_out_78 : decode cX10_out 78 = .ok (.getfield 218, 3) := dG_dX10_out_57.2.2.2.2.2.2.2.2.2.2.2
theorem dG_dX10_out_81 : (decode cX10_out 81 = .ok (.iload_n 1, 1)) ∧ (decode cX10_out 82 = .ok (.iaload, 1)) ∧ (decode cX10_out 83 = .ok (.bipush 20, 2)) ∧ (decode cX10_out 85 = .ok (.if_icmp .lt 9, 3)) ∧ (decode cX10_out 88 = .ok (.aload_n 0, 1)) ∧ (decode cX10_out 89 = .ok (.iconst 3, 1)) ∧ (decode cX10_out 90 = .ok (.invokevirtual 140, 3)) ∧ (decode cX10_out 93 = .ok (.ireturn, 1)) ∧ (decode cX10_out 94 = .ok (.aload_n 0, 1)) ∧ (decode cX10_out 95 = .ok (.getfield 58, 3)) ∧ (decode cX10_out 98 = .ok (.iload_n 1, 1)) ∧ (decode cX10_out 99 = .ok (.aload_n 0, 1)) := by decide +kernel
theorem dX10_out_81 : decode cX10_out 81 = .ok (.iload_n 1, 1) := dG_dX10_out_81.1
theorem dX10_out_82 : decode cX10_out 82 = .ok (.iaload, 1) := dG_dX10_out_81.2.1
theorem dX10_out_83 : decode cX10_out 83 = .ok (.bipush 20, 2) := dG_dX10_out_81.2.2.1
theorem dX10_out_85 : decode cX10_out 85 = .ok (.if_icmp .lt 9, 3) := dG_dX10_out_81.2.2.2.1
theorem dX10_out_88 : decode cX10_out 88 = .ok (.aload_n 0, 1) := dG_dX10_out_81.2.2.2.2.1
theorem dX10_out_89 : decode cX10_out 89 = .ok (.iconst 3, 1) := dG_dX10_out_81.2.2.2.2.2.1
theorem dX10_out_90 : decode cX10_out 90 = .ok (.invokevirtual 140, 3) := dG_dX10_out_81.2.2.2.2.2.2.1
theorem dX10_out_93 : decode cX10_out 93 = .ok (.ireturn, 1) := dG_dX10_out_81.2.2.2.2.2.2.2.1
theorem dX10_out_94 : decode cX10_out 94 = .ok (.aload_n 0, 1) := dG_dX10_out_81.2.2.2.2.2.2.2.2.1
theorem dX10_out_95 : decode cX10_out 95 = .ok (.getfield 58, 3) := dG_dX10_out_81.2.2.2.2.2.2.2.2.2.1
theorem dX10_out_98 : decode cX10_out 98 = .ok (.iload_n 1, 1) := dG_dX10_out_81.2.2.2.2.2.2.2.2.2.2.1
theorem dX10_out_99 : decode cX10_out 99 = .ok (.aload_n 0, 1) := dG_dX10_out_81.2.2.2.2.2.2.2.2.2.2.2
theorem dG_dX10_out_100 : (decode cX10_out 100 = .ok (.getfield 114, 3)) ∧ (decode cX10_out 103 = .ok (.invokevirtual 221, 3)) ∧ (decode cX10_out 106 = .ok (.aload_n 0, 1)) ∧ (decode cX10_out 107 = .ok (.invokevirtual 160, 3)) ∧ (decode cX10_out 110 = .ok (.ireturn, 1)) ∧ (decode cX10_clock 0 = .ok (.aload_n 0, 1)) ∧ (decode cX10_clock 1 = .ok (.iload_n 1, 1)) ∧ (decode cX10_clock 2 = .ok (.invokevirtual 183, 3)) ∧ (decode cX10_clock 5 = .ok (.istore_n 2, 1)) ∧ (decode cX10_clock 6 = .ok (.iload_n 2, 1)) ∧ (decode cX10_clock 7 = .ok (.ifCond .ne 10, 3)) ∧ (decode cX10_clock 10 = .ok (.aload_n 0, 1)) := by decide +kernel
theorem dX10_out_100 : decode cX10_out 100 = .ok (.getfield 114, 3) := dG_dX10_out_100.1
theorem dX10_out_103 : decode cX10_out 103 = .ok (.invokevirtual 221, 3) := dG_dX10_out_100.2.1
theorem dX10_out_106 : decode cX10_out 106 = .ok (.aload_n 0, 1) := dG_dX10_out_100.2.2.1
theorem dX10_out_107 : decode cX10_out 107 = .ok (.invokevirtual 160, 3) := dG_dX10_out_100.2.2.2.1
theorem dX10_out_110 : decode cX10_out 110 = .ok (.ireturn, 1) := dG_dX10_out_100.2.2.2.2.1
theorem dX10_clock_0 : decode cX10_clock 0 = .ok (.aload_n 0, 1) := dG_dX10_out_100.2.2.2.2.2.1
theorem dX10_clock_1 : decode cX10_clock 1 = .ok (.iload_n 1, 1) := dG_dX10_out_100.2.2.2.2.2.2.1
theorem dX10_clock_2 : decode cX10_clock 2 = .ok (.invokevirtual 183, 3) := dG_dX10_out_100.2.2.2.2.2.2.2.1
theorem dX10_clock_5 : decode cX10_clock 5 = .ok (.istore_n 2, 1) := dG_dX10_out_100.2.2.2.2.2.2.2.2.1
theorem dX10_clock_6 : decode cX10_clock 6 = .ok (.iload_n 2, 1) := dG_dX10_out_100.2.2.2.2.2.2.2.2.2.1
theorem dX10_clock_7 : decode cX10_clock 7 = .ok (.ifCond .ne 10, 3) := dG_dX10_out_100.2.2.2.2.2.2.2.2.2.2.1
theorem dX10_clock_10 : decode cX10_clock 10 = .ok (.aload_n 0, 1) := dG_dX10_out_100.2.2.2.2.2.2.2.2.2.2.2
theorem dG_dX10_clock_11 : (decode cX10_clock 11 = .ok (.invokevirtual 160, 3)) ∧ (decode cX10_clock 14 = .ok (.goto 8, 3)) ∧ (decode cX10_clock 17 = .ok (.aload_n 0, 1)) ∧ (decode cX10_clock 18 = .ok (.iload_n 2, 1)) ∧ (decode cX10_clock 19 = .ok (.invokevirtual 140, 3)) ∧ (decode cX10_clock 22 = .ok (.ireturn, 1)) ∧ (decode cX10_now 0 = .ok (.aload_n 0, 1)) ∧ (decode cX10_now 1 = .ok (.aload_n 0, 1)) ∧ (decode cX10_now 2 = .ok (.getfield 114, 3)) ∧ (decode cX10_now 5 = .ok (.invokevirtual 120, 3)) ∧ (decode cX10_now 8 = .ok (.ireturn, 1)) ∧ (decode cX10_passTo 0 = .ok (.iload_n 1, 1)) := by decide +kernel
theorem dX10_clock_11 : decode cX10_clock 11 = .ok (.invokevirtual 160, 3) := dG_dX10_clock_11.1
theorem dX10_clock_14 : decode cX10_clock 14 = .ok (.goto 8, 3) := dG_dX10_clock_11.2.1
theorem dX10_clock_17 : decode cX10_clock 17 = .ok (.aload_n 0, 1) := dG_dX10_clock_11.2.2.1
theorem dX10_clock_18 : decode cX10_clock 18 = .ok (.iload_n 2, 1) := dG_dX10_clock_11.2.2.2.1
theorem dX10_clock_19 : decode cX10_clock 19 = .ok (.invokevirtual 140, 3) := dG_dX10_clock_11.2.2.2.2.1
theorem dX10_clock_22 : decode cX10_clock 22 = .ok (.ireturn, 1) := dG_dX10_clock_11.2.2.2.2.2.1
theorem dX10_now_0 : decode cX10_now 0 = .ok (.aload_n 0, 1) := dG_dX10_clock_11.2.2.2.2.2.2.1
theorem dX10_now_1 : decode cX10_now 1 = .ok (.aload_n 0, 1) := dG_dX10_clock_11.2.2.2.2.2.2.2.1
theorem dX10_now_2 : decode cX10_now 2 = .ok (.getfield 114, 3) := dG_dX10_clock_11.2.2.2.2.2.2.2.2.1
theorem dX10_now_5 : decode cX10_now 5 = .ok (.invokevirtual 120, 3) := dG_dX10_clock_11.2.2.2.2.2.2.2.2.2.1
theorem dX10_now_8 : decode cX10_now 8 = .ok (.ireturn, 1) := dG_dX10_clock_11.2.2.2.2.2.2.2.2.2.2.1
theorem dX10_passTo_0 : decode cX10_passTo 0 = .ok (.iload_n 1, 1) := dG_dX10_clock_11.2.2.2.2.2.2.2.2.2.2.2
theorem dG_dX10_passTo_1 : (decode cX10_passTo 1 = .ok (.ifCond .lt 10, 3)) ∧ (decode cX10_passTo 4 = .ok (.iload_n 1, 1)) ∧ (decode cX10_passTo 5 = .ok (.ldc_w 313, 3)) ∧ (decode cX10_passTo 8 = .ok (.if_icmp .le 5, 3)) ∧ (decode cX10_passTo 11 = .ok (.iconst 2, 1)) ∧ (decode cX10_passTo 12 = .ok (.ireturn, 1)) ∧ (decode cX10_passTo 13 = .ok (.iload_n 1, 1)) ∧ (decode cX10_passTo 14 = .ok (.aload_n 0, 1)) ∧ (decode cX10_passTo 15 = .ok (.getfield 114, 3)) ∧ (decode cX10_passTo 18 = .ok (.if_icmp .ge 6, 3)) ∧ (decode cX10_passTo 21 = .ok (.bipush 9, 2)) ∧ (decode cX10_passTo 23 = .ok (.ireturn, 1)) := by decide +kernel
theorem dX10_passTo_1 : decode cX10_passTo 1 = .ok (.ifCond .lt 10, 3) := dG_dX10_passTo_1.1
theorem dX10_passTo_4 : decode cX10_passTo 4 = .ok (.iload_n 1, 1) := dG_dX10_passTo_1.2.1
theorem dX10_passTo_5 : decode cX10_passTo 5 = .ok (.ldc_w 313, 3) := dG_dX10_passTo_1.2.2.1
theorem dX10_passTo_8 : decode cX10_passTo 8 = .ok (.if_icmp .le 5, 3) := dG_dX10_passTo_1.2.2.2.1
theorem dX10_passTo_11 : decode cX10_passTo 11 = .ok (.iconst 2, 1) := dG_dX10_passTo_1.2.2.2.2.1
theorem dX10_passTo_12 : decode cX10_passTo 12 = .ok (.ireturn, 1) := dG_dX10_passTo_1.2.2.2.2.2.1
theorem dX10_passTo_13 : decode cX10_passTo 13 = .ok (.iload_n 1, 1) := dG_dX10_passTo_1.2.2.2.2.2.2.1
theorem dX10_passTo_14 : decode cX10_passTo 14 = .ok (.aload_n 0, 1) := dG_dX10_passTo_1.2.2.2.2.2.2.2.1
theorem dX10_passTo_15 : decode cX10_passTo 15 = .ok (.getfield 114, 3) := dG_dX10_passTo_1.2.2.2.2.2.2.2.2.1
theorem dX10_passTo_18 : decode cX10_passTo 18 = .ok (.if_icmp .ge 6, 3) := dG_dX10_passTo_1.2.2.2.2.2.2.2.2.2.1
theorem dX10_passTo_21 : decode cX10_passTo 21 = .ok (.bipush 9, 2) := dG_dX10_passTo_1.2.2.2.2.2.2.2.2.2.2.1
theorem dX10_passTo_23 : decode cX10_passTo 23 = .ok (.ireturn, 1) := dG_dX10_passTo_1.2.2.2.2.2.2.2.2.2.2.2
theorem dG_dX10_passTo_24 : (decode cX10_passTo 24 = .ok (.aload_n 0, 1)) ∧ (decode cX10_passTo 25 = .ok (.iload_n 1, 1)) ∧ (decode cX10_passTo 26 = .ok (.putfield 114, 3)) ∧ (decode cX10_passTo 29 = .ok (.aload_n 0, 1)) ∧ (decode cX10_passTo 30 = .ok (.getfield 44, 3)) ∧ (decode cX10_passTo 33 = .ok (.iload_n 1, 1)) ∧ (decode cX10_passTo 34 = .ok (.aload_n 0, 1)) ∧ (decode cX10_passTo 35 = .ok (.getfield 16, 3)) ∧ (decode cX10_passTo 38 = .ok (.aload_n 0, 1)) ∧ (decode cX10_passTo 39 = .ok (.getfield 37, 3)) ∧ (decode cX10_passTo 42 = .ok (.getfield 129, 3)) ∧ (decode cX10_passTo 45 = .ok (.iconst 2, 1)) := by decide +kernel
theorem dX10_passTo_24 : decode cX10_passTo 24 = .ok (.aload_n 0, 1) := dG_dX10_passTo_24.1
theorem dX10_passTo_25 : decode cX10_passTo 25 = .ok (.iload_n 1, 1) := dG_dX10_passTo_24.2.1
theorem dX10_passTo_26 : decode cX10_passTo 26 = .ok (.putfield 114, 3) := dG_dX10_passTo_24.2.2.1
theorem dX10_passTo_29 : decode cX10_passTo 29 = .ok (.aload_n 0, 1) := dG_dX10_passTo_24.2.2.2.1
theorem dX10_passTo_30 : decode cX10_passTo 30 = .ok (.getfield 44, 3) := dG_dX10_passTo_24.2.2.2.2.1
theorem dX10_passTo_33 : decode cX10_passTo 33 = .ok (.iload_n 1, 1) := dG_dX10_passTo_24.2.2.2.2.2.1
theorem dX10_passTo_34 : decode cX10_passTo 34 = .ok (.aload_n 0, 1) := dG_dX10_passTo_24.2.2.2.2.2.2.1
theorem dX10_passTo_35 : decode cX10_passTo 35 = .ok (.getfield 16, 3) := dG_dX10_passTo_24.2.2.2.2.2.2.2.1
theorem dX10_passTo_38 : decode cX10_passTo 38 = .ok (.aload_n 0, 1) := dG_dX10_passTo_24.2.2.2.2.2.2.2.2.1
theorem dX10_passTo_39 : decode cX10_passTo 39 = .ok (.getfield 37, 3) := dG_dX10_passTo_24.2.2.2.2.2.2.2.2.2.1
theorem dX10_passTo_42 : decode cX10_passTo 42 = .ok (.getfield 129, 3) := dG_dX10_passTo_24.2.2.2.2.2.2.2.2.2.2.1
theorem dX10_passTo_45 : decode cX10_passTo 45 = .ok (.iconst 2, 1) := dG_dX10_passTo_24.2.2.2.2.2.2.2.2.2.2.2
theorem dG_dX10_passTo_46 : (decode cX10_passTo 46 = .ok (.invokevirtual 170, 3)) ∧ (decode cX10_passTo 49 = .ok (.invokevirtual 314, 3)) ∧ (decode cX10_passTo 52 = .ok (.iconst 0, 1)) ∧ (decode cX10_passTo 53 = .ok (.ireturn, 1)) ∧ (decode cX10_whyNotBegin 0 = .ok (.aload_n 0, 1)) ∧ (decode cX10_whyNotBegin 1 = .ok (.getfield 37, 3)) ∧ (decode cX10_whyNotBegin 4 = .ok (.getfield 129, 3)) ∧ (decode cX10_whyNotBegin 7 = .ok (.istore_n 3, 1)) ∧ (decode cX10_whyNotBegin 8 = .ok (.aload_n 0, 1)) ∧ (decode cX10_whyNotBegin 9 = .ok (.getfield 37, 3)) ∧ (decode cX10_whyNotBegin 12 = .ok (.iload_n 3, 1)) ∧ (decode cX10_whyNotBegin 13 = .ok (.iload_n 1, 1)) := by decide +kernel
theorem dX10_passTo_46 : decode cX10_passTo 46 = .ok (.invokevirtual 170, 3) := dG_dX10_passTo_46.1
theorem dX10_passTo_49 : decode cX10_passTo 49 = .ok (.invokevirtual 314, 3) := dG_dX10_passTo_46.2.1
theorem dX10_passTo_52 : decode cX10_passTo 52 = .ok (.iconst 0, 1) := dG_dX10_passTo_46.2.2.1
theorem dX10_passTo_53 : decode cX10_passTo 53 = .ok (.ireturn, 1) := dG_dX10_passTo_46.2.2.2.1
theorem dX10_whyNotBegin_0 : decode cX10_whyNotBegin 0 = .ok (.aload_n 0, 1) := dG_dX10_passTo_46.2.2.2.2.1
theorem dX10_whyNotBegin_1 : decode cX10_whyNotBegin 1 = .ok (.getfield 37, 3) := dG_dX10_passTo_46.2.2.2.2.2.1
theorem dX10_whyNotBegin_4 : decode cX10_whyNotBegin 4 = .ok (.getfield 129, 3) := dG_dX10_passTo_46.2.2.2.2.2.2.1
theorem dX10_whyNotBegin_7 : decode cX10_whyNotBegin 7 = .ok (.istore_n 3, 1) := dG_dX10_passTo_46.2.2.2.2.2.2.2.1
theorem dX10_whyNotBegin_8 : decode cX10_whyNotBegin 8 = .ok (.aload_n 0, 1) := dG_dX10_passTo_46.2.2.2.2.2.2.2.2.1
theorem dX10_whyNotBegin_9 : decode cX10_whyNotBegin 9 = .ok (.getfield 37, 3) := dG_dX10_passTo_46.2.2.2.2.2.2.2.2.2.1
theorem dX10_whyNotBegin_12 : decode cX10_whyNotBegin 12 = .ok (.iload_n 3, 1) := dG_dX10_passTo_46.2.2.2.2.2.2.2.2.2.2.1
theorem dX10_whyNotBegin_13 : decode cX10_whyNotBegin 13 = .ok (.iload_n 1, 1) := dG_dX10_passTo_46.2.2.2.2.2.2.2.2.2.2.2
theorem dG_dX10_whyNotBegin_14 : (decode cX10_whyNotBegin 14 = .ok (.invokevirtual 268, 3)) ∧ (decode cX10_whyNotBegin 17 = .ok (.ifCond .ne 5, 3)) ∧ (decode cX10_whyNotBegin 20 = .ok (.iconst 4, 1)) ∧ (decode cX10_whyNotBegin 21 = .ok (.ireturn, 1)) ∧ (decode cX10_whyNotBegin 22 = .ok (.aload_n 0, 1)) ∧ (decode cX10_whyNotBegin 23 = .ok (.getfield 44, 3)) ∧ (decode cX10_whyNotBegin 26 = .ok (.iload_n 1, 1)) ∧ (decode cX10_whyNotBegin 27 = .ok (.invokevirtual 197, 3)) ∧ (decode cX10_whyNotBegin 30 = .ok (.iconst (-1), 1)) ∧ (decode cX10_whyNotBegin 31 = .ok (.if_icmp .eq 5, 3)) ∧ (decode cX10_whyNotBegin 34 = .ok (.iconst 5, 1)) ∧ (decode cX10_whyNotBegin 35 = .ok (.ireturn, 1)) := by decide +kernel
theorem dX10_whyNotBegin_14 : decode cX10_whyNotBegin 14 = .ok (.invokevirtual 268, 3) := dG_dX10_whyNotBegin_14.1
theorem dX10_whyNotBegin_17 : decode cX10_whyNotBegin 17 = .ok (.ifCond .ne 5, 3) := dG_dX10_whyNotBegin_14.2.1
theorem dX10_whyNotBegin_20 : decode cX10_whyNotBegin 20 = .ok (.iconst 4, 1) := dG_dX10_whyNotBegin_14.2.2.1
theorem dX10_whyNotBegin_21 : decode cX10_whyNotBegin 21 = .ok (.ireturn, 1) := dG_dX10_whyNotBegin_14.2.2.2.1
theorem dX10_whyNotBegin_22 : decode cX10_whyNotBegin 22 = .ok (.aload_n 0, 1) := dG_dX10_whyNotBegin_14.2.2.2.2.1
theorem dX10_whyNotBegin_23 : decode cX10_whyNotBegin 23 = .ok (.getfield 44, 3) := dG_dX10_whyNotBegin_14.2.2.2.2.2.1
theorem dX10_whyNotBegin_26 : decode cX10_whyNotBegin 26 = .ok (.iload_n 1, 1) := dG_dX10_whyNotBegin_14.2.2.2.2.2.2.1
theorem dX10_whyNotBegin_27 : decode cX10_whyNotBegin 27 = .ok (.invokevirtual 197, 3) := dG_dX10_whyNotBegin_14.2.2.2.2.2.2.2.1
theorem dX10_whyNotBegin_30 : decode cX10_whyNotBegin 30 = .ok (.iconst (-1), 1) := dG_dX10_whyNotBegin_14.2.2.2.2.2.2.2.2.1
theorem dX10_whyNotBegin_31 : decode cX10_whyNotBegin 31 = .ok (.if_icmp .eq 5, 3) := dG_dX10_whyNotBegin_14.2.2.2.2.2.2.2.2.2.1
theorem dX10_whyNotBegin_34 : decode cX10_whyNotBegin 34 = .ok (.iconst 5, 1) := dG_dX10_whyNotBegin_14.2.2.2.2.2.2.2.2.2.2.1
theorem dX10_whyNotBegin_35 : decode cX10_whyNotBegin 35 = .ok (.ireturn, 1) := dG_dX10_whyNotBegin_14.2.2.2.2.2.2.2.2.2.2.2
theorem dG_dX10_whyNotBegin_36 : (decode cX10_whyNotBegin 36 = .ok (.aload_n 0, 1)) ∧ (decode cX10_whyNotBegin 37 = .ok (.getfield 44, 3)) ∧ (decode cX10_whyNotBegin 40 = .ok (.iload_n 1, 1)) ∧ (decode cX10_whyNotBegin 41 = .ok (.iload_n 3, 1)) ∧ (decode cX10_whyNotBegin 42 = .ok (.iload_n 2, 1)) ∧ (decode cX10_whyNotBegin 43 = .ok (.aload_n 0, 1)) ∧ (decode cX10_whyNotBegin 44 = .ok (.getfield 16, 3)) ∧ (decode cX10_whyNotBegin 47 = .ok (.iload_n 3, 1)) ∧ (decode cX10_whyNotBegin 48 = .ok (.iconst 1, 1)) ∧ (decode cX10_whyNotBegin 49 = .ok (.invokevirtual 170, 3)) ∧ (decode cX10_whyNotBegin 52 = .ok (.invokevirtual 317, 3)) ∧ (decode cX10_whyNotBegin 55 = .ok (.ifCond .eq 6, 3)) := by decide +kernel
theorem dX10_whyNotBegin_36 : decode cX10_whyNotBegin 36 = .ok (.aload_n 0, 1) := dG_dX10_whyNotBegin_36.1
theorem dX10_whyNotBegin_37 : decode cX10_whyNotBegin 37 = .ok (.getfield 44, 3) := dG_dX10_whyNotBegin_36.2.1
theorem dX10_whyNotBegin_40 : decode cX10_whyNotBegin 40 = .ok (.iload_n 1, 1) := dG_dX10_whyNotBegin_36.2.2.1
theorem dX10_whyNotBegin_41 : decode cX10_whyNotBegin 41 = .ok (.iload_n 3, 1) := dG_dX10_whyNotBegin_36.2.2.2.1
theorem dX10_whyNotBegin_42 : decode cX10_whyNotBegin 42 = .ok (.iload_n 2, 1) := dG_dX10_whyNotBegin_36.2.2.2.2.1
theorem dX10_whyNotBegin_43 : decode cX10_whyNotBegin 43 = .ok (.aload_n 0, 1) := dG_dX10_whyNotBegin_36.2.2.2.2.2.1
theorem dX10_whyNotBegin_44 : decode cX10_whyNotBegin 44 = .ok (.getfield 16, 3) := dG_dX10_whyNotBegin_36.2.2.2.2.2.2.1
theorem dX10_whyNotBegin_47 : decode cX10_whyNotBegin 47 = .ok (.iload_n 3, 1) := dG_dX10_whyNotBegin_36.2.2.2.2.2.2.2.1
theorem dX10_whyNotBegin_48 : decode cX10_whyNotBegin 48 = .ok (.iconst 1, 1) := dG_dX10_whyNotBegin_36.2.2.2.2.2.2.2.2.1
theorem dX10_whyNotBegin_49 : decode cX10_whyNotBegin 49 = .ok (.invokevirtual 170, 3) := dG_dX10_whyNotBegin_36.2.2.2.2.2.2.2.2.2.1
theorem dX10_whyNotBegin_52 : decode cX10_whyNotBegin 52 = .ok (.invokevirtual 317, 3) := dG_dX10_whyNotBegin_36.2.2.2.2.2.2.2.2.2.2.1
theorem dX10_whyNotBegin_55 : decode cX10_whyNotBegin 55 = .ok (.ifCond .eq 6, 3) := dG_dX10_whyNotBegin_36.2.2.2.2.2.2.2.2.2.2.2
theorem dG_dX10_whyNotBegin_58 : (decode cX10_whyNotBegin 58 = .ok (.bipush 6, 2)) ∧ (decode cX10_whyNotBegin 60 = .ok (.ireturn, 1)) ∧ (decode cX10_whyNotBegin 61 = .ok (.aload_n 0, 1)) ∧ (decode cX10_whyNotBegin 62 = .ok (.getfield 44, 3)) ∧ (decode cX10_whyNotBegin 65 = .ok (.getfield 126, 3)) ∧ (decode cX10_whyNotBegin 68 = .ok (.sipush 300, 3)) ∧ (decode cX10_whyNotBegin 71 = .ok (.if_icmp .lt 5, 3)) ∧ (decode cX10_whyNotBegin 74 = .ok (.iconst 3, 1)) ∧ (decode cX10_whyNotBegin 75 = .ok (.ireturn, 1)) ∧ (decode cX10_whyNotBegin 76 = .ok (.aload_n 0, 1)) ∧ (decode cX10_whyNotBegin 77 = .ok (.iload_n 1, 1)) ∧ (decode cX10_whyNotBegin 78 = .ok (.iload_n 2, 1)) := by decide +kernel
theorem dX10_whyNotBegin_58 : decode cX10_whyNotBegin 58 = .ok (.bipush 6, 2) := dG_dX10_whyNotBegin_58.1
theorem dX10_whyNotBegin_60 : decode cX10_whyNotBegin 60 = .ok (.ireturn, 1) := dG_dX10_whyNotBegin_58.2.1
theorem dX10_whyNotBegin_61 : decode cX10_whyNotBegin 61 = .ok (.aload_n 0, 1) := dG_dX10_whyNotBegin_58.2.2.1
theorem dX10_whyNotBegin_62 : decode cX10_whyNotBegin 62 = .ok (.getfield 44, 3) := dG_dX10_whyNotBegin_58.2.2.2.1
theorem dX10_whyNotBegin_65 : decode cX10_whyNotBegin 65 = .ok (.getfield 126, 3) := dG_dX10_whyNotBegin_58.2.2.2.2.1
theorem dX10_whyNotBegin_68 : decode cX10_whyNotBegin 68 = .ok (.sipush 300, 3) := dG_dX10_whyNotBegin_58.2.2.2.2.2.1
theorem dX10_whyNotBegin_71 : decode cX10_whyNotBegin 71 = .ok (.if_icmp .lt 5, 3) := dG_dX10_whyNotBegin_58.2.2.2.2.2.2.1
theorem dX10_whyNotBegin_74 : decode cX10_whyNotBegin 74 = .ok (.iconst 3, 1) := dG_dX10_whyNotBegin_58.2.2.2.2.2.2.2.1
theorem dX10_whyNotBegin_75 : decode cX10_whyNotBegin 75 = .ok (.ireturn, 1) := dG_dX10_whyNotBegin_58.2.2.2.2.2.2.2.2.1
theorem dX10_whyNotBegin_76 : decode cX10_whyNotBegin 76 = .ok (.aload_n 0, 1) := dG_dX10_whyNotBegin_58.2.2.2.2.2.2.2.2.2.1
theorem dX10_whyNotBegin_77 : decode cX10_whyNotBegin 77 = .ok (.iload_n 1, 1) := dG_dX10_whyNotBegin_58.2.2.2.2.2.2.2.2.2.2.1
theorem dX10_whyNotBegin_78 : decode cX10_whyNotBegin 78 = .ok (.iload_n 2, 1) := dG_dX10_whyNotBegin_58.2.2.2.2.2.2.2.2.2.2.2
theorem dG_dX10_whyNotBegin_79 : (decode cX10_whyNotBegin 79 = .ok (.invokevirtual 237, 3)) ∧ (decode cX10_whyNotBegin 82 = .ok (.ifCond .eq 6, 3)) ∧ (decode cX10_whyNotBegin 85 = .ok (.bipush 7, 2)) ∧ (decode cX10_whyNotBegin 87 = .ok (.ireturn, 1)) ∧ (decode cX10_whyNotBegin 88 = .ok (.aload_n 0, 1)) ∧ (decode cX10_whyNotBegin 89 = .ok (.getfield 114, 3)) ∧ (decode cX10_whyNotBegin 92 = .ok (.aload_n 0, 1)) ∧ (decode cX10_whyNotBegin 93 = .ok (.iload_n 1, 1)) ∧ (decode cX10_whyNotBegin 94 = .ok (.invokevirtual 240, 3)) ∧ (decode cX10_whyNotBegin 97 = .ok (.if_icmp .ge 8, 3)) ∧ (decode cX10_whyNotBegin 100 = .ok (.bipush 8, 2)) ∧ (decode cX10_whyNotBegin 102 = .ok (.goto 4, 3)) := by decide +kernel
theorem dX10_whyNotBegin_79 : decode cX10_whyNotBegin 79 = .ok (.invokevirtual 237, 3) := dG_dX10_whyNotBegin_79.1
theorem dX10_whyNotBegin_82 : decode cX10_whyNotBegin 82 = .ok (.ifCond .eq 6, 3) := dG_dX10_whyNotBegin_79.2.1
theorem dX10_whyNotBegin_85 : decode cX10_whyNotBegin 85 = .ok (.bipush 7, 2) := dG_dX10_whyNotBegin_79.2.2.1
theorem dX10_whyNotBegin_87 : decode cX10_whyNotBegin 87 = .ok (.ireturn, 1) := dG_dX10_whyNotBegin_79.2.2.2.1
theorem dX10_whyNotBegin_88 : decode cX10_whyNotBegin 88 = .ok (.aload_n 0, 1) := dG_dX10_whyNotBegin_79.2.2.2.2.1
theorem dX10_whyNotBegin_89 : decode cX10_whyNotBegin 89 = .ok (.getfield 114, 3) := dG_dX10_whyNotBegin_79.2.2.2.2.2.1
theorem dX10_whyNotBegin_92 : decode cX10_whyNotBegin 92 = .ok (.aload_n 0, 1) := dG_dX10_whyNotBegin_79.2.2.2.2.2.2.1
theorem dX10_whyNotBegin_93 : decode cX10_whyNotBegin 93 = .ok (.iload_n 1, 1) := dG_dX10_whyNotBegin_79.2.2.2.2.2.2.2.1
theorem dX10_whyNotBegin_94 : decode cX10_whyNotBegin 94 = .ok (.invokevirtual 240, 3) := dG_dX10_whyNotBegin_79.2.2.2.2.2.2.2.2.1
theorem dX10_whyNotBegin_97 : decode cX10_whyNotBegin 97 = .ok (.if_icmp .ge 8, 3) := dG_dX10_whyNotBegin_79.2.2.2.2.2.2.2.2.2.1
theorem dX10_whyNotBegin_100 : decode cX10_whyNotBegin 100 = .ok (.bipush 8, 2) := dG_dX10_whyNotBegin_79.2.2.2.2.2.2.2.2.2.2.1
theorem dX10_whyNotBegin_102 : decode cX10_whyNotBegin 102 = .ok (.goto 4, 3) := dG_dX10_whyNotBegin_79.2.2.2.2.2.2.2.2.2.2.2
theorem dG_dX10_whyNotBegin_105 : (decode cX10_whyNotBegin 105 = .ok (.iconst 0, 1)) ∧ (decode cX10_whyNotBegin 106 = .ok (.ireturn, 1)) ∧ (decode cX10_hasSeen 0 = .ok (.aload_n 0, 1)) ∧ (decode cX10_hasSeen 1 = .ok (.getfield 58, 3)) ∧ (decode cX10_hasSeen 4 = .ok (.aload_n 0, 1)) ∧ (decode cX10_hasSeen 5 = .ok (.getfield 44, 3)) ∧ (decode cX10_hasSeen 8 = .ok (.iload_n 1, 1)) ∧ (decode cX10_hasSeen 9 = .ok (.aload_n 0, 1)) ∧ (decode cX10_hasSeen 10 = .ok (.getfield 37, 3)) ∧ (decode cX10_hasSeen 13 = .ok (.getfield 129, 3)) ∧ (decode cX10_hasSeen 16 = .ok (.iload_n 2, 1)) ∧ (decode cX10_hasSeen 17 = .ok (.aload_n 0, 1)) := by decide +kernel
theorem dX10_whyNotBegin_105 : decode cX10_whyNotBegin 105 = .ok (.iconst 0, 1) := dG_dX10_whyNotBegin_105.1
theorem dX10_whyNotBegin_106 : decode cX10_whyNotBegin 106 = .ok (.ireturn, 1) := dG_dX10_whyNotBegin_105.2.1
theorem dX10_hasSeen_0 : decode cX10_hasSeen 0 = .ok (.aload_n 0, 1) := dG_dX10_whyNotBegin_105.2.2.1
theorem dX10_hasSeen_1 : decode cX10_hasSeen 1 = .ok (.getfield 58, 3) := dG_dX10_whyNotBegin_105.2.2.2.1
theorem dX10_hasSeen_4 : decode cX10_hasSeen 4 = .ok (.aload_n 0, 1) := dG_dX10_whyNotBegin_105.2.2.2.2.1
theorem dX10_hasSeen_5 : decode cX10_hasSeen 5 = .ok (.getfield 44, 3) := dG_dX10_whyNotBegin_105.2.2.2.2.2.1
theorem dX10_hasSeen_8 : decode cX10_hasSeen 8 = .ok (.iload_n 1, 1) := dG_dX10_whyNotBegin_105.2.2.2.2.2.2.1
theorem dX10_hasSeen_9 : decode cX10_hasSeen 9 = .ok (.aload_n 0, 1) := dG_dX10_whyNotBegin_105.2.2.2.2.2.2.2.1
theorem dX10_hasSeen_10 : decode cX10_hasSeen 10 = .ok (.getfield 37, 3) := dG_dX10_whyNotBegin_105.2.2.2.2.2.2.2.2.1
theorem dX10_hasSeen_13 : decode cX10_hasSeen 13 = .ok (.getfield 129, 3) := dG_dX10_whyNotBegin_105.2.2.2.2.2.2.2.2.2.1
theorem dX10_hasSeen_16 : decode cX10_hasSeen 16 = .ok (.iload_n 2, 1) := dG_dX10_whyNotBegin_105.2.2.2.2.2.2.2.2.2.2.1
theorem dX10_hasSeen_17 : decode cX10_hasSeen 17 = .ok (.aload_n 0, 1) := dG_dX10_whyNotBegin_105.2.2.2.2.2.2.2.2.2.2.2
theorem dG_dX10_hasSeen_18 : (decode cX10_hasSeen 18 = .ok (.getfield 114, 3)) ∧ (decode cX10_hasSeen 21 = .ok (.invokevirtual 320, 3)) ∧ (decode cX10_hasSeen 24 = .ok (.ireturn, 1)) ∧ (decode cX10_restOver 0 = .ok (.aload_n 0, 1)) ∧ (decode cX10_restOver 1 = .ok (.getfield 44, 3)) ∧ (decode cX10_restOver 4 = .ok (.iload_n 1, 1)) ∧ (decode cX10_restOver 5 = .ok (.aload_n 0, 1)) ∧ (decode cX10_restOver 6 = .ok (.getfield 37, 3)) ∧ (decode cX10_restOver 9 = .ok (.getfield 129, 3)) ∧ (decode cX10_restOver 12 = .ok (.invokevirtual 323, 3)) ∧ (decode cX10_restOver 15 = .ok (.istore_n 2, 1)) ∧ (decode cX10_restOver 16 = .ok (.iload_n 2, 1)) := by decide +kernel
theorem dX10_hasSeen_18 : decode cX10_hasSeen 18 = .ok (.getfield 114, 3) := dG_dX10_hasSeen_18.1
theorem dX10_hasSeen_21 : decode cX10_hasSeen 21 = .ok (.invokevirtual 320, 3) := dG_dX10_hasSeen_18.2.1
theorem dX10_hasSeen_24 : decode cX10_hasSeen 24 = .ok (.ireturn, 1) := dG_dX10_hasSeen_18.2.2.1
theorem dX10_restOver_0 : decode cX10_restOver 0 = .ok (.aload_n 0, 1) := dG_dX10_hasSeen_18.2.2.2.1
theorem dX10_restOver_1 : decode cX10_restOver 1 = .ok (.getfield 44, 3) := dG_dX10_hasSeen_18.2.2.2.2.1
theorem dX10_restOver_4 : decode cX10_restOver 4 = .ok (.iload_n 1, 1) := dG_dX10_hasSeen_18.2.2.2.2.2.1
theorem dX10_restOver_5 : decode cX10_restOver 5 = .ok (.aload_n 0, 1) := dG_dX10_hasSeen_18.2.2.2.2.2.2.1
theorem dX10_restOver_6 : decode cX10_restOver 6 = .ok (.getfield 37, 3) := dG_dX10_hasSeen_18.2.2.2.2.2.2.2.1
theorem dX10_restOver_9 : decode cX10_restOver 9 = .ok (.getfield 129, 3) := dG_dX10_hasSeen_18.2.2.2.2.2.2.2.2.1
theorem dX10_restOver_12 : decode cX10_restOver 12 = .ok (.invokevirtual 323, 3) := dG_dX10_hasSeen_18.2.2.2.2.2.2.2.2.2.1
theorem dX10_restOver_15 : decode cX10_restOver 15 = .ok (.istore_n 2, 1) := dG_dX10_hasSeen_18.2.2.2.2.2.2.2.2.2.2.1
theorem dX10_restOver_16 : decode cX10_restOver 16 = .ok (.iload_n 2, 1) := dG_dX10_hasSeen_18.2.2.2.2.2.2.2.2.2.2.2
theorem dG_dX10_restOver_17 : (decode cX10_restOver 17 = .ok (.iconst (-1), 1)) ∧ (decode cX10_restOver 18 = .ok (.if_icmp .ne 7, 3)) ∧ (decode cX10_restOver 21 = .ok (.iconst 0, 1)) ∧ (decode cX10_restOver 22 = .ok (.goto 20, 3)) ∧ (decode cX10_restOver 25 = .ok (.iload_n 2, 1)) ∧ (decode cX10_restOver 26 = .ok (.aload_n 0, 1)) ∧ (decode cX10_restOver 27 = .ok (.getfield 16, 3)) ∧ (decode cX10_restOver 30 = .ok (.aload_n 0, 1)) ∧ (decode cX10_restOver 31 = .ok (.getfield 37, 3)) ∧ (decode cX10_restOver 34 = .ok (.getfield 129, 3)) ∧ (decode cX10_restOver 37 = .ok (.iconst 3, 1)) ∧ (decode cX10_restOver 38 = .ok (.invokevirtual 170, 3)) := by decide +kernel
theorem dX10_restOver_17 : decode cX10_restOver 17 = .ok (.iconst (-1), 1) := dG_dX10_restOver_17.1
theorem dX10_restOver_18 : decode cX10_restOver 18 = .ok (.if_icmp .ne 7, 3) := dG_dX10_restOver_17.2.1
theorem dX10_restOver_21 : decode cX10_restOver 21 = .ok (.iconst 0, 1) := dG_dX10_restOver_17.2.2.1
theorem dX10_restOver_22 : decode cX10_restOver 22 = .ok (.goto 20, 3) := dG_dX10_restOver_17.2.2.2.1
theorem dX10_restOver_25 : decode cX10_restOver 25 = .ok (.iload_n 2, 1) := dG_dX10_restOver_17.2.2.2.2.1
theorem dX10_restOver_26 : decode cX10_restOver 26 = .ok (.aload_n 0, 1) := dG_dX10_restOver_17.2.2.2.2.2.1
theorem dX10_restOver_27 : decode cX10_restOver 27 = .ok (.getfield 16, 3) := dG_dX10_restOver_17.2.2.2.2.2.2.1
theorem dX10_restOver_30 : decode cX10_restOver 30 = .ok (.aload_n 0, 1) := dG_dX10_restOver_17.2.2.2.2.2.2.2.1
theorem dX10_restOver_31 : decode cX10_restOver 31 = .ok (.getfield 37, 3) := dG_dX10_restOver_17.2.2.2.2.2.2.2.2.1
theorem dX10_restOver_34 : decode cX10_restOver 34 = .ok (.getfield 129, 3) := dG_dX10_restOver_17.2.2.2.2.2.2.2.2.2.1
theorem dX10_restOver_37 : decode cX10_restOver 37 = .ok (.iconst 3, 1) := dG_dX10_restOver_17.2.2.2.2.2.2.2.2.2.2.1
theorem dX10_restOver_38 : decode cX10_restOver 38 = .ok (.invokevirtual 170, 3) := dG_dX10_restOver_17.2.2.2.2.2.2.2.2.2.2.2
theorem dG_dX10_restOver_41 : (decode cX10_restOver 41 = .ok (.iadd, 1)) ∧ (decode cX10_restOver 42 = .ok (.ireturn, 1)) := by decide +kernel
theorem dX10_restOver_41 : decode cX10_restOver 41 = .ok (.iadd, 1) := dG_dX10_restOver_41.1
theorem dX10_restOver_42 : decode cX10_restOver 42 = .ok (.ireturn, 1) := dG_dX10_restOver_41.2
end

section
set_option maxHeartbeats 4000000 in
set_option maxRecDepth 100000 in
theorem x_Ro_passTo (l : Launch) (D : va_G) (k : Nat → ClassId) (A : Nat → Prop) (ad : Nat → Nat) (hD : rwD A k ad) (v : gV) (f g : gF) (a1 : Int) (h_a1 : inR a1) (hs : shOk (v 1) (f 1)) (hO : OI (v 23) (f 20) (f 26) (f 27)) : GM l D k A (rwT k ad) yX10_passTo cX10_passTo 2 (some .int) 2 47 [.ref (ad 0), .int (iI a1)] v f g (fun r v1 f1 g1 => ∃ (z : Int), r = some (.int (iI z)) ∧ (va_up v 26 (if z = 0 then a1 else (v 26))) = v1 ∧ (va_up (va_up (va_up f 24 (if z = 0 then (ovE (v 23) a1 (f 26) (f 23) (fun _ => (shF (v 1) (f 1) (v 22) 2)) (f 24)) else (f 24))) 26 (if z = 0 then (ovH (v 23) a1 (f 26) (f 23) (fun _ => (shF (v 1) (f 1) (v 22) 2))) else (f 26))) 27 (if z = 0 then (ovO a1 (f 23) (fun _ => (shF (v 1) (f 1) (v 22) 2)) (f 27)) else (f 27))) = f1 ∧ g = g1 ∧ (z = (if a1 < 0 ∨ 1000000 < a1 then (2 : Int) else if a1 < (v 26) then 9 else 0))) := by
  refine GM.of (by decide) (Nat.le_of_ble_eq_true rfl) ?_
  intro p e s m args below meth c Q ls hQ C hml hr hlocks hP hl
  have hx := C.1
  have hb := C.2.1
  have hok := hP.2
  have hS : va_S A s.heap s.heap [] := va_S.rf
  have hl : lv_has ls 2 [(0, .ref (ad 0)), (1, .int (iI a1))] := hl
  have hP : gWd D (rwT k ad) (va_up v 26 (v 26)) (va_up (va_up (va_up f 24 (f 24)) 26 (f 26)) 27 (f 27)) g s.heap := by rw [va_id, va_id, va_id, va_id]; exact hP
  refine lv_iload_n hx hb dX10_passTo_0 rfl (lv_at hl 1 rfl) ?_
  refine gi_zlt (tgt := 11) hx hb dX10_passTo_1 (by decide) (by omega) (fun c_1 => ?_) (fun c_1 => ?_)
  · refine lv_iconst (v := iI 2) hx hb dX10_passTo_11 rfl ?_
    exact g_iret hQ C hr hlocks hP hS dX10_passTo_12 ⟨2, rfl, (by rw [show ((if (2 : Int) = 0 then a1 else (v 26)) : Int) = (v 26) from by first | rfl | omega | ((repeat' split) <;> omega)]), (by rw [show ((if (2 : Int) = 0 then (ovE (v 23) a1 (f 26) (f 23) (fun _ => (shF (v 1) (f 1) (v 22) 2)) (f 24)) else (f 24)) : Int → Int) = (f 24) from by first | (rw [if_neg (by decide)]) | (rw [if_pos rfl, ← hlen]), show ((if (2 : Int) = 0 then (ovH (v 23) a1 (f 26) (f 23) (fun _ => (shF (v 1) (f 1) (v 22) 2))) else (f 26)) : Int → Int) = (f 26) from by first | (rw [if_neg (by decide)]) | (rw [if_pos rfl, ← hlen]), show ((if (2 : Int) = 0 then (ovO a1 (f 23) (fun _ => (shF (v 1) (f 1) (v 22) 2)) (f 27)) else (f 27)) : Int → Int) = (f 27) from by first | (rw [if_neg (by decide)]) | (rw [if_pos rfl, ← hlen])]), rfl, (by first | omega | ((repeat' split) <;> omega))⟩
  · refine lv_iload_n hx hb dX10_passTo_4 rfl (lv_at hl 1 rfl) ?_
    refine lv_ldcw (v := iI 1000000) hx hb C.2.2.2.1 (C.2.2.1 _ (show Cond.constant RX10 313 (iI 1000000) ∈ gWs from mD_X10_313)) dX10_passTo_5 ?_
    refine gi_cle (tgt := 13) hx hb dX10_passTo_8 (by decide) (by omega) (by decide) (fun c_2 => ?_) (fun c_2 => ?_)
    · refine lv_iload_n hx hb dX10_passTo_13 rfl (lv_at hl 1 rfl) ?_
      refine lv_aload_n hx hb dX10_passTo_14 rfl (lv_at hl 0 rfl) ?_
      refine rwG_time C hP mF_X10_114 dX10_passTo_15 ?_
      show W p l e (gRm 2 47) s m args below meth c _ _ 0 0 Q (F0 m 18 ls [.int (iI (v 26)), .int (iI a1)])
      have r_3 : 0 ≤ (v 26) ∧ (v 26) ≤ 1000000 := hok.1 26
      refine gi_cge (tgt := 24) hx hb dX10_passTo_18 (by decide) (by omega) (by omega) (fun c_4 => ?_) (fun c_4 => ?_)
      · refine lv_aload_n hx hb dX10_passTo_24 rfl (lv_at hl 0 rfl) ?_
        refine lv_iload_n hx hb dX10_passTo_25 rfl (lv_at hl 1 rfl) ?_
        refine rwP_time (v1 := (va_up v 26 a1)) C hP hD hS mF_X10_114 (by omega) rfl (Or.inr (gF_up (V := rwV) (F := rwF) (gF_up (V := rwV) (F := rwF) (gF_up (V := rwV) (F := rwF) (gR_up (V := rwV) (F := rwF) ⟨hok.1, hok.2⟩ 26 (show 0 ≤ a1 ∧ a1 ≤ 1000000 from by omega)) 24 (hP.2.2 24)) 26 (hP.2.2 26)) 27 (hP.2.2 27))) dX10_passTo_26 (fun H locs hP hS => ?_)
        refine lv_aload_n hx hb dX10_passTo_29 rfl (lv_at hl 0 rfl) ?_
        refine rwG_tries C hP mF_X10_44 dX10_passTo_30 ?_
        refine lv_iload_n hx hb dX10_passTo_33 rfl (lv_at hl 1 rfl) ?_
        refine lv_aload_n hx hb dX10_passTo_34 rfl (lv_at hl 0 rfl) ?_
        refine rwG_laws C hP mF_X10_16 dX10_passTo_35 ?_
        refine lv_aload_n hx hb dX10_passTo_38 rfl (lv_at hl 0 rfl) ?_
        refine rwG_field C hP mF_X10_37 dX10_passTo_39 ?_
        refine rwG_field_open C hP mF_X10_129 dX10_passTo_42 ?_
        show W p l e (gRm 2 47) s m args below meth c _ _ 0 0 Q (F0 m 45 ls [.int (iI (v 22)), .ref (ad 2), .int (iI a1), .ref (ad 30)])
        have r_5 : 0 ≤ (v 22) ∧ (v 22) ≤ 3 := hok.1 22
        refine lv_iconst (v := iI 2) hx hb dX10_passTo_45 rfl ?_
        refine g_cv (As := [.int (iI (v 22)), .int (iI 2)]) (rest := [.int (iI a1), .ref (ad 30)]) (n := 2) C hml (c_X4_shapeOf l D k A ad hD (va_up v 26 a1) (va_up (va_up (va_up f 24 (f 24)) 26 (f 26)) 27 (f 27)) g (v 22) 2 (by omega) (by decide)) mM_X10_170 mI_X4_shapeOf mE_X4_shapeOf mN_X4 mC_X4_shapeOf (by decide +kernel) 2 (ci := 4) rfl rfl hP hS (fun _ h => h) ⟨Nat.le_of_ble_eq_true rfl, Nat.le_of_ble_eq_true rfl⟩ ⟨Nat.zero_le _, Nat.zero_le _⟩ hl.1 rfl rfl (Nat.le_of_ble_eq_true rfl) dX10_passTo_46 (fun r_6 v_6 f_6 g_6 H locs hq_6 hP _ hS => ?_)
        obtain ⟨z_6, rfl, rfl, rfl, rfl, p0_6, p1_6⟩ := hq_6
        show W p l e (gRm 2 47) s m args below meth c _ _ 0 0 Q (F0 m 49 ls [.int (iI z_6), .int (iI a1), .ref (ad 30)])
        replace p0_6 : z_6 = (if (0 ≤ (v 22) ∧ (v 22) < (v 1)) ∧ 0 ≤ (2 : Int) ∧ (2 : Int) < 4 then (f 1) ((v 22) * 4 + (2 : Int)) else 0) := p0_6
        replace p1_6 : 0 ≤ z_6 ∧ z_6 ≤ 999999 := p1_6
        have hz_6 : inR z_6 := (by first | omega | (rw [p0_6]; split <;> omega))
        have hsh_6 : z_6 = shF (v 1) (f 1) (v 22) 2 := shF_of p0_6
        have hsr_6 := shF_r (r := (v 22)) hs
        clear p0_6
        have hlen := hsh_6
        refine g_cv (As := [.int (iI a1), .int (iI z_6)]) (rest := []) (n := 2) C hml (x_Tr_endOverdue l D k A ad hD (va_up v 26 a1) (va_up (va_up (va_up f 24 (f 24)) 26 (f 26)) 27 (f 27)) g a1 z_6 (by omega) (by omega) (show 0 ≤ a1 ∧ a1 ≤ 1000000 from by omega) (show 0 ≤ z_6 ∧ z_6 ≤ 999 from by omega) (show OI (v 23) (f 20) (f 26) (f 27) from hO)) mM_X10_314 mI_X7_endOverdue mE_X7_endOverdue mN_X7 mC_X7_endOverdue (by decide +kernel) 30 (ci := 7) rfl rfl hP hS (fun _ h => h) ⟨Nat.le_of_ble_eq_true rfl, Nat.le_of_ble_eq_true rfl⟩ ⟨Nat.zero_le _, Nat.zero_le _⟩ hl.1 rfl rfl (Nat.le_of_ble_eq_true rfl) dX10_passTo_49 (fun r_7 v_7 f_7 g_7 H locs hq_7 hP _ hS => ?_)
        obtain ⟨rfl, rfl, rfl, rfl⟩ := hq_7
        show W p l e (gRm 2 47) s m args below meth c _ _ 0 0 Q (F0 m 52 ls [])
        have hP : gWd D (rwT k ad) (va_up v 26 a1) (va_up (va_up (va_up f 24 (ovE (v 23) a1 (f 26) (f 23) (fun _ => z_6) (f 24))) 26 (ovH (v 23) a1 (f 26) (f 23) (fun _ => z_6))) 27 (ovO a1 (f 23) (fun _ => z_6) (f 27))) g H := ⟨hP.1, (gF_up (V := rwV) (F := rwF) (gF_up (V := rwV) (F := rwF) (gF_up (V := rwV) (F := rwF) (gR_up (V := rwV) (F := rwF) ⟨hok.1, hok.2⟩ 26 (hP.2.1 26)) 24 (hP.2.2 24)) 26 (hP.2.2 26)) 27 (hP.2.2 27))⟩
        refine lv_iconst (v := iI 0) hx hb dX10_passTo_52 rfl ?_
        exact g_iret hQ C hr hlocks hP hS dX10_passTo_53 ⟨0, rfl, (by rw [show ((if (0 : Int) = 0 then a1 else (v 26)) : Int) = a1 from by first | rfl | omega | ((repeat' split) <;> omega)]), (by rw [show ((if (0 : Int) = 0 then (ovE (v 23) a1 (f 26) (f 23) (fun _ => (shF (v 1) (f 1) (v 22) 2)) (f 24)) else (f 24)) : Int → Int) = (ovE (v 23) a1 (f 26) (f 23) (fun _ => z_6) (f 24)) from by first | (rw [if_neg (by decide)]) | (rw [if_pos rfl, ← hlen]), show ((if (0 : Int) = 0 then (ovH (v 23) a1 (f 26) (f 23) (fun _ => (shF (v 1) (f 1) (v 22) 2))) else (f 26)) : Int → Int) = (ovH (v 23) a1 (f 26) (f 23) (fun _ => z_6)) from by first | (rw [if_neg (by decide)]) | (rw [if_pos rfl, ← hlen]), show ((if (0 : Int) = 0 then (ovO a1 (f 23) (fun _ => (shF (v 1) (f 1) (v 22) 2)) (f 27)) else (f 27)) : Int → Int) = (ovO a1 (f 23) (fun _ => z_6) (f 27)) from by first | (rw [if_neg (by decide)]) | (rw [if_pos rfl, ← hlen])]), rfl, (by first | omega | ((repeat' split) <;> omega))⟩
      · refine lv_bipush (v := iI 9) hx hb dX10_passTo_21 (by decide) ?_
        exact g_iret hQ C hr hlocks hP hS dX10_passTo_23 ⟨9, rfl, (by rw [show ((if (9 : Int) = 0 then a1 else (v 26)) : Int) = (v 26) from by first | rfl | omega | ((repeat' split) <;> omega)]), (by rw [show ((if (9 : Int) = 0 then (ovE (v 23) a1 (f 26) (f 23) (fun _ => (shF (v 1) (f 1) (v 22) 2)) (f 24)) else (f 24)) : Int → Int) = (f 24) from by first | (rw [if_neg (by decide)]) | (rw [if_pos rfl, ← hlen]), show ((if (9 : Int) = 0 then (ovH (v 23) a1 (f 26) (f 23) (fun _ => (shF (v 1) (f 1) (v 22) 2))) else (f 26)) : Int → Int) = (f 26) from by first | (rw [if_neg (by decide)]) | (rw [if_pos rfl, ← hlen]), show ((if (9 : Int) = 0 then (ovO a1 (f 23) (fun _ => (shF (v 1) (f 1) (v 22) 2)) (f 27)) else (f 27)) : Int → Int) = (f 27) from by first | (rw [if_neg (by decide)]) | (rw [if_pos rfl, ← hlen])]), rfl, (by first | omega | ((repeat' split) <;> omega))⟩
    · refine lv_iconst (v := iI 2) hx hb dX10_passTo_11 rfl ?_
      exact g_iret hQ C hr hlocks hP hS dX10_passTo_12 ⟨2, rfl, (by rw [show ((if (2 : Int) = 0 then a1 else (v 26)) : Int) = (v 26) from by first | rfl | omega | ((repeat' split) <;> omega)]), (by rw [show ((if (2 : Int) = 0 then (ovE (v 23) a1 (f 26) (f 23) (fun _ => (shF (v 1) (f 1) (v 22) 2)) (f 24)) else (f 24)) : Int → Int) = (f 24) from by first | (rw [if_neg (by decide)]) | (rw [if_pos rfl, ← hlen]), show ((if (2 : Int) = 0 then (ovH (v 23) a1 (f 26) (f 23) (fun _ => (shF (v 1) (f 1) (v 22) 2))) else (f 26)) : Int → Int) = (f 26) from by first | (rw [if_neg (by decide)]) | (rw [if_pos rfl, ← hlen]), show ((if (2 : Int) = 0 then (ovO a1 (f 23) (fun _ => (shF (v 1) (f 1) (v 22) 2)) (f 27)) else (f 27)) : Int → Int) = (f 27) from by first | (rw [if_neg (by decide)]) | (rw [if_pos rfl, ← hlen])]), rfl, (by first | omega | ((repeat' split) <;> omega))⟩

set_option maxHeartbeats 4000000 in
set_option maxRecDepth 100000 in
theorem x_Ro_restOver (l : Launch) (D : va_G) (k : Nat → ClassId) (A : Nat → Prop) (ad : Nat → Nat) (hD : rwD A k ad) (v : gV) (f g : gF) (a1 : Int) (h_a1 : inR a1) (hs : shOk (v 1) (f 1)) : GM l D k A (rwT k ad) yX10_restOver cX10_restOver 3 (some .int) 2 54 [.ref (ad 0), .int (iI a1)] v f g (fun r v1 f1 g1 => ∃ (z : Int), r = some (.int (iI z)) ∧ v = v1 ∧ f = f1 ∧ g = g1 ∧ (z = (rsF (mxE (f 20) (f 21) (f 24) a1 (v 22) (v 23).toNat) (shF (v 1) (f 1) (v 22) 3))) ∧ (0 ≤ z ∧ z ≤ 1001998)) := by
  refine GM.of (by decide) (Nat.le_of_ble_eq_true rfl) ?_
  intro p e s m args below meth c Q ls hQ C hml hr hlocks hP hl
  have hx := C.1
  have hb := C.2.1
  have hok := hP.2
  have hS : va_S A s.heap s.heap [] := va_S.rf
  have hl : lv_has ls 3 [(0, .ref (ad 0)), (1, .int (iI a1))] := hl
  refine lv_aload_n hx hb dX10_restOver_0 rfl (lv_at hl 0 rfl) ?_
  refine rwG_tries C hP mF_X10_44 dX10_restOver_1 ?_
  refine lv_iload_n hx hb dX10_restOver_4 rfl (lv_at hl 1 rfl) ?_
  refine lv_aload_n hx hb dX10_restOver_5 rfl (lv_at hl 0 rfl) ?_
  refine rwG_field C hP mF_X10_37 dX10_restOver_6 ?_
  refine rwG_field_open C hP mF_X10_129 dX10_restOver_9 ?_
  have r_1 : 0 ≤ (v 22) ∧ (v 22) ≤ 3 := hok.1 22
  refine g_cv (As := [.int (iI a1), .int (iI (v 22))]) (rest := []) (n := 2) C hml (x_Tr_lastEnd l D k A ad hD v f g a1 (v 22) (by omega) (by omega)) mM_X10_323 mI_X7_lastEnd mE_X7_lastEnd mN_X7 mC_X7_lastEnd (by decide +kernel) 30 (ci := 7) rfl rfl hP hS (fun _ h => h) ⟨Nat.le_of_ble_eq_true rfl, Nat.le_of_ble_eq_true rfl⟩ ⟨Nat.zero_le _, Nat.zero_le _⟩ hl.1 rfl rfl (Nat.le_of_ble_eq_true rfl) dX10_restOver_12 (fun r_2 v_2 f_2 g_2 H locs hq_2 hP _ hS => ?_)
  obtain ⟨z_2, rfl, rfl, rfl, rfl, p0_2, p1_2⟩ := hq_2
  show W p l e (gRm 2 54) s m args below meth c _ _ 0 0 Q (F0 m 15 ls [.int (iI z_2)])
  replace p0_2 : z_2 = (mxE (f 20) (f 21) (f 24) a1 (v 22) (v 23).toNat) := p0_2
  replace p1_2 : (-1) ≤ z_2 ∧ z_2 ≤ 1000999 := p1_2
  have hz_2 : inR z_2 := (by first | omega | (rw [p0_2]; split <;> omega))
  have hle := p0_2
  refine lv_istore_n (lv' := [(2, .int (iI z_2)), (0, .ref (ad 0)), (1, .int (iI a1))]) hx hb dX10_restOver_15 rfl hl (by decide) rfl (fun ls hl => ?_)
  refine lv_iload_n hx hb dX10_restOver_16 rfl (lv_at hl 0 rfl) ?_
  refine lv_iconst (v := iI (-1)) hx hb dX10_restOver_17 rfl ?_
  refine gi_cne (tgt := 25) hx hb dX10_restOver_18 (by decide) (by omega) (by decide) (fun c_3 => ?_) (fun c_3 => ?_)
  · refine lv_iload_n hx hb dX10_restOver_25 rfl (lv_at hl 0 rfl) ?_
    refine lv_aload_n hx hb dX10_restOver_26 rfl (lv_at hl 1 rfl) ?_
    refine rwG_laws C hP mF_X10_16 dX10_restOver_27 ?_
    refine lv_aload_n hx hb dX10_restOver_30 rfl (lv_at hl 1 rfl) ?_
    refine rwG_field C hP mF_X10_37 dX10_restOver_31 ?_
    refine rwG_field_open C hP mF_X10_129 dX10_restOver_34 ?_
    refine lv_iconst (v := iI 3) hx hb dX10_restOver_37 rfl ?_
    refine g_cv (As := [.int (iI (v 22)), .int (iI 3)]) (rest := [.int (iI z_2)]) (n := 2) C hml (c_X4_shapeOf l D k A ad hD v f g (v 22) 3 (by omega) (by decide)) mM_X10_170 mI_X4_shapeOf mE_X4_shapeOf mN_X4 mC_X4_shapeOf (by decide +kernel) 2 (ci := 4) rfl rfl hP hS (fun _ h => h) ⟨Nat.le_of_ble_eq_true rfl, Nat.le_of_ble_eq_true rfl⟩ ⟨Nat.zero_le _, Nat.zero_le _⟩ hl.1 rfl rfl (Nat.le_of_ble_eq_true rfl) dX10_restOver_38 (fun r_4 v_4 f_4 g_4 H locs hq_4 hP _ hS => ?_)
    obtain ⟨z_4, rfl, rfl, rfl, rfl, p0_4, p1_4⟩ := hq_4
    show W p l e (gRm 2 54) s m args below meth c _ _ 0 0 Q (F0 m 41 ls [.int (iI z_4), .int (iI z_2)])
    replace p0_4 : z_4 = (if (0 ≤ (v 22) ∧ (v 22) < (v 1)) ∧ 0 ≤ (3 : Int) ∧ (3 : Int) < 4 then (f 1) ((v 22) * 4 + (3 : Int)) else 0) := p0_4
    replace p1_4 : 0 ≤ z_4 ∧ z_4 ≤ 999999 := p1_4
    have hz_4 : inR z_4 := (by first | omega | (rw [p0_4]; split <;> omega))
    have hsh_4 : z_4 = shF (v 1) (f 1) (v 22) 3 := shF_of p0_4
    have hsr_4 := shF_r (r := (v 22)) hs
    clear p0_4
    refine gi_add (z := (z_2 + z_4)) hx hb dX10_restOver_41 rfl ?_
    exact g_iret hQ C hr hlocks hP hS dX10_restOver_42 ⟨(z_2 + z_4), rfl, rfl, rfl, rfl, (by unfold rsF; rw [← hle]; first | rw [if_pos (by omega)] | (rw [if_neg (by omega)]; omega)), (by first | omega | ((repeat' split) <;> omega))⟩
  · refine lv_iconst (v := iI 0) hx hb dX10_restOver_21 rfl ?_
    refine lv_goto (tgt := 42) hx hb dX10_restOver_22 (by decide) ?_
    exact g_iret hQ C hr hlocks hP hS dX10_restOver_42 ⟨0, rfl, rfl, rfl, rfl, (by unfold rsF; rw [← hle]; first | rw [if_pos (by omega)] | (rw [if_neg (by omega)]; omega)), (by first | omega | ((repeat' split) <;> omega))⟩

set_option maxHeartbeats 4000000 in
set_option maxRecDepth 100000 in
theorem x_Ro_hasSeen (l : Launch) (D : va_G) (k : Nat → ClassId) (A : Nat → Prop) (ad : Nat → Nat) (hD : rwD A k ad) (v : gV) (f g : gF) (a1 : Int) (a2 : Int) (h_a1 : inR a1) (h_a2 : inR a2) (hc : 0 ≤ a1 ∧ a1 ≤ 15) : GM l D k A (rwT k ad) yX10_hasSeen cX10_hasSeen 3 (some .boolean) 3 73 [.ref (ad 0), .int (iI a1), .int (iI a2)] v f g (fun r v1 f1 g1 => ∃ (z : Int), r = some (.int (iI z)) ∧ v = v1 ∧ f = f1 ∧ g = g1 ∧ (z = (if 1 ≤ cn (pSe (f 20) (f 21) (f 22) (f 23) (f 24) (f 32) (f 33) (f 31) (v 26) a1 (v 22) a2) (v 23).toNat then 1 else 0))) := by
  refine GM.of (by decide) (Nat.le_of_ble_eq_true rfl) ?_
  intro p e s m args below meth c Q ls hQ C hml hr hlocks hP hl
  have hx := C.1
  have hb := C.2.1
  have hok := hP.2
  have hS : va_S A s.heap s.heap [] := va_S.rf
  have hl : lv_has ls 3 [(0, .ref (ad 0)), (1, .int (iI a1)), (2, .int (iI a2))] := hl
  refine lv_aload_n hx hb dX10_hasSeen_0 rfl (lv_at hl 0 rfl) ?_
  refine rwG_watch C hP mF_X10_58 dX10_hasSeen_1 ?_
  refine lv_aload_n hx hb dX10_hasSeen_4 rfl (lv_at hl 0 rfl) ?_
  refine rwG_tries C hP mF_X10_44 dX10_hasSeen_5 ?_
  refine lv_iload_n hx hb dX10_hasSeen_8 rfl (lv_at hl 1 rfl) ?_
  refine lv_aload_n hx hb dX10_hasSeen_9 rfl (lv_at hl 0 rfl) ?_
  refine rwG_field C hP mF_X10_37 dX10_hasSeen_10 ?_
  refine rwG_field_open C hP mF_X10_129 dX10_hasSeen_13 ?_
  have r_1 : 0 ≤ (v 22) ∧ (v 22) ≤ 3 := hok.1 22
  refine lv_iload_n hx hb dX10_hasSeen_16 rfl (lv_at hl 2 rfl) ?_
  refine lv_aload_n hx hb dX10_hasSeen_17 rfl (lv_at hl 0 rfl) ?_
  refine rwG_time C hP mF_X10_114 dX10_hasSeen_18 ?_
  have r_2 : 0 ≤ (v 26) ∧ (v 26) ≤ 1000000 := hok.1 26
  refine g_cv (As := [.ref (ad 30), .int (iI a1), .int (iI (v 22)), .int (iI a2), .int (iI (v 26))]) (rest := []) (n := 5) C hml (x_Wa_hasSeen l D k A ad hD v f g a1 (v 22) a2 (v 26) (by omega) (by omega) (by omega) (by omega) (show 0 ≤ a1 ∧ a1 ≤ 15 from by omega)) mM_X10_320 mI_X9_hasSeen mE_X9_hasSeen mN_X9 mC_X9_hasSeen (by decide +kernel) 43 (ci := 9) rfl rfl hP hS (fun _ h => h) ⟨Nat.le_of_ble_eq_true rfl, Nat.le_of_ble_eq_true rfl⟩ ⟨Nat.zero_le _, Nat.zero_le _⟩ hl.1 rfl rfl (Nat.le_of_ble_eq_true rfl) dX10_hasSeen_21 (fun r_3 v_3 f_3 g_3 H locs hq_3 hP _ hS => ?_)
  obtain ⟨z_3, rfl, rfl, rfl, rfl, p0_3⟩ := hq_3
  show W p l e (gRm 3 73) s m args below meth c _ _ 0 0 Q (F0 m 24 ls [.int (iI z_3)])
  replace p0_3 : z_3 = (if 1 ≤ cn (pSe (f 20) (f 21) (f 22) (f 23) (f 24) (f 32) (f 33) (f 31) (v 26) a1 (v 22) a2) (v 23).toNat then 1 else 0) := p0_3
  have w_3 := gif (P := 1 ≤ cn (pSe (f 20) (f 21) (f 22) (f 23) (f 24) (f 32) (f 33) (f 31) (v 26) a1 (v 22) a2) (v 23).toNat) p0_3
  have hz_3 : inR z_3 := (by first | omega | (rw [p0_3]; split <;> omega))
  exact g_zret hQ C hr hlocks (by omega) hP hS dX10_hasSeen_24 ⟨z_3, rfl, rfl, rfl, rfl, (by first | omega | ((repeat' split) <;> omega))⟩

set_option maxHeartbeats 4000000 in
set_option maxRecDepth 100000 in
theorem x_Ro_whyNotBegin (l : Launch) (D : va_G) (k : Nat → ClassId) (A : Nat → Prop) (ad : Nat → Nat) (hD : rwD A k ad) (v : gV) (f g : gF) (a1 : Int) (a2 : Int) (h_a1 : inR a1) (h_a2 : inR a2) (hs : shOk (v 1) (f 1)) (hc : 0 ≤ a1 ∧ a1 ≤ 15) : GM l D k A (rwT k ad) yX10_whyNotBegin cX10_whyNotBegin 4 (some .int) 4 95 [.ref (ad 0), .int (iI a1), .int (iI a2)] v f g (fun r v1 f1 g1 => ∃ (z : Int), r = some (.int (iI z)) ∧ v = v1 ∧ f = f1 ∧ g = g1 ∧ (z = (if ¬ ((0 ≤ a1 ∧ a1 < (v 21)) ∧ (v 22) ≤ (f 18) a1) then 4 else if (f 27) a1 ≠ 0 then 5 else if 1 ≤ cn (pTo (f 20) (f 21) (f 22) (f 26) a1 (v 22) a2) (v 23).toNat ∨ shF (v 1) (f 1) (v 22) 1 ≤ cn (pDo (f 20) (f 21) (f 22) (f 26) a1 (v 22) a2) (v 23).toNat then 6 else if 300 ≤ (v 23) then 3 else if 1 ≤ cn (pSe (f 20) (f 21) (f 22) (f 23) (f 24) (f 32) (f 33) (f 31) (v 26) a1 (v 22) a2) (v 23).toNat then 7 else if (v 26) < rsF (mxE (f 20) (f 21) (f 24) a1 (v 22) (v 23).toNat) (shF (v 1) (f 1) (v 22) 3) then 8 else 0)) ∧ ((0 ≤ z ∧ z ≤ 8) ∧ z ≠ 1 ∧ z ≠ 2) ∧ (z = 0 → (v 23) < 300)) := by
  refine GM.of (by decide) (Nat.le_of_ble_eq_true rfl) ?_
  intro p e s m args below meth c Q ls hQ C hml hr hlocks hP hl
  have hx := C.1
  have hb := C.2.1
  have hok := hP.2
  have hS : va_S A s.heap s.heap [] := va_S.rf
  have hl : lv_has ls 4 [(0, .ref (ad 0)), (1, .int (iI a1)), (2, .int (iI a2))] := hl
  have r_1 : 0 ≤ (v 22) ∧ (v 22) ≤ 3 := hok.1 22
  have r_2 : 0 ≤ (v 23) ∧ (v 23) ≤ 300 := hok.1 23
  refine lv_aload_n hx hb dX10_whyNotBegin_0 rfl (lv_at hl 0 rfl) ?_
  refine rwG_field C hP mF_X10_37 dX10_whyNotBegin_1 ?_
  refine rwG_field_open C hP mF_X10_129 dX10_whyNotBegin_4 ?_
  refine lv_istore_n (lv' := [(3, .int (iI (v 22))), (0, .ref (ad 0)), (1, .int (iI a1)), (2, .int (iI a2))]) hx hb dX10_whyNotBegin_7 rfl hl (by decide) rfl (fun ls hl => ?_)
  refine lv_aload_n hx hb dX10_whyNotBegin_8 rfl (lv_at hl 1 rfl) ?_
  refine rwG_field C hP mF_X10_37 dX10_whyNotBegin_9 ?_
  refine lv_iload_n hx hb dX10_whyNotBegin_12 rfl (lv_at hl 0 rfl) ?_
  refine lv_iload_n hx hb dX10_whyNotBegin_13 rfl (lv_at hl 2 rfl) ?_
  refine g_cv (As := [.int (iI (v 22)), .int (iI a1)]) (rest := []) (n := 2) C hml (c_X2_isIn l D k A ad hD v f g (v 22) a1 (by omega) (by omega)) mM_X10_268 mI_X2_isIn mE_X2_isIn mN_X2 mC_X2_isIn (by decide +kernel) 27 (ci := 2) rfl rfl hP hS (fun _ h => h) ⟨Nat.le_of_ble_eq_true rfl, Nat.le_of_ble_eq_true rfl⟩ ⟨Nat.zero_le _, Nat.zero_le _⟩ hl.1 rfl rfl (Nat.le_of_ble_eq_true rfl) dX10_whyNotBegin_14 (fun r_3 v_3 f_3 g_3 H locs hq_3 hP _ hS => ?_)
  obtain ⟨z_3, rfl, rfl, rfl, rfl, p0_3⟩ := hq_3
  show W p l e (gRm 4 95) s m args below meth c _ _ 0 0 Q (F0 m 17 ls [.int (iI z_3)])
  replace p0_3 : z_3 = (if (0 ≤ a1 ∧ a1 < (v 21)) ∧ (v 22) ≤ (f 18) a1 then 1 else 0) := p0_3
  have w_3 := gif (P := (0 ≤ a1 ∧ a1 < (v 21)) ∧ (v 22) ≤ (f 18) a1) p0_3
  clear p0_3
  have hz_3 : inR z_3 := (by first | omega | (rw [p0_3]; split <;> omega))
  refine gi_zne (tgt := 22) hx hb dX10_whyNotBegin_17 (by decide) (by omega) (fun c_4 => ?_) (fun c_4 => ?_)
  · have vz_3 := gif1 w_3 c_4
    clear w_3
    refine lv_aload_n hx hb dX10_whyNotBegin_22 rfl (lv_at hl 1 rfl) ?_
    refine rwG_tries C hP mF_X10_44 dX10_whyNotBegin_23 ?_
    refine lv_iload_n hx hb dX10_whyNotBegin_26 rfl (lv_at hl 2 rfl) ?_
    refine g_cv (As := [.int (iI a1)]) (rest := []) (n := 1) C hml (c_X7_openOf l D k A ad hD v f g a1 (by omega) (show 0 ≤ a1 ∧ a1 ≤ 15 from by omega)) mM_X10_197 mI_X7_openOf mE_X7_openOf mN_X7 mC_X7_openOf (by decide +kernel) 30 (ci := 7) rfl rfl hP hS (fun _ h => h) ⟨Nat.le_of_ble_eq_true rfl, Nat.le_of_ble_eq_true rfl⟩ ⟨Nat.zero_le _, Nat.zero_le _⟩ hl.1 rfl rfl (Nat.le_of_ble_eq_true rfl) dX10_whyNotBegin_27 (fun r_5 v_5 f_5 g_5 H locs hq_5 hP _ hS => ?_)
    obtain ⟨z_5, rfl, rfl, rfl, rfl, p0_5, p1_5⟩ := hq_5
    show W p l e (gRm 4 95) s m args below meth c _ _ 0 0 Q (F0 m 30 ls [.int (iI z_5)])
    replace p0_5 : z_5 = ((f 27) a1 - 1) := p0_5
    replace p1_5 : (-1) ≤ z_5 ∧ z_5 ≤ 299 := p1_5
    have hz_5 : inR z_5 := (by first | omega | (rw [p0_5]; split <;> omega))
    refine lv_iconst (v := iI (-1)) hx hb dX10_whyNotBegin_30 rfl ?_
    refine gi_ceq (tgt := 36) hx hb dX10_whyNotBegin_31 (by decide) (by omega) (by decide) (fun c_6 => ?_) (fun c_6 => ?_)
    · refine lv_aload_n hx hb dX10_whyNotBegin_36 rfl (lv_at hl 1 rfl) ?_
      refine rwG_tries C hP mF_X10_44 dX10_whyNotBegin_37 ?_
      refine lv_iload_n hx hb dX10_whyNotBegin_40 rfl (lv_at hl 2 rfl) ?_
      refine lv_iload_n hx hb dX10_whyNotBegin_41 rfl (lv_at hl 0 rfl) ?_
      refine lv_iload_n hx hb dX10_whyNotBegin_42 rfl (lv_at hl 3 rfl) ?_
      refine lv_aload_n hx hb dX10_whyNotBegin_43 rfl (lv_at hl 1 rfl) ?_
      refine rwG_laws C hP mF_X10_16 dX10_whyNotBegin_44 ?_
      refine lv_iload_n hx hb dX10_whyNotBegin_47 rfl (lv_at hl 0 rfl) ?_
      refine lv_iconst (v := iI 1) hx hb dX10_whyNotBegin_48 rfl ?_
      refine g_cv (As := [.int (iI (v 22)), .int (iI 1)]) (rest := [.int (iI a2), .int (iI (v 22)), .int (iI a1), .ref (ad 30)]) (n := 2) C hml (c_X4_shapeOf l D k A ad hD v f g (v 22) 1 (by omega) (by decide)) mM_X10_170 mI_X4_shapeOf mE_X4_shapeOf mN_X4 mC_X4_shapeOf (by decide +kernel) 2 (ci := 4) rfl rfl hP hS (fun _ h => h) ⟨Nat.le_of_ble_eq_true rfl, Nat.le_of_ble_eq_true rfl⟩ ⟨Nat.zero_le _, Nat.zero_le _⟩ hl.1 rfl rfl (Nat.le_of_ble_eq_true rfl) dX10_whyNotBegin_49 (fun r_7 v_7 f_7 g_7 H locs hq_7 hP _ hS => ?_)
      obtain ⟨z_7, rfl, rfl, rfl, rfl, p0_7, p1_7⟩ := hq_7
      show W p l e (gRm 4 95) s m args below meth c _ _ 0 0 Q (F0 m 52 ls [.int (iI z_7), .int (iI a2), .int (iI (v 22)), .int (iI a1), .ref (ad 30)])
      replace p0_7 : z_7 = (if (0 ≤ (v 22) ∧ (v 22) < (v 1)) ∧ 0 ≤ (1 : Int) ∧ (1 : Int) < 4 then (f 1) ((v 22) * 4 + (1 : Int)) else 0) := p0_7
      replace p1_7 : 0 ≤ z_7 ∧ z_7 ≤ 999999 := p1_7
      have hz_7 : inR z_7 := (by first | omega | (rw [p0_7]; split <;> omega))
      have hsh_7 : z_7 = shF (v 1) (f 1) (v 22) 1 := shF_of p0_7
      have hsr_7 := shF_r (r := (v 22)) hs
      clear p0_7
      refine g_cv (As := [.int (iI a1), .int (iI (v 22)), .int (iI a2), .int (iI z_7)]) (rest := []) (n := 4) C hml (x_Tr_mayNotTry l D k A ad hD v f g a1 (v 22) a2 z_7 (by omega) (by omega) (by omega) (by omega)) mM_X10_317 mI_X7_mayNotTry mE_X7_mayNotTry mN_X7 mC_X7_mayNotTry (by decide +kernel) 30 (ci := 7) rfl rfl hP hS (fun _ h => h) ⟨Nat.le_of_ble_eq_true rfl, Nat.le_of_ble_eq_true rfl⟩ ⟨Nat.zero_le _, Nat.zero_le _⟩ hl.1 rfl rfl (Nat.le_of_ble_eq_true rfl) dX10_whyNotBegin_52 (fun r_8 v_8 f_8 g_8 H locs hq_8 hP _ hS => ?_)
      obtain ⟨z_8, rfl, rfl, rfl, rfl, p0_8⟩ := hq_8
      show W p l e (gRm 4 95) s m args below meth c _ _ 0 0 Q (F0 m 55 ls [.int (iI z_8)])
      replace p0_8 : z_8 = (if 1 ≤ cn (pTo (f 20) (f 21) (f 22) (f 26) a1 (v 22) a2) (v 23).toNat ∨ z_7 ≤ cn (pDo (f 20) (f 21) (f 22) (f 26) a1 (v 22) a2) (v 23).toNat then 1 else 0) := p0_8
      have w_8 := gif (P := 1 ≤ cn (pTo (f 20) (f 21) (f 22) (f 26) a1 (v 22) a2) (v 23).toNat ∨ z_7 ≤ cn (pDo (f 20) (f 21) (f 22) (f 26) a1 (v 22) a2) (v 23).toNat) p0_8
      clear p0_8
      have hz_8 : inR z_8 := (by first | omega | (rw [p0_8]; split <;> omega))
      refine gi_zeq (tgt := 61) hx hb dX10_whyNotBegin_55 (by decide) (by omega) (fun c_9 => ?_) (fun c_9 => ?_)
      · have vz_8 := gif0 w_8 c_9
        clear w_8
        refine lv_aload_n hx hb dX10_whyNotBegin_61 rfl (lv_at hl 1 rfl) ?_
        refine rwG_tries C hP mF_X10_44 dX10_whyNotBegin_62 ?_
        refine rwG_tries_many C hP mF_X10_126 dX10_whyNotBegin_65 ?_
        refine lv_sipush (v := iI 300) hx hb dX10_whyNotBegin_68 (by decide) ?_
        refine gi_clt (tgt := 76) hx hb dX10_whyNotBegin_71 (by decide) (by omega) (by decide) (fun c_10 => ?_) (fun c_10 => ?_)
        · refine lv_aload_n hx hb dX10_whyNotBegin_76 rfl (lv_at hl 1 rfl) ?_
          refine lv_iload_n hx hb dX10_whyNotBegin_77 rfl (lv_at hl 2 rfl) ?_
          refine lv_iload_n hx hb dX10_whyNotBegin_78 rfl (lv_at hl 3 rfl) ?_
          refine g_cv (As := [.int (iI a1), .int (iI a2)]) (rest := []) (n := 2) C hml (x_Ro_hasSeen l D k A ad hD v f g a1 a2 (by omega) (by omega) (show 0 ≤ a1 ∧ a1 ≤ 15 from by omega)) mM_X10_237 mI_X10_hasSeen mE_X10_hasSeen mN_X10 mC_X10_hasSeen (by decide +kernel) 0 (ci := 10) rfl rfl hP hS (fun _ h => h) ⟨Nat.le_of_ble_eq_true rfl, Nat.le_of_ble_eq_true rfl⟩ ⟨Nat.zero_le _, Nat.zero_le _⟩ hl.1 rfl rfl (Nat.le_of_ble_eq_true rfl) dX10_whyNotBegin_79 (fun r_11 v_11 f_11 g_11 H locs hq_11 hP _ hS => ?_)
          obtain ⟨z_11, rfl, rfl, rfl, rfl, p0_11⟩ := hq_11
          show W p l e (gRm 4 95) s m args below meth c _ _ 0 0 Q (F0 m 82 ls [.int (iI z_11)])
          replace p0_11 : z_11 = (if 1 ≤ cn (pSe (f 20) (f 21) (f 22) (f 23) (f 24) (f 32) (f 33) (f 31) (v 26) a1 (v 22) a2) (v 23).toNat then 1 else 0) := p0_11
          have w_11 := gif (P := 1 ≤ cn (pSe (f 20) (f 21) (f 22) (f 23) (f 24) (f 32) (f 33) (f 31) (v 26) a1 (v 22) a2) (v 23).toNat) p0_11
          clear p0_11
          have hz_11 : inR z_11 := (by first | omega | (rw [p0_11]; split <;> omega))
          refine gi_zeq (tgt := 88) hx hb dX10_whyNotBegin_82 (by decide) (by omega) (fun c_12 => ?_) (fun c_12 => ?_)
          · have vz_11 := gif0 w_11 c_12
            clear w_11
            refine lv_aload_n hx hb dX10_whyNotBegin_88 rfl (lv_at hl 1 rfl) ?_
            refine rwG_time C hP mF_X10_114 dX10_whyNotBegin_89 ?_
            have r_13 : 0 ≤ (v 26) ∧ (v 26) ≤ 1000000 := hok.1 26
            refine lv_aload_n hx hb dX10_whyNotBegin_92 rfl (lv_at hl 1 rfl) ?_
            refine lv_iload_n hx hb dX10_whyNotBegin_93 rfl (lv_at hl 2 rfl) ?_
            refine g_cv (As := [.int (iI a1)]) (rest := [.int (iI (v 26))]) (n := 1) C hml (x_Ro_restOver l D k A ad hD v f g a1 (by omega) (show shOk (v 1) (f 1) from hs)) mM_X10_240 mI_X10_restOver mE_X10_restOver mN_X10 mC_X10_restOver (by decide +kernel) 0 (ci := 10) rfl rfl hP hS (fun _ h => h) ⟨Nat.le_of_ble_eq_true rfl, Nat.le_of_ble_eq_true rfl⟩ ⟨Nat.zero_le _, Nat.zero_le _⟩ hl.1 rfl rfl (Nat.le_of_ble_eq_true rfl) dX10_whyNotBegin_94 (fun r_14 v_14 f_14 g_14 H locs hq_14 hP _ hS => ?_)
            obtain ⟨z_14, rfl, rfl, rfl, rfl, p0_14, p1_14⟩ := hq_14
            show W p l e (gRm 4 95) s m args below meth c _ _ 0 0 Q (F0 m 97 ls [.int (iI z_14), .int (iI (v 26))])
            replace p0_14 : z_14 = (rsF (mxE (f 20) (f 21) (f 24) a1 (v 22) (v 23).toNat) (shF (v 1) (f 1) (v 22) 3)) := p0_14
            replace p1_14 : 0 ≤ z_14 ∧ z_14 ≤ 1001998 := p1_14
            have hz_14 : inR z_14 := (by first | omega | (rw [p0_14]; split <;> omega))
            refine gi_cge (tgt := 105) hx hb dX10_whyNotBegin_97 (by decide) (by omega) (by omega) (fun c_15 => ?_) (fun c_15 => ?_)
            · refine lv_iconst (v := iI 0) hx hb dX10_whyNotBegin_105 rfl ?_
              exact g_iret hQ C hr hlocks hP hS dX10_whyNotBegin_106 ⟨0, rfl, rfl, rfl, rfl, (by first | omega | ((repeat' split) <;> omega)), (by first | omega | ((repeat' split) <;> omega)), (by first | omega | ((repeat' split) <;> omega))⟩
            · refine lv_bipush (v := iI 8) hx hb dX10_whyNotBegin_100 (by decide) ?_
              refine lv_goto (tgt := 106) hx hb dX10_whyNotBegin_102 (by decide) ?_
              exact g_iret hQ C hr hlocks hP hS dX10_whyNotBegin_106 ⟨8, rfl, rfl, rfl, rfl, (by first | omega | ((repeat' split) <;> omega)), (by first | omega | ((repeat' split) <;> omega)), (by first | omega | ((repeat' split) <;> omega))⟩
          · have vz_11 := gif1 w_11 c_12
            clear w_11
            refine lv_bipush (v := iI 7) hx hb dX10_whyNotBegin_85 (by decide) ?_
            exact g_iret hQ C hr hlocks hP hS dX10_whyNotBegin_87 ⟨7, rfl, rfl, rfl, rfl, (by first | omega | ((repeat' split) <;> omega)), (by first | omega | ((repeat' split) <;> omega)), (by first | omega | ((repeat' split) <;> omega))⟩
        · refine lv_iconst (v := iI 3) hx hb dX10_whyNotBegin_74 rfl ?_
          exact g_iret hQ C hr hlocks hP hS dX10_whyNotBegin_75 ⟨3, rfl, rfl, rfl, rfl, (by first | omega | ((repeat' split) <;> omega)), (by first | omega | ((repeat' split) <;> omega)), (by first | omega | ((repeat' split) <;> omega))⟩
      · have vz_8 := gif1 w_8 c_9
        clear w_8
        refine lv_bipush (v := iI 6) hx hb dX10_whyNotBegin_58 (by decide) ?_
        exact g_iret hQ C hr hlocks hP hS dX10_whyNotBegin_60 ⟨6, rfl, rfl, rfl, rfl, (by first | omega | ((repeat' split) <;> omega)), (by first | omega | ((repeat' split) <;> omega)), (by first | omega | ((repeat' split) <;> omega))⟩
    · refine lv_iconst (v := iI 5) hx hb dX10_whyNotBegin_34 rfl ?_
      exact g_iret hQ C hr hlocks hP hS dX10_whyNotBegin_35 ⟨5, rfl, rfl, rfl, rfl, (by first | omega | ((repeat' split) <;> omega)), (by first | omega | ((repeat' split) <;> omega)), (by first | omega | ((repeat' split) <;> omega))⟩
  · have vz_3 := gif0 w_3 c_4
    clear w_3
    refine lv_iconst (v := iI 4) hx hb dX10_whyNotBegin_20 rfl ?_
    exact g_iret hQ C hr hlocks hP hS dX10_whyNotBegin_21 ⟨4, rfl, rfl, rfl, rfl, (by first | omega | ((repeat' split) <;> omega)), (by first | omega | ((repeat' split) <;> omega)), (by first | omega | ((repeat' split) <;> omega))⟩

set_option maxHeartbeats 4000000 in
set_option maxRecDepth 100000 in
theorem x_Ro_climber (l : Launch) (D : va_G) (k : Nat → ClassId) (A : Nat → Prop) (ad : Nat → Nat) (hD : rwD A k ad) (v : gV) (f g : gF) : GM l D k A (rwT k ad) yX10_climber cX10_climber 1 (some .int) 1 21 [.ref (ad 0)] v f g (fun r v1 f1 g1 => ∃ (z : Int) (w25 : Int), r = some (.int (iI z)) ∧ (va_up (va_up v 21 (if w25 = 0 then (v 21) + 1 else (v 21))) 25 w25) = v1 ∧ (va_up f 18 (if w25 = 0 then u1 (f 18) (v 21) 0 else (f 18))) = f1 ∧ g = g1 ∧ (z = (if w25 = 0 then (v 21) else (-1))) ∧ (w25 = (if (v 1) = 0 then 1 else if 16 ≤ (v 21) then 3 else if 0 < (v 23) ∨ 0 < (v 22) then 10 else 0))) := by
  refine GM.of (by decide) (Nat.le_of_ble_eq_true rfl) ?_
  intro p e s m args below meth c Q ls hQ C hml hr hlocks hP hl
  have hx := C.1
  have hb := C.2.1
  have hok := hP.2
  have hS : va_S A s.heap s.heap [] := va_S.rf
  have hl : lv_has ls 1 [(0, .ref (ad 0))] := hl
  have hP : gWd D (rwT k ad) (va_up (va_up v 21 (v 21)) 25 (v 25)) (va_up f 18 (f 18)) g s.heap := by rw [va_id, va_id, va_id]; exact hP
  refine lv_aload_n hx hb dX10_climber_0 rfl (lv_at hl 0 rfl) ?_
  refine rwG_laws C hP mF_X10_16 dX10_climber_1 ?_
  refine rwG_laws_rounds C hP mF_X10_117 dX10_climber_4 ?_
  show W p l e (gRm 1 21) s m args below meth c _ _ 0 0 Q (F0 m 7 ls [.int (iI (v 1))])
  have r_1 : 0 ≤ (v 1) ∧ (v 1) ≤ 4 := hok.1 1
  refine gi_zne (tgt := 16) hx hb dX10_climber_7 (by decide) (by omega) (fun c_2 => ?_) (fun c_2 => ?_)
  · refine lv_aload_n hx hb dX10_climber_16 rfl (lv_at hl 0 rfl) ?_
    refine rwG_field C hP mF_X10_37 dX10_climber_17 ?_
    refine rwG_field_climbers C hP mF_X10_123 dX10_climber_20 ?_
    show W p l e (gRm 1 21) s m args below meth c _ _ 0 0 Q (F0 m 23 ls [.int (iI (v 21))])
    have r_3 : 0 ≤ (v 21) ∧ (v 21) ≤ 16 := hok.1 21
    refine lv_bipush (v := iI 16) hx hb dX10_climber_23 (by decide) ?_
    refine gi_clt (tgt := 34) hx hb dX10_climber_25 (by decide) (by omega) (by decide) (fun c_4 => ?_) (fun c_4 => ?_)
    · refine lv_aload_n hx hb dX10_climber_34 rfl (lv_at hl 0 rfl) ?_
      refine rwG_tries C hP mF_X10_44 dX10_climber_35 ?_
      refine rwG_tries_many C hP mF_X10_126 dX10_climber_38 ?_
      show W p l e (gRm 1 21) s m args below meth c _ _ 0 0 Q (F0 m 41 ls [.int (iI (v 23))])
      have r_5 : 0 ≤ (v 23) ∧ (v 23) ≤ 300 := hok.1 23
      refine gi_zgt (tgt := 54) hx hb dX10_climber_41 (by decide) (by omega) (fun c_6 => ?_) (fun c_6 => ?_)
      · refine lv_aload_n hx hb dX10_climber_54 rfl (lv_at hl 0 rfl) ?_
        refine lv_bipush (v := iI 10) hx hb dX10_climber_55 (by decide) ?_
        refine g_cv (As := [.int (iI 10)]) (rest := []) (n := 1) C hml (c_X10_refuse l D k A ad hD (va_up (va_up v 21 (v 21)) 25 (v 25)) (va_up f 18 (f 18)) g 10 (by decide) (show 0 ≤ (10 : Int) ∧ (10 : Int) ≤ 10 from by omega)) mM_X10_88 mI_X10_refuse mE_X10_refuse mN_X10 mC_X10_refuse (by decide +kernel) 0 (ci := 10) rfl rfl hP hS (fun _ h => h) ⟨Nat.le_of_ble_eq_true rfl, Nat.le_of_ble_eq_true rfl⟩ ⟨Nat.zero_le _, Nat.zero_le _⟩ hl.1 rfl rfl (Nat.le_of_ble_eq_true rfl) dX10_climber_57 (fun r_7 v_7 f_7 g_7 H locs hq_7 hP _ hS => ?_)
        obtain ⟨rfl, rfl, rfl, rfl⟩ := hq_7
        show W p l e (gRm 1 21) s m args below meth c _ _ 0 0 Q (F0 m 60 ls [.int (iI (-1))])
        have hP : gWd D (rwT k ad) (va_up (va_up v 21 (v 21)) 25 (10 : Int)) (va_up f 18 (f 18)) g H := ⟨hP.1, (gF_up (V := rwV) (F := rwF) (gR_up (V := rwV) (F := rwF) (gR_up (V := rwV) (F := rwF) ⟨hok.1, hok.2⟩ 21 (hP.2.1 21)) 25 (hP.2.1 25)) 18 (hP.2.2 18))⟩
        exact g_iret hQ C hr hlocks hP hS dX10_climber_60 ⟨(-1), (10 : Int), rfl, (by rw [show ((if (10 : Int) = 0 then (v 21) + 1 else (v 21)) : Int) = (v 21) from by first | rfl | omega | ((repeat' split) <;> omega)]), (by rw [show ((if (10 : Int) = 0 then u1 (f 18) (v 21) 0 else (f 18)) : Int → Int) = (f 18) from by first | rfl | (rw [if_pos (by omega)]; done) | (rw [if_neg (by omega)]; done) | (rw [if_neg (by omega), if_pos (by omega)]; done) | (rw [if_neg (by omega), if_neg (by omega)]; done)]), rfl, (by first | omega | ((repeat' split) <;> omega)), (by first | omega | ((repeat' split) <;> omega))⟩
      · refine lv_aload_n hx hb dX10_climber_44 rfl (lv_at hl 0 rfl) ?_
        refine rwG_field C hP mF_X10_37 dX10_climber_45 ?_
        refine rwG_field_open C hP mF_X10_129 dX10_climber_48 ?_
        show W p l e (gRm 1 21) s m args below meth c _ _ 0 0 Q (F0 m 51 ls [.int (iI (v 22))])
        have r_8 : 0 ≤ (v 22) ∧ (v 22) ≤ 3 := hok.1 22
        refine gi_zle (tgt := 61) hx hb dX10_climber_51 (by decide) (by omega) (fun c_9 => ?_) (fun c_9 => ?_)
        · refine lv_aload_n hx hb dX10_climber_61 rfl (lv_at hl 0 rfl) ?_
          refine lv_aload_n hx hb dX10_climber_62 rfl (lv_at hl 0 rfl) ?_
          refine rwG_field C hP mF_X10_37 dX10_climber_63 ?_
          refine g_cv (As := []) (rest := [.ref (ad 0)]) (n := 0) C hml (c_X2_enter l D k A ad hD (va_up (va_up v 21 (v 21)) 25 (v 25)) (va_up f 18 (f 18)) g (show (v 21) < 16 from by omega)) mM_X10_132 mI_X2_enter mE_X2_enter mN_X2 mC_X2_enter (by decide +kernel) 27 (ci := 2) rfl rfl hP hS (fun _ h => h) ⟨Nat.le_of_ble_eq_true rfl, Nat.le_of_ble_eq_true rfl⟩ ⟨Nat.zero_le _, Nat.zero_le _⟩ hl.1 rfl rfl (Nat.le_of_ble_eq_true rfl) dX10_climber_66 (fun r_10 v_10 f_10 g_10 H locs hq_10 hP _ hS => ?_)
          obtain ⟨z_10, rfl, rfl, rfl, rfl, p0_10⟩ := hq_10
          show W p l e (gRm 1 21) s m args below meth c _ _ 0 0 Q (F0 m 69 ls [.int (iI z_10), .ref (ad 0)])
          have hP : gWd D (rwT k ad) (va_up (va_up v 21 ((v 21) + 1)) 25 (v 25)) (va_up f 18 (u1 (f 18) (v 21) 0)) g H := ⟨hP.1, (gF_up (V := rwV) (F := rwF) (gR_up (V := rwV) (F := rwF) (gR_up (V := rwV) (F := rwF) ⟨hok.1, hok.2⟩ 21 (hP.2.1 21)) 25 (hP.2.1 25)) 18 (hP.2.2 18))⟩
          replace p0_10 : z_10 = (v 21) := p0_10
          have hz_10 : inR z_10 := (by first | omega | (rw [p0_10]; split <;> omega))
          refine g_cv (As := [.int (iI z_10)]) (rest := []) (n := 1) C hml (c_X10_answer l D k A ad hD (va_up (va_up v 21 ((v 21) + 1)) 25 (v 25)) (va_up f 18 (u1 (f 18) (v 21) 0)) g z_10 (by omega)) mM_X10_120 mI_X10_answer mE_X10_answer mN_X10 mC_X10_answer (by decide +kernel) 0 (ci := 10) rfl rfl hP hS (fun _ h => h) ⟨Nat.le_of_ble_eq_true rfl, Nat.le_of_ble_eq_true rfl⟩ ⟨Nat.zero_le _, Nat.zero_le _⟩ hl.1 rfl rfl (Nat.le_of_ble_eq_true rfl) dX10_climber_69 (fun r_11 v_11 f_11 g_11 H locs hq_11 hP _ hS => ?_)
          obtain ⟨z_11, rfl, rfl, rfl, rfl, p0_11⟩ := hq_11
          show W p l e (gRm 1 21) s m args below meth c _ _ 0 0 Q (F0 m 72 ls [.int (iI z_11)])
          have hP : gWd D (rwT k ad) (va_up (va_up v 21 ((v 21) + 1)) 25 0) (va_up f 18 (u1 (f 18) (v 21) 0)) g H := ⟨hP.1, (gF_up (V := rwV) (F := rwF) (gR_up (V := rwV) (F := rwF) (gR_up (V := rwV) (F := rwF) ⟨hok.1, hok.2⟩ 21 (hP.2.1 21)) 25 (hP.2.1 25)) 18 (hP.2.2 18))⟩
          replace p0_11 : z_11 = z_10 := p0_11
          have hz_11 : inR z_11 := (by first | omega | (rw [p0_11]; split <;> omega))
          exact g_iret hQ C hr hlocks hP hS dX10_climber_72 ⟨z_11, 0, rfl, (by rw [show ((if (0 : Int) = 0 then (v 21) + 1 else (v 21)) : Int) = ((v 21) + 1) from by first | rfl | omega | ((repeat' split) <;> omega)]), (by rw [show ((if (0 : Int) = 0 then u1 (f 18) (v 21) 0 else (f 18)) : Int → Int) = (u1 (f 18) (v 21) 0) from by first | rfl | (rw [if_pos (by omega)]; done) | (rw [if_neg (by omega)]; done) | (rw [if_neg (by omega), if_pos (by omega)]; done) | (rw [if_neg (by omega), if_neg (by omega)]; done)]), rfl, (by first | omega | ((repeat' split) <;> omega)), (by first | omega | ((repeat' split) <;> omega))⟩
        · refine lv_aload_n hx hb dX10_climber_54 rfl (lv_at hl 0 rfl) ?_
          refine lv_bipush (v := iI 10) hx hb dX10_climber_55 (by decide) ?_
          refine g_cv (As := [.int (iI 10)]) (rest := []) (n := 1) C hml (c_X10_refuse l D k A ad hD (va_up (va_up v 21 (v 21)) 25 (v 25)) (va_up f 18 (f 18)) g 10 (by decide) (show 0 ≤ (10 : Int) ∧ (10 : Int) ≤ 10 from by omega)) mM_X10_88 mI_X10_refuse mE_X10_refuse mN_X10 mC_X10_refuse (by decide +kernel) 0 (ci := 10) rfl rfl hP hS (fun _ h => h) ⟨Nat.le_of_ble_eq_true rfl, Nat.le_of_ble_eq_true rfl⟩ ⟨Nat.zero_le _, Nat.zero_le _⟩ hl.1 rfl rfl (Nat.le_of_ble_eq_true rfl) dX10_climber_57 (fun r_12 v_12 f_12 g_12 H locs hq_12 hP _ hS => ?_)
          obtain ⟨rfl, rfl, rfl, rfl⟩ := hq_12
          show W p l e (gRm 1 21) s m args below meth c _ _ 0 0 Q (F0 m 60 ls [.int (iI (-1))])
          have hP : gWd D (rwT k ad) (va_up (va_up v 21 (v 21)) 25 (10 : Int)) (va_up f 18 (f 18)) g H := ⟨hP.1, (gF_up (V := rwV) (F := rwF) (gR_up (V := rwV) (F := rwF) (gR_up (V := rwV) (F := rwF) ⟨hok.1, hok.2⟩ 21 (hP.2.1 21)) 25 (hP.2.1 25)) 18 (hP.2.2 18))⟩
          exact g_iret hQ C hr hlocks hP hS dX10_climber_60 ⟨(-1), (10 : Int), rfl, (by rw [show ((if (10 : Int) = 0 then (v 21) + 1 else (v 21)) : Int) = (v 21) from by first | rfl | omega | ((repeat' split) <;> omega)]), (by rw [show ((if (10 : Int) = 0 then u1 (f 18) (v 21) 0 else (f 18)) : Int → Int) = (f 18) from by first | rfl | (rw [if_pos (by omega)]; done) | (rw [if_neg (by omega)]; done) | (rw [if_neg (by omega), if_pos (by omega)]; done) | (rw [if_neg (by omega), if_neg (by omega)]; done)]), rfl, (by first | omega | ((repeat' split) <;> omega)), (by first | omega | ((repeat' split) <;> omega))⟩
    · refine lv_aload_n hx hb dX10_climber_28 rfl (lv_at hl 0 rfl) ?_
      refine lv_iconst (v := iI 3) hx hb dX10_climber_29 rfl ?_
      refine g_cv (As := [.int (iI 3)]) (rest := []) (n := 1) C hml (c_X10_refuse l D k A ad hD (va_up (va_up v 21 (v 21)) 25 (v 25)) (va_up f 18 (f 18)) g 3 (by decide) (show 0 ≤ (3 : Int) ∧ (3 : Int) ≤ 10 from by omega)) mM_X10_88 mI_X10_refuse mE_X10_refuse mN_X10 mC_X10_refuse (by decide +kernel) 0 (ci := 10) rfl rfl hP hS (fun _ h => h) ⟨Nat.le_of_ble_eq_true rfl, Nat.le_of_ble_eq_true rfl⟩ ⟨Nat.zero_le _, Nat.zero_le _⟩ hl.1 rfl rfl (Nat.le_of_ble_eq_true rfl) dX10_climber_30 (fun r_13 v_13 f_13 g_13 H locs hq_13 hP _ hS => ?_)
      obtain ⟨rfl, rfl, rfl, rfl⟩ := hq_13
      show W p l e (gRm 1 21) s m args below meth c _ _ 0 0 Q (F0 m 33 ls [.int (iI (-1))])
      have hP : gWd D (rwT k ad) (va_up (va_up v 21 (v 21)) 25 (3 : Int)) (va_up f 18 (f 18)) g H := ⟨hP.1, (gF_up (V := rwV) (F := rwF) (gR_up (V := rwV) (F := rwF) (gR_up (V := rwV) (F := rwF) ⟨hok.1, hok.2⟩ 21 (hP.2.1 21)) 25 (hP.2.1 25)) 18 (hP.2.2 18))⟩
      exact g_iret hQ C hr hlocks hP hS dX10_climber_33 ⟨(-1), (3 : Int), rfl, (by rw [show ((if (3 : Int) = 0 then (v 21) + 1 else (v 21)) : Int) = (v 21) from by first | rfl | omega | ((repeat' split) <;> omega)]), (by rw [show ((if (3 : Int) = 0 then u1 (f 18) (v 21) 0 else (f 18)) : Int → Int) = (f 18) from by first | rfl | (rw [if_pos (by omega)]; done) | (rw [if_neg (by omega)]; done) | (rw [if_neg (by omega), if_pos (by omega)]; done) | (rw [if_neg (by omega), if_neg (by omega)]; done)]), rfl, (by first | omega | ((repeat' split) <;> omega)), (by first | omega | ((repeat' split) <;> omega))⟩
  · refine lv_aload_n hx hb dX10_climber_10 rfl (lv_at hl 0 rfl) ?_
    refine lv_iconst (v := iI 1) hx hb dX10_climber_11 rfl ?_
    refine g_cv (As := [.int (iI 1)]) (rest := []) (n := 1) C hml (c_X10_refuse l D k A ad hD (va_up (va_up v 21 (v 21)) 25 (v 25)) (va_up f 18 (f 18)) g 1 (by decide) (show 0 ≤ (1 : Int) ∧ (1 : Int) ≤ 10 from by omega)) mM_X10_88 mI_X10_refuse mE_X10_refuse mN_X10 mC_X10_refuse (by decide +kernel) 0 (ci := 10) rfl rfl hP hS (fun _ h => h) ⟨Nat.le_of_ble_eq_true rfl, Nat.le_of_ble_eq_true rfl⟩ ⟨Nat.zero_le _, Nat.zero_le _⟩ hl.1 rfl rfl (Nat.le_of_ble_eq_true rfl) dX10_climber_12 (fun r_14 v_14 f_14 g_14 H locs hq_14 hP _ hS => ?_)
    obtain ⟨rfl, rfl, rfl, rfl⟩ := hq_14
    show W p l e (gRm 1 21) s m args below meth c _ _ 0 0 Q (F0 m 15 ls [.int (iI (-1))])
    have hP : gWd D (rwT k ad) (va_up (va_up v 21 (v 21)) 25 (1 : Int)) (va_up f 18 (f 18)) g H := ⟨hP.1, (gF_up (V := rwV) (F := rwF) (gR_up (V := rwV) (F := rwF) (gR_up (V := rwV) (F := rwF) ⟨hok.1, hok.2⟩ 21 (hP.2.1 21)) 25 (hP.2.1 25)) 18 (hP.2.2 18))⟩
    exact g_iret hQ C hr hlocks hP hS dX10_climber_15 ⟨(-1), (1 : Int), rfl, (by rw [show ((if (1 : Int) = 0 then (v 21) + 1 else (v 21)) : Int) = (v 21) from by first | rfl | omega | ((repeat' split) <;> omega)]), (by rw [show ((if (1 : Int) = 0 then u1 (f 18) (v 21) 0 else (f 18)) : Int → Int) = (f 18) from by first | rfl | (rw [if_pos (by omega)]; done) | (rw [if_neg (by omega)]; done) | (rw [if_neg (by omega), if_pos (by omega)]; done) | (rw [if_neg (by omega), if_neg (by omega)]; done)]), rfl, (by first | omega | ((repeat' split) <;> omega)), (by first | omega | ((repeat' split) <;> omega))⟩

set_option maxHeartbeats 4000000 in
set_option maxRecDepth 100000 in
theorem x_Ro_route (l : Launch) (D : va_G) (k : Nat → ClassId) (A : Nat → Prop) (ad : Nat → Nat) (hD : rwD A k ad) (v : gV) (f g : gF) (a1 : Int) (a2 : Int) (a3 : Int) (a4 : Int) (a5 : Int) (a6 : Int) (h_a1 : inR a1) (h_a2 : inR a2) (h_a3 : inR a3) (h_a4 : inR a4) (h_a5 : inR a5) (h_a6 : inR a6) (hs : shOk (v 1) (f 1)) : GM l D k A (rwT k ad) yX10_route cX10_route 7 (some .boolean) 2 46 [.ref (ad 0), .int (iI a1), .int (iI a2), .int (iI a3), .int (iI a4), .int (iI a5), .int (iI a6)] v f g (fun r v1 f1 g1 => ∃ (z : Int) (w25 : Int), r = some (.int (iI z)) ∧ (va_up v 25 w25) = v1 ∧ (va_up (va_up f 15 (if w25 = 0 then u1 (f 15) (a1 * 5 + a2) a3 else (f 15))) 17 (if w25 = 0 then u1 (u1 (u1 (f 17) ((a1 * 5 + a2) * 3 + 0) a4) ((a1 * 5 + a2) * 3 + 1) a5) ((a1 * 5 + a2) * 3 + 2) a6 else (f 17))) = f1 ∧ g = g1 ∧ (z = (if w25 = 0 then 1 else 0)) ∧ (w25 = (if ¬ ((0 ≤ a1 ∧ a1 < (v 1)) ∧ 0 ≤ a2 ∧ a2 < (f 1) (a1 * 4)) then 1 else if ¬ ((2 ≤ a3 ∧ a3 ≤ 60) ∧ (a4 = 0 ∨ (0 < a4 ∧ a4 ≤ a3)) ∧ (a5 = 0 ∨ (a4 ≠ 0 ∧ a4 < a5 ∧ a5 ≤ a3)) ∧ (a6 = 0 ∨ (a5 ≠ 0 ∧ a5 < a6 ∧ a6 ≤ a3))) then 2 else if 0 < (f 16) (a1 * 5 + a2) then 10 else 0))) := by
  refine GM.of (by decide) (Nat.le_of_ble_eq_true rfl) ?_
  intro p e s m args below meth c Q ls hQ C hml hr hlocks hP hl
  have hx := C.1
  have hb := C.2.1
  have hok := hP.2
  have hS : va_S A s.heap s.heap [] := va_S.rf
  have hl : lv_has ls 7 [(0, .ref (ad 0)), (1, .int (iI a1)), (2, .int (iI a2)), (3, .int (iI a3)), (4, .int (iI a4)), (5, .int (iI a5)), (6, .int (iI a6))] := hl
  have hP : gWd D (rwT k ad) (va_up v 25 (v 25)) (va_up (va_up f 15 (f 15)) 17 (f 17)) g s.heap := by rw [va_id, va_id, va_id]; exact hP
  have r_1 : 0 ≤ (v 1) ∧ (v 1) ≤ 4 := hok.1 1
  refine lv_aload_n hx hb dX10_route_0 rfl (lv_at hl 0 rfl) ?_
  refine rwG_laws C hP mF_X10_16 dX10_route_1 ?_
  refine lv_iload_n hx hb dX10_route_4 rfl (lv_at hl 1 rfl) ?_
  refine lv_iload_n hx hb dX10_route_5 rfl (lv_at hl 2 rfl) ?_
  refine g_cv (As := [.int (iI a1), .int (iI a2)]) (rest := []) (n := 2) C hml (c_X4_hasRoute l D k A ad hD (va_up v 25 (v 25)) (va_up (va_up f 15 (f 15)) 17 (f 17)) g a1 a2 (by omega) (by omega)) mM_X10_136 mI_X4_hasRoute mE_X4_hasRoute mN_X4 mC_X4_hasRoute (by decide +kernel) 2 (ci := 4) rfl rfl hP hS (fun _ h => h) ⟨Nat.le_of_ble_eq_true rfl, Nat.le_of_ble_eq_true rfl⟩ ⟨Nat.zero_le _, Nat.zero_le _⟩ hl.1 rfl rfl (Nat.le_of_ble_eq_true rfl) dX10_route_6 (fun r_2 v_2 f_2 g_2 H locs hq_2 hP _ hS => ?_)
  obtain ⟨z_2, rfl, rfl, rfl, rfl, p0_2⟩ := hq_2
  show W p l e (gRm 2 46) s m args below meth c _ _ 0 0 Q (F0 m 9 ls [.int (iI z_2)])
  replace p0_2 : z_2 = (if (0 ≤ a1 ∧ a1 < (v 1)) ∧ 0 ≤ a2 ∧ a2 < (f 1) (a1 * 4) then 1 else 0) := p0_2
  have w_2 := gif (P := (0 ≤ a1 ∧ a1 < (v 1)) ∧ 0 ≤ a2 ∧ a2 < (f 1) (a1 * 4)) p0_2
  clear p0_2
  have hz_2 : inR z_2 := (by first | omega | (rw [p0_2]; split <;> omega))
  have q_2 : ((0 ≤ a1 ∧ a1 < (v 1)) ∧ 0 ≤ a2 ∧ a2 < (f 1) (a1 * 4)) → a2 ≤ 4 := fun h => shR hs h
  refine gi_zne (tgt := 18) hx hb dX10_route_9 (by decide) (by omega) (fun c_3 => ?_) (fun c_3 => ?_)
  · have vz_2 := gif1 w_2 c_3
    clear w_2
    refine lv_iload_n hx hb dX10_route_18 rfl (lv_at hl 3 rfl) ?_
    refine lv_iconst (v := iI 2) hx hb dX10_route_19 rfl ?_
    refine gi_clt (tgt := 42) hx hb dX10_route_20 (by decide) (by omega) (by decide) (fun c_4 => ?_) (fun c_4 => ?_)
    · refine lv_aload_n hx hb dX10_route_42 rfl (lv_at hl 0 rfl) ?_
      refine lv_iconst (v := iI 2) hx hb dX10_route_43 rfl ?_
      refine g_cv (As := [.int (iI 2)]) (rest := []) (n := 1) C hml (c_X10_deny l D k A ad hD (va_up v 25 (v 25)) (va_up (va_up f 15 (f 15)) 17 (f 17)) g 2 (by decide) (show 0 ≤ (2 : Int) ∧ (2 : Int) ≤ 10 from by omega)) mM_X10_140 mI_X10_deny mE_X10_deny mN_X10 mC_X10_deny (by decide +kernel) 0 (ci := 10) rfl rfl hP hS (fun _ h => h) ⟨Nat.le_of_ble_eq_true rfl, Nat.le_of_ble_eq_true rfl⟩ ⟨Nat.zero_le _, Nat.zero_le _⟩ hl.1 rfl rfl (Nat.le_of_ble_eq_true rfl) dX10_route_44 (fun r_5 v_5 f_5 g_5 H locs hq_5 hP _ hS => ?_)
      obtain ⟨rfl, rfl, rfl, rfl⟩ := hq_5
      show W p l e (gRm 2 46) s m args below meth c _ _ 0 0 Q (F0 m 47 ls [.int (iI 0)])
      have hP : gWd D (rwT k ad) (va_up v 25 (2 : Int)) (va_up (va_up f 15 (f 15)) 17 (f 17)) g H := ⟨hP.1, (gF_up (V := rwV) (F := rwF) (gF_up (V := rwV) (F := rwF) (gR_up (V := rwV) (F := rwF) ⟨hok.1, hok.2⟩ 25 (hP.2.1 25)) 15 (hP.2.2 15)) 17 (hP.2.2 17))⟩
      exact g_zret hQ C hr hlocks (by decide) hP hS dX10_route_47 ⟨0, (2 : Int), rfl, rfl, (by rw [show ((if (2 : Int) = 0 then u1 (f 15) (a1 * 5 + a2) a3 else (f 15)) : Int → Int) = (f 15) from by first | rfl | (rw [if_pos (by omega)]; done) | (rw [if_neg (by omega)]; done) | (rw [if_neg (by omega), if_pos (by omega)]; done) | (rw [if_neg (by omega), if_neg (by omega)]; done), show ((if (2 : Int) = 0 then u1 (u1 (u1 (f 17) ((a1 * 5 + a2) * 3 + 0) a4) ((a1 * 5 + a2) * 3 + 1) a5) ((a1 * 5 + a2) * 3 + 2) a6 else (f 17)) : Int → Int) = (f 17) from by first | rfl | (rw [if_pos (by omega)]; done) | (rw [if_neg (by omega)]; done) | (rw [if_neg (by omega), if_pos (by omega)]; done) | (rw [if_neg (by omega), if_neg (by omega)]; done)]), rfl, (by first | omega | ((repeat' split) <;> omega)), (by first | omega | ((repeat' split) <;> omega))⟩
    · refine lv_iload_n hx hb dX10_route_23 rfl (lv_at hl 3 rfl) ?_
      refine lv_bipush (v := iI 60) hx hb dX10_route_24 (by decide) ?_
      refine gi_cgt (tgt := 42) hx hb dX10_route_26 (by decide) (by omega) (by decide) (fun c_6 => ?_) (fun c_6 => ?_)
      · refine lv_aload_n hx hb dX10_route_42 rfl (lv_at hl 0 rfl) ?_
        refine lv_iconst (v := iI 2) hx hb dX10_route_43 rfl ?_
        refine g_cv (As := [.int (iI 2)]) (rest := []) (n := 1) C hml (c_X10_deny l D k A ad hD (va_up v 25 (v 25)) (va_up (va_up f 15 (f 15)) 17 (f 17)) g 2 (by decide) (show 0 ≤ (2 : Int) ∧ (2 : Int) ≤ 10 from by omega)) mM_X10_140 mI_X10_deny mE_X10_deny mN_X10 mC_X10_deny (by decide +kernel) 0 (ci := 10) rfl rfl hP hS (fun _ h => h) ⟨Nat.le_of_ble_eq_true rfl, Nat.le_of_ble_eq_true rfl⟩ ⟨Nat.zero_le _, Nat.zero_le _⟩ hl.1 rfl rfl (Nat.le_of_ble_eq_true rfl) dX10_route_44 (fun r_7 v_7 f_7 g_7 H locs hq_7 hP _ hS => ?_)
        obtain ⟨rfl, rfl, rfl, rfl⟩ := hq_7
        show W p l e (gRm 2 46) s m args below meth c _ _ 0 0 Q (F0 m 47 ls [.int (iI 0)])
        have hP : gWd D (rwT k ad) (va_up v 25 (2 : Int)) (va_up (va_up f 15 (f 15)) 17 (f 17)) g H := ⟨hP.1, (gF_up (V := rwV) (F := rwF) (gF_up (V := rwV) (F := rwF) (gR_up (V := rwV) (F := rwF) ⟨hok.1, hok.2⟩ 25 (hP.2.1 25)) 15 (hP.2.2 15)) 17 (hP.2.2 17))⟩
        exact g_zret hQ C hr hlocks (by decide) hP hS dX10_route_47 ⟨0, (2 : Int), rfl, rfl, (by rw [show ((if (2 : Int) = 0 then u1 (f 15) (a1 * 5 + a2) a3 else (f 15)) : Int → Int) = (f 15) from by first | rfl | (rw [if_pos (by omega)]; done) | (rw [if_neg (by omega)]; done) | (rw [if_neg (by omega), if_pos (by omega)]; done) | (rw [if_neg (by omega), if_neg (by omega)]; done), show ((if (2 : Int) = 0 then u1 (u1 (u1 (f 17) ((a1 * 5 + a2) * 3 + 0) a4) ((a1 * 5 + a2) * 3 + 1) a5) ((a1 * 5 + a2) * 3 + 2) a6 else (f 17)) : Int → Int) = (f 17) from by first | rfl | (rw [if_pos (by omega)]; done) | (rw [if_neg (by omega)]; done) | (rw [if_neg (by omega), if_pos (by omega)]; done) | (rw [if_neg (by omega), if_neg (by omega)]; done)]), rfl, (by first | omega | ((repeat' split) <;> omega)), (by first | omega | ((repeat' split) <;> omega))⟩
      · refine lv_iload_n hx hb dX10_route_29 rfl (lv_at hl 3 rfl) ?_
        refine lv_iload hx hb dX10_route_30 (lv_at hl 4 rfl) ?_
        refine lv_iload hx hb dX10_route_32 (lv_at hl 5 rfl) ?_
        refine lv_iload hx hb dX10_route_34 (lv_at hl 6 rfl) ?_
        refine g_cs (As := [.int (iI a3), .int (iI a4), .int (iI a5), .int (iI a6)]) (rest := []) (n := 4) C hml (x_Ro_zonesCanBe l D k A ad hD (va_up v 25 (v 25)) (va_up (va_up f 15 (f 15)) 17 (f 17)) g a3 a4 a5 a6 (by omega) (by omega) (by omega) (by omega)) mM_X10_144 mS_X10_zonesCanBe mN_X10 mC_X10_zonesCanBe (by decide +kernel) hP hS (fun _ h => h) ⟨Nat.le_of_ble_eq_true rfl, Nat.le_of_ble_eq_true rfl⟩ ⟨Nat.zero_le _, Nat.zero_le _⟩ hl.1 rfl rfl (Nat.le_of_ble_eq_true rfl) dX10_route_36 (fun r_8 v_8 f_8 g_8 H locs hq_8 hP _ hS => ?_)
        obtain ⟨z_8, rfl, rfl, rfl, rfl, p0_8⟩ := hq_8
        show W p l e (gRm 2 46) s m args below meth c _ _ 0 0 Q (F0 m 39 ls [.int (iI z_8)])
        replace p0_8 : z_8 = (if (a4 = 0 ∨ (0 < a4 ∧ a4 ≤ a3)) ∧ (a5 = 0 ∨ (a4 ≠ 0 ∧ a4 < a5 ∧ a5 ≤ a3)) ∧ (a6 = 0 ∨ (a5 ≠ 0 ∧ a5 < a6 ∧ a6 ≤ a3)) then 1 else 0) := p0_8
        have w_8 := gif (P := (a4 = 0 ∨ (0 < a4 ∧ a4 ≤ a3)) ∧ (a5 = 0 ∨ (a4 ≠ 0 ∧ a4 < a5 ∧ a5 ≤ a3)) ∧ (a6 = 0 ∨ (a5 ≠ 0 ∧ a5 < a6 ∧ a6 ≤ a3))) p0_8
        clear p0_8
        have hz_8 : inR z_8 := (by first | omega | (rw [p0_8]; split <;> omega))
        refine gi_zne (tgt := 48) hx hb dX10_route_39 (by decide) (by omega) (fun c_9 => ?_) (fun c_9 => ?_)
        · have vz_8 := gif1 w_8 c_9
          clear w_8
          refine lv_aload_n hx hb dX10_route_48 rfl (lv_at hl 0 rfl) ?_
          refine rwG_wall C hP mF_X10_30 dX10_route_49 ?_
          refine lv_iload_n hx hb dX10_route_52 rfl (lv_at hl 1 rfl) ?_
          refine lv_iload_n hx hb dX10_route_53 rfl (lv_at hl 2 rfl) ?_
          refine g_cv (As := [.int (iI a1), .int (iI a2)]) (rest := []) (n := 2) C hml (c_X8_begunOn l D k A ad hD (va_up v 25 (v 25)) (va_up (va_up f 15 (f 15)) 17 (f 17)) g a1 a2 (by omega) (by omega) (show 0 ≤ a1 ∧ a1 ≤ 3 from by omega) (show 0 ≤ a2 ∧ a2 ≤ 4 from by omega)) mM_X10_148 mI_X8_begunOn mE_X8_begunOn mN_X8 mC_X8_begunOn (by decide +kernel) 23 (ci := 8) rfl rfl hP hS (fun _ h => h) ⟨Nat.le_of_ble_eq_true rfl, Nat.le_of_ble_eq_true rfl⟩ ⟨Nat.zero_le _, Nat.zero_le _⟩ hl.1 rfl rfl (Nat.le_of_ble_eq_true rfl) dX10_route_54 (fun r_10 v_10 f_10 g_10 H locs hq_10 hP _ hS => ?_)
          obtain ⟨z_10, rfl, rfl, rfl, rfl, p0_10, p1_10⟩ := hq_10
          show W p l e (gRm 2 46) s m args below meth c _ _ 0 0 Q (F0 m 57 ls [.int (iI z_10)])
          replace p0_10 : z_10 = ((f 16) (a1 * 5 + a2)) := p0_10
          replace p1_10 : 0 ≤ z_10 ∧ z_10 ≤ 300 := p1_10
          have hz_10 : inR z_10 := (by first | omega | (rw [p0_10]; split <;> omega))
          refine gi_zle (tgt := 67) hx hb dX10_route_57 (by decide) (by omega) (fun c_11 => ?_) (fun c_11 => ?_)
          · refine lv_aload_n hx hb dX10_route_67 rfl (lv_at hl 0 rfl) ?_
            refine rwG_wall C hP mF_X10_30 dX10_route_68 ?_
            refine lv_iload_n hx hb dX10_route_71 rfl (lv_at hl 1 rfl) ?_
            refine lv_iload_n hx hb dX10_route_72 rfl (lv_at hl 2 rfl) ?_
            refine lv_iload_n hx hb dX10_route_73 rfl (lv_at hl 3 rfl) ?_
            refine g_cv (As := [.int (iI a1), .int (iI a2), .int (iI a3)]) (rest := []) (n := 3) C hml (c_X8_set l D k A ad hD (va_up v 25 (v 25)) (va_up (va_up f 15 (f 15)) 17 (f 17)) g a1 a2 a3 (by omega) (by omega) (by omega) (show 0 ≤ a1 ∧ a1 ≤ 3 from by omega) (show 0 ≤ a2 ∧ a2 ≤ 4 from by omega) (show 0 ≤ a3 ∧ a3 ≤ 60 from by omega)) mM_X10_152 mI_X8_set mE_X8_set mN_X8 mC_X8_set (by decide +kernel) 23 (ci := 8) rfl rfl hP hS (fun _ h => h) ⟨Nat.le_of_ble_eq_true rfl, Nat.le_of_ble_eq_true rfl⟩ ⟨Nat.zero_le _, Nat.zero_le _⟩ hl.1 rfl rfl (Nat.le_of_ble_eq_true rfl) dX10_route_74 (fun r_12 v_12 f_12 g_12 H locs hq_12 hP _ hS => ?_)
            obtain ⟨rfl, rfl, rfl, rfl⟩ := hq_12
            show W p l e (gRm 2 46) s m args below meth c _ _ 0 0 Q (F0 m 77 ls [])
            have hP : gWd D (rwT k ad) (va_up v 25 (v 25)) (va_up (va_up f 15 (u1 (f 15) (a1 * 5 + a2) a3)) 17 (f 17)) g H := ⟨hP.1, (gF_up (V := rwV) (F := rwF) (gF_up (V := rwV) (F := rwF) (gR_up (V := rwV) (F := rwF) ⟨hok.1, hok.2⟩ 25 (hP.2.1 25)) 15 (hP.2.2 15)) 17 (hP.2.2 17))⟩
            refine lv_aload_n hx hb dX10_route_77 rfl (lv_at hl 0 rfl) ?_
            refine rwG_wall C hP mF_X10_30 dX10_route_78 ?_
            refine lv_iload_n hx hb dX10_route_81 rfl (lv_at hl 1 rfl) ?_
            refine lv_iload_n hx hb dX10_route_82 rfl (lv_at hl 2 rfl) ?_
            refine lv_iconst (v := iI 0) hx hb dX10_route_83 rfl ?_
            refine lv_iload hx hb dX10_route_84 (lv_at hl 4 rfl) ?_
            refine g_cv (As := [.int (iI a1), .int (iI a2), .int (iI 0), .int (iI a4)]) (rest := []) (n := 4) C hml (c_X8_setZone l D k A ad hD (va_up v 25 (v 25)) (va_up (va_up f 15 (u1 (f 15) (a1 * 5 + a2) a3)) 17 (f 17)) g a1 a2 0 a4 (by omega) (by omega) (by decide) (by omega) (show 0 ≤ a1 ∧ a1 ≤ 3 from by omega) (show 0 ≤ a2 ∧ a2 ≤ 4 from by omega) (show 0 ≤ (0 : Int) ∧ (0 : Int) < 3 from by omega) (show 0 ≤ a4 ∧ a4 ≤ 60 from by omega)) mM_X10_156 mI_X8_setZone mE_X8_setZone mN_X8 mC_X8_setZone (by decide +kernel) 23 (ci := 8) rfl rfl hP hS (fun _ h => h) ⟨Nat.le_of_ble_eq_true rfl, Nat.le_of_ble_eq_true rfl⟩ ⟨Nat.zero_le _, Nat.zero_le _⟩ hl.1 rfl rfl (Nat.le_of_ble_eq_true rfl) dX10_route_86 (fun r_13 v_13 f_13 g_13 H locs hq_13 hP _ hS => ?_)
            obtain ⟨rfl, rfl, rfl, rfl⟩ := hq_13
            show W p l e (gRm 2 46) s m args below meth c _ _ 0 0 Q (F0 m 89 ls [])
            have hP : gWd D (rwT k ad) (va_up v 25 (v 25)) (va_up (va_up f 15 (u1 (f 15) (a1 * 5 + a2) a3)) 17 (u1 (f 17) ((a1 * 5 + a2) * 3 + (0 : Int)) a4)) g H := ⟨hP.1, (gF_up (V := rwV) (F := rwF) (gF_up (V := rwV) (F := rwF) (gR_up (V := rwV) (F := rwF) ⟨hok.1, hok.2⟩ 25 (hP.2.1 25)) 15 (hP.2.2 15)) 17 (hP.2.2 17))⟩
            refine lv_aload_n hx hb dX10_route_89 rfl (lv_at hl 0 rfl) ?_
            refine rwG_wall C hP mF_X10_30 dX10_route_90 ?_
            refine lv_iload_n hx hb dX10_route_93 rfl (lv_at hl 1 rfl) ?_
            refine lv_iload_n hx hb dX10_route_94 rfl (lv_at hl 2 rfl) ?_
            refine lv_iconst (v := iI 1) hx hb dX10_route_95 rfl ?_
            refine lv_iload hx hb dX10_route_96 (lv_at hl 5 rfl) ?_
            refine g_cv (As := [.int (iI a1), .int (iI a2), .int (iI 1), .int (iI a5)]) (rest := []) (n := 4) C hml (c_X8_setZone l D k A ad hD (va_up v 25 (v 25)) (va_up (va_up f 15 (u1 (f 15) (a1 * 5 + a2) a3)) 17 (u1 (f 17) ((a1 * 5 + a2) * 3 + (0 : Int)) a4)) g a1 a2 1 a5 (by omega) (by omega) (by decide) (by omega) (show 0 ≤ a1 ∧ a1 ≤ 3 from by omega) (show 0 ≤ a2 ∧ a2 ≤ 4 from by omega) (show 0 ≤ (1 : Int) ∧ (1 : Int) < 3 from by omega) (show 0 ≤ a5 ∧ a5 ≤ 60 from by omega)) mM_X10_156 mI_X8_setZone mE_X8_setZone mN_X8 mC_X8_setZone (by decide +kernel) 23 (ci := 8) rfl rfl hP hS (fun _ h => h) ⟨Nat.le_of_ble_eq_true rfl, Nat.le_of_ble_eq_true rfl⟩ ⟨Nat.zero_le _, Nat.zero_le _⟩ hl.1 rfl rfl (Nat.le_of_ble_eq_true rfl) dX10_route_98 (fun r_14 v_14 f_14 g_14 H locs hq_14 hP _ hS => ?_)
            obtain ⟨rfl, rfl, rfl, rfl⟩ := hq_14
            show W p l e (gRm 2 46) s m args below meth c _ _ 0 0 Q (F0 m 101 ls [])
            have hP : gWd D (rwT k ad) (va_up v 25 (v 25)) (va_up (va_up f 15 (u1 (f 15) (a1 * 5 + a2) a3)) 17 (u1 (u1 (f 17) ((a1 * 5 + a2) * 3 + (0 : Int)) a4) ((a1 * 5 + a2) * 3 + (1 : Int)) a5)) g H := ⟨hP.1, (gF_up (V := rwV) (F := rwF) (gF_up (V := rwV) (F := rwF) (gR_up (V := rwV) (F := rwF) ⟨hok.1, hok.2⟩ 25 (hP.2.1 25)) 15 (hP.2.2 15)) 17 (hP.2.2 17))⟩
            refine lv_aload_n hx hb dX10_route_101 rfl (lv_at hl 0 rfl) ?_
            refine rwG_wall C hP mF_X10_30 dX10_route_102 ?_
            refine lv_iload_n hx hb dX10_route_105 rfl (lv_at hl 1 rfl) ?_
            refine lv_iload_n hx hb dX10_route_106 rfl (lv_at hl 2 rfl) ?_
            refine lv_iconst (v := iI 2) hx hb dX10_route_107 rfl ?_
            refine lv_iload hx hb dX10_route_108 (lv_at hl 6 rfl) ?_
            refine g_cv (As := [.int (iI a1), .int (iI a2), .int (iI 2), .int (iI a6)]) (rest := []) (n := 4) C hml (c_X8_setZone l D k A ad hD (va_up v 25 (v 25)) (va_up (va_up f 15 (u1 (f 15) (a1 * 5 + a2) a3)) 17 (u1 (u1 (f 17) ((a1 * 5 + a2) * 3 + (0 : Int)) a4) ((a1 * 5 + a2) * 3 + (1 : Int)) a5)) g a1 a2 2 a6 (by omega) (by omega) (by decide) (by omega) (show 0 ≤ a1 ∧ a1 ≤ 3 from by omega) (show 0 ≤ a2 ∧ a2 ≤ 4 from by omega) (show 0 ≤ (2 : Int) ∧ (2 : Int) < 3 from by omega) (show 0 ≤ a6 ∧ a6 ≤ 60 from by omega)) mM_X10_156 mI_X8_setZone mE_X8_setZone mN_X8 mC_X8_setZone (by decide +kernel) 23 (ci := 8) rfl rfl hP hS (fun _ h => h) ⟨Nat.le_of_ble_eq_true rfl, Nat.le_of_ble_eq_true rfl⟩ ⟨Nat.zero_le _, Nat.zero_le _⟩ hl.1 rfl rfl (Nat.le_of_ble_eq_true rfl) dX10_route_110 (fun r_15 v_15 f_15 g_15 H locs hq_15 hP _ hS => ?_)
            obtain ⟨rfl, rfl, rfl, rfl⟩ := hq_15
            show W p l e (gRm 2 46) s m args below meth c _ _ 0 0 Q (F0 m 113 ls [])
            have hP : gWd D (rwT k ad) (va_up v 25 (v 25)) (va_up (va_up f 15 (u1 (f 15) (a1 * 5 + a2) a3)) 17 (u1 (u1 (u1 (f 17) ((a1 * 5 + a2) * 3 + (0 : Int)) a4) ((a1 * 5 + a2) * 3 + (1 : Int)) a5) ((a1 * 5 + a2) * 3 + (2 : Int)) a6)) g H := ⟨hP.1, (gF_up (V := rwV) (F := rwF) (gF_up (V := rwV) (F := rwF) (gR_up (V := rwV) (F := rwF) ⟨hok.1, hok.2⟩ 25 (hP.2.1 25)) 15 (hP.2.2 15)) 17 (hP.2.2 17))⟩
            refine lv_aload_n hx hb dX10_route_113 rfl (lv_at hl 0 rfl) ?_
            refine g_cv (As := []) (rest := []) (n := 0) C hml (c_X10_grant l D k A ad hD (va_up v 25 (v 25)) (va_up (va_up f 15 (u1 (f 15) (a1 * 5 + a2) a3)) 17 (u1 (u1 (u1 (f 17) ((a1 * 5 + a2) * 3 + (0 : Int)) a4) ((a1 * 5 + a2) * 3 + (1 : Int)) a5) ((a1 * 5 + a2) * 3 + (2 : Int)) a6)) g) mM_X10_160 mI_X10_grant mE_X10_grant mN_X10 mC_X10_grant (by decide +kernel) 0 (ci := 10) rfl rfl hP hS (fun _ h => h) ⟨Nat.le_of_ble_eq_true rfl, Nat.le_of_ble_eq_true rfl⟩ ⟨Nat.zero_le _, Nat.zero_le _⟩ hl.1 rfl rfl (Nat.le_of_ble_eq_true rfl) dX10_route_114 (fun r_16 v_16 f_16 g_16 H locs hq_16 hP _ hS => ?_)
            obtain ⟨rfl, rfl, rfl, rfl⟩ := hq_16
            show W p l e (gRm 2 46) s m args below meth c _ _ 0 0 Q (F0 m 117 ls [.int (iI 1)])
            have hP : gWd D (rwT k ad) (va_up v 25 0) (va_up (va_up f 15 (u1 (f 15) (a1 * 5 + a2) a3)) 17 (u1 (u1 (u1 (f 17) ((a1 * 5 + a2) * 3 + (0 : Int)) a4) ((a1 * 5 + a2) * 3 + (1 : Int)) a5) ((a1 * 5 + a2) * 3 + (2 : Int)) a6)) g H := ⟨hP.1, (gF_up (V := rwV) (F := rwF) (gF_up (V := rwV) (F := rwF) (gR_up (V := rwV) (F := rwF) ⟨hok.1, hok.2⟩ 25 (hP.2.1 25)) 15 (hP.2.2 15)) 17 (hP.2.2 17))⟩
            exact g_zret hQ C hr hlocks (by decide) hP hS dX10_route_117 ⟨1, 0, rfl, rfl, (by rw [show ((if (0 : Int) = 0 then u1 (f 15) (a1 * 5 + a2) a3 else (f 15)) : Int → Int) = (u1 (f 15) (a1 * 5 + a2) a3) from by first | rfl | (rw [if_pos (by omega)]; done) | (rw [if_neg (by omega)]; done) | (rw [if_neg (by omega), if_pos (by omega)]; done) | (rw [if_neg (by omega), if_neg (by omega)]; done), show ((if (0 : Int) = 0 then u1 (u1 (u1 (f 17) ((a1 * 5 + a2) * 3 + 0) a4) ((a1 * 5 + a2) * 3 + 1) a5) ((a1 * 5 + a2) * 3 + 2) a6 else (f 17)) : Int → Int) = (u1 (u1 (u1 (f 17) ((a1 * 5 + a2) * 3 + (0 : Int)) a4) ((a1 * 5 + a2) * 3 + (1 : Int)) a5) ((a1 * 5 + a2) * 3 + (2 : Int)) a6) from by first | rfl | (rw [if_pos (by omega)]; done) | (rw [if_neg (by omega)]; done) | (rw [if_neg (by omega), if_pos (by omega)]; done) | (rw [if_neg (by omega), if_neg (by omega)]; done)]), rfl, (by first | omega | ((repeat' split) <;> omega)), (by first | omega | ((repeat' split) <;> omega))⟩
          · refine lv_aload_n hx hb dX10_route_60 rfl (lv_at hl 0 rfl) ?_
            refine lv_bipush (v := iI 10) hx hb dX10_route_61 (by decide) ?_
            refine g_cv (As := [.int (iI 10)]) (rest := []) (n := 1) C hml (c_X10_deny l D k A ad hD (va_up v 25 (v 25)) (va_up (va_up f 15 (f 15)) 17 (f 17)) g 10 (by decide) (show 0 ≤ (10 : Int) ∧ (10 : Int) ≤ 10 from by omega)) mM_X10_140 mI_X10_deny mE_X10_deny mN_X10 mC_X10_deny (by decide +kernel) 0 (ci := 10) rfl rfl hP hS (fun _ h => h) ⟨Nat.le_of_ble_eq_true rfl, Nat.le_of_ble_eq_true rfl⟩ ⟨Nat.zero_le _, Nat.zero_le _⟩ hl.1 rfl rfl (Nat.le_of_ble_eq_true rfl) dX10_route_63 (fun r_17 v_17 f_17 g_17 H locs hq_17 hP _ hS => ?_)
            obtain ⟨rfl, rfl, rfl, rfl⟩ := hq_17
            show W p l e (gRm 2 46) s m args below meth c _ _ 0 0 Q (F0 m 66 ls [.int (iI 0)])
            have hP : gWd D (rwT k ad) (va_up v 25 (10 : Int)) (va_up (va_up f 15 (f 15)) 17 (f 17)) g H := ⟨hP.1, (gF_up (V := rwV) (F := rwF) (gF_up (V := rwV) (F := rwF) (gR_up (V := rwV) (F := rwF) ⟨hok.1, hok.2⟩ 25 (hP.2.1 25)) 15 (hP.2.2 15)) 17 (hP.2.2 17))⟩
            exact g_zret hQ C hr hlocks (by decide) hP hS dX10_route_66 ⟨0, (10 : Int), rfl, rfl, (by rw [show ((if (10 : Int) = 0 then u1 (f 15) (a1 * 5 + a2) a3 else (f 15)) : Int → Int) = (f 15) from by first | rfl | (rw [if_pos (by omega)]; done) | (rw [if_neg (by omega)]; done) | (rw [if_neg (by omega), if_pos (by omega)]; done) | (rw [if_neg (by omega), if_neg (by omega)]; done), show ((if (10 : Int) = 0 then u1 (u1 (u1 (f 17) ((a1 * 5 + a2) * 3 + 0) a4) ((a1 * 5 + a2) * 3 + 1) a5) ((a1 * 5 + a2) * 3 + 2) a6 else (f 17)) : Int → Int) = (f 17) from by first | rfl | (rw [if_pos (by omega)]; done) | (rw [if_neg (by omega)]; done) | (rw [if_neg (by omega), if_pos (by omega)]; done) | (rw [if_neg (by omega), if_neg (by omega)]; done)]), rfl, (by first | omega | ((repeat' split) <;> omega)), (by first | omega | ((repeat' split) <;> omega))⟩
        · have vz_8 := gif0 w_8 c_9
          clear w_8
          refine lv_aload_n hx hb dX10_route_42 rfl (lv_at hl 0 rfl) ?_
          refine lv_iconst (v := iI 2) hx hb dX10_route_43 rfl ?_
          refine g_cv (As := [.int (iI 2)]) (rest := []) (n := 1) C hml (c_X10_deny l D k A ad hD (va_up v 25 (v 25)) (va_up (va_up f 15 (f 15)) 17 (f 17)) g 2 (by decide) (show 0 ≤ (2 : Int) ∧ (2 : Int) ≤ 10 from by omega)) mM_X10_140 mI_X10_deny mE_X10_deny mN_X10 mC_X10_deny (by decide +kernel) 0 (ci := 10) rfl rfl hP hS (fun _ h => h) ⟨Nat.le_of_ble_eq_true rfl, Nat.le_of_ble_eq_true rfl⟩ ⟨Nat.zero_le _, Nat.zero_le _⟩ hl.1 rfl rfl (Nat.le_of_ble_eq_true rfl) dX10_route_44 (fun r_18 v_18 f_18 g_18 H locs hq_18 hP _ hS => ?_)
          obtain ⟨rfl, rfl, rfl, rfl⟩ := hq_18
          show W p l e (gRm 2 46) s m args below meth c _ _ 0 0 Q (F0 m 47 ls [.int (iI 0)])
          have hP : gWd D (rwT k ad) (va_up v 25 (2 : Int)) (va_up (va_up f 15 (f 15)) 17 (f 17)) g H := ⟨hP.1, (gF_up (V := rwV) (F := rwF) (gF_up (V := rwV) (F := rwF) (gR_up (V := rwV) (F := rwF) ⟨hok.1, hok.2⟩ 25 (hP.2.1 25)) 15 (hP.2.2 15)) 17 (hP.2.2 17))⟩
          exact g_zret hQ C hr hlocks (by decide) hP hS dX10_route_47 ⟨0, (2 : Int), rfl, rfl, (by rw [show ((if (2 : Int) = 0 then u1 (f 15) (a1 * 5 + a2) a3 else (f 15)) : Int → Int) = (f 15) from by first | rfl | (rw [if_pos (by omega)]; done) | (rw [if_neg (by omega)]; done) | (rw [if_neg (by omega), if_pos (by omega)]; done) | (rw [if_neg (by omega), if_neg (by omega)]; done), show ((if (2 : Int) = 0 then u1 (u1 (u1 (f 17) ((a1 * 5 + a2) * 3 + 0) a4) ((a1 * 5 + a2) * 3 + 1) a5) ((a1 * 5 + a2) * 3 + 2) a6 else (f 17)) : Int → Int) = (f 17) from by first | rfl | (rw [if_pos (by omega)]; done) | (rw [if_neg (by omega)]; done) | (rw [if_neg (by omega), if_pos (by omega)]; done) | (rw [if_neg (by omega), if_neg (by omega)]; done)]), rfl, (by first | omega | ((repeat' split) <;> omega)), (by first | omega | ((repeat' split) <;> omega))⟩
  · have vz_2 := gif0 w_2 c_3
    clear w_2
    refine lv_aload_n hx hb dX10_route_12 rfl (lv_at hl 0 rfl) ?_
    refine lv_iconst (v := iI 1) hx hb dX10_route_13 rfl ?_
    refine g_cv (As := [.int (iI 1)]) (rest := []) (n := 1) C hml (c_X10_deny l D k A ad hD (va_up v 25 (v 25)) (va_up (va_up f 15 (f 15)) 17 (f 17)) g 1 (by decide) (show 0 ≤ (1 : Int) ∧ (1 : Int) ≤ 10 from by omega)) mM_X10_140 mI_X10_deny mE_X10_deny mN_X10 mC_X10_deny (by decide +kernel) 0 (ci := 10) rfl rfl hP hS (fun _ h => h) ⟨Nat.le_of_ble_eq_true rfl, Nat.le_of_ble_eq_true rfl⟩ ⟨Nat.zero_le _, Nat.zero_le _⟩ hl.1 rfl rfl (Nat.le_of_ble_eq_true rfl) dX10_route_14 (fun r_19 v_19 f_19 g_19 H locs hq_19 hP _ hS => ?_)
    obtain ⟨rfl, rfl, rfl, rfl⟩ := hq_19
    show W p l e (gRm 2 46) s m args below meth c _ _ 0 0 Q (F0 m 17 ls [.int (iI 0)])
    have hP : gWd D (rwT k ad) (va_up v 25 (1 : Int)) (va_up (va_up f 15 (f 15)) 17 (f 17)) g H := ⟨hP.1, (gF_up (V := rwV) (F := rwF) (gF_up (V := rwV) (F := rwF) (gR_up (V := rwV) (F := rwF) ⟨hok.1, hok.2⟩ 25 (hP.2.1 25)) 15 (hP.2.2 15)) 17 (hP.2.2 17))⟩
    exact g_zret hQ C hr hlocks (by decide) hP hS dX10_route_17 ⟨0, (1 : Int), rfl, rfl, (by rw [show ((if (1 : Int) = 0 then u1 (f 15) (a1 * 5 + a2) a3 else (f 15)) : Int → Int) = (f 15) from by first | rfl | (rw [if_pos (by omega)]; done) | (rw [if_neg (by omega)]; done) | (rw [if_neg (by omega), if_pos (by omega)]; done) | (rw [if_neg (by omega), if_neg (by omega)]; done), show ((if (1 : Int) = 0 then u1 (u1 (u1 (f 17) ((a1 * 5 + a2) * 3 + 0) a4) ((a1 * 5 + a2) * 3 + 1) a5) ((a1 * 5 + a2) * 3 + 2) a6 else (f 17)) : Int → Int) = (f 17) from by first | rfl | (rw [if_pos (by omega)]; done) | (rw [if_neg (by omega)]; done) | (rw [if_neg (by omega), if_pos (by omega)]; done) | (rw [if_neg (by omega), if_neg (by omega)]; done)]), rfl, (by first | omega | ((repeat' split) <;> omega)), (by first | omega | ((repeat' split) <;> omega))⟩

set_option maxHeartbeats 4000000 in
set_option maxRecDepth 100000 in
theorem x_Ro_told (l : Launch) (D : va_G) (k : Nat → ClassId) (A : Nat → Prop) (ad : Nat → Nat) (hD : rwD A k ad) (v : gV) (f g : gF) (a1 : Int) (a2 : Int) (a3 : Int) (h_a1 : inR a1) (h_a2 : inR a2) (h_a3 : inR a3) (hs : shOk (v 1) (f 1)) : GM l D k A (rwT k ad) yX10_told cX10_told 5 (some .int) 2 43 [.ref (ad 0), .int (iI a1), .int (iI a2), .int (iI a3)] v f g (fun r v1 f1 g1 => ∃ (z : Int) (w25 : Int), r = some (.int (iI z)) ∧ (va_up v 25 w25) = v1 ∧ f = f1 ∧ g = g1 ∧ (z = (if w25 ≠ 0 then (-1) else if a2 = (-1) then (if a3 = 4 then cn (pIn (f 18) a1) (v 21).toNat else (f 1) (a1 * 4 + a3)) else if a3 = 0 then (f 15) (a1 * 5 + a2) else if a3 = 4 then (f 16) (a1 * 5 + a2) else (f 17) ((a1 * 5 + a2) * 3 + (a3 - 1)))) ∧ ((-1) ≤ z ∧ z ≤ 999999) ∧ (w25 = (if ¬ ((a2 = (-1) ∧ 0 ≤ a1 ∧ a1 < (v 1)) ∨ (a2 ≠ (-1) ∧ ((0 ≤ a1 ∧ a1 < (v 1)) ∧ 0 ≤ a2 ∧ a2 < (f 1) (a1 * 4)))) then 1 else if a3 < 0 ∨ 4 < a3 then 2 else 0))) := by
  refine GM.of (by decide) (Nat.le_of_ble_eq_true rfl) ?_
  intro p e s m args below meth c Q ls hQ C hml hr hlocks hP hl
  have hx := C.1
  have hb := C.2.1
  have hok := hP.2
  have hS : va_S A s.heap s.heap [] := va_S.rf
  have hl : lv_has ls 5 [(0, .ref (ad 0)), (1, .int (iI a1)), (2, .int (iI a2)), (3, .int (iI a3))] := hl
  have hP : gWd D (rwT k ad) (va_up v 25 (v 25)) f g s.heap := by rw [va_id]; exact hP
  have r_1 : 0 ≤ (v 1) ∧ (v 1) ≤ 4 := hok.1 1
  refine lv_iload_n hx hb dX10_told_0 rfl (lv_at hl 2 rfl) ?_
  refine lv_iconst (v := iI (-1)) hx hb dX10_told_1 rfl ?_
  refine gi_cne (tgt := 9) hx hb dX10_told_2 (by decide) (by omega) (by decide) (fun c_2 => ?_) (fun c_2 => ?_)
  · refine lv_iconst (v := iI 0) hx hb dX10_told_9 rfl ?_
    refine lv_istore (lv' := [(4, .int (iI 0)), (0, .ref (ad 0)), (1, .int (iI a1)), (2, .int (iI a2)), (3, .int (iI a3))]) hx hb dX10_told_10 hl (by decide) rfl (fun ls hl => ?_)
    refine lv_iload hx hb dX10_told_12 (lv_at hl 0 rfl) ?_
    refine gi_zeq (tgt := 31) hx hb dX10_told_14 (by decide) (by decide) (fun c_3 => ?_) (fun c_3 => ?_)
    · refine lv_aload_n hx hb dX10_told_31 rfl (lv_at hl 1 rfl) ?_
      refine rwG_laws C hP mF_X10_16 dX10_told_32 ?_
      refine lv_iload_n hx hb dX10_told_35 rfl (lv_at hl 2 rfl) ?_
      refine lv_iload_n hx hb dX10_told_36 rfl (lv_at hl 3 rfl) ?_
      refine g_cv (As := [.int (iI a1), .int (iI a2)]) (rest := []) (n := 2) C hml (c_X4_hasRoute l D k A ad hD (va_up v 25 (v 25)) f g a1 a2 (by omega) (by omega)) mM_X10_136 mI_X4_hasRoute mE_X4_hasRoute mN_X4 mC_X4_hasRoute (by decide +kernel) 2 (ci := 4) rfl rfl hP hS (fun _ h => h) ⟨Nat.le_of_ble_eq_true rfl, Nat.le_of_ble_eq_true rfl⟩ ⟨Nat.zero_le _, Nat.zero_le _⟩ hl.1 rfl rfl (Nat.le_of_ble_eq_true rfl) dX10_told_37 (fun r_4 v_4 f_4 g_4 H locs hq_4 hP _ hS => ?_)
      obtain ⟨z_4, rfl, rfl, rfl, rfl, p0_4⟩ := hq_4
      show W p l e (gRm 2 43) s m args below meth c _ _ 0 0 Q (F0 m 40 ls [.int (iI z_4)])
      replace p0_4 : z_4 = (if (0 ≤ a1 ∧ a1 < (v 1)) ∧ 0 ≤ a2 ∧ a2 < (f 1) (a1 * 4) then 1 else 0) := p0_4
      have w_4 := gif (P := (0 ≤ a1 ∧ a1 < (v 1)) ∧ 0 ≤ a2 ∧ a2 < (f 1) (a1 * 4)) p0_4
      clear p0_4
      have hz_4 : inR z_4 := (by first | omega | (rw [p0_4]; split <;> omega))
      have q_4 : ((0 ≤ a1 ∧ a1 < (v 1)) ∧ 0 ≤ a2 ∧ a2 < (f 1) (a1 * 4)) → a2 ≤ 4 := fun h => shR hs h
      refine gi_zne (tgt := 49) hx hb dX10_told_40 (by decide) (by omega) (fun c_5 => ?_) (fun c_5 => ?_)
      · have vz_4 := gif1 w_4 c_5
        clear w_4
        refine lv_iload_n hx hb dX10_told_49 rfl (lv_at hl 4 rfl) ?_
        refine gi_zlt (tgt := 58) hx hb dX10_told_50 (by decide) (by omega) (fun c_6 => ?_) (fun c_6 => ?_)
        · refine lv_aload_n hx hb dX10_told_58 rfl (lv_at hl 1 rfl) ?_
          refine lv_iconst (v := iI 2) hx hb dX10_told_59 rfl ?_
          refine g_cv (As := [.int (iI 2)]) (rest := []) (n := 1) C hml (c_X10_refuse l D k A ad hD (va_up v 25 (v 25)) f g 2 (by decide) (show 0 ≤ (2 : Int) ∧ (2 : Int) ≤ 10 from by omega)) mM_X10_88 mI_X10_refuse mE_X10_refuse mN_X10 mC_X10_refuse (by decide +kernel) 0 (ci := 10) rfl rfl hP hS (fun _ h => h) ⟨Nat.le_of_ble_eq_true rfl, Nat.le_of_ble_eq_true rfl⟩ ⟨Nat.zero_le _, Nat.zero_le _⟩ hl.1 rfl rfl (Nat.le_of_ble_eq_true rfl) dX10_told_60 (fun r_7 v_7 f_7 g_7 H locs hq_7 hP _ hS => ?_)
          obtain ⟨rfl, rfl, rfl, rfl⟩ := hq_7
          show W p l e (gRm 2 43) s m args below meth c _ _ 0 0 Q (F0 m 63 ls [.int (iI (-1))])
          have hP : gWd D (rwT k ad) (va_up v 25 (2 : Int)) f g H := ⟨hP.1, (gR_up (V := rwV) (F := rwF) ⟨hok.1, hok.2⟩ 25 (hP.2.1 25))⟩
          exact g_iret hQ C hr hlocks hP hS dX10_told_63 ⟨(-1), (2 : Int), rfl, rfl, rfl, rfl, (by first | omega | ((repeat' split) <;> omega)), (by first | omega | ((repeat' split) <;> omega)), (by first | omega | ((repeat' split) <;> omega))⟩
        · refine lv_iload_n hx hb dX10_told_53 rfl (lv_at hl 4 rfl) ?_
          refine lv_iconst (v := iI 4) hx hb dX10_told_54 rfl ?_
          refine gi_cle (tgt := 64) hx hb dX10_told_55 (by decide) (by omega) (by decide) (fun c_8 => ?_) (fun c_8 => ?_)
          · refine lv_iload hx hb dX10_told_64 (lv_at hl 0 rfl) ?_
            refine gi_zeq (tgt := 99) hx hb dX10_told_66 (by decide) (by decide) (fun c_9 => ?_) (fun c_9 => ?_)
            · refine lv_iload_n hx hb dX10_told_99 rfl (lv_at hl 4 rfl) ?_
              refine gi_zne (tgt := 117) hx hb dX10_told_100 (by decide) (by omega) (fun c_10 => ?_) (fun c_10 => ?_)
              · refine lv_aload_n hx hb dX10_told_117 rfl (lv_at hl 1 rfl) ?_
                refine lv_iload_n hx hb dX10_told_118 rfl (lv_at hl 4 rfl) ?_
                refine lv_iconst (v := iI 4) hx hb dX10_told_119 rfl ?_
                refine gi_cne (tgt := 135) hx hb dX10_told_120 (by decide) (by omega) (by decide) (fun c_11 => ?_) (fun c_11 => ?_)
                · refine lv_aload_n hx hb dX10_told_135 rfl (lv_at hl 1 rfl) ?_
                  refine rwG_wall C hP mF_X10_30 dX10_told_136 ?_
                  refine lv_iload_n hx hb dX10_told_139 rfl (lv_at hl 2 rfl) ?_
                  refine lv_iload_n hx hb dX10_told_140 rfl (lv_at hl 3 rfl) ?_
                  refine lv_iload_n hx hb dX10_told_141 rfl (lv_at hl 4 rfl) ?_
                  refine lv_iconst (v := iI 1) hx hb dX10_told_142 rfl ?_
                  refine gi_sub (z := (a3 - 1)) hx hb dX10_told_143 rfl ?_
                  refine g_cv (As := [.int (iI a1), .int (iI a2), .int (iI (a3 - 1))]) (rest := [.ref (ad 0)]) (n := 3) C hml (c_X8_zoneOf l D k A ad hD (va_up v 25 (v 25)) f g a1 a2 (a3 - 1) (by omega) (by omega) (by omega) (show 0 ≤ a1 ∧ a1 ≤ 3 from by omega) (show 0 ≤ a2 ∧ a2 ≤ 4 from by omega) (show 0 ≤ (a3 - 1) ∧ (a3 - 1) < 3 from by omega)) mM_X10_176 mI_X8_zoneOf mE_X8_zoneOf mN_X8 mC_X8_zoneOf (by decide +kernel) 23 (ci := 8) rfl rfl hP hS (fun _ h => h) ⟨Nat.le_of_ble_eq_true rfl, Nat.le_of_ble_eq_true rfl⟩ ⟨Nat.zero_le _, Nat.zero_le _⟩ hl.1 rfl rfl (Nat.le_of_ble_eq_true rfl) dX10_told_144 (fun r_12 v_12 f_12 g_12 H locs hq_12 hP _ hS => ?_)
                  obtain ⟨z_12, rfl, rfl, rfl, rfl, p0_12, p1_12⟩ := hq_12
                  show W p l e (gRm 2 43) s m args below meth c _ _ 0 0 Q (F0 m 147 ls [.int (iI z_12), .ref (ad 0)])
                  replace p0_12 : z_12 = ((f 17) ((a1 * 5 + a2) * 3 + (a3 - 1))) := p0_12
                  replace p1_12 : 0 ≤ z_12 ∧ z_12 ≤ 60 := p1_12
                  have hz_12 : inR z_12 := (by first | omega | (rw [p0_12]; split <;> omega))
                  refine g_cv (As := [.int (iI z_12)]) (rest := []) (n := 1) C hml (c_X10_answer l D k A ad hD (va_up v 25 (v 25)) f g z_12 (by omega)) mM_X10_120 mI_X10_answer mE_X10_answer mN_X10 mC_X10_answer (by decide +kernel) 0 (ci := 10) rfl rfl hP hS (fun _ h => h) ⟨Nat.le_of_ble_eq_true rfl, Nat.le_of_ble_eq_true rfl⟩ ⟨Nat.zero_le _, Nat.zero_le _⟩ hl.1 rfl rfl (Nat.le_of_ble_eq_true rfl) dX10_told_147 (fun r_13 v_13 f_13 g_13 H locs hq_13 hP _ hS => ?_)
                  obtain ⟨z_13, rfl, rfl, rfl, rfl, p0_13⟩ := hq_13
                  show W p l e (gRm 2 43) s m args below meth c _ _ 0 0 Q (F0 m 150 ls [.int (iI z_13)])
                  have hP : gWd D (rwT k ad) (va_up v 25 0) f g H := ⟨hP.1, (gR_up (V := rwV) (F := rwF) ⟨hok.1, hok.2⟩ 25 (hP.2.1 25))⟩
                  replace p0_13 : z_13 = z_12 := p0_13
                  have hz_13 : inR z_13 := (by first | omega | (rw [p0_13]; split <;> omega))
                  exact g_iret hQ C hr hlocks hP hS dX10_told_150 ⟨z_13, 0, rfl, rfl, rfl, rfl, (by first | omega | ((repeat' split) <;> omega)), (by first | omega | ((repeat' split) <;> omega)), (by first | omega | ((repeat' split) <;> omega))⟩
                · refine lv_aload_n hx hb dX10_told_123 rfl (lv_at hl 1 rfl) ?_
                  refine rwG_wall C hP mF_X10_30 dX10_told_124 ?_
                  refine lv_iload_n hx hb dX10_told_127 rfl (lv_at hl 2 rfl) ?_
                  refine lv_iload_n hx hb dX10_told_128 rfl (lv_at hl 3 rfl) ?_
                  refine g_cv (As := [.int (iI a1), .int (iI a2)]) (rest := [.ref (ad 0)]) (n := 2) C hml (c_X8_begunOn l D k A ad hD (va_up v 25 (v 25)) f g a1 a2 (by omega) (by omega) (show 0 ≤ a1 ∧ a1 ≤ 3 from by omega) (show 0 ≤ a2 ∧ a2 ≤ 4 from by omega)) mM_X10_148 mI_X8_begunOn mE_X8_begunOn mN_X8 mC_X8_begunOn (by decide +kernel) 23 (ci := 8) rfl rfl hP hS (fun _ h => h) ⟨Nat.le_of_ble_eq_true rfl, Nat.le_of_ble_eq_true rfl⟩ ⟨Nat.zero_le _, Nat.zero_le _⟩ hl.1 rfl rfl (Nat.le_of_ble_eq_true rfl) dX10_told_129 (fun r_14 v_14 f_14 g_14 H locs hq_14 hP _ hS => ?_)
                  obtain ⟨z_14, rfl, rfl, rfl, rfl, p0_14, p1_14⟩ := hq_14
                  show W p l e (gRm 2 43) s m args below meth c _ _ 0 0 Q (F0 m 132 ls [.int (iI z_14), .ref (ad 0)])
                  replace p0_14 : z_14 = ((f 16) (a1 * 5 + a2)) := p0_14
                  replace p1_14 : 0 ≤ z_14 ∧ z_14 ≤ 300 := p1_14
                  have hz_14 : inR z_14 := (by first | omega | (rw [p0_14]; split <;> omega))
                  refine lv_goto (tgt := 147) hx hb dX10_told_132 (by decide) ?_
                  refine g_cv (As := [.int (iI z_14)]) (rest := []) (n := 1) C hml (c_X10_answer l D k A ad hD (va_up v 25 (v 25)) f g z_14 (by omega)) mM_X10_120 mI_X10_answer mE_X10_answer mN_X10 mC_X10_answer (by decide +kernel) 0 (ci := 10) rfl rfl hP hS (fun _ h => h) ⟨Nat.le_of_ble_eq_true rfl, Nat.le_of_ble_eq_true rfl⟩ ⟨Nat.zero_le _, Nat.zero_le _⟩ hl.1 rfl rfl (Nat.le_of_ble_eq_true rfl) dX10_told_147 (fun r_15 v_15 f_15 g_15 H locs hq_15 hP _ hS => ?_)
                  obtain ⟨z_15, rfl, rfl, rfl, rfl, p0_15⟩ := hq_15
                  show W p l e (gRm 2 43) s m args below meth c _ _ 0 0 Q (F0 m 150 ls [.int (iI z_15)])
                  have hP : gWd D (rwT k ad) (va_up v 25 0) f g H := ⟨hP.1, (gR_up (V := rwV) (F := rwF) ⟨hok.1, hok.2⟩ 25 (hP.2.1 25))⟩
                  replace p0_15 : z_15 = z_14 := p0_15
                  have hz_15 : inR z_15 := (by first | omega | (rw [p0_15]; split <;> omega))
                  exact g_iret hQ C hr hlocks hP hS dX10_told_150 ⟨z_15, 0, rfl, rfl, rfl, rfl, (by first | omega | ((repeat' split) <;> omega)), (by first | omega | ((repeat' split) <;> omega)), (by first | omega | ((repeat' split) <;> omega))⟩
              · refine lv_aload_n hx hb dX10_told_103 rfl (lv_at hl 1 rfl) ?_
                refine lv_aload_n hx hb dX10_told_104 rfl (lv_at hl 1 rfl) ?_
                refine rwG_wall C hP mF_X10_30 dX10_told_105 ?_
                refine lv_iload_n hx hb dX10_told_108 rfl (lv_at hl 2 rfl) ?_
                refine lv_iload_n hx hb dX10_told_109 rfl (lv_at hl 3 rfl) ?_
                refine g_cv (As := [.int (iI a1), .int (iI a2)]) (rest := [.ref (ad 0)]) (n := 2) C hml (c_X8_holdsOf l D k A ad hD (va_up v 25 (v 25)) f g a1 a2 (by omega) (by omega) (show 0 ≤ a1 ∧ a1 ≤ 3 from by omega) (show 0 ≤ a2 ∧ a2 ≤ 4 from by omega)) mM_X10_173 mI_X8_holdsOf mE_X8_holdsOf mN_X8 mC_X8_holdsOf (by decide +kernel) 23 (ci := 8) rfl rfl hP hS (fun _ h => h) ⟨Nat.le_of_ble_eq_true rfl, Nat.le_of_ble_eq_true rfl⟩ ⟨Nat.zero_le _, Nat.zero_le _⟩ hl.1 rfl rfl (Nat.le_of_ble_eq_true rfl) dX10_told_110 (fun r_16 v_16 f_16 g_16 H locs hq_16 hP _ hS => ?_)
                obtain ⟨z_16, rfl, rfl, rfl, rfl, p0_16, p1_16⟩ := hq_16
                show W p l e (gRm 2 43) s m args below meth c _ _ 0 0 Q (F0 m 113 ls [.int (iI z_16), .ref (ad 0)])
                replace p0_16 : z_16 = ((f 15) (a1 * 5 + a2)) := p0_16
                replace p1_16 : 0 ≤ z_16 ∧ z_16 ≤ 60 := p1_16
                have hz_16 : inR z_16 := (by first | omega | (rw [p0_16]; split <;> omega))
                refine g_cv (As := [.int (iI z_16)]) (rest := []) (n := 1) C hml (c_X10_answer l D k A ad hD (va_up v 25 (v 25)) f g z_16 (by omega)) mM_X10_120 mI_X10_answer mE_X10_answer mN_X10 mC_X10_answer (by decide +kernel) 0 (ci := 10) rfl rfl hP hS (fun _ h => h) ⟨Nat.le_of_ble_eq_true rfl, Nat.le_of_ble_eq_true rfl⟩ ⟨Nat.zero_le _, Nat.zero_le _⟩ hl.1 rfl rfl (Nat.le_of_ble_eq_true rfl) dX10_told_113 (fun r_17 v_17 f_17 g_17 H locs hq_17 hP _ hS => ?_)
                obtain ⟨z_17, rfl, rfl, rfl, rfl, p0_17⟩ := hq_17
                show W p l e (gRm 2 43) s m args below meth c _ _ 0 0 Q (F0 m 116 ls [.int (iI z_17)])
                have hP : gWd D (rwT k ad) (va_up v 25 0) f g H := ⟨hP.1, (gR_up (V := rwV) (F := rwF) ⟨hok.1, hok.2⟩ 25 (hP.2.1 25))⟩
                replace p0_17 : z_17 = z_16 := p0_17
                have hz_17 : inR z_17 := (by first | omega | (rw [p0_17]; split <;> omega))
                exact g_iret hQ C hr hlocks hP hS dX10_told_116 ⟨z_17, 0, rfl, rfl, rfl, rfl, (by first | omega | ((repeat' split) <;> omega)), (by first | omega | ((repeat' split) <;> omega)), (by first | omega | ((repeat' split) <;> omega))⟩
            · exfalso; omega
          · refine lv_aload_n hx hb dX10_told_58 rfl (lv_at hl 1 rfl) ?_
            refine lv_iconst (v := iI 2) hx hb dX10_told_59 rfl ?_
            refine g_cv (As := [.int (iI 2)]) (rest := []) (n := 1) C hml (c_X10_refuse l D k A ad hD (va_up v 25 (v 25)) f g 2 (by decide) (show 0 ≤ (2 : Int) ∧ (2 : Int) ≤ 10 from by omega)) mM_X10_88 mI_X10_refuse mE_X10_refuse mN_X10 mC_X10_refuse (by decide +kernel) 0 (ci := 10) rfl rfl hP hS (fun _ h => h) ⟨Nat.le_of_ble_eq_true rfl, Nat.le_of_ble_eq_true rfl⟩ ⟨Nat.zero_le _, Nat.zero_le _⟩ hl.1 rfl rfl (Nat.le_of_ble_eq_true rfl) dX10_told_60 (fun r_18 v_18 f_18 g_18 H locs hq_18 hP _ hS => ?_)
            obtain ⟨rfl, rfl, rfl, rfl⟩ := hq_18
            show W p l e (gRm 2 43) s m args below meth c _ _ 0 0 Q (F0 m 63 ls [.int (iI (-1))])
            have hP : gWd D (rwT k ad) (va_up v 25 (2 : Int)) f g H := ⟨hP.1, (gR_up (V := rwV) (F := rwF) ⟨hok.1, hok.2⟩ 25 (hP.2.1 25))⟩
            exact g_iret hQ C hr hlocks hP hS dX10_told_63 ⟨(-1), (2 : Int), rfl, rfl, rfl, rfl, (by first | omega | ((repeat' split) <;> omega)), (by first | omega | ((repeat' split) <;> omega)), (by first | omega | ((repeat' split) <;> omega))⟩
      · have vz_4 := gif0 w_4 c_5
        clear w_4
        refine lv_aload_n hx hb dX10_told_43 rfl (lv_at hl 1 rfl) ?_
        refine lv_iconst (v := iI 1) hx hb dX10_told_44 rfl ?_
        refine g_cv (As := [.int (iI 1)]) (rest := []) (n := 1) C hml (c_X10_refuse l D k A ad hD (va_up v 25 (v 25)) f g 1 (by decide) (show 0 ≤ (1 : Int) ∧ (1 : Int) ≤ 10 from by omega)) mM_X10_88 mI_X10_refuse mE_X10_refuse mN_X10 mC_X10_refuse (by decide +kernel) 0 (ci := 10) rfl rfl hP hS (fun _ h => h) ⟨Nat.le_of_ble_eq_true rfl, Nat.le_of_ble_eq_true rfl⟩ ⟨Nat.zero_le _, Nat.zero_le _⟩ hl.1 rfl rfl (Nat.le_of_ble_eq_true rfl) dX10_told_45 (fun r_19 v_19 f_19 g_19 H locs hq_19 hP _ hS => ?_)
        obtain ⟨rfl, rfl, rfl, rfl⟩ := hq_19
        show W p l e (gRm 2 43) s m args below meth c _ _ 0 0 Q (F0 m 48 ls [.int (iI (-1))])
        have hP : gWd D (rwT k ad) (va_up v 25 (1 : Int)) f g H := ⟨hP.1, (gR_up (V := rwV) (F := rwF) ⟨hok.1, hok.2⟩ 25 (hP.2.1 25))⟩
        exact g_iret hQ C hr hlocks hP hS dX10_told_48 ⟨(-1), (1 : Int), rfl, rfl, rfl, rfl, (by first | omega | ((repeat' split) <;> omega)), (by first | omega | ((repeat' split) <;> omega)), (by first | omega | ((repeat' split) <;> omega))⟩
    · exfalso; omega
  · refine lv_iconst (v := iI 1) hx hb dX10_told_5 rfl ?_
    refine lv_goto (tgt := 10) hx hb dX10_told_6 (by decide) ?_
    refine lv_istore (lv' := [(4, .int (iI 1)), (0, .ref (ad 0)), (1, .int (iI a1)), (2, .int (iI a2)), (3, .int (iI a3))]) hx hb dX10_told_10 hl (by decide) rfl (fun ls hl => ?_)
    refine lv_iload hx hb dX10_told_12 (lv_at hl 0 rfl) ?_
    refine gi_zeq (tgt := 31) hx hb dX10_told_14 (by decide) (by decide) (fun c_20 => ?_) (fun c_20 => ?_)
    · exfalso; omega
    · refine lv_aload_n hx hb dX10_told_17 rfl (lv_at hl 1 rfl) ?_
      refine rwG_laws C hP mF_X10_16 dX10_told_18 ?_
      refine lv_iload_n hx hb dX10_told_21 rfl (lv_at hl 2 rfl) ?_
      refine g_cv (As := [.int (iI a1)]) (rest := []) (n := 1) C hml (c_X4_hasRound l D k A ad hD (va_up v 25 (v 25)) f g a1 (by omega)) mM_X10_164 mI_X4_hasRound mE_X4_hasRound mN_X4 mC_X4_hasRound (by decide +kernel) 2 (ci := 4) rfl rfl hP hS (fun _ h => h) ⟨Nat.le_of_ble_eq_true rfl, Nat.le_of_ble_eq_true rfl⟩ ⟨Nat.zero_le _, Nat.zero_le _⟩ hl.1 rfl rfl (Nat.le_of_ble_eq_true rfl) dX10_told_22 (fun r_21 v_21 f_21 g_21 H locs hq_21 hP _ hS => ?_)
      obtain ⟨z_21, rfl, rfl, rfl, rfl, p0_21⟩ := hq_21
      show W p l e (gRm 2 43) s m args below meth c _ _ 0 0 Q (F0 m 25 ls [.int (iI z_21)])
      replace p0_21 : z_21 = (if 0 ≤ a1 ∧ a1 < (v 1) then 1 else 0) := p0_21
      have w_21 := gif (P := 0 ≤ a1 ∧ a1 < (v 1)) p0_21
      clear p0_21
      have hz_21 : inR z_21 := (by first | omega | (rw [p0_21]; split <;> omega))
      refine gi_zne (tgt := 49) hx hb dX10_told_25 (by decide) (by omega) (fun c_22 => ?_) (fun c_22 => ?_)
      · have vz_21 := gif1 w_21 c_22
        clear w_21
        refine lv_iload_n hx hb dX10_told_49 rfl (lv_at hl 4 rfl) ?_
        refine gi_zlt (tgt := 58) hx hb dX10_told_50 (by decide) (by omega) (fun c_23 => ?_) (fun c_23 => ?_)
        · refine lv_aload_n hx hb dX10_told_58 rfl (lv_at hl 1 rfl) ?_
          refine lv_iconst (v := iI 2) hx hb dX10_told_59 rfl ?_
          refine g_cv (As := [.int (iI 2)]) (rest := []) (n := 1) C hml (c_X10_refuse l D k A ad hD (va_up v 25 (v 25)) f g 2 (by decide) (show 0 ≤ (2 : Int) ∧ (2 : Int) ≤ 10 from by omega)) mM_X10_88 mI_X10_refuse mE_X10_refuse mN_X10 mC_X10_refuse (by decide +kernel) 0 (ci := 10) rfl rfl hP hS (fun _ h => h) ⟨Nat.le_of_ble_eq_true rfl, Nat.le_of_ble_eq_true rfl⟩ ⟨Nat.zero_le _, Nat.zero_le _⟩ hl.1 rfl rfl (Nat.le_of_ble_eq_true rfl) dX10_told_60 (fun r_24 v_24 f_24 g_24 H locs hq_24 hP _ hS => ?_)
          obtain ⟨rfl, rfl, rfl, rfl⟩ := hq_24
          show W p l e (gRm 2 43) s m args below meth c _ _ 0 0 Q (F0 m 63 ls [.int (iI (-1))])
          have hP : gWd D (rwT k ad) (va_up v 25 (2 : Int)) f g H := ⟨hP.1, (gR_up (V := rwV) (F := rwF) ⟨hok.1, hok.2⟩ 25 (hP.2.1 25))⟩
          exact g_iret hQ C hr hlocks hP hS dX10_told_63 ⟨(-1), (2 : Int), rfl, rfl, rfl, rfl, (by first | omega | ((repeat' split) <;> omega)), (by first | omega | ((repeat' split) <;> omega)), (by first | omega | ((repeat' split) <;> omega))⟩
        · refine lv_iload_n hx hb dX10_told_53 rfl (lv_at hl 4 rfl) ?_
          refine lv_iconst (v := iI 4) hx hb dX10_told_54 rfl ?_
          refine gi_cle (tgt := 64) hx hb dX10_told_55 (by decide) (by omega) (by decide) (fun c_25 => ?_) (fun c_25 => ?_)
          · refine lv_iload hx hb dX10_told_64 (lv_at hl 0 rfl) ?_
            refine gi_zeq (tgt := 99) hx hb dX10_told_66 (by decide) (by decide) (fun c_26 => ?_) (fun c_26 => ?_)
            · exfalso; omega
            · refine lv_aload_n hx hb dX10_told_69 rfl (lv_at hl 1 rfl) ?_
              refine lv_iload_n hx hb dX10_told_70 rfl (lv_at hl 4 rfl) ?_
              refine lv_iconst (v := iI 4) hx hb dX10_told_71 rfl ?_
              refine gi_cne (tgt := 86) hx hb dX10_told_72 (by decide) (by omega) (by decide) (fun c_27 => ?_) (fun c_27 => ?_)
              · refine lv_aload_n hx hb dX10_told_86 rfl (lv_at hl 1 rfl) ?_
                refine rwG_laws C hP mF_X10_16 dX10_told_87 ?_
                refine lv_iload_n hx hb dX10_told_90 rfl (lv_at hl 2 rfl) ?_
                refine lv_iload_n hx hb dX10_told_91 rfl (lv_at hl 4 rfl) ?_
                refine g_cv (As := [.int (iI a1), .int (iI a3)]) (rest := [.ref (ad 0)]) (n := 2) C hml (c_X4_shapeOf l D k A ad hD (va_up v 25 (v 25)) f g a1 a3 (by omega) (by omega)) mM_X10_170 mI_X4_shapeOf mE_X4_shapeOf mN_X4 mC_X4_shapeOf (by decide +kernel) 2 (ci := 4) rfl rfl hP hS (fun _ h => h) ⟨Nat.le_of_ble_eq_true rfl, Nat.le_of_ble_eq_true rfl⟩ ⟨Nat.zero_le _, Nat.zero_le _⟩ hl.1 rfl rfl (Nat.le_of_ble_eq_true rfl) dX10_told_92 (fun r_28 v_28 f_28 g_28 H locs hq_28 hP _ hS => ?_)
                obtain ⟨z_28, rfl, rfl, rfl, rfl, p0_28, p1_28⟩ := hq_28
                show W p l e (gRm 2 43) s m args below meth c _ _ 0 0 Q (F0 m 95 ls [.int (iI z_28), .ref (ad 0)])
                replace p0_28 : z_28 = (if (0 ≤ a1 ∧ a1 < (v 1)) ∧ 0 ≤ a3 ∧ a3 < 4 then (f 1) (a1 * 4 + a3) else 0) := p0_28
                replace p1_28 : 0 ≤ z_28 ∧ z_28 ≤ 999999 := p1_28
                have hz_28 : inR z_28 := (by first | omega | (rw [p0_28]; split <;> omega))
                refine g_cv (As := [.int (iI z_28)]) (rest := []) (n := 1) C hml (c_X10_answer l D k A ad hD (va_up v 25 (v 25)) f g z_28 (by omega)) mM_X10_120 mI_X10_answer mE_X10_answer mN_X10 mC_X10_answer (by decide +kernel) 0 (ci := 10) rfl rfl hP hS (fun _ h => h) ⟨Nat.le_of_ble_eq_true rfl, Nat.le_of_ble_eq_true rfl⟩ ⟨Nat.zero_le _, Nat.zero_le _⟩ hl.1 rfl rfl (Nat.le_of_ble_eq_true rfl) dX10_told_95 (fun r_29 v_29 f_29 g_29 H locs hq_29 hP _ hS => ?_)
                obtain ⟨z_29, rfl, rfl, rfl, rfl, p0_29⟩ := hq_29
                show W p l e (gRm 2 43) s m args below meth c _ _ 0 0 Q (F0 m 98 ls [.int (iI z_29)])
                have hP : gWd D (rwT k ad) (va_up v 25 0) f g H := ⟨hP.1, (gR_up (V := rwV) (F := rwF) ⟨hok.1, hok.2⟩ 25 (hP.2.1 25))⟩
                replace p0_29 : z_29 = z_28 := p0_29
                have hz_29 : inR z_29 := (by first | omega | (rw [p0_29]; split <;> omega))
                exact g_iret hQ C hr hlocks hP hS dX10_told_98 ⟨z_29, 0, rfl, rfl, rfl, rfl, (by first | omega | ((repeat' split) <;> omega)), (by first | omega | ((repeat' split) <;> omega)), (by first | omega | ((repeat' split) <;> omega))⟩
              · refine lv_aload_n hx hb dX10_told_75 rfl (lv_at hl 1 rfl) ?_
                refine rwG_field C hP mF_X10_37 dX10_told_76 ?_
                refine lv_iload_n hx hb dX10_told_79 rfl (lv_at hl 2 rfl) ?_
                refine g_cv (As := [.int (iI a1)]) (rest := [.ref (ad 0)]) (n := 1) C hml (x_Fi_manyIn l D k A ad hD (va_up v 25 (v 25)) f g a1 (by omega)) mM_X10_167 mI_X2_manyIn mE_X2_manyIn mN_X2 mC_X2_manyIn (by decide +kernel) 27 (ci := 2) rfl rfl hP hS (fun _ h => h) ⟨Nat.le_of_ble_eq_true rfl, Nat.le_of_ble_eq_true rfl⟩ ⟨Nat.zero_le _, Nat.zero_le _⟩ hl.1 rfl rfl (Nat.le_of_ble_eq_true rfl) dX10_told_80 (fun r_30 v_30 f_30 g_30 H locs hq_30 hP _ hS => ?_)
                obtain ⟨z_30, rfl, rfl, rfl, rfl, p0_30, p1_30⟩ := hq_30
                show W p l e (gRm 2 43) s m args below meth c _ _ 0 0 Q (F0 m 83 ls [.int (iI z_30), .ref (ad 0)])
                replace p0_30 : z_30 = (cn (pIn (f 18) a1) (v 21).toNat) := p0_30
                replace p1_30 : 0 ≤ z_30 ∧ z_30 ≤ 16 := p1_30
                have hz_30 : inR z_30 := (by first | omega | (rw [p0_30]; split <;> omega))
                refine lv_goto (tgt := 95) hx hb dX10_told_83 (by decide) ?_
                refine g_cv (As := [.int (iI z_30)]) (rest := []) (n := 1) C hml (c_X10_answer l D k A ad hD (va_up v 25 (v 25)) f g z_30 (by omega)) mM_X10_120 mI_X10_answer mE_X10_answer mN_X10 mC_X10_answer (by decide +kernel) 0 (ci := 10) rfl rfl hP hS (fun _ h => h) ⟨Nat.le_of_ble_eq_true rfl, Nat.le_of_ble_eq_true rfl⟩ ⟨Nat.zero_le _, Nat.zero_le _⟩ hl.1 rfl rfl (Nat.le_of_ble_eq_true rfl) dX10_told_95 (fun r_31 v_31 f_31 g_31 H locs hq_31 hP _ hS => ?_)
                obtain ⟨z_31, rfl, rfl, rfl, rfl, p0_31⟩ := hq_31
                show W p l e (gRm 2 43) s m args below meth c _ _ 0 0 Q (F0 m 98 ls [.int (iI z_31)])
                have hP : gWd D (rwT k ad) (va_up v 25 0) f g H := ⟨hP.1, (gR_up (V := rwV) (F := rwF) ⟨hok.1, hok.2⟩ 25 (hP.2.1 25))⟩
                replace p0_31 : z_31 = z_30 := p0_31
                have hz_31 : inR z_31 := (by first | omega | (rw [p0_31]; split <;> omega))
                exact g_iret hQ C hr hlocks hP hS dX10_told_98 ⟨z_31, 0, rfl, rfl, rfl, rfl, (by first | omega | ((repeat' split) <;> omega)), (by first | omega | ((repeat' split) <;> omega)), (by first | omega | ((repeat' split) <;> omega))⟩
          · refine lv_aload_n hx hb dX10_told_58 rfl (lv_at hl 1 rfl) ?_
            refine lv_iconst (v := iI 2) hx hb dX10_told_59 rfl ?_
            refine g_cv (As := [.int (iI 2)]) (rest := []) (n := 1) C hml (c_X10_refuse l D k A ad hD (va_up v 25 (v 25)) f g 2 (by decide) (show 0 ≤ (2 : Int) ∧ (2 : Int) ≤ 10 from by omega)) mM_X10_88 mI_X10_refuse mE_X10_refuse mN_X10 mC_X10_refuse (by decide +kernel) 0 (ci := 10) rfl rfl hP hS (fun _ h => h) ⟨Nat.le_of_ble_eq_true rfl, Nat.le_of_ble_eq_true rfl⟩ ⟨Nat.zero_le _, Nat.zero_le _⟩ hl.1 rfl rfl (Nat.le_of_ble_eq_true rfl) dX10_told_60 (fun r_32 v_32 f_32 g_32 H locs hq_32 hP _ hS => ?_)
            obtain ⟨rfl, rfl, rfl, rfl⟩ := hq_32
            show W p l e (gRm 2 43) s m args below meth c _ _ 0 0 Q (F0 m 63 ls [.int (iI (-1))])
            have hP : gWd D (rwT k ad) (va_up v 25 (2 : Int)) f g H := ⟨hP.1, (gR_up (V := rwV) (F := rwF) ⟨hok.1, hok.2⟩ 25 (hP.2.1 25))⟩
            exact g_iret hQ C hr hlocks hP hS dX10_told_63 ⟨(-1), (2 : Int), rfl, rfl, rfl, rfl, (by first | omega | ((repeat' split) <;> omega)), (by first | omega | ((repeat' split) <;> omega)), (by first | omega | ((repeat' split) <;> omega))⟩
      · have vz_21 := gif0 w_21 c_22
        clear w_21
        refine lv_goto (tgt := 43) hx hb dX10_told_28 (by decide) ?_
        refine lv_aload_n hx hb dX10_told_43 rfl (lv_at hl 1 rfl) ?_
        refine lv_iconst (v := iI 1) hx hb dX10_told_44 rfl ?_
        refine g_cv (As := [.int (iI 1)]) (rest := []) (n := 1) C hml (c_X10_refuse l D k A ad hD (va_up v 25 (v 25)) f g 1 (by decide) (show 0 ≤ (1 : Int) ∧ (1 : Int) ≤ 10 from by omega)) mM_X10_88 mI_X10_refuse mE_X10_refuse mN_X10 mC_X10_refuse (by decide +kernel) 0 (ci := 10) rfl rfl hP hS (fun _ h => h) ⟨Nat.le_of_ble_eq_true rfl, Nat.le_of_ble_eq_true rfl⟩ ⟨Nat.zero_le _, Nat.zero_le _⟩ hl.1 rfl rfl (Nat.le_of_ble_eq_true rfl) dX10_told_45 (fun r_33 v_33 f_33 g_33 H locs hq_33 hP _ hS => ?_)
        obtain ⟨rfl, rfl, rfl, rfl⟩ := hq_33
        show W p l e (gRm 2 43) s m args below meth c _ _ 0 0 Q (F0 m 48 ls [.int (iI (-1))])
        have hP : gWd D (rwT k ad) (va_up v 25 (1 : Int)) f g H := ⟨hP.1, (gR_up (V := rwV) (F := rwF) ⟨hok.1, hok.2⟩ 25 (hP.2.1 25))⟩
        exact g_iret hQ C hr hlocks hP hS dX10_told_48 ⟨(-1), (1 : Int), rfl, rfl, rfl, rfl, (by first | omega | ((repeat' split) <;> omega)), (by first | omega | ((repeat' split) <;> omega)), (by first | omega | ((repeat' split) <;> omega))⟩

set_option maxHeartbeats 4000000 in
set_option maxRecDepth 100000 in
theorem x_Ro_begin (l : Launch) (D : va_G) (k : Nat → ClassId) (A : Nat → Prop) (ad : Nat → Nat) (hD : rwD A k ad) (v : gV) (f g : gF) (a1 : Int) (a2 : Int) (a3 : Int) (h_a1 : inR a1) (h_a2 : inR a2) (h_a3 : inR a3) (hs : shOk (v 1) (f 1)) (hbg : ∀ k, 0 ≤ k → k < 20 → (f 16) k ≤ (v 23)) (hO : OI (v 23) (f 20) (f 26) (f 27)) : GM l D k A (rwT k ad) yX10_begin cX10_begin 5 (some .int) 5 118 [.ref (ad 0), .int (iI a1), .int (iI a2), .int (iI a3)] v f g (fun r v1 f1 g1 => ∃ (z : Int) (w25 : Int), r = some (.int (iI z)) ∧ (va_up (va_up (va_up v 23 (if w25 = 0 then (v 23) + 1 else (v 23))) 25 w25) 26 (if w25 = 1 ∨ w25 = 2 ∨ w25 = 9 then (v 26) else a3)) = v1 ∧ (va_up (va_up (va_up (va_up (va_up (va_up (va_up (va_up (va_up f 16 (if w25 = 0 then u1 (f 16) ((v 22) * 5 + a2) ((f 16) ((v 22) * 5 + a2) + 1) else (f 16))) 20 (if w25 = 0 then u1 (f 20) (v 23) a1 else (f 20))) 21 (if w25 = 0 then u1 (f 21) (v 23) (v 22) else (f 21))) 22 (if w25 = 0 then u1 (f 22) (v 23) a2 else (f 22))) 23 (if w25 = 0 then u1 (f 23) (v 23) a3 else (f 23))) 24 (if w25 = 1 ∨ w25 = 2 ∨ w25 = 9 then (f 24) else if w25 = 0 then u1 (ovE (v 23) a3 (f 26) (f 23) (fun _ => (shF (v 1) (f 1) (v 22) 2)) (f 24)) (v 23) (-1) else (ovE (v 23) a3 (f 26) (f 23) (fun _ => (shF (v 1) (f 1) (v 22) 2)) (f 24)))) 25 (if w25 = 0 then u1 (f 25) (v 23) 0 else (f 25))) 26 (if w25 = 1 ∨ w25 = 2 ∨ w25 = 9 then (f 26) else if w25 = 0 then u1 (ovH (v 23) a3 (f 26) (f 23) (fun _ => (shF (v 1) (f 1) (v 22) 2))) (v 23) 0 else (ovH (v 23) a3 (f 26) (f 23) (fun _ => (shF (v 1) (f 1) (v 22) 2))))) 27 (if w25 = 1 ∨ w25 = 2 ∨ w25 = 9 then (f 27) else if w25 = 0 then u1 (ovO a3 (f 23) (fun _ => (shF (v 1) (f 1) (v 22) 2)) (f 27)) a1 ((v 23) + 1) else (ovO a3 (f 23) (fun _ => (shF (v 1) (f 1) (v 22) 2)) (f 27)))) = f1 ∧ g = g1 ∧ (z = (if w25 = 0 then (v 23) else (-1))) ∧ (w25 = (if ¬ ((0 ≤ a1 ∧ a1 < (v 21)) ∧ ((0 ≤ (v 22) ∧ (v 22) < (v 1)) ∧ 0 ≤ a2 ∧ a2 < (f 1) ((v 22) * 4))) then 1 else if (if a3 < 0 ∨ 1000000 < a3 then (2 : Int) else if a3 < (v 26) then 9 else 0) ≠ 0 then (if a3 < 0 ∨ 1000000 < a3 then (2 : Int) else if a3 < (v 26) then 9 else 0) else (if ¬ ((0 ≤ a1 ∧ a1 < (v 21)) ∧ (v 22) ≤ (f 18) a1) then 4 else if (ovO a3 (f 23) (fun _ => (shF (v 1) (f 1) (v 22) 2)) (f 27)) a1 ≠ 0 then 5 else if 1 ≤ cn (pTo (f 20) (f 21) (f 22) (ovH (v 23) a3 (f 26) (f 23) (fun _ => (shF (v 1) (f 1) (v 22) 2))) a1 (v 22) a2) (v 23).toNat ∨ shF (v 1) (f 1) (v 22) 1 ≤ cn (pDo (f 20) (f 21) (f 22) (ovH (v 23) a3 (f 26) (f 23) (fun _ => (shF (v 1) (f 1) (v 22) 2))) a1 (v 22) a2) (v 23).toNat then 6 else if 300 ≤ (v 23) then 3 else if 1 ≤ cn (pSe (f 20) (f 21) (f 22) (f 23) (ovE (v 23) a3 (f 26) (f 23) (fun _ => (shF (v 1) (f 1) (v 22) 2)) (f 24)) (f 32) (f 33) (f 31) a3 a1 (v 22) a2) (v 23).toNat then 7 else if a3 < rsF (mxE (f 20) (f 21) (ovE (v 23) a3 (f 26) (f 23) (fun _ => (shF (v 1) (f 1) (v 22) 2)) (f 24)) a1 (v 22) (v 23).toNat) (shF (v 1) (f 1) (v 22) 3) then 8 else 0))) ∧ (∀ k, 0 ≤ k → k < 20 → (if w25 = 0 then u1 (f 16) ((v 22) * 5 + a2) ((f 16) ((v 22) * 5 + a2) + 1) else (f 16)) k ≤ (if w25 = 0 then (v 23) + 1 else (v 23)))) := by
  refine GM.of (by decide) (Nat.le_of_ble_eq_true rfl) ?_
  intro p e s m args below meth c Q ls hQ C hml hr hlocks hP hl
  have hx := C.1
  have hb := C.2.1
  have hok := hP.2
  have hS : va_S A s.heap s.heap [] := va_S.rf
  have hl : lv_has ls 5 [(0, .ref (ad 0)), (1, .int (iI a1)), (2, .int (iI a2)), (3, .int (iI a3))] := hl
  have hP : gWd D (rwT k ad) (va_up (va_up (va_up v 23 (v 23)) 25 (v 25)) 26 (v 26)) (va_up (va_up (va_up (va_up (va_up (va_up (va_up (va_up (va_up f 16 (f 16)) 20 (f 20)) 21 (f 21)) 22 (f 22)) 23 (f 23)) 24 (f 24)) 25 (f 25)) 26 (f 26)) 27 (f 27)) g s.heap := by rw [va_id, va_id, va_id, va_id, va_id, va_id, va_id, va_id, va_id, va_id, va_id, va_id]; exact hP
  have hwr : ∀ k, 0 ≤ (f 20) k ∧ (f 20) k ≤ 15 := fun k => hok.2 20 k
  have r_1 : 0 ≤ (v 1) ∧ (v 1) ≤ 4 := hok.1 1
  have r_2 : 0 ≤ (v 21) ∧ (v 21) ≤ 16 := hok.1 21
  have r_3 : 0 ≤ (v 22) ∧ (v 22) ≤ 3 := hok.1 22
  have r_4 : 0 ≤ (v 23) ∧ (v 23) ≤ 300 := hok.1 23
  refine lv_iconst (v := iI 1) hx hb dX10_begin_0 rfl ?_
  refine lv_istore (lv' := [(4, .int (iI 1)), (0, .ref (ad 0)), (1, .int (iI a1)), (2, .int (iI a2)), (3, .int (iI a3))]) hx hb dX10_begin_1 hl (by decide) rfl (fun ls hl => ?_)
  refine lv_aload_n hx hb dX10_begin_3 rfl (lv_at hl 1 rfl) ?_
  refine rwG_field C hP mF_X10_37 dX10_begin_4 ?_
  refine lv_iload_n hx hb dX10_begin_7 rfl (lv_at hl 2 rfl) ?_
  refine g_cv (As := [.int (iI a1)]) (rest := []) (n := 1) C hml (c_X2_knows l D k A ad hD (va_up (va_up (va_up v 23 (v 23)) 25 (v 25)) 26 (v 26)) (va_up (va_up (va_up (va_up (va_up (va_up (va_up (va_up (va_up f 16 (f 16)) 20 (f 20)) 21 (f 21)) 22 (f 22)) 23 (f 23)) 24 (f 24)) 25 (f 25)) 26 (f 26)) 27 (f 27)) g a1 (by omega)) mM_X10_180 mI_X2_knows mE_X2_knows mN_X2 mC_X2_knows (by decide +kernel) 27 (ci := 2) rfl rfl hP hS (fun _ h => h) ⟨Nat.le_of_ble_eq_true rfl, Nat.le_of_ble_eq_true rfl⟩ ⟨Nat.zero_le _, Nat.zero_le _⟩ hl.1 rfl rfl (Nat.le_of_ble_eq_true rfl) dX10_begin_8 (fun r_5 v_5 f_5 g_5 H locs hq_5 hP _ hS => ?_)
  obtain ⟨z_5, rfl, rfl, rfl, rfl, p0_5⟩ := hq_5
  show W p l e (gRm 5 118) s m args below meth c _ _ 0 0 Q (F0 m 11 ls [.int (iI z_5)])
  replace p0_5 : z_5 = (if 0 ≤ a1 ∧ a1 < (v 21) then 1 else 0) := p0_5
  have w_5 := gif (P := 0 ≤ a1 ∧ a1 < (v 21)) p0_5
  clear p0_5
  have hz_5 : inR z_5 := (by first | omega | (rw [p0_5]; split <;> omega))
  refine gi_zeq (tgt := 39) hx hb dX10_begin_11 (by decide) (by omega) (fun c_6 => ?_) (fun c_6 => ?_)
  · have vz_5 := gif0 w_5 c_6
    clear w_5
    refine lv_iload hx hb dX10_begin_39 (lv_at hl 0 rfl) ?_
    refine gi_zne (tgt := 52) hx hb dX10_begin_41 (by decide) (by decide) (fun c_7 => ?_) (fun c_7 => ?_)
    · refine lv_iload hx hb dX10_begin_52 (lv_at hl 0 rfl) ?_
      refine gi_zeq (tgt := 64) hx hb dX10_begin_54 (by decide) (by decide) (fun c_8 => ?_) (fun c_8 => ?_)
      · exfalso; omega
      · refine lv_aload_n hx hb dX10_begin_57 rfl (lv_at hl 1 rfl) ?_
        refine lv_iload hx hb dX10_begin_58 (lv_at hl 0 rfl) ?_
        refine g_cv (As := [.int (iI 1)]) (rest := []) (n := 1) C hml (c_X10_refuse l D k A ad hD (va_up (va_up (va_up v 23 (v 23)) 25 (v 25)) 26 (v 26)) (va_up (va_up (va_up (va_up (va_up (va_up (va_up (va_up (va_up f 16 (f 16)) 20 (f 20)) 21 (f 21)) 22 (f 22)) 23 (f 23)) 24 (f 24)) 25 (f 25)) 26 (f 26)) 27 (f 27)) g 1 (by decide) (show 0 ≤ (1 : Int) ∧ (1 : Int) ≤ 10 from by omega)) mM_X10_88 mI_X10_refuse mE_X10_refuse mN_X10 mC_X10_refuse (by decide +kernel) 0 (ci := 10) rfl rfl hP hS (fun _ h => h) ⟨Nat.le_of_ble_eq_true rfl, Nat.le_of_ble_eq_true rfl⟩ ⟨Nat.zero_le _, Nat.zero_le _⟩ hl.1 rfl rfl (Nat.le_of_ble_eq_true rfl) dX10_begin_60 (fun r_9 v_9 f_9 g_9 H locs hq_9 hP _ hS => ?_)
        obtain ⟨rfl, rfl, rfl, rfl⟩ := hq_9
        show W p l e (gRm 5 118) s m args below meth c _ _ 0 0 Q (F0 m 63 ls [.int (iI (-1))])
        have hP : gWd D (rwT k ad) (va_up (va_up (va_up v 23 (v 23)) 25 (1 : Int)) 26 (v 26)) (va_up (va_up (va_up (va_up (va_up (va_up (va_up (va_up (va_up f 16 (f 16)) 20 (f 20)) 21 (f 21)) 22 (f 22)) 23 (f 23)) 24 (f 24)) 25 (f 25)) 26 (f 26)) 27 (f 27)) g H := ⟨hP.1, (gF_up (V := rwV) (F := rwF) (gF_up (V := rwV) (F := rwF) (gF_up (V := rwV) (F := rwF) (gF_up (V := rwV) (F := rwF) (gF_up (V := rwV) (F := rwF) (gF_up (V := rwV) (F := rwF) (gF_up (V := rwV) (F := rwF) (gF_up (V := rwV) (F := rwF) (gF_up (V := rwV) (F := rwF) (gR_up (V := rwV) (F := rwF) (gR_up (V := rwV) (F := rwF) (gR_up (V := rwV) (F := rwF) ⟨hok.1, hok.2⟩ 23 (hP.2.1 23)) 25 (hP.2.1 25)) 26 (hP.2.1 26)) 16 (hP.2.2 16)) 20 (hP.2.2 20)) 21 (hP.2.2 21)) 22 (hP.2.2 22)) 23 (hP.2.2 23)) 24 (hP.2.2 24)) 25 (hP.2.2 25)) 26 (hP.2.2 26)) 27 (hP.2.2 27))⟩
        exact g_iret hQ C hr hlocks hP hS dX10_begin_63 ⟨(-1), (1 : Int), rfl, (by rw [show ((if (1 : Int) = 0 then (v 23) + 1 else (v 23)) : Int) = (v 23) from by first | rfl | omega | ((repeat' split) <;> omega), show ((if (1 : Int) = 1 ∨ (1 : Int) = 2 ∨ (1 : Int) = 9 then (v 26) else a3) : Int) = (v 26) from by first | rfl | omega | ((repeat' split) <;> omega)]), (by rw [show ((if (1 : Int) = 0 then u1 (f 16) ((v 22) * 5 + a2) ((f 16) ((v 22) * 5 + a2) + 1) else (f 16)) : Int → Int) = (f 16) from by first | rfl | (rw [if_pos (by omega)]; done) | (rw [if_neg (by omega)]; done) | (rw [if_neg (by omega), if_pos (by omega)]; done) | (rw [if_neg (by omega), if_neg (by omega)]; done), show ((if (1 : Int) = 0 then u1 (f 20) (v 23) a1 else (f 20)) : Int → Int) = (f 20) from by first | rfl | (rw [if_pos (by omega)]; done) | (rw [if_neg (by omega)]; done) | (rw [if_neg (by omega), if_pos (by omega)]; done) | (rw [if_neg (by omega), if_neg (by omega)]; done), show ((if (1 : Int) = 0 then u1 (f 21) (v 23) (v 22) else (f 21)) : Int → Int) = (f 21) from by first | rfl | (rw [if_pos (by omega)]; done) | (rw [if_neg (by omega)]; done) | (rw [if_neg (by omega), if_pos (by omega)]; done) | (rw [if_neg (by omega), if_neg (by omega)]; done), show ((if (1 : Int) = 0 then u1 (f 22) (v 23) a2 else (f 22)) : Int → Int) = (f 22) from by first | rfl | (rw [if_pos (by omega)]; done) | (rw [if_neg (by omega)]; done) | (rw [if_neg (by omega), if_pos (by omega)]; done) | (rw [if_neg (by omega), if_neg (by omega)]; done), show ((if (1 : Int) = 0 then u1 (f 23) (v 23) a3 else (f 23)) : Int → Int) = (f 23) from by first | rfl | (rw [if_pos (by omega)]; done) | (rw [if_neg (by omega)]; done) | (rw [if_neg (by omega), if_pos (by omega)]; done) | (rw [if_neg (by omega), if_neg (by omega)]; done), show ((if (1 : Int) = 1 ∨ (1 : Int) = 2 ∨ (1 : Int) = 9 then (f 24) else if (1 : Int) = 0 then u1 (ovE (v 23) a3 (f 26) (f 23) (fun _ => (shF (v 1) (f 1) (v 22) 2)) (f 24)) (v 23) (-1) else (ovE (v 23) a3 (f 26) (f 23) (fun _ => (shF (v 1) (f 1) (v 22) 2)) (f 24))) : Int → Int) = (f 24) from by first | rfl | (rw [if_pos (by omega)]; done) | (rw [if_neg (by omega)]; done) | (rw [if_neg (by omega), if_pos (by omega)]; done) | (rw [if_neg (by omega), if_neg (by omega)]; done), show ((if (1 : Int) = 0 then u1 (f 25) (v 23) 0 else (f 25)) : Int → Int) = (f 25) from by first | rfl | (rw [if_pos (by omega)]; done) | (rw [if_neg (by omega)]; done) | (rw [if_neg (by omega), if_pos (by omega)]; done) | (rw [if_neg (by omega), if_neg (by omega)]; done), show ((if (1 : Int) = 1 ∨ (1 : Int) = 2 ∨ (1 : Int) = 9 then (f 26) else if (1 : Int) = 0 then u1 (ovH (v 23) a3 (f 26) (f 23) (fun _ => (shF (v 1) (f 1) (v 22) 2))) (v 23) 0 else (ovH (v 23) a3 (f 26) (f 23) (fun _ => (shF (v 1) (f 1) (v 22) 2)))) : Int → Int) = (f 26) from by first | rfl | (rw [if_pos (by omega)]; done) | (rw [if_neg (by omega)]; done) | (rw [if_neg (by omega), if_pos (by omega)]; done) | (rw [if_neg (by omega), if_neg (by omega)]; done), show ((if (1 : Int) = 1 ∨ (1 : Int) = 2 ∨ (1 : Int) = 9 then (f 27) else if (1 : Int) = 0 then u1 (ovO a3 (f 23) (fun _ => (shF (v 1) (f 1) (v 22) 2)) (f 27)) a1 ((v 23) + 1) else (ovO a3 (f 23) (fun _ => (shF (v 1) (f 1) (v 22) 2)) (f 27))) : Int → Int) = (f 27) from by first | rfl | (rw [if_pos (by omega)]; done) | (rw [if_neg (by omega)]; done) | (rw [if_neg (by omega), if_pos (by omega)]; done) | (rw [if_neg (by omega), if_neg (by omega)]; done)]), rfl, (by first | omega | ((repeat' split) <;> omega)), (by first | (rw [if_pos (by omega)]) | (rw [if_neg (by omega), if_pos (by omega)]; exact hpz) | (rw [if_neg (by omega), if_neg (by omega)]; have h9 := hwy.get; rw [← h9] <;> omega)), (by first | exact hbg | (rw [if_neg (by omega), if_neg (by omega)]; exact hbg) | exact cntUp hbg (hbg _ (by omega) (by omega)))⟩
    · exfalso; omega
  · have vz_5 := gif1 w_5 c_6
    clear w_5
    refine lv_aload_n hx hb dX10_begin_14 rfl (lv_at hl 1 rfl) ?_
    refine rwG_laws C hP mF_X10_16 dX10_begin_15 ?_
    refine lv_aload_n hx hb dX10_begin_18 rfl (lv_at hl 1 rfl) ?_
    refine rwG_field C hP mF_X10_37 dX10_begin_19 ?_
    refine rwG_field_open C hP mF_X10_129 dX10_begin_22 ?_
    show W p l e (gRm 5 118) s m args below meth c _ _ 0 0 Q (F0 m 25 ls [.int (iI (v 22)), .ref (ad 2)])
    refine lv_iload_n hx hb dX10_begin_25 rfl (lv_at hl 3 rfl) ?_
    refine g_cv (As := [.int (iI (v 22)), .int (iI a2)]) (rest := []) (n := 2) C hml (c_X4_hasRoute l D k A ad hD (va_up (va_up (va_up v 23 (v 23)) 25 (v 25)) 26 (v 26)) (va_up (va_up (va_up (va_up (va_up (va_up (va_up (va_up (va_up f 16 (f 16)) 20 (f 20)) 21 (f 21)) 22 (f 22)) 23 (f 23)) 24 (f 24)) 25 (f 25)) 26 (f 26)) 27 (f 27)) g (v 22) a2 (by omega) (by omega)) mM_X10_136 mI_X4_hasRoute mE_X4_hasRoute mN_X4 mC_X4_hasRoute (by decide +kernel) 2 (ci := 4) rfl rfl hP hS (fun _ h => h) ⟨Nat.le_of_ble_eq_true rfl, Nat.le_of_ble_eq_true rfl⟩ ⟨Nat.zero_le _, Nat.zero_le _⟩ hl.1 rfl rfl (Nat.le_of_ble_eq_true rfl) dX10_begin_26 (fun r_10 v_10 f_10 g_10 H locs hq_10 hP _ hS => ?_)
    obtain ⟨z_10, rfl, rfl, rfl, rfl, p0_10⟩ := hq_10
    show W p l e (gRm 5 118) s m args below meth c _ _ 0 0 Q (F0 m 29 ls [.int (iI z_10)])
    replace p0_10 : z_10 = (if (0 ≤ (v 22) ∧ (v 22) < (v 1)) ∧ 0 ≤ a2 ∧ a2 < (f 1) ((v 22) * 4) then 1 else 0) := p0_10
    have w_10 := gif (P := (0 ≤ (v 22) ∧ (v 22) < (v 1)) ∧ 0 ≤ a2 ∧ a2 < (f 1) ((v 22) * 4)) p0_10
    clear p0_10
    have hz_10 : inR z_10 := (by first | omega | (rw [p0_10]; split <;> omega))
    have q_10 : ((0 ≤ (v 22) ∧ (v 22) < (v 1)) ∧ 0 ≤ a2 ∧ a2 < (f 1) ((v 22) * 4)) → a2 ≤ 4 := fun h => shR hs h
    refine gi_zeq (tgt := 39) hx hb dX10_begin_29 (by decide) (by omega) (fun c_11 => ?_) (fun c_11 => ?_)
    · have vz_10 := gif0 w_10 c_11
      clear w_10
      refine lv_iload hx hb dX10_begin_39 (lv_at hl 0 rfl) ?_
      refine gi_zne (tgt := 52) hx hb dX10_begin_41 (by decide) (by decide) (fun c_12 => ?_) (fun c_12 => ?_)
      · refine lv_iload hx hb dX10_begin_52 (lv_at hl 0 rfl) ?_
        refine gi_zeq (tgt := 64) hx hb dX10_begin_54 (by decide) (by decide) (fun c_13 => ?_) (fun c_13 => ?_)
        · exfalso; omega
        · refine lv_aload_n hx hb dX10_begin_57 rfl (lv_at hl 1 rfl) ?_
          refine lv_iload hx hb dX10_begin_58 (lv_at hl 0 rfl) ?_
          refine g_cv (As := [.int (iI 1)]) (rest := []) (n := 1) C hml (c_X10_refuse l D k A ad hD (va_up (va_up (va_up v 23 (v 23)) 25 (v 25)) 26 (v 26)) (va_up (va_up (va_up (va_up (va_up (va_up (va_up (va_up (va_up f 16 (f 16)) 20 (f 20)) 21 (f 21)) 22 (f 22)) 23 (f 23)) 24 (f 24)) 25 (f 25)) 26 (f 26)) 27 (f 27)) g 1 (by decide) (show 0 ≤ (1 : Int) ∧ (1 : Int) ≤ 10 from by omega)) mM_X10_88 mI_X10_refuse mE_X10_refuse mN_X10 mC_X10_refuse (by decide +kernel) 0 (ci := 10) rfl rfl hP hS (fun _ h => h) ⟨Nat.le_of_ble_eq_true rfl, Nat.le_of_ble_eq_true rfl⟩ ⟨Nat.zero_le _, Nat.zero_le _⟩ hl.1 rfl rfl (Nat.le_of_ble_eq_true rfl) dX10_begin_60 (fun r_14 v_14 f_14 g_14 H locs hq_14 hP _ hS => ?_)
          obtain ⟨rfl, rfl, rfl, rfl⟩ := hq_14
          show W p l e (gRm 5 118) s m args below meth c _ _ 0 0 Q (F0 m 63 ls [.int (iI (-1))])
          have hP : gWd D (rwT k ad) (va_up (va_up (va_up v 23 (v 23)) 25 (1 : Int)) 26 (v 26)) (va_up (va_up (va_up (va_up (va_up (va_up (va_up (va_up (va_up f 16 (f 16)) 20 (f 20)) 21 (f 21)) 22 (f 22)) 23 (f 23)) 24 (f 24)) 25 (f 25)) 26 (f 26)) 27 (f 27)) g H := ⟨hP.1, (gF_up (V := rwV) (F := rwF) (gF_up (V := rwV) (F := rwF) (gF_up (V := rwV) (F := rwF) (gF_up (V := rwV) (F := rwF) (gF_up (V := rwV) (F := rwF) (gF_up (V := rwV) (F := rwF) (gF_up (V := rwV) (F := rwF) (gF_up (V := rwV) (F := rwF) (gF_up (V := rwV) (F := rwF) (gR_up (V := rwV) (F := rwF) (gR_up (V := rwV) (F := rwF) (gR_up (V := rwV) (F := rwF) ⟨hok.1, hok.2⟩ 23 (hP.2.1 23)) 25 (hP.2.1 25)) 26 (hP.2.1 26)) 16 (hP.2.2 16)) 20 (hP.2.2 20)) 21 (hP.2.2 21)) 22 (hP.2.2 22)) 23 (hP.2.2 23)) 24 (hP.2.2 24)) 25 (hP.2.2 25)) 26 (hP.2.2 26)) 27 (hP.2.2 27))⟩
          exact g_iret hQ C hr hlocks hP hS dX10_begin_63 ⟨(-1), (1 : Int), rfl, (by rw [show ((if (1 : Int) = 0 then (v 23) + 1 else (v 23)) : Int) = (v 23) from by first | rfl | omega | ((repeat' split) <;> omega), show ((if (1 : Int) = 1 ∨ (1 : Int) = 2 ∨ (1 : Int) = 9 then (v 26) else a3) : Int) = (v 26) from by first | rfl | omega | ((repeat' split) <;> omega)]), (by rw [show ((if (1 : Int) = 0 then u1 (f 16) ((v 22) * 5 + a2) ((f 16) ((v 22) * 5 + a2) + 1) else (f 16)) : Int → Int) = (f 16) from by first | rfl | (rw [if_pos (by omega)]; done) | (rw [if_neg (by omega)]; done) | (rw [if_neg (by omega), if_pos (by omega)]; done) | (rw [if_neg (by omega), if_neg (by omega)]; done), show ((if (1 : Int) = 0 then u1 (f 20) (v 23) a1 else (f 20)) : Int → Int) = (f 20) from by first | rfl | (rw [if_pos (by omega)]; done) | (rw [if_neg (by omega)]; done) | (rw [if_neg (by omega), if_pos (by omega)]; done) | (rw [if_neg (by omega), if_neg (by omega)]; done), show ((if (1 : Int) = 0 then u1 (f 21) (v 23) (v 22) else (f 21)) : Int → Int) = (f 21) from by first | rfl | (rw [if_pos (by omega)]; done) | (rw [if_neg (by omega)]; done) | (rw [if_neg (by omega), if_pos (by omega)]; done) | (rw [if_neg (by omega), if_neg (by omega)]; done), show ((if (1 : Int) = 0 then u1 (f 22) (v 23) a2 else (f 22)) : Int → Int) = (f 22) from by first | rfl | (rw [if_pos (by omega)]; done) | (rw [if_neg (by omega)]; done) | (rw [if_neg (by omega), if_pos (by omega)]; done) | (rw [if_neg (by omega), if_neg (by omega)]; done), show ((if (1 : Int) = 0 then u1 (f 23) (v 23) a3 else (f 23)) : Int → Int) = (f 23) from by first | rfl | (rw [if_pos (by omega)]; done) | (rw [if_neg (by omega)]; done) | (rw [if_neg (by omega), if_pos (by omega)]; done) | (rw [if_neg (by omega), if_neg (by omega)]; done), show ((if (1 : Int) = 1 ∨ (1 : Int) = 2 ∨ (1 : Int) = 9 then (f 24) else if (1 : Int) = 0 then u1 (ovE (v 23) a3 (f 26) (f 23) (fun _ => (shF (v 1) (f 1) (v 22) 2)) (f 24)) (v 23) (-1) else (ovE (v 23) a3 (f 26) (f 23) (fun _ => (shF (v 1) (f 1) (v 22) 2)) (f 24))) : Int → Int) = (f 24) from by first | rfl | (rw [if_pos (by omega)]; done) | (rw [if_neg (by omega)]; done) | (rw [if_neg (by omega), if_pos (by omega)]; done) | (rw [if_neg (by omega), if_neg (by omega)]; done), show ((if (1 : Int) = 0 then u1 (f 25) (v 23) 0 else (f 25)) : Int → Int) = (f 25) from by first | rfl | (rw [if_pos (by omega)]; done) | (rw [if_neg (by omega)]; done) | (rw [if_neg (by omega), if_pos (by omega)]; done) | (rw [if_neg (by omega), if_neg (by omega)]; done), show ((if (1 : Int) = 1 ∨ (1 : Int) = 2 ∨ (1 : Int) = 9 then (f 26) else if (1 : Int) = 0 then u1 (ovH (v 23) a3 (f 26) (f 23) (fun _ => (shF (v 1) (f 1) (v 22) 2))) (v 23) 0 else (ovH (v 23) a3 (f 26) (f 23) (fun _ => (shF (v 1) (f 1) (v 22) 2)))) : Int → Int) = (f 26) from by first | rfl | (rw [if_pos (by omega)]; done) | (rw [if_neg (by omega)]; done) | (rw [if_neg (by omega), if_pos (by omega)]; done) | (rw [if_neg (by omega), if_neg (by omega)]; done), show ((if (1 : Int) = 1 ∨ (1 : Int) = 2 ∨ (1 : Int) = 9 then (f 27) else if (1 : Int) = 0 then u1 (ovO a3 (f 23) (fun _ => (shF (v 1) (f 1) (v 22) 2)) (f 27)) a1 ((v 23) + 1) else (ovO a3 (f 23) (fun _ => (shF (v 1) (f 1) (v 22) 2)) (f 27))) : Int → Int) = (f 27) from by first | rfl | (rw [if_pos (by omega)]; done) | (rw [if_neg (by omega)]; done) | (rw [if_neg (by omega), if_pos (by omega)]; done) | (rw [if_neg (by omega), if_neg (by omega)]; done)]), rfl, (by first | omega | ((repeat' split) <;> omega)), (by first | (rw [if_pos (by omega)]) | (rw [if_neg (by omega), if_pos (by omega)]; exact hpz) | (rw [if_neg (by omega), if_neg (by omega)]; have h9 := hwy.get; rw [← h9] <;> omega)), (by first | exact hbg | (rw [if_neg (by omega), if_neg (by omega)]; exact hbg) | exact cntUp hbg (hbg _ (by omega) (by omega)))⟩
      · exfalso; omega
    · have vz_10 := gif1 w_10 c_11
      clear w_10
      refine lv_aload_n hx hb dX10_begin_32 rfl (lv_at hl 1 rfl) ?_
      refine lv_iload_n hx hb dX10_begin_33 rfl (lv_at hl 4 rfl) ?_
      refine g_cv (As := [.int (iI a3)]) (rest := []) (n := 1) C hml (x_Ro_passTo l D k A ad hD (va_up (va_up (va_up v 23 (v 23)) 25 (v 25)) 26 (v 26)) (va_up (va_up (va_up (va_up (va_up (va_up (va_up (va_up (va_up f 16 (f 16)) 20 (f 20)) 21 (f 21)) 22 (f 22)) 23 (f 23)) 24 (f 24)) 25 (f 25)) 26 (f 26)) 27 (f 27)) g a3 (by omega) (show shOk (v 1) (f 1) from hs) (show OI (v 23) (f 20) (f 26) (f 27) from hO)) mM_X10_183 mI_X10_passTo mE_X10_passTo mN_X10 mC_X10_passTo (by decide +kernel) 0 (ci := 10) rfl rfl hP hS (fun _ h => h) ⟨Nat.le_of_ble_eq_true rfl, Nat.le_of_ble_eq_true rfl⟩ ⟨Nat.zero_le _, Nat.zero_le _⟩ hl.1 rfl rfl (Nat.le_of_ble_eq_true rfl) dX10_begin_34 (fun r_15 v_15 f_15 g_15 H locs hq_15 hP _ hS => ?_)
      obtain ⟨z_15, rfl, rfl, rfl, rfl, p0_15⟩ := hq_15
      show W p l e (gRm 5 118) s m args below meth c _ _ 0 0 Q (F0 m 37 ls [.int (iI z_15)])
      have hP : gWd D (rwT k ad) (va_up (va_up (va_up v 23 (v 23)) 25 (v 25)) 26 (if z_15 = 0 then a3 else (v 26))) (va_up (va_up (va_up (va_up (va_up (va_up (va_up (va_up (va_up f 16 (f 16)) 20 (f 20)) 21 (f 21)) 22 (f 22)) 23 (f 23)) 24 (if z_15 = 0 then (ovE (v 23) a3 (f 26) (f 23) (fun _ => (shF (v 1) (f 1) (v 22) 2)) (f 24)) else (f 24))) 25 (f 25)) 26 (if z_15 = 0 then (ovH (v 23) a3 (f 26) (f 23) (fun _ => (shF (v 1) (f 1) (v 22) 2))) else (f 26))) 27 (if z_15 = 0 then (ovO a3 (f 23) (fun _ => (shF (v 1) (f 1) (v 22) 2)) (f 27)) else (f 27))) g H := ⟨hP.1, (gF_up (V := rwV) (F := rwF) (gF_up (V := rwV) (F := rwF) (gF_up (V := rwV) (F := rwF) (gF_up (V := rwV) (F := rwF) (gF_up (V := rwV) (F := rwF) (gF_up (V := rwV) (F := rwF) (gF_up (V := rwV) (F := rwF) (gF_up (V := rwV) (F := rwF) (gF_up (V := rwV) (F := rwF) (gR_up (V := rwV) (F := rwF) (gR_up (V := rwV) (F := rwF) (gR_up (V := rwV) (F := rwF) ⟨hok.1, hok.2⟩ 23 (hP.2.1 23)) 25 (hP.2.1 25)) 26 (hP.2.1 26)) 16 (hP.2.2 16)) 20 (hP.2.2 20)) 21 (hP.2.2 21)) 22 (hP.2.2 22)) 23 (hP.2.2 23)) 24 (hP.2.2 24)) 25 (hP.2.2 25)) 26 (hP.2.2 26)) 27 (hP.2.2 27))⟩
      replace p0_15 : z_15 = (if a3 < 0 ∨ 1000000 < a3 then (2 : Int) else if a3 < (v 26) then 9 else 0) := p0_15
      have hz_15 : inR z_15 := (by first | omega | (rw [p0_15]; split <;> omega))
      have hpz := p0_15
      clear p0_15
      rcases (show z_15 = 0 ∨ z_15 ≠ 0 by omega) with hzp | hzp
      · replace hP : gWd D (rwT k ad) (va_up (va_up (va_up v 23 (v 23)) 25 (v 25)) 26 a3) (va_up (va_up (va_up (va_up (va_up (va_up (va_up (va_up (va_up f 16 (f 16)) 20 (f 20)) 21 (f 21)) 22 (f 22)) 23 (f 23)) 24 (ovE (v 23) a3 (f 26) (f 23) (fun _ => (shF (v 1) (f 1) (v 22) 2)) (f 24))) 25 (f 25)) 26 (ovH (v 23) a3 (f 26) (f 23) (fun _ => (shF (v 1) (f 1) (v 22) 2)))) 27 (ovO a3 (f 23) (fun _ => (shF (v 1) (f 1) (v 22) 2)) (f 27))) g H := by have h9 := hP; simp only [if_pos hzp] at h9; exact h9
        have hO2 : OI (v 23) (f 20) (ovH (v 23) a3 (f 26) (f 23) (fun _ => (shF (v 1) (f 1) (v 22) 2))) (ovO a3 (f 23) (fun _ => (shF (v 1) (f 1) (v 22) 2)) (f 27)) := OI_ov hO hwr
        refine lv_istore (lv' := [(4, .int (iI z_15)), (0, .ref (ad 0)), (1, .int (iI a1)), (2, .int (iI a2)), (3, .int (iI a3))]) hx hb dX10_begin_37 hl (by decide) rfl (fun ls hl => ?_)
        refine lv_iload hx hb dX10_begin_39 (lv_at hl 0 rfl) ?_
        refine gi_zne (tgt := 52) hx hb dX10_begin_41 (by decide) (by omega) (fun c_16 => ?_) (fun c_16 => ?_)
        · exfalso; omega
        · refine lv_aload_n hx hb dX10_begin_44 rfl (lv_at hl 1 rfl) ?_
          refine lv_iload_n hx hb dX10_begin_45 rfl (lv_at hl 2 rfl) ?_
          refine lv_iload_n hx hb dX10_begin_46 rfl (lv_at hl 3 rfl) ?_
          refine g_cv (As := [.int (iI a1), .int (iI a2)]) (rest := []) (n := 2) C hml (x_Ro_whyNotBegin l D k A ad hD (va_up (va_up (va_up v 23 (v 23)) 25 (v 25)) 26 a3) (va_up (va_up (va_up (va_up (va_up (va_up (va_up (va_up (va_up f 16 (f 16)) 20 (f 20)) 21 (f 21)) 22 (f 22)) 23 (f 23)) 24 (ovE (v 23) a3 (f 26) (f 23) (fun _ => (shF (v 1) (f 1) (v 22) 2)) (f 24))) 25 (f 25)) 26 (ovH (v 23) a3 (f 26) (f 23) (fun _ => (shF (v 1) (f 1) (v 22) 2)))) 27 (ovO a3 (f 23) (fun _ => (shF (v 1) (f 1) (v 22) 2)) (f 27))) g a1 a2 (by omega) (by omega) (show shOk (v 1) (f 1) from hs) (show 0 ≤ a1 ∧ a1 ≤ 15 from by omega)) mM_X10_186 mI_X10_whyNotBegin mE_X10_whyNotBegin mN_X10 mC_X10_whyNotBegin (by decide +kernel) 0 (ci := 10) rfl rfl hP hS (fun _ h => h) ⟨Nat.le_of_ble_eq_true rfl, Nat.le_of_ble_eq_true rfl⟩ ⟨Nat.zero_le _, Nat.zero_le _⟩ hl.1 rfl rfl (Nat.le_of_ble_eq_true rfl) dX10_begin_47 (fun r_17 v_17 f_17 g_17 H locs hq_17 hP _ hS => ?_)
          obtain ⟨z_17, rfl, rfl, rfl, rfl, p0_17, p1_17, p2_17⟩ := hq_17
          show W p l e (gRm 5 118) s m args below meth c _ _ 0 0 Q (F0 m 50 ls [.int (iI z_17)])
          replace p0_17 : z_17 = (if ¬ ((0 ≤ a1 ∧ a1 < (v 21)) ∧ (v 22) ≤ (f 18) a1) then 4 else if (ovO a3 (f 23) (fun _ => (shF (v 1) (f 1) (v 22) 2)) (f 27)) a1 ≠ 0 then 5 else if 1 ≤ cn (pTo (f 20) (f 21) (f 22) (ovH (v 23) a3 (f 26) (f 23) (fun _ => (shF (v 1) (f 1) (v 22) 2))) a1 (v 22) a2) (v 23).toNat ∨ shF (v 1) (f 1) (v 22) 1 ≤ cn (pDo (f 20) (f 21) (f 22) (ovH (v 23) a3 (f 26) (f 23) (fun _ => (shF (v 1) (f 1) (v 22) 2))) a1 (v 22) a2) (v 23).toNat then 6 else if 300 ≤ (v 23) then 3 else if 1 ≤ cn (pSe (f 20) (f 21) (f 22) (f 23) (ovE (v 23) a3 (f 26) (f 23) (fun _ => (shF (v 1) (f 1) (v 22) 2)) (f 24)) (f 32) (f 33) (f 31) a3 a1 (v 22) a2) (v 23).toNat then 7 else if a3 < rsF (mxE (f 20) (f 21) (ovE (v 23) a3 (f 26) (f 23) (fun _ => (shF (v 1) (f 1) (v 22) 2)) (f 24)) a1 (v 22) (v 23).toNat) (shF (v 1) (f 1) (v 22) 3) then 8 else 0) := p0_17
          replace p1_17 : (0 ≤ z_17 ∧ z_17 ≤ 8) ∧ z_17 ≠ 1 ∧ z_17 ≠ 2 := p1_17
          replace p2_17 : z_17 = 0 → (v 23) < 300 := p2_17
          have hz_17 : inR z_17 := (by first | omega | (rw [p0_17]; split <;> omega))
          have hwy := Bx.mk p0_17
          clear p0_17
          have hwr1 := p1_17
          refine lv_istore (lv' := [(4, .int (iI z_17)), (0, .ref (ad 0)), (1, .int (iI a1)), (2, .int (iI a2)), (3, .int (iI a3))]) hx hb dX10_begin_50 hl (by decide) rfl (fun ls hl => ?_)
          refine lv_iload hx hb dX10_begin_52 (lv_at hl 0 rfl) ?_
          refine gi_zeq (tgt := 64) hx hb dX10_begin_54 (by decide) (by omega) (fun c_18 => ?_) (fun c_18 => ?_)
          · refine lv_aload_n hx hb dX10_begin_64 rfl (lv_at hl 1 rfl) ?_
            refine rwG_wall C hP mF_X10_30 dX10_begin_65 ?_
            refine lv_aload_n hx hb dX10_begin_68 rfl (lv_at hl 1 rfl) ?_
            refine rwG_field C hP mF_X10_37 dX10_begin_69 ?_
            refine rwG_field_open C hP mF_X10_129 dX10_begin_72 ?_
            show W p l e (gRm 5 118) s m args below meth c _ _ 0 0 Q (F0 m 75 ls [.int (iI (v 22)), .ref (ad 23)])
            refine lv_iload_n hx hb dX10_begin_75 rfl (lv_at hl 3 rfl) ?_
            refine g_cv (As := [.int (iI (v 22)), .int (iI a2)]) (rest := []) (n := 2) C hml (c_X8_countBegun l D k A ad hD (va_up (va_up (va_up v 23 (v 23)) 25 (v 25)) 26 a3) (va_up (va_up (va_up (va_up (va_up (va_up (va_up (va_up (va_up f 16 (f 16)) 20 (f 20)) 21 (f 21)) 22 (f 22)) 23 (f 23)) 24 (ovE (v 23) a3 (f 26) (f 23) (fun _ => (shF (v 1) (f 1) (v 22) 2)) (f 24))) 25 (f 25)) 26 (ovH (v 23) a3 (f 26) (f 23) (fun _ => (shF (v 1) (f 1) (v 22) 2)))) 27 (ovO a3 (f 23) (fun _ => (shF (v 1) (f 1) (v 22) 2)) (f 27))) g (v 22) a2 (by omega) (by omega) (show 0 ≤ (v 22) ∧ (v 22) ≤ 3 from by omega) (show 0 ≤ a2 ∧ a2 ≤ 4 from by omega) (show (f 16) ((v 22) * 5 + a2) < 300 from by have := hbg ((v 22) * 5 + a2) (by omega) (by omega); omega)) mM_X10_189 mI_X8_countBegun mE_X8_countBegun mN_X8 mC_X8_countBegun (by decide +kernel) 23 (ci := 8) rfl rfl hP hS (fun _ h => h) ⟨Nat.le_of_ble_eq_true rfl, Nat.le_of_ble_eq_true rfl⟩ ⟨Nat.zero_le _, Nat.zero_le _⟩ hl.1 rfl rfl (Nat.le_of_ble_eq_true rfl) dX10_begin_76 (fun r_19 v_19 f_19 g_19 H locs hq_19 hP _ hS => ?_)
            obtain ⟨rfl, rfl, rfl, rfl⟩ := hq_19
            show W p l e (gRm 5 118) s m args below meth c _ _ 0 0 Q (F0 m 79 ls [])
            have hP : gWd D (rwT k ad) (va_up (va_up (va_up v 23 (v 23)) 25 (v 25)) 26 a3) (va_up (va_up (va_up (va_up (va_up (va_up (va_up (va_up (va_up f 16 (u1 (f 16) ((v 22) * 5 + a2) ((f 16) ((v 22) * 5 + a2) + 1))) 20 (f 20)) 21 (f 21)) 22 (f 22)) 23 (f 23)) 24 (ovE (v 23) a3 (f 26) (f 23) (fun _ => (shF (v 1) (f 1) (v 22) 2)) (f 24))) 25 (f 25)) 26 (ovH (v 23) a3 (f 26) (f 23) (fun _ => (shF (v 1) (f 1) (v 22) 2)))) 27 (ovO a3 (f 23) (fun _ => (shF (v 1) (f 1) (v 22) 2)) (f 27))) g H := ⟨hP.1, (gF_up (V := rwV) (F := rwF) (gF_up (V := rwV) (F := rwF) (gF_up (V := rwV) (F := rwF) (gF_up (V := rwV) (F := rwF) (gF_up (V := rwV) (F := rwF) (gF_up (V := rwV) (F := rwF) (gF_up (V := rwV) (F := rwF) (gF_up (V := rwV) (F := rwF) (gF_up (V := rwV) (F := rwF) (gR_up (V := rwV) (F := rwF) (gR_up (V := rwV) (F := rwF) (gR_up (V := rwV) (F := rwF) ⟨hok.1, hok.2⟩ 23 (hP.2.1 23)) 25 (hP.2.1 25)) 26 (hP.2.1 26)) 16 (hP.2.2 16)) 20 (hP.2.2 20)) 21 (hP.2.2 21)) 22 (hP.2.2 22)) 23 (hP.2.2 23)) 24 (hP.2.2 24)) 25 (hP.2.2 25)) 26 (hP.2.2 26)) 27 (hP.2.2 27))⟩
            refine lv_aload_n hx hb dX10_begin_79 rfl (lv_at hl 1 rfl) ?_
            refine lv_aload_n hx hb dX10_begin_80 rfl (lv_at hl 1 rfl) ?_
            refine rwG_tries C hP mF_X10_44 dX10_begin_81 ?_
            refine lv_iload_n hx hb dX10_begin_84 rfl (lv_at hl 2 rfl) ?_
            refine lv_aload_n hx hb dX10_begin_85 rfl (lv_at hl 1 rfl) ?_
            refine rwG_field C hP mF_X10_37 dX10_begin_86 ?_
            refine rwG_field_open C hP mF_X10_129 dX10_begin_89 ?_
            show W p l e (gRm 5 118) s m args below meth c _ _ 0 0 Q (F0 m 92 ls [.int (iI (v 22)), .int (iI a1), .ref (ad 30), .ref (ad 0)])
            refine lv_iload_n hx hb dX10_begin_92 rfl (lv_at hl 3 rfl) ?_
            refine lv_aload_n hx hb dX10_begin_93 rfl (lv_at hl 1 rfl) ?_
            refine rwG_time C hP mF_X10_114 dX10_begin_94 ?_
            show W p l e (gRm 5 118) s m args below meth c _ _ 0 0 Q (F0 m 97 ls [.int (iI a3), .int (iI a2), .int (iI (v 22)), .int (iI a1), .ref (ad 30), .ref (ad 0)])
            have r_20 : 0 ≤ a3 ∧ a3 ≤ 1000000 := hP.2.1 26
            refine g_cv (As := [.int (iI a1), .int (iI (v 22)), .int (iI a2), .int (iI a3)]) (rest := [.ref (ad 0)]) (n := 4) C hml (c_X7_start l D k A ad hD (va_up (va_up (va_up v 23 (v 23)) 25 (v 25)) 26 a3) (va_up (va_up (va_up (va_up (va_up (va_up (va_up (va_up (va_up f 16 (u1 (f 16) ((v 22) * 5 + a2) ((f 16) ((v 22) * 5 + a2) + 1))) 20 (f 20)) 21 (f 21)) 22 (f 22)) 23 (f 23)) 24 (ovE (v 23) a3 (f 26) (f 23) (fun _ => (shF (v 1) (f 1) (v 22) 2)) (f 24))) 25 (f 25)) 26 (ovH (v 23) a3 (f 26) (f 23) (fun _ => (shF (v 1) (f 1) (v 22) 2)))) 27 (ovO a3 (f 23) (fun _ => (shF (v 1) (f 1) (v 22) 2)) (f 27))) g a1 (v 22) a2 a3 (by omega) (by omega) (by omega) (by omega) (show (v 23) < 300 from by omega) (show 0 ≤ a1 ∧ a1 ≤ 15 from by omega) (show 0 ≤ (v 22) ∧ (v 22) ≤ 3 from by omega) (show 0 ≤ a2 ∧ a2 ≤ 4 from by omega) (show 0 ≤ a3 ∧ a3 ≤ 1000000 from by omega)) mM_X10_193 mI_X7_start mE_X7_start mN_X7 mC_X7_start (by decide +kernel) 30 (ci := 7) rfl rfl hP hS (fun _ h => h) ⟨Nat.le_of_ble_eq_true rfl, Nat.le_of_ble_eq_true rfl⟩ ⟨Nat.zero_le _, Nat.zero_le _⟩ hl.1 rfl rfl (Nat.le_of_ble_eq_true rfl) dX10_begin_97 (fun r_21 v_21 f_21 g_21 H locs hq_21 hP _ hS => ?_)
            obtain ⟨z_21, rfl, rfl, rfl, rfl, p0_21⟩ := hq_21
            show W p l e (gRm 5 118) s m args below meth c _ _ 0 0 Q (F0 m 100 ls [.int (iI z_21), .ref (ad 0)])
            have hP : gWd D (rwT k ad) (va_up (va_up (va_up v 23 ((v 23) + 1)) 25 (v 25)) 26 a3) (va_up (va_up (va_up (va_up (va_up (va_up (va_up (va_up (va_up f 16 (u1 (f 16) ((v 22) * 5 + a2) ((f 16) ((v 22) * 5 + a2) + 1))) 20 (u1 (f 20) (v 23) a1)) 21 (u1 (f 21) (v 23) (v 22))) 22 (u1 (f 22) (v 23) a2)) 23 (u1 (f 23) (v 23) a3)) 24 (u1 (ovE (v 23) a3 (f 26) (f 23) (fun _ => (shF (v 1) (f 1) (v 22) 2)) (f 24)) (v 23) (-1))) 25 (u1 (f 25) (v 23) 0)) 26 (u1 (ovH (v 23) a3 (f 26) (f 23) (fun _ => (shF (v 1) (f 1) (v 22) 2))) (v 23) 0)) 27 (u1 (ovO a3 (f 23) (fun _ => (shF (v 1) (f 1) (v 22) 2)) (f 27)) a1 ((v 23) + 1))) g H := ⟨hP.1, (gF_up (V := rwV) (F := rwF) (gF_up (V := rwV) (F := rwF) (gF_up (V := rwV) (F := rwF) (gF_up (V := rwV) (F := rwF) (gF_up (V := rwV) (F := rwF) (gF_up (V := rwV) (F := rwF) (gF_up (V := rwV) (F := rwF) (gF_up (V := rwV) (F := rwF) (gF_up (V := rwV) (F := rwF) (gR_up (V := rwV) (F := rwF) (gR_up (V := rwV) (F := rwF) (gR_up (V := rwV) (F := rwF) ⟨hok.1, hok.2⟩ 23 (hP.2.1 23)) 25 (hP.2.1 25)) 26 (hP.2.1 26)) 16 (hP.2.2 16)) 20 (hP.2.2 20)) 21 (hP.2.2 21)) 22 (hP.2.2 22)) 23 (hP.2.2 23)) 24 (hP.2.2 24)) 25 (hP.2.2 25)) 26 (hP.2.2 26)) 27 (hP.2.2 27))⟩
            replace p0_21 : z_21 = (v 23) := p0_21
            have hz_21 : inR z_21 := (by first | omega | (rw [p0_21]; split <;> omega))
            refine g_cv (As := [.int (iI z_21)]) (rest := []) (n := 1) C hml (c_X10_answer l D k A ad hD (va_up (va_up (va_up v 23 ((v 23) + 1)) 25 (v 25)) 26 a3) (va_up (va_up (va_up (va_up (va_up (va_up (va_up (va_up (va_up f 16 (u1 (f 16) ((v 22) * 5 + a2) ((f 16) ((v 22) * 5 + a2) + 1))) 20 (u1 (f 20) (v 23) a1)) 21 (u1 (f 21) (v 23) (v 22))) 22 (u1 (f 22) (v 23) a2)) 23 (u1 (f 23) (v 23) a3)) 24 (u1 (ovE (v 23) a3 (f 26) (f 23) (fun _ => (shF (v 1) (f 1) (v 22) 2)) (f 24)) (v 23) (-1))) 25 (u1 (f 25) (v 23) 0)) 26 (u1 (ovH (v 23) a3 (f 26) (f 23) (fun _ => (shF (v 1) (f 1) (v 22) 2))) (v 23) 0)) 27 (u1 (ovO a3 (f 23) (fun _ => (shF (v 1) (f 1) (v 22) 2)) (f 27)) a1 ((v 23) + 1))) g z_21 (by omega)) mM_X10_120 mI_X10_answer mE_X10_answer mN_X10 mC_X10_answer (by decide +kernel) 0 (ci := 10) rfl rfl hP hS (fun _ h => h) ⟨Nat.le_of_ble_eq_true rfl, Nat.le_of_ble_eq_true rfl⟩ ⟨Nat.zero_le _, Nat.zero_le _⟩ hl.1 rfl rfl (Nat.le_of_ble_eq_true rfl) dX10_begin_100 (fun r_22 v_22 f_22 g_22 H locs hq_22 hP _ hS => ?_)
            obtain ⟨z_22, rfl, rfl, rfl, rfl, p0_22⟩ := hq_22
            show W p l e (gRm 5 118) s m args below meth c _ _ 0 0 Q (F0 m 103 ls [.int (iI z_22)])
            have hP : gWd D (rwT k ad) (va_up (va_up (va_up v 23 ((v 23) + 1)) 25 0) 26 a3) (va_up (va_up (va_up (va_up (va_up (va_up (va_up (va_up (va_up f 16 (u1 (f 16) ((v 22) * 5 + a2) ((f 16) ((v 22) * 5 + a2) + 1))) 20 (u1 (f 20) (v 23) a1)) 21 (u1 (f 21) (v 23) (v 22))) 22 (u1 (f 22) (v 23) a2)) 23 (u1 (f 23) (v 23) a3)) 24 (u1 (ovE (v 23) a3 (f 26) (f 23) (fun _ => (shF (v 1) (f 1) (v 22) 2)) (f 24)) (v 23) (-1))) 25 (u1 (f 25) (v 23) 0)) 26 (u1 (ovH (v 23) a3 (f 26) (f 23) (fun _ => (shF (v 1) (f 1) (v 22) 2))) (v 23) 0)) 27 (u1 (ovO a3 (f 23) (fun _ => (shF (v 1) (f 1) (v 22) 2)) (f 27)) a1 ((v 23) + 1))) g H := ⟨hP.1, (gF_up (V := rwV) (F := rwF) (gF_up (V := rwV) (F := rwF) (gF_up (V := rwV) (F := rwF) (gF_up (V := rwV) (F := rwF) (gF_up (V := rwV) (F := rwF) (gF_up (V := rwV) (F := rwF) (gF_up (V := rwV) (F := rwF) (gF_up (V := rwV) (F := rwF) (gF_up (V := rwV) (F := rwF) (gR_up (V := rwV) (F := rwF) (gR_up (V := rwV) (F := rwF) (gR_up (V := rwV) (F := rwF) ⟨hok.1, hok.2⟩ 23 (hP.2.1 23)) 25 (hP.2.1 25)) 26 (hP.2.1 26)) 16 (hP.2.2 16)) 20 (hP.2.2 20)) 21 (hP.2.2 21)) 22 (hP.2.2 22)) 23 (hP.2.2 23)) 24 (hP.2.2 24)) 25 (hP.2.2 25)) 26 (hP.2.2 26)) 27 (hP.2.2 27))⟩
            replace p0_22 : z_22 = z_21 := p0_22
            have hz_22 : inR z_22 := (by first | omega | (rw [p0_22]; split <;> omega))
            exact g_iret hQ C hr hlocks hP hS dX10_begin_103 ⟨z_22, 0, rfl, (by rw [show ((if (0 : Int) = 0 then (v 23) + 1 else (v 23)) : Int) = ((v 23) + 1) from by first | rfl | omega | ((repeat' split) <;> omega), show ((if (0 : Int) = 1 ∨ (0 : Int) = 2 ∨ (0 : Int) = 9 then (v 26) else a3) : Int) = a3 from by first | rfl | omega | ((repeat' split) <;> omega)]), (by rw [show ((if (0 : Int) = 0 then u1 (f 16) ((v 22) * 5 + a2) ((f 16) ((v 22) * 5 + a2) + 1) else (f 16)) : Int → Int) = (u1 (f 16) ((v 22) * 5 + a2) ((f 16) ((v 22) * 5 + a2) + 1)) from by first | rfl | (rw [if_pos (by omega)]; done) | (rw [if_neg (by omega)]; done) | (rw [if_neg (by omega), if_pos (by omega)]; done) | (rw [if_neg (by omega), if_neg (by omega)]; done), show ((if (0 : Int) = 0 then u1 (f 20) (v 23) a1 else (f 20)) : Int → Int) = (u1 (f 20) (v 23) a1) from by first | rfl | (rw [if_pos (by omega)]; done) | (rw [if_neg (by omega)]; done) | (rw [if_neg (by omega), if_pos (by omega)]; done) | (rw [if_neg (by omega), if_neg (by omega)]; done), show ((if (0 : Int) = 0 then u1 (f 21) (v 23) (v 22) else (f 21)) : Int → Int) = (u1 (f 21) (v 23) (v 22)) from by first | rfl | (rw [if_pos (by omega)]; done) | (rw [if_neg (by omega)]; done) | (rw [if_neg (by omega), if_pos (by omega)]; done) | (rw [if_neg (by omega), if_neg (by omega)]; done), show ((if (0 : Int) = 0 then u1 (f 22) (v 23) a2 else (f 22)) : Int → Int) = (u1 (f 22) (v 23) a2) from by first | rfl | (rw [if_pos (by omega)]; done) | (rw [if_neg (by omega)]; done) | (rw [if_neg (by omega), if_pos (by omega)]; done) | (rw [if_neg (by omega), if_neg (by omega)]; done), show ((if (0 : Int) = 0 then u1 (f 23) (v 23) a3 else (f 23)) : Int → Int) = (u1 (f 23) (v 23) a3) from by first | rfl | (rw [if_pos (by omega)]; done) | (rw [if_neg (by omega)]; done) | (rw [if_neg (by omega), if_pos (by omega)]; done) | (rw [if_neg (by omega), if_neg (by omega)]; done), show ((if (0 : Int) = 1 ∨ (0 : Int) = 2 ∨ (0 : Int) = 9 then (f 24) else if (0 : Int) = 0 then u1 (ovE (v 23) a3 (f 26) (f 23) (fun _ => (shF (v 1) (f 1) (v 22) 2)) (f 24)) (v 23) (-1) else (ovE (v 23) a3 (f 26) (f 23) (fun _ => (shF (v 1) (f 1) (v 22) 2)) (f 24))) : Int → Int) = (u1 (ovE (v 23) a3 (f 26) (f 23) (fun _ => (shF (v 1) (f 1) (v 22) 2)) (f 24)) (v 23) (-1)) from by first | rfl | (rw [if_pos (by omega)]; done) | (rw [if_neg (by omega)]; done) | (rw [if_neg (by omega), if_pos (by omega)]; done) | (rw [if_neg (by omega), if_neg (by omega)]; done), show ((if (0 : Int) = 0 then u1 (f 25) (v 23) 0 else (f 25)) : Int → Int) = (u1 (f 25) (v 23) 0) from by first | rfl | (rw [if_pos (by omega)]; done) | (rw [if_neg (by omega)]; done) | (rw [if_neg (by omega), if_pos (by omega)]; done) | (rw [if_neg (by omega), if_neg (by omega)]; done), show ((if (0 : Int) = 1 ∨ (0 : Int) = 2 ∨ (0 : Int) = 9 then (f 26) else if (0 : Int) = 0 then u1 (ovH (v 23) a3 (f 26) (f 23) (fun _ => (shF (v 1) (f 1) (v 22) 2))) (v 23) 0 else (ovH (v 23) a3 (f 26) (f 23) (fun _ => (shF (v 1) (f 1) (v 22) 2)))) : Int → Int) = (u1 (ovH (v 23) a3 (f 26) (f 23) (fun _ => (shF (v 1) (f 1) (v 22) 2))) (v 23) 0) from by first | rfl | (rw [if_pos (by omega)]; done) | (rw [if_neg (by omega)]; done) | (rw [if_neg (by omega), if_pos (by omega)]; done) | (rw [if_neg (by omega), if_neg (by omega)]; done), show ((if (0 : Int) = 1 ∨ (0 : Int) = 2 ∨ (0 : Int) = 9 then (f 27) else if (0 : Int) = 0 then u1 (ovO a3 (f 23) (fun _ => (shF (v 1) (f 1) (v 22) 2)) (f 27)) a1 ((v 23) + 1) else (ovO a3 (f 23) (fun _ => (shF (v 1) (f 1) (v 22) 2)) (f 27))) : Int → Int) = (u1 (ovO a3 (f 23) (fun _ => (shF (v 1) (f 1) (v 22) 2)) (f 27)) a1 ((v 23) + 1)) from by first | rfl | (rw [if_pos (by omega)]; done) | (rw [if_neg (by omega)]; done) | (rw [if_neg (by omega), if_pos (by omega)]; done) | (rw [if_neg (by omega), if_neg (by omega)]; done)]), rfl, (by first | omega | ((repeat' split) <;> omega)), (by first | (rw [if_pos (by omega)]) | (rw [if_neg (by omega), if_pos (by omega)]; exact hpz) | (rw [if_neg (by omega), if_neg (by omega)]; have h9 := hwy.get; rw [← h9] <;> omega)), (by first | exact hbg | (rw [if_neg (by omega), if_neg (by omega)]; exact hbg) | exact cntUp hbg (hbg _ (by omega) (by omega)))⟩
          · refine lv_aload_n hx hb dX10_begin_57 rfl (lv_at hl 1 rfl) ?_
            refine lv_iload hx hb dX10_begin_58 (lv_at hl 0 rfl) ?_
            refine g_cv (As := [.int (iI z_17)]) (rest := []) (n := 1) C hml (c_X10_refuse l D k A ad hD (va_up (va_up (va_up v 23 (v 23)) 25 (v 25)) 26 a3) (va_up (va_up (va_up (va_up (va_up (va_up (va_up (va_up (va_up f 16 (f 16)) 20 (f 20)) 21 (f 21)) 22 (f 22)) 23 (f 23)) 24 (ovE (v 23) a3 (f 26) (f 23) (fun _ => (shF (v 1) (f 1) (v 22) 2)) (f 24))) 25 (f 25)) 26 (ovH (v 23) a3 (f 26) (f 23) (fun _ => (shF (v 1) (f 1) (v 22) 2)))) 27 (ovO a3 (f 23) (fun _ => (shF (v 1) (f 1) (v 22) 2)) (f 27))) g z_17 (by omega) (show 0 ≤ z_17 ∧ z_17 ≤ 10 from by omega)) mM_X10_88 mI_X10_refuse mE_X10_refuse mN_X10 mC_X10_refuse (by decide +kernel) 0 (ci := 10) rfl rfl hP hS (fun _ h => h) ⟨Nat.le_of_ble_eq_true rfl, Nat.le_of_ble_eq_true rfl⟩ ⟨Nat.zero_le _, Nat.zero_le _⟩ hl.1 rfl rfl (Nat.le_of_ble_eq_true rfl) dX10_begin_60 (fun r_23 v_23 f_23 g_23 H locs hq_23 hP _ hS => ?_)
            obtain ⟨rfl, rfl, rfl, rfl⟩ := hq_23
            show W p l e (gRm 5 118) s m args below meth c _ _ 0 0 Q (F0 m 63 ls [.int (iI (-1))])
            have hP : gWd D (rwT k ad) (va_up (va_up (va_up v 23 (v 23)) 25 z_17) 26 a3) (va_up (va_up (va_up (va_up (va_up (va_up (va_up (va_up (va_up f 16 (f 16)) 20 (f 20)) 21 (f 21)) 22 (f 22)) 23 (f 23)) 24 (ovE (v 23) a3 (f 26) (f 23) (fun _ => (shF (v 1) (f 1) (v 22) 2)) (f 24))) 25 (f 25)) 26 (ovH (v 23) a3 (f 26) (f 23) (fun _ => (shF (v 1) (f 1) (v 22) 2)))) 27 (ovO a3 (f 23) (fun _ => (shF (v 1) (f 1) (v 22) 2)) (f 27))) g H := ⟨hP.1, (gF_up (V := rwV) (F := rwF) (gF_up (V := rwV) (F := rwF) (gF_up (V := rwV) (F := rwF) (gF_up (V := rwV) (F := rwF) (gF_up (V := rwV) (F := rwF) (gF_up (V := rwV) (F := rwF) (gF_up (V := rwV) (F := rwF) (gF_up (V := rwV) (F := rwF) (gF_up (V := rwV) (F := rwF) (gR_up (V := rwV) (F := rwF) (gR_up (V := rwV) (F := rwF) (gR_up (V := rwV) (F := rwF) ⟨hok.1, hok.2⟩ 23 (hP.2.1 23)) 25 (hP.2.1 25)) 26 (hP.2.1 26)) 16 (hP.2.2 16)) 20 (hP.2.2 20)) 21 (hP.2.2 21)) 22 (hP.2.2 22)) 23 (hP.2.2 23)) 24 (hP.2.2 24)) 25 (hP.2.2 25)) 26 (hP.2.2 26)) 27 (hP.2.2 27))⟩
            exact g_iret hQ C hr hlocks hP hS dX10_begin_63 ⟨(-1), z_17, rfl, (by rw [show ((if z_17 = 0 then (v 23) + 1 else (v 23)) : Int) = (v 23) from by first | rfl | omega | ((repeat' split) <;> omega), show ((if z_17 = 1 ∨ z_17 = 2 ∨ z_17 = 9 then (v 26) else a3) : Int) = a3 from by first | rfl | omega | ((repeat' split) <;> omega)]), (by rw [show ((if z_17 = 0 then u1 (f 16) ((v 22) * 5 + a2) ((f 16) ((v 22) * 5 + a2) + 1) else (f 16)) : Int → Int) = (f 16) from by first | rfl | (rw [if_pos (by omega)]; done) | (rw [if_neg (by omega)]; done) | (rw [if_neg (by omega), if_pos (by omega)]; done) | (rw [if_neg (by omega), if_neg (by omega)]; done), show ((if z_17 = 0 then u1 (f 20) (v 23) a1 else (f 20)) : Int → Int) = (f 20) from by first | rfl | (rw [if_pos (by omega)]; done) | (rw [if_neg (by omega)]; done) | (rw [if_neg (by omega), if_pos (by omega)]; done) | (rw [if_neg (by omega), if_neg (by omega)]; done), show ((if z_17 = 0 then u1 (f 21) (v 23) (v 22) else (f 21)) : Int → Int) = (f 21) from by first | rfl | (rw [if_pos (by omega)]; done) | (rw [if_neg (by omega)]; done) | (rw [if_neg (by omega), if_pos (by omega)]; done) | (rw [if_neg (by omega), if_neg (by omega)]; done), show ((if z_17 = 0 then u1 (f 22) (v 23) a2 else (f 22)) : Int → Int) = (f 22) from by first | rfl | (rw [if_pos (by omega)]; done) | (rw [if_neg (by omega)]; done) | (rw [if_neg (by omega), if_pos (by omega)]; done) | (rw [if_neg (by omega), if_neg (by omega)]; done), show ((if z_17 = 0 then u1 (f 23) (v 23) a3 else (f 23)) : Int → Int) = (f 23) from by first | rfl | (rw [if_pos (by omega)]; done) | (rw [if_neg (by omega)]; done) | (rw [if_neg (by omega), if_pos (by omega)]; done) | (rw [if_neg (by omega), if_neg (by omega)]; done), show ((if z_17 = 1 ∨ z_17 = 2 ∨ z_17 = 9 then (f 24) else if z_17 = 0 then u1 (ovE (v 23) a3 (f 26) (f 23) (fun _ => (shF (v 1) (f 1) (v 22) 2)) (f 24)) (v 23) (-1) else (ovE (v 23) a3 (f 26) (f 23) (fun _ => (shF (v 1) (f 1) (v 22) 2)) (f 24))) : Int → Int) = (ovE (v 23) a3 (f 26) (f 23) (fun _ => (shF (v 1) (f 1) (v 22) 2)) (f 24)) from by first | rfl | (rw [if_pos (by omega)]; done) | (rw [if_neg (by omega)]; done) | (rw [if_neg (by omega), if_pos (by omega)]; done) | (rw [if_neg (by omega), if_neg (by omega)]; done), show ((if z_17 = 0 then u1 (f 25) (v 23) 0 else (f 25)) : Int → Int) = (f 25) from by first | rfl | (rw [if_pos (by omega)]; done) | (rw [if_neg (by omega)]; done) | (rw [if_neg (by omega), if_pos (by omega)]; done) | (rw [if_neg (by omega), if_neg (by omega)]; done), show ((if z_17 = 1 ∨ z_17 = 2 ∨ z_17 = 9 then (f 26) else if z_17 = 0 then u1 (ovH (v 23) a3 (f 26) (f 23) (fun _ => (shF (v 1) (f 1) (v 22) 2))) (v 23) 0 else (ovH (v 23) a3 (f 26) (f 23) (fun _ => (shF (v 1) (f 1) (v 22) 2)))) : Int → Int) = (ovH (v 23) a3 (f 26) (f 23) (fun _ => (shF (v 1) (f 1) (v 22) 2))) from by first | rfl | (rw [if_pos (by omega)]; done) | (rw [if_neg (by omega)]; done) | (rw [if_neg (by omega), if_pos (by omega)]; done) | (rw [if_neg (by omega), if_neg (by omega)]; done), show ((if z_17 = 1 ∨ z_17 = 2 ∨ z_17 = 9 then (f 27) else if z_17 = 0 then u1 (ovO a3 (f 23) (fun _ => (shF (v 1) (f 1) (v 22) 2)) (f 27)) a1 ((v 23) + 1) else (ovO a3 (f 23) (fun _ => (shF (v 1) (f 1) (v 22) 2)) (f 27))) : Int → Int) = (ovO a3 (f 23) (fun _ => (shF (v 1) (f 1) (v 22) 2)) (f 27)) from by first | rfl | (rw [if_pos (by omega)]; done) | (rw [if_neg (by omega)]; done) | (rw [if_neg (by omega), if_pos (by omega)]; done) | (rw [if_neg (by omega), if_neg (by omega)]; done)]), rfl, (by first | omega | ((repeat' split) <;> omega)), (by first | (rw [if_pos (by omega)]) | (rw [if_neg (by omega), if_pos (by omega)]; exact hpz) | (rw [if_neg (by omega), if_neg (by omega)]; have h9 := hwy.get; rw [← h9] <;> omega)), (by first | exact hbg | (rw [if_neg (by omega), if_neg (by omega)]; exact hbg) | exact cntUp hbg (hbg _ (by omega) (by omega)))⟩
      · replace hP : gWd D (rwT k ad) (va_up (va_up (va_up v 23 (v 23)) 25 (v 25)) 26 (v 26)) (va_up (va_up (va_up (va_up (va_up (va_up (va_up (va_up (va_up f 16 (f 16)) 20 (f 20)) 21 (f 21)) 22 (f 22)) 23 (f 23)) 24 (f 24)) 25 (f 25)) 26 (f 26)) 27 (f 27)) g H := by have h9 := hP; simp only [if_neg hzp] at h9; exact h9
        refine lv_istore (lv' := [(4, .int (iI z_15)), (0, .ref (ad 0)), (1, .int (iI a1)), (2, .int (iI a2)), (3, .int (iI a3))]) hx hb dX10_begin_37 hl (by decide) rfl (fun ls hl => ?_)
        refine lv_iload hx hb dX10_begin_39 (lv_at hl 0 rfl) ?_
        refine gi_zne (tgt := 52) hx hb dX10_begin_41 (by decide) (by omega) (fun c_24 => ?_) (fun c_24 => ?_)
        · refine lv_iload hx hb dX10_begin_52 (lv_at hl 0 rfl) ?_
          refine gi_zeq (tgt := 64) hx hb dX10_begin_54 (by decide) (by omega) (fun c_25 => ?_) (fun c_25 => ?_)
          · exfalso; omega
          · refine lv_aload_n hx hb dX10_begin_57 rfl (lv_at hl 1 rfl) ?_
            refine lv_iload hx hb dX10_begin_58 (lv_at hl 0 rfl) ?_
            refine g_cv (As := [.int (iI z_15)]) (rest := []) (n := 1) C hml (c_X10_refuse l D k A ad hD (va_up (va_up (va_up v 23 (v 23)) 25 (v 25)) 26 (v 26)) (va_up (va_up (va_up (va_up (va_up (va_up (va_up (va_up (va_up f 16 (f 16)) 20 (f 20)) 21 (f 21)) 22 (f 22)) 23 (f 23)) 24 (f 24)) 25 (f 25)) 26 (f 26)) 27 (f 27)) g z_15 (by omega) (show 0 ≤ z_15 ∧ z_15 ≤ 10 from by omega)) mM_X10_88 mI_X10_refuse mE_X10_refuse mN_X10 mC_X10_refuse (by decide +kernel) 0 (ci := 10) rfl rfl hP hS (fun _ h => h) ⟨Nat.le_of_ble_eq_true rfl, Nat.le_of_ble_eq_true rfl⟩ ⟨Nat.zero_le _, Nat.zero_le _⟩ hl.1 rfl rfl (Nat.le_of_ble_eq_true rfl) dX10_begin_60 (fun r_26 v_26 f_26 g_26 H locs hq_26 hP _ hS => ?_)
            obtain ⟨rfl, rfl, rfl, rfl⟩ := hq_26
            show W p l e (gRm 5 118) s m args below meth c _ _ 0 0 Q (F0 m 63 ls [.int (iI (-1))])
            have hP : gWd D (rwT k ad) (va_up (va_up (va_up v 23 (v 23)) 25 z_15) 26 (v 26)) (va_up (va_up (va_up (va_up (va_up (va_up (va_up (va_up (va_up f 16 (f 16)) 20 (f 20)) 21 (f 21)) 22 (f 22)) 23 (f 23)) 24 (f 24)) 25 (f 25)) 26 (f 26)) 27 (f 27)) g H := ⟨hP.1, (gF_up (V := rwV) (F := rwF) (gF_up (V := rwV) (F := rwF) (gF_up (V := rwV) (F := rwF) (gF_up (V := rwV) (F := rwF) (gF_up (V := rwV) (F := rwF) (gF_up (V := rwV) (F := rwF) (gF_up (V := rwV) (F := rwF) (gF_up (V := rwV) (F := rwF) (gF_up (V := rwV) (F := rwF) (gR_up (V := rwV) (F := rwF) (gR_up (V := rwV) (F := rwF) (gR_up (V := rwV) (F := rwF) ⟨hok.1, hok.2⟩ 23 (hP.2.1 23)) 25 (hP.2.1 25)) 26 (hP.2.1 26)) 16 (hP.2.2 16)) 20 (hP.2.2 20)) 21 (hP.2.2 21)) 22 (hP.2.2 22)) 23 (hP.2.2 23)) 24 (hP.2.2 24)) 25 (hP.2.2 25)) 26 (hP.2.2 26)) 27 (hP.2.2 27))⟩
            exact g_iret hQ C hr hlocks hP hS dX10_begin_63 ⟨(-1), z_15, rfl, (by rw [show ((if z_15 = 0 then (v 23) + 1 else (v 23)) : Int) = (v 23) from by first | rfl | omega | ((repeat' split) <;> omega), show ((if z_15 = 1 ∨ z_15 = 2 ∨ z_15 = 9 then (v 26) else a3) : Int) = (v 26) from by first | rfl | omega | ((repeat' split) <;> omega)]), (by rw [show ((if z_15 = 0 then u1 (f 16) ((v 22) * 5 + a2) ((f 16) ((v 22) * 5 + a2) + 1) else (f 16)) : Int → Int) = (f 16) from by first | rfl | (rw [if_pos (by omega)]; done) | (rw [if_neg (by omega)]; done) | (rw [if_neg (by omega), if_pos (by omega)]; done) | (rw [if_neg (by omega), if_neg (by omega)]; done), show ((if z_15 = 0 then u1 (f 20) (v 23) a1 else (f 20)) : Int → Int) = (f 20) from by first | rfl | (rw [if_pos (by omega)]; done) | (rw [if_neg (by omega)]; done) | (rw [if_neg (by omega), if_pos (by omega)]; done) | (rw [if_neg (by omega), if_neg (by omega)]; done), show ((if z_15 = 0 then u1 (f 21) (v 23) (v 22) else (f 21)) : Int → Int) = (f 21) from by first | rfl | (rw [if_pos (by omega)]; done) | (rw [if_neg (by omega)]; done) | (rw [if_neg (by omega), if_pos (by omega)]; done) | (rw [if_neg (by omega), if_neg (by omega)]; done), show ((if z_15 = 0 then u1 (f 22) (v 23) a2 else (f 22)) : Int → Int) = (f 22) from by first | rfl | (rw [if_pos (by omega)]; done) | (rw [if_neg (by omega)]; done) | (rw [if_neg (by omega), if_pos (by omega)]; done) | (rw [if_neg (by omega), if_neg (by omega)]; done), show ((if z_15 = 0 then u1 (f 23) (v 23) a3 else (f 23)) : Int → Int) = (f 23) from by first | rfl | (rw [if_pos (by omega)]; done) | (rw [if_neg (by omega)]; done) | (rw [if_neg (by omega), if_pos (by omega)]; done) | (rw [if_neg (by omega), if_neg (by omega)]; done), show ((if z_15 = 1 ∨ z_15 = 2 ∨ z_15 = 9 then (f 24) else if z_15 = 0 then u1 (ovE (v 23) a3 (f 26) (f 23) (fun _ => (shF (v 1) (f 1) (v 22) 2)) (f 24)) (v 23) (-1) else (ovE (v 23) a3 (f 26) (f 23) (fun _ => (shF (v 1) (f 1) (v 22) 2)) (f 24))) : Int → Int) = (f 24) from by first | rfl | (rw [if_pos (by omega)]; done) | (rw [if_neg (by omega)]; done) | (rw [if_neg (by omega), if_pos (by omega)]; done) | (rw [if_neg (by omega), if_neg (by omega)]; done), show ((if z_15 = 0 then u1 (f 25) (v 23) 0 else (f 25)) : Int → Int) = (f 25) from by first | rfl | (rw [if_pos (by omega)]; done) | (rw [if_neg (by omega)]; done) | (rw [if_neg (by omega), if_pos (by omega)]; done) | (rw [if_neg (by omega), if_neg (by omega)]; done), show ((if z_15 = 1 ∨ z_15 = 2 ∨ z_15 = 9 then (f 26) else if z_15 = 0 then u1 (ovH (v 23) a3 (f 26) (f 23) (fun _ => (shF (v 1) (f 1) (v 22) 2))) (v 23) 0 else (ovH (v 23) a3 (f 26) (f 23) (fun _ => (shF (v 1) (f 1) (v 22) 2)))) : Int → Int) = (f 26) from by first | rfl | (rw [if_pos (by omega)]; done) | (rw [if_neg (by omega)]; done) | (rw [if_neg (by omega), if_pos (by omega)]; done) | (rw [if_neg (by omega), if_neg (by omega)]; done), show ((if z_15 = 1 ∨ z_15 = 2 ∨ z_15 = 9 then (f 27) else if z_15 = 0 then u1 (ovO a3 (f 23) (fun _ => (shF (v 1) (f 1) (v 22) 2)) (f 27)) a1 ((v 23) + 1) else (ovO a3 (f 23) (fun _ => (shF (v 1) (f 1) (v 22) 2)) (f 27))) : Int → Int) = (f 27) from by first | rfl | (rw [if_pos (by omega)]; done) | (rw [if_neg (by omega)]; done) | (rw [if_neg (by omega), if_pos (by omega)]; done) | (rw [if_neg (by omega), if_neg (by omega)]; done)]), rfl, (by first | omega | ((repeat' split) <;> omega)), (by first | (rw [if_pos (by omega)]) | (rw [if_neg (by omega), if_pos (by omega)]; exact hpz) | (rw [if_neg (by omega), if_neg (by omega)]; have h9 := hwy.get; rw [← h9] <;> omega)), (by first | exact hbg | (rw [if_neg (by omega), if_neg (by omega)]; exact hbg) | exact cntUp hbg (hbg _ (by omega) (by omega)))⟩
        · exfalso; omega

set_option maxHeartbeats 4000000 in
set_option maxRecDepth 100000 in
theorem x_Ro_reach (l : Launch) (D : va_G) (k : Nat → ClassId) (A : Nat → Prop) (ad : Nat → Nat) (hD : rwD A k ad) (v : gV) (f g : gF) (a1 : Int) (a2 : Int) (a3 : Int) (h_a1 : inR a1) (h_a2 : inR a2) (h_a3 : inR a3) (hs : shOk (v 1) (f 1)) (hO : OI (v 23) (f 20) (f 26) (f 27)) : GM l D k A (rwT k ad) yX10_reach cX10_reach 7 (some .int) 3 68 [.ref (ad 0), .int (iI a1), .int (iI a2), .int (iI a3)] v f g (fun r v1 f1 g1 => ∃ (z : Int) (w25 : Int), r = some (.int (iI z)) ∧ (va_up (va_up v 25 w25) 26 (if w25 = 1 ∨ w25 = 2 ∨ w25 = 9 then (v 26) else a3)) = v1 ∧ (va_up (va_up (va_up (va_up f 24 (if w25 = 1 ∨ w25 = 2 ∨ w25 = 9 then (f 24) else if w25 = 0 ∧ ¬ a2 < (f 15) ((f 21) ((ovO a3 (f 23) (fun _ => (shF (v 1) (f 1) (v 22) 2)) (f 27)) a1 - 1) * 5 + (f 22) ((ovO a3 (f 23) (fun _ => (shF (v 1) (f 1) (v 22) 2)) (f 27)) a1 - 1)) then u1 (ovE (v 23) a3 (f 26) (f 23) (fun _ => (shF (v 1) (f 1) (v 22) 2)) (f 24)) ((ovO a3 (f 23) (fun _ => (shF (v 1) (f 1) (v 22) 2)) (f 27)) a1 - 1) a3 else (ovE (v 23) a3 (f 26) (f 23) (fun _ => (shF (v 1) (f 1) (v 22) 2)) (f 24)))) 25 (if w25 = 0 then u1 (f 25) ((ovO a3 (f 23) (fun _ => (shF (v 1) (f 1) (v 22) 2)) (f 27)) a1 - 1) a2 else (f 25))) 26 (if w25 = 1 ∨ w25 = 2 ∨ w25 = 9 then (f 26) else if w25 = 0 ∧ ¬ a2 < (f 15) ((f 21) ((ovO a3 (f 23) (fun _ => (shF (v 1) (f 1) (v 22) 2)) (f 27)) a1 - 1) * 5 + (f 22) ((ovO a3 (f 23) (fun _ => (shF (v 1) (f 1) (v 22) 2)) (f 27)) a1 - 1)) then u1 (ovH (v 23) a3 (f 26) (f 23) (fun _ => (shF (v 1) (f 1) (v 22) 2))) ((ovO a3 (f 23) (fun _ => (shF (v 1) (f 1) (v 22) 2)) (f 27)) a1 - 1) 1 else (ovH (v 23) a3 (f 26) (f 23) (fun _ => (shF (v 1) (f 1) (v 22) 2))))) 27 (if w25 = 1 ∨ w25 = 2 ∨ w25 = 9 then (f 27) else if w25 = 0 ∧ ¬ a2 < (f 15) ((f 21) ((ovO a3 (f 23) (fun _ => (shF (v 1) (f 1) (v 22) 2)) (f 27)) a1 - 1) * 5 + (f 22) ((ovO a3 (f 23) (fun _ => (shF (v 1) (f 1) (v 22) 2)) (f 27)) a1 - 1)) then u1 (ovO a3 (f 23) (fun _ => (shF (v 1) (f 1) (v 22) 2)) (f 27)) a1 0 else (ovO a3 (f 23) (fun _ => (shF (v 1) (f 1) (v 22) 2)) (f 27)))) = f1 ∧ g = g1 ∧ (z = (if w25 ≠ 0 then (-1) else if a2 < (f 15) ((f 21) ((ovO a3 (f 23) (fun _ => (shF (v 1) (f 1) (v 22) 2)) (f 27)) a1 - 1) * 5 + (f 22) ((ovO a3 (f 23) (fun _ => (shF (v 1) (f 1) (v 22) 2)) (f 27)) a1 - 1)) then 0 else 1)) ∧ ((-1) ≤ z ∧ z ≤ 1) ∧ (w25 = (if ¬ (0 ≤ a1 ∧ a1 < (v 21)) then 1 else if a2 < 1 ∨ 60 < a2 then 2 else if (if a3 < 0 ∨ 1000000 < a3 then (2 : Int) else if a3 < (v 26) then 9 else 0) ≠ 0 then (if a3 < 0 ∨ 1000000 < a3 then (2 : Int) else if a3 < (v 26) then 9 else 0) else if (ovO a3 (f 23) (fun _ => (shF (v 1) (f 1) (v 22) 2)) (f 27)) a1 = 0 then 5 else if a2 ≤ (f 25) ((ovO a3 (f 23) (fun _ => (shF (v 1) (f 1) (v 22) 2)) (f 27)) a1 - 1) ∨ (f 15) ((f 21) ((ovO a3 (f 23) (fun _ => (shF (v 1) (f 1) (v 22) 2)) (f 27)) a1 - 1) * 5 + (f 22) ((ovO a3 (f 23) (fun _ => (shF (v 1) (f 1) (v 22) 2)) (f 27)) a1 - 1)) < a2 then 10 else 0))) := by
  refine GM.of (by decide) (Nat.le_of_ble_eq_true rfl) ?_
  intro p e s m args below meth c Q ls hQ C hml hr hlocks hP hl
  have hx := C.1
  have hb := C.2.1
  have hok := hP.2
  have hS : va_S A s.heap s.heap [] := va_S.rf
  have hl : lv_has ls 7 [(0, .ref (ad 0)), (1, .int (iI a1)), (2, .int (iI a2)), (3, .int (iI a3))] := hl
  have hP : gWd D (rwT k ad) (va_up (va_up v 25 (v 25)) 26 (v 26)) (va_up (va_up (va_up (va_up f 24 (f 24)) 25 (f 25)) 26 (f 26)) 27 (f 27)) g s.heap := by rw [va_id, va_id, va_id, va_id, va_id, va_id]; exact hP
  have hwr : ∀ k, 0 ≤ (f 20) k ∧ (f 20) k ≤ 15 := fun k => hok.2 20 k
  have r_1 : 0 ≤ (v 21) ∧ (v 21) ≤ 16 := hok.1 21
  refine lv_iconst (v := iI 1) hx hb dX10_reach_0 rfl ?_
  refine lv_istore (lv' := [(4, .int (iI 1)), (0, .ref (ad 0)), (1, .int (iI a1)), (2, .int (iI a2)), (3, .int (iI a3))]) hx hb dX10_reach_1 hl (by decide) rfl (fun ls hl => ?_)
  refine lv_aload_n hx hb dX10_reach_3 rfl (lv_at hl 1 rfl) ?_
  refine rwG_field C hP mF_X10_37 dX10_reach_4 ?_
  refine lv_iload_n hx hb dX10_reach_7 rfl (lv_at hl 2 rfl) ?_
  refine g_cv (As := [.int (iI a1)]) (rest := []) (n := 1) C hml (c_X2_knows l D k A ad hD (va_up (va_up v 25 (v 25)) 26 (v 26)) (va_up (va_up (va_up (va_up f 24 (f 24)) 25 (f 25)) 26 (f 26)) 27 (f 27)) g a1 (by omega)) mM_X10_180 mI_X2_knows mE_X2_knows mN_X2 mC_X2_knows (by decide +kernel) 27 (ci := 2) rfl rfl hP hS (fun _ h => h) ⟨Nat.le_of_ble_eq_true rfl, Nat.le_of_ble_eq_true rfl⟩ ⟨Nat.zero_le _, Nat.zero_le _⟩ hl.1 rfl rfl (Nat.le_of_ble_eq_true rfl) dX10_reach_8 (fun r_2 v_2 f_2 g_2 H locs hq_2 hP _ hS => ?_)
  obtain ⟨z_2, rfl, rfl, rfl, rfl, p0_2⟩ := hq_2
  show W p l e (gRm 3 68) s m args below meth c _ _ 0 0 Q (F0 m 11 ls [.int (iI z_2)])
  replace p0_2 : z_2 = (if 0 ≤ a1 ∧ a1 < (v 21) then 1 else 0) := p0_2
  have w_2 := gif (P := 0 ≤ a1 ∧ a1 < (v 21)) p0_2
  clear p0_2
  have hz_2 : inR z_2 := (by first | omega | (rw [p0_2]; split <;> omega))
  refine gi_zeq (tgt := 36) hx hb dX10_reach_11 (by decide) (by omega) (fun c_3 => ?_) (fun c_3 => ?_)
  · have vz_2 := gif0 w_2 c_3
    clear w_2
    refine lv_iload hx hb dX10_reach_36 (lv_at hl 0 rfl) ?_
    refine gi_zeq (tgt := 48) hx hb dX10_reach_38 (by decide) (by decide) (fun c_4 => ?_) (fun c_4 => ?_)
    · exfalso; omega
    · refine lv_aload_n hx hb dX10_reach_41 rfl (lv_at hl 1 rfl) ?_
      refine lv_iload hx hb dX10_reach_42 (lv_at hl 0 rfl) ?_
      refine g_cv (As := [.int (iI 1)]) (rest := []) (n := 1) C hml (c_X10_refuse l D k A ad hD (va_up (va_up v 25 (v 25)) 26 (v 26)) (va_up (va_up (va_up (va_up f 24 (f 24)) 25 (f 25)) 26 (f 26)) 27 (f 27)) g 1 (by decide) (show 0 ≤ (1 : Int) ∧ (1 : Int) ≤ 10 from by omega)) mM_X10_88 mI_X10_refuse mE_X10_refuse mN_X10 mC_X10_refuse (by decide +kernel) 0 (ci := 10) rfl rfl hP hS (fun _ h => h) ⟨Nat.le_of_ble_eq_true rfl, Nat.le_of_ble_eq_true rfl⟩ ⟨Nat.zero_le _, Nat.zero_le _⟩ hl.1 rfl rfl (Nat.le_of_ble_eq_true rfl) dX10_reach_44 (fun r_5 v_5 f_5 g_5 H locs hq_5 hP _ hS => ?_)
      obtain ⟨rfl, rfl, rfl, rfl⟩ := hq_5
      show W p l e (gRm 3 68) s m args below meth c _ _ 0 0 Q (F0 m 47 ls [.int (iI (-1))])
      have hP : gWd D (rwT k ad) (va_up (va_up v 25 (1 : Int)) 26 (v 26)) (va_up (va_up (va_up (va_up f 24 (f 24)) 25 (f 25)) 26 (f 26)) 27 (f 27)) g H := ⟨hP.1, (gF_up (V := rwV) (F := rwF) (gF_up (V := rwV) (F := rwF) (gF_up (V := rwV) (F := rwF) (gF_up (V := rwV) (F := rwF) (gR_up (V := rwV) (F := rwF) (gR_up (V := rwV) (F := rwF) ⟨hok.1, hok.2⟩ 25 (hP.2.1 25)) 26 (hP.2.1 26)) 24 (hP.2.2 24)) 25 (hP.2.2 25)) 26 (hP.2.2 26)) 27 (hP.2.2 27))⟩
      exact g_iret hQ C hr hlocks hP hS dX10_reach_47 ⟨(-1), (1 : Int), rfl, (by rw [show ((if (1 : Int) = 1 ∨ (1 : Int) = 2 ∨ (1 : Int) = 9 then (v 26) else a3) : Int) = (v 26) from by first | rfl | omega | ((repeat' split) <;> omega)]), (by rw [show ((if (1 : Int) = 1 ∨ (1 : Int) = 2 ∨ (1 : Int) = 9 then (f 24) else if (1 : Int) = 0 ∧ ¬ a2 < (f 15) ((f 21) ((ovO a3 (f 23) (fun _ => (shF (v 1) (f 1) (v 22) 2)) (f 27)) a1 - 1) * 5 + (f 22) ((ovO a3 (f 23) (fun _ => (shF (v 1) (f 1) (v 22) 2)) (f 27)) a1 - 1)) then u1 (ovE (v 23) a3 (f 26) (f 23) (fun _ => (shF (v 1) (f 1) (v 22) 2)) (f 24)) ((ovO a3 (f 23) (fun _ => (shF (v 1) (f 1) (v 22) 2)) (f 27)) a1 - 1) a3 else (ovE (v 23) a3 (f 26) (f 23) (fun _ => (shF (v 1) (f 1) (v 22) 2)) (f 24))) : Int → Int) = (f 24) from by first | rfl | (rw [if_pos (by omega)]) | (rw [if_neg (by omega), if_neg (by first | omega | (rw [← hj]; omega))]) | (rw [if_neg (by omega), if_pos (by rw [← hj]; omega), hj]), show ((if (1 : Int) = 0 then u1 (f 25) ((ovO a3 (f 23) (fun _ => (shF (v 1) (f 1) (v 22) 2)) (f 27)) a1 - 1) a2 else (f 25)) : Int → Int) = (f 25) from by first | rfl | (rw [if_neg (by omega)]) | (rw [if_pos (by omega), hj]), show ((if (1 : Int) = 1 ∨ (1 : Int) = 2 ∨ (1 : Int) = 9 then (f 26) else if (1 : Int) = 0 ∧ ¬ a2 < (f 15) ((f 21) ((ovO a3 (f 23) (fun _ => (shF (v 1) (f 1) (v 22) 2)) (f 27)) a1 - 1) * 5 + (f 22) ((ovO a3 (f 23) (fun _ => (shF (v 1) (f 1) (v 22) 2)) (f 27)) a1 - 1)) then u1 (ovH (v 23) a3 (f 26) (f 23) (fun _ => (shF (v 1) (f 1) (v 22) 2))) ((ovO a3 (f 23) (fun _ => (shF (v 1) (f 1) (v 22) 2)) (f 27)) a1 - 1) 1 else (ovH (v 23) a3 (f 26) (f 23) (fun _ => (shF (v 1) (f 1) (v 22) 2)))) : Int → Int) = (f 26) from by first | rfl | (rw [if_pos (by omega)]) | (rw [if_neg (by omega), if_neg (by first | omega | (rw [← hj]; omega))]) | (rw [if_neg (by omega), if_pos (by rw [← hj]; omega), hj]), show ((if (1 : Int) = 1 ∨ (1 : Int) = 2 ∨ (1 : Int) = 9 then (f 27) else if (1 : Int) = 0 ∧ ¬ a2 < (f 15) ((f 21) ((ovO a3 (f 23) (fun _ => (shF (v 1) (f 1) (v 22) 2)) (f 27)) a1 - 1) * 5 + (f 22) ((ovO a3 (f 23) (fun _ => (shF (v 1) (f 1) (v 22) 2)) (f 27)) a1 - 1)) then u1 (ovO a3 (f 23) (fun _ => (shF (v 1) (f 1) (v 22) 2)) (f 27)) a1 0 else (ovO a3 (f 23) (fun _ => (shF (v 1) (f 1) (v 22) 2)) (f 27))) : Int → Int) = (f 27) from by first | rfl | (rw [if_pos (by omega)]) | (rw [if_neg (by omega), if_neg (by rw [← hj]; omega)]) | (rw [if_neg (by omega), if_pos (by rw [← hj]; omega), hjw (by omega)])]), rfl, (by first | (rw [if_pos (by omega)]; done) | (rw [if_neg (by omega), ← hj]; first | (rw [if_pos (by omega)] <;> omega) | (rw [if_neg (by omega)] <;> omega))), (by first | omega | ((repeat' split) <;> omega)), (by first | omega | (rw [← hj]; (repeat' split) <;> omega) | ((repeat' split) <;> omega))⟩
  · have vz_2 := gif1 w_2 c_3
    clear w_2
    refine lv_iload_n hx hb dX10_reach_14 rfl (lv_at hl 3 rfl) ?_
    refine lv_iconst (v := iI 1) hx hb dX10_reach_15 rfl ?_
    refine gi_clt (tgt := 25) hx hb dX10_reach_16 (by decide) (by omega) (by decide) (fun c_6 => ?_) (fun c_6 => ?_)
    · refine lv_iconst (v := iI 2) hx hb dX10_reach_25 rfl ?_
      refine lv_goto (tgt := 34) hx hb dX10_reach_26 (by decide) ?_
      refine lv_istore (lv' := [(4, .int (iI 2)), (0, .ref (ad 0)), (1, .int (iI a1)), (2, .int (iI a2)), (3, .int (iI a3))]) hx hb dX10_reach_34 hl (by decide) rfl (fun ls hl => ?_)
      refine lv_iload hx hb dX10_reach_36 (lv_at hl 0 rfl) ?_
      refine gi_zeq (tgt := 48) hx hb dX10_reach_38 (by decide) (by decide) (fun c_7 => ?_) (fun c_7 => ?_)
      · exfalso; omega
      · refine lv_aload_n hx hb dX10_reach_41 rfl (lv_at hl 1 rfl) ?_
        refine lv_iload hx hb dX10_reach_42 (lv_at hl 0 rfl) ?_
        refine g_cv (As := [.int (iI 2)]) (rest := []) (n := 1) C hml (c_X10_refuse l D k A ad hD (va_up (va_up v 25 (v 25)) 26 (v 26)) (va_up (va_up (va_up (va_up f 24 (f 24)) 25 (f 25)) 26 (f 26)) 27 (f 27)) g 2 (by decide) (show 0 ≤ (2 : Int) ∧ (2 : Int) ≤ 10 from by omega)) mM_X10_88 mI_X10_refuse mE_X10_refuse mN_X10 mC_X10_refuse (by decide +kernel) 0 (ci := 10) rfl rfl hP hS (fun _ h => h) ⟨Nat.le_of_ble_eq_true rfl, Nat.le_of_ble_eq_true rfl⟩ ⟨Nat.zero_le _, Nat.zero_le _⟩ hl.1 rfl rfl (Nat.le_of_ble_eq_true rfl) dX10_reach_44 (fun r_8 v_8 f_8 g_8 H locs hq_8 hP _ hS => ?_)
        obtain ⟨rfl, rfl, rfl, rfl⟩ := hq_8
        show W p l e (gRm 3 68) s m args below meth c _ _ 0 0 Q (F0 m 47 ls [.int (iI (-1))])
        have hP : gWd D (rwT k ad) (va_up (va_up v 25 (2 : Int)) 26 (v 26)) (va_up (va_up (va_up (va_up f 24 (f 24)) 25 (f 25)) 26 (f 26)) 27 (f 27)) g H := ⟨hP.1, (gF_up (V := rwV) (F := rwF) (gF_up (V := rwV) (F := rwF) (gF_up (V := rwV) (F := rwF) (gF_up (V := rwV) (F := rwF) (gR_up (V := rwV) (F := rwF) (gR_up (V := rwV) (F := rwF) ⟨hok.1, hok.2⟩ 25 (hP.2.1 25)) 26 (hP.2.1 26)) 24 (hP.2.2 24)) 25 (hP.2.2 25)) 26 (hP.2.2 26)) 27 (hP.2.2 27))⟩
        exact g_iret hQ C hr hlocks hP hS dX10_reach_47 ⟨(-1), (2 : Int), rfl, (by rw [show ((if (2 : Int) = 1 ∨ (2 : Int) = 2 ∨ (2 : Int) = 9 then (v 26) else a3) : Int) = (v 26) from by first | rfl | omega | ((repeat' split) <;> omega)]), (by rw [show ((if (2 : Int) = 1 ∨ (2 : Int) = 2 ∨ (2 : Int) = 9 then (f 24) else if (2 : Int) = 0 ∧ ¬ a2 < (f 15) ((f 21) ((ovO a3 (f 23) (fun _ => (shF (v 1) (f 1) (v 22) 2)) (f 27)) a1 - 1) * 5 + (f 22) ((ovO a3 (f 23) (fun _ => (shF (v 1) (f 1) (v 22) 2)) (f 27)) a1 - 1)) then u1 (ovE (v 23) a3 (f 26) (f 23) (fun _ => (shF (v 1) (f 1) (v 22) 2)) (f 24)) ((ovO a3 (f 23) (fun _ => (shF (v 1) (f 1) (v 22) 2)) (f 27)) a1 - 1) a3 else (ovE (v 23) a3 (f 26) (f 23) (fun _ => (shF (v 1) (f 1) (v 22) 2)) (f 24))) : Int → Int) = (f 24) from by first | rfl | (rw [if_pos (by omega)]) | (rw [if_neg (by omega), if_neg (by first | omega | (rw [← hj]; omega))]) | (rw [if_neg (by omega), if_pos (by rw [← hj]; omega), hj]), show ((if (2 : Int) = 0 then u1 (f 25) ((ovO a3 (f 23) (fun _ => (shF (v 1) (f 1) (v 22) 2)) (f 27)) a1 - 1) a2 else (f 25)) : Int → Int) = (f 25) from by first | rfl | (rw [if_neg (by omega)]) | (rw [if_pos (by omega), hj]), show ((if (2 : Int) = 1 ∨ (2 : Int) = 2 ∨ (2 : Int) = 9 then (f 26) else if (2 : Int) = 0 ∧ ¬ a2 < (f 15) ((f 21) ((ovO a3 (f 23) (fun _ => (shF (v 1) (f 1) (v 22) 2)) (f 27)) a1 - 1) * 5 + (f 22) ((ovO a3 (f 23) (fun _ => (shF (v 1) (f 1) (v 22) 2)) (f 27)) a1 - 1)) then u1 (ovH (v 23) a3 (f 26) (f 23) (fun _ => (shF (v 1) (f 1) (v 22) 2))) ((ovO a3 (f 23) (fun _ => (shF (v 1) (f 1) (v 22) 2)) (f 27)) a1 - 1) 1 else (ovH (v 23) a3 (f 26) (f 23) (fun _ => (shF (v 1) (f 1) (v 22) 2)))) : Int → Int) = (f 26) from by first | rfl | (rw [if_pos (by omega)]) | (rw [if_neg (by omega), if_neg (by first | omega | (rw [← hj]; omega))]) | (rw [if_neg (by omega), if_pos (by rw [← hj]; omega), hj]), show ((if (2 : Int) = 1 ∨ (2 : Int) = 2 ∨ (2 : Int) = 9 then (f 27) else if (2 : Int) = 0 ∧ ¬ a2 < (f 15) ((f 21) ((ovO a3 (f 23) (fun _ => (shF (v 1) (f 1) (v 22) 2)) (f 27)) a1 - 1) * 5 + (f 22) ((ovO a3 (f 23) (fun _ => (shF (v 1) (f 1) (v 22) 2)) (f 27)) a1 - 1)) then u1 (ovO a3 (f 23) (fun _ => (shF (v 1) (f 1) (v 22) 2)) (f 27)) a1 0 else (ovO a3 (f 23) (fun _ => (shF (v 1) (f 1) (v 22) 2)) (f 27))) : Int → Int) = (f 27) from by first | rfl | (rw [if_pos (by omega)]) | (rw [if_neg (by omega), if_neg (by rw [← hj]; omega)]) | (rw [if_neg (by omega), if_pos (by rw [← hj]; omega), hjw (by omega)])]), rfl, (by first | (rw [if_pos (by omega)]; done) | (rw [if_neg (by omega), ← hj]; first | (rw [if_pos (by omega)] <;> omega) | (rw [if_neg (by omega)] <;> omega))), (by first | omega | ((repeat' split) <;> omega)), (by first | omega | (rw [← hj]; (repeat' split) <;> omega) | ((repeat' split) <;> omega))⟩
    · refine lv_iload_n hx hb dX10_reach_19 rfl (lv_at hl 3 rfl) ?_
      refine lv_bipush (v := iI 60) hx hb dX10_reach_20 (by decide) ?_
      refine gi_cle (tgt := 29) hx hb dX10_reach_22 (by decide) (by omega) (by decide) (fun c_9 => ?_) (fun c_9 => ?_)
      · refine lv_aload_n hx hb dX10_reach_29 rfl (lv_at hl 1 rfl) ?_
        refine lv_iload_n hx hb dX10_reach_30 rfl (lv_at hl 4 rfl) ?_
        refine g_cv (As := [.int (iI a3)]) (rest := []) (n := 1) C hml (x_Ro_passTo l D k A ad hD (va_up (va_up v 25 (v 25)) 26 (v 26)) (va_up (va_up (va_up (va_up f 24 (f 24)) 25 (f 25)) 26 (f 26)) 27 (f 27)) g a3 (by omega) (show shOk (v 1) (f 1) from hs) (show OI (v 23) (f 20) (f 26) (f 27) from hO)) mM_X10_183 mI_X10_passTo mE_X10_passTo mN_X10 mC_X10_passTo (by decide +kernel) 0 (ci := 10) rfl rfl hP hS (fun _ h => h) ⟨Nat.le_of_ble_eq_true rfl, Nat.le_of_ble_eq_true rfl⟩ ⟨Nat.zero_le _, Nat.zero_le _⟩ hl.1 rfl rfl (Nat.le_of_ble_eq_true rfl) dX10_reach_31 (fun r_10 v_10 f_10 g_10 H locs hq_10 hP _ hS => ?_)
        obtain ⟨z_10, rfl, rfl, rfl, rfl, p0_10⟩ := hq_10
        show W p l e (gRm 3 68) s m args below meth c _ _ 0 0 Q (F0 m 34 ls [.int (iI z_10)])
        have hP : gWd D (rwT k ad) (va_up (va_up v 25 (v 25)) 26 (if z_10 = 0 then a3 else (v 26))) (va_up (va_up (va_up (va_up f 24 (if z_10 = 0 then (ovE (v 23) a3 (f 26) (f 23) (fun _ => (shF (v 1) (f 1) (v 22) 2)) (f 24)) else (f 24))) 25 (f 25)) 26 (if z_10 = 0 then (ovH (v 23) a3 (f 26) (f 23) (fun _ => (shF (v 1) (f 1) (v 22) 2))) else (f 26))) 27 (if z_10 = 0 then (ovO a3 (f 23) (fun _ => (shF (v 1) (f 1) (v 22) 2)) (f 27)) else (f 27))) g H := ⟨hP.1, (gF_up (V := rwV) (F := rwF) (gF_up (V := rwV) (F := rwF) (gF_up (V := rwV) (F := rwF) (gF_up (V := rwV) (F := rwF) (gR_up (V := rwV) (F := rwF) (gR_up (V := rwV) (F := rwF) ⟨hok.1, hok.2⟩ 25 (hP.2.1 25)) 26 (hP.2.1 26)) 24 (hP.2.2 24)) 25 (hP.2.2 25)) 26 (hP.2.2 26)) 27 (hP.2.2 27))⟩
        replace p0_10 : z_10 = (if a3 < 0 ∨ 1000000 < a3 then (2 : Int) else if a3 < (v 26) then 9 else 0) := p0_10
        have hz_10 : inR z_10 := (by first | omega | (rw [p0_10]; split <;> omega))
        have hpz := p0_10
        clear p0_10
        rcases (show z_10 = 0 ∨ z_10 ≠ 0 by omega) with hzp | hzp
        · replace hP : gWd D (rwT k ad) (va_up (va_up v 25 (v 25)) 26 a3) (va_up (va_up (va_up (va_up f 24 (ovE (v 23) a3 (f 26) (f 23) (fun _ => (shF (v 1) (f 1) (v 22) 2)) (f 24))) 25 (f 25)) 26 (ovH (v 23) a3 (f 26) (f 23) (fun _ => (shF (v 1) (f 1) (v 22) 2)))) 27 (ovO a3 (f 23) (fun _ => (shF (v 1) (f 1) (v 22) 2)) (f 27))) g H := by have h9 := hP; simp only [if_pos hzp] at h9; exact h9
          have hO2 : OI (v 23) (f 20) (ovH (v 23) a3 (f 26) (f 23) (fun _ => (shF (v 1) (f 1) (v 22) 2))) (ovO a3 (f 23) (fun _ => (shF (v 1) (f 1) (v 22) 2)) (f 27)) := OI_ov hO hwr
          refine lv_istore (lv' := [(4, .int (iI z_10)), (0, .ref (ad 0)), (1, .int (iI a1)), (2, .int (iI a2)), (3, .int (iI a3))]) hx hb dX10_reach_34 hl (by decide) rfl (fun ls hl => ?_)
          refine lv_iload hx hb dX10_reach_36 (lv_at hl 0 rfl) ?_
          refine gi_zeq (tgt := 48) hx hb dX10_reach_38 (by decide) (by omega) (fun c_11 => ?_) (fun c_11 => ?_)
          · refine lv_aload_n hx hb dX10_reach_48 rfl (lv_at hl 1 rfl) ?_
            refine rwG_tries C hP mF_X10_44 dX10_reach_49 ?_
            refine lv_iload_n hx hb dX10_reach_52 rfl (lv_at hl 2 rfl) ?_
            refine g_cv (As := [.int (iI a1)]) (rest := []) (n := 1) C hml (c_X7_openOf l D k A ad hD (va_up (va_up v 25 (v 25)) 26 a3) (va_up (va_up (va_up (va_up f 24 (ovE (v 23) a3 (f 26) (f 23) (fun _ => (shF (v 1) (f 1) (v 22) 2)) (f 24))) 25 (f 25)) 26 (ovH (v 23) a3 (f 26) (f 23) (fun _ => (shF (v 1) (f 1) (v 22) 2)))) 27 (ovO a3 (f 23) (fun _ => (shF (v 1) (f 1) (v 22) 2)) (f 27))) g a1 (by omega) (show 0 ≤ a1 ∧ a1 ≤ 15 from by omega)) mM_X10_197 mI_X7_openOf mE_X7_openOf mN_X7 mC_X7_openOf (by decide +kernel) 30 (ci := 7) rfl rfl hP hS (fun _ h => h) ⟨Nat.le_of_ble_eq_true rfl, Nat.le_of_ble_eq_true rfl⟩ ⟨Nat.zero_le _, Nat.zero_le _⟩ hl.1 rfl rfl (Nat.le_of_ble_eq_true rfl) dX10_reach_53 (fun r_12 v_12 f_12 g_12 H locs hq_12 hP _ hS => ?_)
            obtain ⟨z_12, rfl, rfl, rfl, rfl, p0_12, p1_12⟩ := hq_12
            show W p l e (gRm 3 68) s m args below meth c _ _ 0 0 Q (F0 m 56 ls [.int (iI z_12)])
            replace p0_12 : z_12 = ((ovO a3 (f 23) (fun _ => (shF (v 1) (f 1) (v 22) 2)) (f 27)) a1 - 1) := p0_12
            replace p1_12 : (-1) ≤ z_12 ∧ z_12 ≤ 299 := p1_12
            have hz_12 : inR z_12 := (by first | omega | (rw [p0_12]; split <;> omega))
            have hj : z_12 = (ovO a3 (f 23) (fun _ => (shF (v 1) (f 1) (v 22) 2)) (f 27)) a1 - 1 := p0_12
            have hjw : 0 < (ovO a3 (f 23) (fun _ => (shF (v 1) (f 1) (v 22) 2)) (f 27)) a1 → (f 20) z_12 = a1 := fun h => by rw [hj]; exact ((hO2.1 a1 (by omega) (by omega)).2.2 h).1
            refine lv_istore (lv' := [(5, .int (iI z_12)), (4, .int (iI z_10)), (0, .ref (ad 0)), (1, .int (iI a1)), (2, .int (iI a2)), (3, .int (iI a3))]) hx hb dX10_reach_56 hl (by decide) rfl (fun ls hl => ?_)
            refine lv_iload hx hb dX10_reach_58 (lv_at hl 0 rfl) ?_
            refine lv_iconst (v := iI (-1)) hx hb dX10_reach_60 rfl ?_
            refine gi_cne (tgt := 70) hx hb dX10_reach_61 (by decide) (by omega) (by decide) (fun c_13 => ?_) (fun c_13 => ?_)
            · refine lv_aload_n hx hb dX10_reach_70 rfl (lv_at hl 2 rfl) ?_
              refine rwG_wall C hP mF_X10_30 dX10_reach_71 ?_
              refine lv_aload_n hx hb dX10_reach_74 rfl (lv_at hl 2 rfl) ?_
              refine rwG_tries C hP mF_X10_44 dX10_reach_75 ?_
              refine rwG_tries_round C hP mF_X10_200 dX10_reach_78 ?_
              refine lv_iload hx hb dX10_reach_81 (lv_at hl 0 rfl) ?_
              refine rwL_tries_round C hP (by omega) (by omega) dX10_reach_83 ?_
              show W p l e (gRm 3 68) s m args below meth c _ _ 0 0 Q (F0 m 84 ls [.int (iI (f 21 z_12)), .ref (ad 23)])
              have r_14 : 0 ≤ (f 21 z_12) ∧ (f 21 z_12) ≤ 3 := hP.2.2 21 z_12
              refine lv_aload_n hx hb dX10_reach_84 rfl (lv_at hl 2 rfl) ?_
              refine rwG_tries C hP mF_X10_44 dX10_reach_85 ?_
              refine rwG_tries_route C hP mF_X10_203 dX10_reach_88 ?_
              refine lv_iload hx hb dX10_reach_91 (lv_at hl 0 rfl) ?_
              refine rwL_tries_route C hP (by omega) (by omega) dX10_reach_93 ?_
              show W p l e (gRm 3 68) s m args below meth c _ _ 0 0 Q (F0 m 94 ls [.int (iI (f 22 z_12)), .int (iI (f 21 z_12)), .ref (ad 23)])
              have r_15 : 0 ≤ (f 22 z_12) ∧ (f 22 z_12) ≤ 4 := hP.2.2 22 z_12
              refine g_cv (As := [.int (iI (f 21 z_12)), .int (iI (f 22 z_12))]) (rest := []) (n := 2) C hml (c_X8_holdsOf l D k A ad hD (va_up (va_up v 25 (v 25)) 26 a3) (va_up (va_up (va_up (va_up f 24 (ovE (v 23) a3 (f 26) (f 23) (fun _ => (shF (v 1) (f 1) (v 22) 2)) (f 24))) 25 (f 25)) 26 (ovH (v 23) a3 (f 26) (f 23) (fun _ => (shF (v 1) (f 1) (v 22) 2)))) 27 (ovO a3 (f 23) (fun _ => (shF (v 1) (f 1) (v 22) 2)) (f 27))) g (f 21 z_12) (f 22 z_12) (by omega) (by omega) (show 0 ≤ (f 21 z_12) ∧ (f 21 z_12) ≤ 3 from by omega) (show 0 ≤ (f 22 z_12) ∧ (f 22 z_12) ≤ 4 from by omega)) mM_X10_173 mI_X8_holdsOf mE_X8_holdsOf mN_X8 mC_X8_holdsOf (by decide +kernel) 23 (ci := 8) rfl rfl hP hS (fun _ h => h) ⟨Nat.le_of_ble_eq_true rfl, Nat.le_of_ble_eq_true rfl⟩ ⟨Nat.zero_le _, Nat.zero_le _⟩ hl.1 rfl rfl (Nat.le_of_ble_eq_true rfl) dX10_reach_94 (fun r_16 v_16 f_16 g_16 H locs hq_16 hP _ hS => ?_)
              obtain ⟨z_16, rfl, rfl, rfl, rfl, p0_16, p1_16⟩ := hq_16
              show W p l e (gRm 3 68) s m args below meth c _ _ 0 0 Q (F0 m 97 ls [.int (iI z_16)])
              replace p0_16 : z_16 = ((f 15) ((f 21 z_12) * 5 + (f 22 z_12))) := p0_16
              replace p1_16 : 0 ≤ z_16 ∧ z_16 ≤ 60 := p1_16
              have hz_16 : inR z_16 := (by first | omega | (rw [p0_16]; split <;> omega))
              refine lv_istore (lv' := [(6, .int (iI z_16)), (5, .int (iI z_12)), (4, .int (iI z_10)), (0, .ref (ad 0)), (1, .int (iI a1)), (2, .int (iI a2)), (3, .int (iI a3))]) hx hb dX10_reach_97 hl (by decide) rfl (fun ls hl => ?_)
              refine lv_iload_n hx hb dX10_reach_99 rfl (lv_at hl 5 rfl) ?_
              refine lv_aload_n hx hb dX10_reach_100 rfl (lv_at hl 3 rfl) ?_
              refine rwG_tries C hP mF_X10_44 dX10_reach_101 ?_
              refine rwG_tries_hold C hP mF_X10_206 dX10_reach_104 ?_
              refine lv_iload hx hb dX10_reach_107 (lv_at hl 1 rfl) ?_
              refine rwL_tries_hold C hP (by omega) (by omega) dX10_reach_109 ?_
              show W p l e (gRm 3 68) s m args below meth c _ _ 0 0 Q (F0 m 110 ls [.int (iI (f 25 z_12)), .int (iI a2)])
              have r_17 : 0 ≤ (f 25 z_12) ∧ (f 25 z_12) ≤ 60 := hP.2.2 25 z_12
              refine gi_cle (tgt := 119) hx hb dX10_reach_110 (by decide) (by omega) (by omega) (fun c_18 => ?_) (fun c_18 => ?_)
              · refine lv_aload_n hx hb dX10_reach_119 rfl (lv_at hl 3 rfl) ?_
                refine lv_bipush (v := iI 10) hx hb dX10_reach_120 (by decide) ?_
                refine g_cv (As := [.int (iI 10)]) (rest := []) (n := 1) C hml (c_X10_refuse l D k A ad hD (va_up (va_up v 25 (v 25)) 26 a3) (va_up (va_up (va_up (va_up f 24 (ovE (v 23) a3 (f 26) (f 23) (fun _ => (shF (v 1) (f 1) (v 22) 2)) (f 24))) 25 (f 25)) 26 (ovH (v 23) a3 (f 26) (f 23) (fun _ => (shF (v 1) (f 1) (v 22) 2)))) 27 (ovO a3 (f 23) (fun _ => (shF (v 1) (f 1) (v 22) 2)) (f 27))) g 10 (by decide) (show 0 ≤ (10 : Int) ∧ (10 : Int) ≤ 10 from by omega)) mM_X10_88 mI_X10_refuse mE_X10_refuse mN_X10 mC_X10_refuse (by decide +kernel) 0 (ci := 10) rfl rfl hP hS (fun _ h => h) ⟨Nat.le_of_ble_eq_true rfl, Nat.le_of_ble_eq_true rfl⟩ ⟨Nat.zero_le _, Nat.zero_le _⟩ hl.1 rfl rfl (Nat.le_of_ble_eq_true rfl) dX10_reach_122 (fun r_19 v_19 f_19 g_19 H locs hq_19 hP _ hS => ?_)
                obtain ⟨rfl, rfl, rfl, rfl⟩ := hq_19
                show W p l e (gRm 3 68) s m args below meth c _ _ 0 0 Q (F0 m 125 ls [.int (iI (-1))])
                have hP : gWd D (rwT k ad) (va_up (va_up v 25 (10 : Int)) 26 a3) (va_up (va_up (va_up (va_up f 24 (ovE (v 23) a3 (f 26) (f 23) (fun _ => (shF (v 1) (f 1) (v 22) 2)) (f 24))) 25 (f 25)) 26 (ovH (v 23) a3 (f 26) (f 23) (fun _ => (shF (v 1) (f 1) (v 22) 2)))) 27 (ovO a3 (f 23) (fun _ => (shF (v 1) (f 1) (v 22) 2)) (f 27))) g H := ⟨hP.1, (gF_up (V := rwV) (F := rwF) (gF_up (V := rwV) (F := rwF) (gF_up (V := rwV) (F := rwF) (gF_up (V := rwV) (F := rwF) (gR_up (V := rwV) (F := rwF) (gR_up (V := rwV) (F := rwF) ⟨hok.1, hok.2⟩ 25 (hP.2.1 25)) 26 (hP.2.1 26)) 24 (hP.2.2 24)) 25 (hP.2.2 25)) 26 (hP.2.2 26)) 27 (hP.2.2 27))⟩
                exact g_iret hQ C hr hlocks hP hS dX10_reach_125 ⟨(-1), (10 : Int), rfl, (by rw [show ((if (10 : Int) = 1 ∨ (10 : Int) = 2 ∨ (10 : Int) = 9 then (v 26) else a3) : Int) = a3 from by first | rfl | omega | ((repeat' split) <;> omega)]), (by rw [show ((if (10 : Int) = 1 ∨ (10 : Int) = 2 ∨ (10 : Int) = 9 then (f 24) else if (10 : Int) = 0 ∧ ¬ a2 < (f 15) ((f 21) ((ovO a3 (f 23) (fun _ => (shF (v 1) (f 1) (v 22) 2)) (f 27)) a1 - 1) * 5 + (f 22) ((ovO a3 (f 23) (fun _ => (shF (v 1) (f 1) (v 22) 2)) (f 27)) a1 - 1)) then u1 (ovE (v 23) a3 (f 26) (f 23) (fun _ => (shF (v 1) (f 1) (v 22) 2)) (f 24)) ((ovO a3 (f 23) (fun _ => (shF (v 1) (f 1) (v 22) 2)) (f 27)) a1 - 1) a3 else (ovE (v 23) a3 (f 26) (f 23) (fun _ => (shF (v 1) (f 1) (v 22) 2)) (f 24))) : Int → Int) = (ovE (v 23) a3 (f 26) (f 23) (fun _ => (shF (v 1) (f 1) (v 22) 2)) (f 24)) from by first | rfl | (rw [if_pos (by omega)]) | (rw [if_neg (by omega), if_neg (by first | omega | (rw [← hj]; omega))]) | (rw [if_neg (by omega), if_pos (by rw [← hj]; omega), hj]), show ((if (10 : Int) = 0 then u1 (f 25) ((ovO a3 (f 23) (fun _ => (shF (v 1) (f 1) (v 22) 2)) (f 27)) a1 - 1) a2 else (f 25)) : Int → Int) = (f 25) from by first | rfl | (rw [if_neg (by omega)]) | (rw [if_pos (by omega), hj]), show ((if (10 : Int) = 1 ∨ (10 : Int) = 2 ∨ (10 : Int) = 9 then (f 26) else if (10 : Int) = 0 ∧ ¬ a2 < (f 15) ((f 21) ((ovO a3 (f 23) (fun _ => (shF (v 1) (f 1) (v 22) 2)) (f 27)) a1 - 1) * 5 + (f 22) ((ovO a3 (f 23) (fun _ => (shF (v 1) (f 1) (v 22) 2)) (f 27)) a1 - 1)) then u1 (ovH (v 23) a3 (f 26) (f 23) (fun _ => (shF (v 1) (f 1) (v 22) 2))) ((ovO a3 (f 23) (fun _ => (shF (v 1) (f 1) (v 22) 2)) (f 27)) a1 - 1) 1 else (ovH (v 23) a3 (f 26) (f 23) (fun _ => (shF (v 1) (f 1) (v 22) 2)))) : Int → Int) = (ovH (v 23) a3 (f 26) (f 23) (fun _ => (shF (v 1) (f 1) (v 22) 2))) from by first | rfl | (rw [if_pos (by omega)]) | (rw [if_neg (by omega), if_neg (by first | omega | (rw [← hj]; omega))]) | (rw [if_neg (by omega), if_pos (by rw [← hj]; omega), hj]), show ((if (10 : Int) = 1 ∨ (10 : Int) = 2 ∨ (10 : Int) = 9 then (f 27) else if (10 : Int) = 0 ∧ ¬ a2 < (f 15) ((f 21) ((ovO a3 (f 23) (fun _ => (shF (v 1) (f 1) (v 22) 2)) (f 27)) a1 - 1) * 5 + (f 22) ((ovO a3 (f 23) (fun _ => (shF (v 1) (f 1) (v 22) 2)) (f 27)) a1 - 1)) then u1 (ovO a3 (f 23) (fun _ => (shF (v 1) (f 1) (v 22) 2)) (f 27)) a1 0 else (ovO a3 (f 23) (fun _ => (shF (v 1) (f 1) (v 22) 2)) (f 27))) : Int → Int) = (ovO a3 (f 23) (fun _ => (shF (v 1) (f 1) (v 22) 2)) (f 27)) from by first | rfl | (rw [if_pos (by omega)]) | (rw [if_neg (by omega), if_neg (by rw [← hj]; omega)]) | (rw [if_neg (by omega), if_pos (by rw [← hj]; omega), hjw (by omega)])]), rfl, (by first | (rw [if_pos (by omega)]; done) | (rw [if_neg (by omega), ← hj]; first | (rw [if_pos (by omega)] <;> omega) | (rw [if_neg (by omega)] <;> omega))), (by first | omega | ((repeat' split) <;> omega)), (by first | omega | (rw [← hj]; (repeat' split) <;> omega) | ((repeat' split) <;> omega))⟩
              · refine lv_iload_n hx hb dX10_reach_113 rfl (lv_at hl 5 rfl) ?_
                refine lv_iload hx hb dX10_reach_114 (lv_at hl 0 rfl) ?_
                refine gi_cle (tgt := 126) hx hb dX10_reach_116 (by decide) (by omega) (by omega) (fun c_20 => ?_) (fun c_20 => ?_)
                · refine lv_aload_n hx hb dX10_reach_126 rfl (lv_at hl 3 rfl) ?_
                  refine rwG_tries C hP mF_X10_44 dX10_reach_127 ?_
                  refine rwG_tries_hold C hP mF_X10_206 dX10_reach_130 ?_
                  refine lv_iload hx hb dX10_reach_133 (lv_at hl 1 rfl) ?_
                  refine lv_iload_n hx hb dX10_reach_135 rfl (lv_at hl 5 rfl) ?_
                  refine rwS_tries_hold (f1 := (va_up (va_up (va_up (va_up f 24 (ovE (v 23) a3 (f 26) (f 23) (fun _ => (shF (v 1) (f 1) (v 22) 2)) (f 24))) 25 (u1 (f 25) z_12 a2)) 26 (ovH (v 23) a3 (f 26) (f 23) (fun _ => (shF (v 1) (f 1) (v 22) 2)))) 27 (ovO a3 (f 23) (fun _ => (shF (v 1) (f 1) (v 22) 2)) (f 27)))) C hP hD hS (by omega) (by omega) (by omega) rfl (Or.inr (gF_up (V := rwV) (F := rwF) (gF_up (V := rwV) (F := rwF) (gF_up (V := rwV) (F := rwF) (gF_up (V := rwV) (F := rwF) (gR_up (V := rwV) (F := rwF) (gR_up (V := rwV) (F := rwF) ⟨hok.1, hok.2⟩ 25 (hP.2.1 25)) 26 (hP.2.1 26)) 24 (hP.2.2 24)) 25 (u1_rng (hP.2.2 25) (show 0 ≤ a2 ∧ a2 ≤ 60 from (by omega)))) 26 (hP.2.2 26)) 27 (hP.2.2 27))) dX10_reach_136 (fun H locs hP hS => ?_)
                  refine lv_iload_n hx hb dX10_reach_137 rfl (lv_at hl 5 rfl) ?_
                  refine lv_iload hx hb dX10_reach_138 (lv_at hl 0 rfl) ?_
                  refine gi_cge (tgt := 149) hx hb dX10_reach_140 (by decide) (by omega) (by omega) (fun c_21 => ?_) (fun c_21 => ?_)
                  · refine lv_aload_n hx hb dX10_reach_149 rfl (lv_at hl 3 rfl) ?_
                    refine rwG_tries C hP mF_X10_44 dX10_reach_150 ?_
                    refine lv_iload hx hb dX10_reach_153 (lv_at hl 1 rfl) ?_
                    refine lv_aload_n hx hb dX10_reach_155 rfl (lv_at hl 3 rfl) ?_
                    refine rwG_time C hP mF_X10_114 dX10_reach_156 ?_
                    show W p l e (gRm 3 68) s m args below meth c _ _ 0 0 Q (F0 m 159 ls [.int (iI a3), .int (iI z_12), .ref (ad 30)])
                    have r_22 : 0 ≤ a3 ∧ a3 ≤ 1000000 := hP.2.1 26
                    refine lv_iconst (v := iI 1) hx hb dX10_reach_159 rfl ?_
                    refine g_cv (As := [.int (iI z_12), .int (iI a3), .int (iI 1)]) (rest := []) (n := 3) C hml (c_X7_finish l D k A ad hD (va_up (va_up v 25 (v 25)) 26 a3) (va_up (va_up (va_up (va_up f 24 (ovE (v 23) a3 (f 26) (f 23) (fun _ => (shF (v 1) (f 1) (v 22) 2)) (f 24))) 25 (u1 (f 25) z_12 a2)) 26 (ovH (v 23) a3 (f 26) (f 23) (fun _ => (shF (v 1) (f 1) (v 22) 2)))) 27 (ovO a3 (f 23) (fun _ => (shF (v 1) (f 1) (v 22) 2)) (f 27))) g z_12 a3 1 (by omega) (by omega) (by decide) (show 0 ≤ z_12 ∧ z_12 ≤ 299 from by omega) (show (-1) ≤ a3 ∧ a3 ≤ 1000999 from by omega) (show 0 ≤ (1 : Int) ∧ (1 : Int) ≤ 4 from by omega)) mM_X10_209 mI_X7_finish mE_X7_finish mN_X7 mC_X7_finish (by decide +kernel) 30 (ci := 7) rfl rfl hP hS (fun _ h => h) ⟨Nat.le_of_ble_eq_true rfl, Nat.le_of_ble_eq_true rfl⟩ ⟨Nat.zero_le _, Nat.zero_le _⟩ hl.1 rfl rfl (Nat.le_of_ble_eq_true rfl) dX10_reach_160 (fun r_23 v_23 f_23 g_23 H locs hq_23 hP _ hS => ?_)
                    obtain ⟨rfl, rfl, rfl, rfl⟩ := hq_23
                    show W p l e (gRm 3 68) s m args below meth c _ _ 0 0 Q (F0 m 163 ls [])
                    have hP : gWd D (rwT k ad) (va_up (va_up v 25 (v 25)) 26 a3) (va_up (va_up (va_up (va_up f 24 (u1 (ovE (v 23) a3 (f 26) (f 23) (fun _ => (shF (v 1) (f 1) (v 22) 2)) (f 24)) z_12 a3)) 25 (u1 (f 25) z_12 a2)) 26 (u1 (ovH (v 23) a3 (f 26) (f 23) (fun _ => (shF (v 1) (f 1) (v 22) 2))) z_12 (1 : Int))) 27 (u1 (ovO a3 (f 23) (fun _ => (shF (v 1) (f 1) (v 22) 2)) (f 27)) ((f 20) z_12) 0)) g H := ⟨hP.1, (gF_up (V := rwV) (F := rwF) (gF_up (V := rwV) (F := rwF) (gF_up (V := rwV) (F := rwF) (gF_up (V := rwV) (F := rwF) (gR_up (V := rwV) (F := rwF) (gR_up (V := rwV) (F := rwF) ⟨hok.1, hok.2⟩ 25 (hP.2.1 25)) 26 (hP.2.1 26)) 24 (hP.2.2 24)) 25 (hP.2.2 25)) 26 (hP.2.2 26)) 27 (hP.2.2 27))⟩
                    refine lv_aload_n hx hb dX10_reach_163 rfl (lv_at hl 3 rfl) ?_
                    refine lv_iconst (v := iI 1) hx hb dX10_reach_164 rfl ?_
                    refine g_cv (As := [.int (iI 1)]) (rest := []) (n := 1) C hml (c_X10_answer l D k A ad hD (va_up (va_up v 25 (v 25)) 26 a3) (va_up (va_up (va_up (va_up f 24 (u1 (ovE (v 23) a3 (f 26) (f 23) (fun _ => (shF (v 1) (f 1) (v 22) 2)) (f 24)) z_12 a3)) 25 (u1 (f 25) z_12 a2)) 26 (u1 (ovH (v 23) a3 (f 26) (f 23) (fun _ => (shF (v 1) (f 1) (v 22) 2))) z_12 (1 : Int))) 27 (u1 (ovO a3 (f 23) (fun _ => (shF (v 1) (f 1) (v 22) 2)) (f 27)) ((f 20) z_12) 0)) g 1 (by decide)) mM_X10_120 mI_X10_answer mE_X10_answer mN_X10 mC_X10_answer (by decide +kernel) 0 (ci := 10) rfl rfl hP hS (fun _ h => h) ⟨Nat.le_of_ble_eq_true rfl, Nat.le_of_ble_eq_true rfl⟩ ⟨Nat.zero_le _, Nat.zero_le _⟩ hl.1 rfl rfl (Nat.le_of_ble_eq_true rfl) dX10_reach_165 (fun r_24 v_24 f_24 g_24 H locs hq_24 hP _ hS => ?_)
                    obtain ⟨z_24, rfl, rfl, rfl, rfl, p0_24⟩ := hq_24
                    show W p l e (gRm 3 68) s m args below meth c _ _ 0 0 Q (F0 m 168 ls [.int (iI z_24)])
                    have hP : gWd D (rwT k ad) (va_up (va_up v 25 0) 26 a3) (va_up (va_up (va_up (va_up f 24 (u1 (ovE (v 23) a3 (f 26) (f 23) (fun _ => (shF (v 1) (f 1) (v 22) 2)) (f 24)) z_12 a3)) 25 (u1 (f 25) z_12 a2)) 26 (u1 (ovH (v 23) a3 (f 26) (f 23) (fun _ => (shF (v 1) (f 1) (v 22) 2))) z_12 (1 : Int))) 27 (u1 (ovO a3 (f 23) (fun _ => (shF (v 1) (f 1) (v 22) 2)) (f 27)) ((f 20) z_12) 0)) g H := ⟨hP.1, (gF_up (V := rwV) (F := rwF) (gF_up (V := rwV) (F := rwF) (gF_up (V := rwV) (F := rwF) (gF_up (V := rwV) (F := rwF) (gR_up (V := rwV) (F := rwF) (gR_up (V := rwV) (F := rwF) ⟨hok.1, hok.2⟩ 25 (hP.2.1 25)) 26 (hP.2.1 26)) 24 (hP.2.2 24)) 25 (hP.2.2 25)) 26 (hP.2.2 26)) 27 (hP.2.2 27))⟩
                    replace p0_24 : z_24 = (1 : Int) := p0_24
                    have hz_24 : inR z_24 := (by first | omega | (rw [p0_24]; split <;> omega))
                    exact g_iret hQ C hr hlocks hP hS dX10_reach_168 ⟨z_24, 0, rfl, (by rw [show ((if (0 : Int) = 1 ∨ (0 : Int) = 2 ∨ (0 : Int) = 9 then (v 26) else a3) : Int) = a3 from by first | rfl | omega | ((repeat' split) <;> omega)]), (by rw [show ((if (0 : Int) = 1 ∨ (0 : Int) = 2 ∨ (0 : Int) = 9 then (f 24) else if (0 : Int) = 0 ∧ ¬ a2 < (f 15) ((f 21) ((ovO a3 (f 23) (fun _ => (shF (v 1) (f 1) (v 22) 2)) (f 27)) a1 - 1) * 5 + (f 22) ((ovO a3 (f 23) (fun _ => (shF (v 1) (f 1) (v 22) 2)) (f 27)) a1 - 1)) then u1 (ovE (v 23) a3 (f 26) (f 23) (fun _ => (shF (v 1) (f 1) (v 22) 2)) (f 24)) ((ovO a3 (f 23) (fun _ => (shF (v 1) (f 1) (v 22) 2)) (f 27)) a1 - 1) a3 else (ovE (v 23) a3 (f 26) (f 23) (fun _ => (shF (v 1) (f 1) (v 22) 2)) (f 24))) : Int → Int) = (u1 (ovE (v 23) a3 (f 26) (f 23) (fun _ => (shF (v 1) (f 1) (v 22) 2)) (f 24)) z_12 a3) from by first | rfl | (rw [if_pos (by omega)]) | (rw [if_neg (by omega), if_neg (by first | omega | (rw [← hj]; omega))]) | (rw [if_neg (by omega), if_pos (by rw [← hj]; omega), hj]), show ((if (0 : Int) = 0 then u1 (f 25) ((ovO a3 (f 23) (fun _ => (shF (v 1) (f 1) (v 22) 2)) (f 27)) a1 - 1) a2 else (f 25)) : Int → Int) = (u1 (f 25) z_12 a2) from by first | rfl | (rw [if_neg (by omega)]) | (rw [if_pos (by omega), hj]), show ((if (0 : Int) = 1 ∨ (0 : Int) = 2 ∨ (0 : Int) = 9 then (f 26) else if (0 : Int) = 0 ∧ ¬ a2 < (f 15) ((f 21) ((ovO a3 (f 23) (fun _ => (shF (v 1) (f 1) (v 22) 2)) (f 27)) a1 - 1) * 5 + (f 22) ((ovO a3 (f 23) (fun _ => (shF (v 1) (f 1) (v 22) 2)) (f 27)) a1 - 1)) then u1 (ovH (v 23) a3 (f 26) (f 23) (fun _ => (shF (v 1) (f 1) (v 22) 2))) ((ovO a3 (f 23) (fun _ => (shF (v 1) (f 1) (v 22) 2)) (f 27)) a1 - 1) 1 else (ovH (v 23) a3 (f 26) (f 23) (fun _ => (shF (v 1) (f 1) (v 22) 2)))) : Int → Int) = (u1 (ovH (v 23) a3 (f 26) (f 23) (fun _ => (shF (v 1) (f 1) (v 22) 2))) z_12 (1 : Int)) from by first | rfl | (rw [if_pos (by omega)]) | (rw [if_neg (by omega), if_neg (by first | omega | (rw [← hj]; omega))]) | (rw [if_neg (by omega), if_pos (by rw [← hj]; omega), hj]), show ((if (0 : Int) = 1 ∨ (0 : Int) = 2 ∨ (0 : Int) = 9 then (f 27) else if (0 : Int) = 0 ∧ ¬ a2 < (f 15) ((f 21) ((ovO a3 (f 23) (fun _ => (shF (v 1) (f 1) (v 22) 2)) (f 27)) a1 - 1) * 5 + (f 22) ((ovO a3 (f 23) (fun _ => (shF (v 1) (f 1) (v 22) 2)) (f 27)) a1 - 1)) then u1 (ovO a3 (f 23) (fun _ => (shF (v 1) (f 1) (v 22) 2)) (f 27)) a1 0 else (ovO a3 (f 23) (fun _ => (shF (v 1) (f 1) (v 22) 2)) (f 27))) : Int → Int) = (u1 (ovO a3 (f 23) (fun _ => (shF (v 1) (f 1) (v 22) 2)) (f 27)) ((f 20) z_12) 0) from by first | rfl | (rw [if_pos (by omega)]) | (rw [if_neg (by omega), if_neg (by rw [← hj]; omega)]) | (rw [if_neg (by omega), if_pos (by rw [← hj]; omega), hjw (by omega)])]), rfl, (by first | (rw [if_pos (by omega)]; done) | (rw [if_neg (by omega), ← hj]; first | (rw [if_pos (by omega)] <;> omega) | (rw [if_neg (by omega)] <;> omega))), (by first | omega | ((repeat' split) <;> omega)), (by first | omega | (rw [← hj]; (repeat' split) <;> omega) | ((repeat' split) <;> omega))⟩
                  · refine lv_aload_n hx hb dX10_reach_143 rfl (lv_at hl 3 rfl) ?_
                    refine lv_iconst (v := iI 0) hx hb dX10_reach_144 rfl ?_
                    refine g_cv (As := [.int (iI 0)]) (rest := []) (n := 1) C hml (c_X10_answer l D k A ad hD (va_up (va_up v 25 (v 25)) 26 a3) (va_up (va_up (va_up (va_up f 24 (ovE (v 23) a3 (f 26) (f 23) (fun _ => (shF (v 1) (f 1) (v 22) 2)) (f 24))) 25 (u1 (f 25) z_12 a2)) 26 (ovH (v 23) a3 (f 26) (f 23) (fun _ => (shF (v 1) (f 1) (v 22) 2)))) 27 (ovO a3 (f 23) (fun _ => (shF (v 1) (f 1) (v 22) 2)) (f 27))) g 0 (by decide)) mM_X10_120 mI_X10_answer mE_X10_answer mN_X10 mC_X10_answer (by decide +kernel) 0 (ci := 10) rfl rfl hP hS (fun _ h => h) ⟨Nat.le_of_ble_eq_true rfl, Nat.le_of_ble_eq_true rfl⟩ ⟨Nat.zero_le _, Nat.zero_le _⟩ hl.1 rfl rfl (Nat.le_of_ble_eq_true rfl) dX10_reach_145 (fun r_25 v_25 f_25 g_25 H locs hq_25 hP _ hS => ?_)
                    obtain ⟨z_25, rfl, rfl, rfl, rfl, p0_25⟩ := hq_25
                    show W p l e (gRm 3 68) s m args below meth c _ _ 0 0 Q (F0 m 148 ls [.int (iI z_25)])
                    have hP : gWd D (rwT k ad) (va_up (va_up v 25 0) 26 a3) (va_up (va_up (va_up (va_up f 24 (ovE (v 23) a3 (f 26) (f 23) (fun _ => (shF (v 1) (f 1) (v 22) 2)) (f 24))) 25 (u1 (f 25) z_12 a2)) 26 (ovH (v 23) a3 (f 26) (f 23) (fun _ => (shF (v 1) (f 1) (v 22) 2)))) 27 (ovO a3 (f 23) (fun _ => (shF (v 1) (f 1) (v 22) 2)) (f 27))) g H := ⟨hP.1, (gF_up (V := rwV) (F := rwF) (gF_up (V := rwV) (F := rwF) (gF_up (V := rwV) (F := rwF) (gF_up (V := rwV) (F := rwF) (gR_up (V := rwV) (F := rwF) (gR_up (V := rwV) (F := rwF) ⟨hok.1, hok.2⟩ 25 (hP.2.1 25)) 26 (hP.2.1 26)) 24 (hP.2.2 24)) 25 (hP.2.2 25)) 26 (hP.2.2 26)) 27 (hP.2.2 27))⟩
                    replace p0_25 : z_25 = (0 : Int) := p0_25
                    have hz_25 : inR z_25 := (by first | omega | (rw [p0_25]; split <;> omega))
                    exact g_iret hQ C hr hlocks hP hS dX10_reach_148 ⟨z_25, 0, rfl, (by rw [show ((if (0 : Int) = 1 ∨ (0 : Int) = 2 ∨ (0 : Int) = 9 then (v 26) else a3) : Int) = a3 from by first | rfl | omega | ((repeat' split) <;> omega)]), (by rw [show ((if (0 : Int) = 1 ∨ (0 : Int) = 2 ∨ (0 : Int) = 9 then (f 24) else if (0 : Int) = 0 ∧ ¬ a2 < (f 15) ((f 21) ((ovO a3 (f 23) (fun _ => (shF (v 1) (f 1) (v 22) 2)) (f 27)) a1 - 1) * 5 + (f 22) ((ovO a3 (f 23) (fun _ => (shF (v 1) (f 1) (v 22) 2)) (f 27)) a1 - 1)) then u1 (ovE (v 23) a3 (f 26) (f 23) (fun _ => (shF (v 1) (f 1) (v 22) 2)) (f 24)) ((ovO a3 (f 23) (fun _ => (shF (v 1) (f 1) (v 22) 2)) (f 27)) a1 - 1) a3 else (ovE (v 23) a3 (f 26) (f 23) (fun _ => (shF (v 1) (f 1) (v 22) 2)) (f 24))) : Int → Int) = (ovE (v 23) a3 (f 26) (f 23) (fun _ => (shF (v 1) (f 1) (v 22) 2)) (f 24)) from by first | rfl | (rw [if_pos (by omega)]) | (rw [if_neg (by omega), if_neg (by first | omega | (rw [← hj]; omega))]) | (rw [if_neg (by omega), if_pos (by rw [← hj]; omega), hj]), show ((if (0 : Int) = 0 then u1 (f 25) ((ovO a3 (f 23) (fun _ => (shF (v 1) (f 1) (v 22) 2)) (f 27)) a1 - 1) a2 else (f 25)) : Int → Int) = (u1 (f 25) z_12 a2) from by first | rfl | (rw [if_neg (by omega)]) | (rw [if_pos (by omega), hj]), show ((if (0 : Int) = 1 ∨ (0 : Int) = 2 ∨ (0 : Int) = 9 then (f 26) else if (0 : Int) = 0 ∧ ¬ a2 < (f 15) ((f 21) ((ovO a3 (f 23) (fun _ => (shF (v 1) (f 1) (v 22) 2)) (f 27)) a1 - 1) * 5 + (f 22) ((ovO a3 (f 23) (fun _ => (shF (v 1) (f 1) (v 22) 2)) (f 27)) a1 - 1)) then u1 (ovH (v 23) a3 (f 26) (f 23) (fun _ => (shF (v 1) (f 1) (v 22) 2))) ((ovO a3 (f 23) (fun _ => (shF (v 1) (f 1) (v 22) 2)) (f 27)) a1 - 1) 1 else (ovH (v 23) a3 (f 26) (f 23) (fun _ => (shF (v 1) (f 1) (v 22) 2)))) : Int → Int) = (ovH (v 23) a3 (f 26) (f 23) (fun _ => (shF (v 1) (f 1) (v 22) 2))) from by first | rfl | (rw [if_pos (by omega)]) | (rw [if_neg (by omega), if_neg (by first | omega | (rw [← hj]; omega))]) | (rw [if_neg (by omega), if_pos (by rw [← hj]; omega), hj]), show ((if (0 : Int) = 1 ∨ (0 : Int) = 2 ∨ (0 : Int) = 9 then (f 27) else if (0 : Int) = 0 ∧ ¬ a2 < (f 15) ((f 21) ((ovO a3 (f 23) (fun _ => (shF (v 1) (f 1) (v 22) 2)) (f 27)) a1 - 1) * 5 + (f 22) ((ovO a3 (f 23) (fun _ => (shF (v 1) (f 1) (v 22) 2)) (f 27)) a1 - 1)) then u1 (ovO a3 (f 23) (fun _ => (shF (v 1) (f 1) (v 22) 2)) (f 27)) a1 0 else (ovO a3 (f 23) (fun _ => (shF (v 1) (f 1) (v 22) 2)) (f 27))) : Int → Int) = (ovO a3 (f 23) (fun _ => (shF (v 1) (f 1) (v 22) 2)) (f 27)) from by first | rfl | (rw [if_pos (by omega)]) | (rw [if_neg (by omega), if_neg (by rw [← hj]; omega)]) | (rw [if_neg (by omega), if_pos (by rw [← hj]; omega), hjw (by omega)])]), rfl, (by first | (rw [if_pos (by omega)]; done) | (rw [if_neg (by omega), ← hj]; first | (rw [if_pos (by omega)] <;> omega) | (rw [if_neg (by omega)] <;> omega))), (by first | omega | ((repeat' split) <;> omega)), (by first | omega | (rw [← hj]; (repeat' split) <;> omega) | ((repeat' split) <;> omega))⟩
                · refine lv_aload_n hx hb dX10_reach_119 rfl (lv_at hl 3 rfl) ?_
                  refine lv_bipush (v := iI 10) hx hb dX10_reach_120 (by decide) ?_
                  refine g_cv (As := [.int (iI 10)]) (rest := []) (n := 1) C hml (c_X10_refuse l D k A ad hD (va_up (va_up v 25 (v 25)) 26 a3) (va_up (va_up (va_up (va_up f 24 (ovE (v 23) a3 (f 26) (f 23) (fun _ => (shF (v 1) (f 1) (v 22) 2)) (f 24))) 25 (f 25)) 26 (ovH (v 23) a3 (f 26) (f 23) (fun _ => (shF (v 1) (f 1) (v 22) 2)))) 27 (ovO a3 (f 23) (fun _ => (shF (v 1) (f 1) (v 22) 2)) (f 27))) g 10 (by decide) (show 0 ≤ (10 : Int) ∧ (10 : Int) ≤ 10 from by omega)) mM_X10_88 mI_X10_refuse mE_X10_refuse mN_X10 mC_X10_refuse (by decide +kernel) 0 (ci := 10) rfl rfl hP hS (fun _ h => h) ⟨Nat.le_of_ble_eq_true rfl, Nat.le_of_ble_eq_true rfl⟩ ⟨Nat.zero_le _, Nat.zero_le _⟩ hl.1 rfl rfl (Nat.le_of_ble_eq_true rfl) dX10_reach_122 (fun r_26 v_26 f_26 g_26 H locs hq_26 hP _ hS => ?_)
                  obtain ⟨rfl, rfl, rfl, rfl⟩ := hq_26
                  show W p l e (gRm 3 68) s m args below meth c _ _ 0 0 Q (F0 m 125 ls [.int (iI (-1))])
                  have hP : gWd D (rwT k ad) (va_up (va_up v 25 (10 : Int)) 26 a3) (va_up (va_up (va_up (va_up f 24 (ovE (v 23) a3 (f 26) (f 23) (fun _ => (shF (v 1) (f 1) (v 22) 2)) (f 24))) 25 (f 25)) 26 (ovH (v 23) a3 (f 26) (f 23) (fun _ => (shF (v 1) (f 1) (v 22) 2)))) 27 (ovO a3 (f 23) (fun _ => (shF (v 1) (f 1) (v 22) 2)) (f 27))) g H := ⟨hP.1, (gF_up (V := rwV) (F := rwF) (gF_up (V := rwV) (F := rwF) (gF_up (V := rwV) (F := rwF) (gF_up (V := rwV) (F := rwF) (gR_up (V := rwV) (F := rwF) (gR_up (V := rwV) (F := rwF) ⟨hok.1, hok.2⟩ 25 (hP.2.1 25)) 26 (hP.2.1 26)) 24 (hP.2.2 24)) 25 (hP.2.2 25)) 26 (hP.2.2 26)) 27 (hP.2.2 27))⟩
                  exact g_iret hQ C hr hlocks hP hS dX10_reach_125 ⟨(-1), (10 : Int), rfl, (by rw [show ((if (10 : Int) = 1 ∨ (10 : Int) = 2 ∨ (10 : Int) = 9 then (v 26) else a3) : Int) = a3 from by first | rfl | omega | ((repeat' split) <;> omega)]), (by rw [show ((if (10 : Int) = 1 ∨ (10 : Int) = 2 ∨ (10 : Int) = 9 then (f 24) else if (10 : Int) = 0 ∧ ¬ a2 < (f 15) ((f 21) ((ovO a3 (f 23) (fun _ => (shF (v 1) (f 1) (v 22) 2)) (f 27)) a1 - 1) * 5 + (f 22) ((ovO a3 (f 23) (fun _ => (shF (v 1) (f 1) (v 22) 2)) (f 27)) a1 - 1)) then u1 (ovE (v 23) a3 (f 26) (f 23) (fun _ => (shF (v 1) (f 1) (v 22) 2)) (f 24)) ((ovO a3 (f 23) (fun _ => (shF (v 1) (f 1) (v 22) 2)) (f 27)) a1 - 1) a3 else (ovE (v 23) a3 (f 26) (f 23) (fun _ => (shF (v 1) (f 1) (v 22) 2)) (f 24))) : Int → Int) = (ovE (v 23) a3 (f 26) (f 23) (fun _ => (shF (v 1) (f 1) (v 22) 2)) (f 24)) from by first | rfl | (rw [if_pos (by omega)]) | (rw [if_neg (by omega), if_neg (by first | omega | (rw [← hj]; omega))]) | (rw [if_neg (by omega), if_pos (by rw [← hj]; omega), hj]), show ((if (10 : Int) = 0 then u1 (f 25) ((ovO a3 (f 23) (fun _ => (shF (v 1) (f 1) (v 22) 2)) (f 27)) a1 - 1) a2 else (f 25)) : Int → Int) = (f 25) from by first | rfl | (rw [if_neg (by omega)]) | (rw [if_pos (by omega), hj]), show ((if (10 : Int) = 1 ∨ (10 : Int) = 2 ∨ (10 : Int) = 9 then (f 26) else if (10 : Int) = 0 ∧ ¬ a2 < (f 15) ((f 21) ((ovO a3 (f 23) (fun _ => (shF (v 1) (f 1) (v 22) 2)) (f 27)) a1 - 1) * 5 + (f 22) ((ovO a3 (f 23) (fun _ => (shF (v 1) (f 1) (v 22) 2)) (f 27)) a1 - 1)) then u1 (ovH (v 23) a3 (f 26) (f 23) (fun _ => (shF (v 1) (f 1) (v 22) 2))) ((ovO a3 (f 23) (fun _ => (shF (v 1) (f 1) (v 22) 2)) (f 27)) a1 - 1) 1 else (ovH (v 23) a3 (f 26) (f 23) (fun _ => (shF (v 1) (f 1) (v 22) 2)))) : Int → Int) = (ovH (v 23) a3 (f 26) (f 23) (fun _ => (shF (v 1) (f 1) (v 22) 2))) from by first | rfl | (rw [if_pos (by omega)]) | (rw [if_neg (by omega), if_neg (by first | omega | (rw [← hj]; omega))]) | (rw [if_neg (by omega), if_pos (by rw [← hj]; omega), hj]), show ((if (10 : Int) = 1 ∨ (10 : Int) = 2 ∨ (10 : Int) = 9 then (f 27) else if (10 : Int) = 0 ∧ ¬ a2 < (f 15) ((f 21) ((ovO a3 (f 23) (fun _ => (shF (v 1) (f 1) (v 22) 2)) (f 27)) a1 - 1) * 5 + (f 22) ((ovO a3 (f 23) (fun _ => (shF (v 1) (f 1) (v 22) 2)) (f 27)) a1 - 1)) then u1 (ovO a3 (f 23) (fun _ => (shF (v 1) (f 1) (v 22) 2)) (f 27)) a1 0 else (ovO a3 (f 23) (fun _ => (shF (v 1) (f 1) (v 22) 2)) (f 27))) : Int → Int) = (ovO a3 (f 23) (fun _ => (shF (v 1) (f 1) (v 22) 2)) (f 27)) from by first | rfl | (rw [if_pos (by omega)]) | (rw [if_neg (by omega), if_neg (by rw [← hj]; omega)]) | (rw [if_neg (by omega), if_pos (by rw [← hj]; omega), hjw (by omega)])]), rfl, (by first | (rw [if_pos (by omega)]; done) | (rw [if_neg (by omega), ← hj]; first | (rw [if_pos (by omega)] <;> omega) | (rw [if_neg (by omega)] <;> omega))), (by first | omega | ((repeat' split) <;> omega)), (by first | omega | (rw [← hj]; (repeat' split) <;> omega) | ((repeat' split) <;> omega))⟩
            · refine lv_aload_n hx hb dX10_reach_64 rfl (lv_at hl 2 rfl) ?_
              refine lv_iconst (v := iI 5) hx hb dX10_reach_65 rfl ?_
              refine g_cv (As := [.int (iI 5)]) (rest := []) (n := 1) C hml (c_X10_refuse l D k A ad hD (va_up (va_up v 25 (v 25)) 26 a3) (va_up (va_up (va_up (va_up f 24 (ovE (v 23) a3 (f 26) (f 23) (fun _ => (shF (v 1) (f 1) (v 22) 2)) (f 24))) 25 (f 25)) 26 (ovH (v 23) a3 (f 26) (f 23) (fun _ => (shF (v 1) (f 1) (v 22) 2)))) 27 (ovO a3 (f 23) (fun _ => (shF (v 1) (f 1) (v 22) 2)) (f 27))) g 5 (by decide) (show 0 ≤ (5 : Int) ∧ (5 : Int) ≤ 10 from by omega)) mM_X10_88 mI_X10_refuse mE_X10_refuse mN_X10 mC_X10_refuse (by decide +kernel) 0 (ci := 10) rfl rfl hP hS (fun _ h => h) ⟨Nat.le_of_ble_eq_true rfl, Nat.le_of_ble_eq_true rfl⟩ ⟨Nat.zero_le _, Nat.zero_le _⟩ hl.1 rfl rfl (Nat.le_of_ble_eq_true rfl) dX10_reach_66 (fun r_27 v_27 f_27 g_27 H locs hq_27 hP _ hS => ?_)
              obtain ⟨rfl, rfl, rfl, rfl⟩ := hq_27
              show W p l e (gRm 3 68) s m args below meth c _ _ 0 0 Q (F0 m 69 ls [.int (iI (-1))])
              have hP : gWd D (rwT k ad) (va_up (va_up v 25 (5 : Int)) 26 a3) (va_up (va_up (va_up (va_up f 24 (ovE (v 23) a3 (f 26) (f 23) (fun _ => (shF (v 1) (f 1) (v 22) 2)) (f 24))) 25 (f 25)) 26 (ovH (v 23) a3 (f 26) (f 23) (fun _ => (shF (v 1) (f 1) (v 22) 2)))) 27 (ovO a3 (f 23) (fun _ => (shF (v 1) (f 1) (v 22) 2)) (f 27))) g H := ⟨hP.1, (gF_up (V := rwV) (F := rwF) (gF_up (V := rwV) (F := rwF) (gF_up (V := rwV) (F := rwF) (gF_up (V := rwV) (F := rwF) (gR_up (V := rwV) (F := rwF) (gR_up (V := rwV) (F := rwF) ⟨hok.1, hok.2⟩ 25 (hP.2.1 25)) 26 (hP.2.1 26)) 24 (hP.2.2 24)) 25 (hP.2.2 25)) 26 (hP.2.2 26)) 27 (hP.2.2 27))⟩
              exact g_iret hQ C hr hlocks hP hS dX10_reach_69 ⟨(-1), (5 : Int), rfl, (by rw [show ((if (5 : Int) = 1 ∨ (5 : Int) = 2 ∨ (5 : Int) = 9 then (v 26) else a3) : Int) = a3 from by first | rfl | omega | ((repeat' split) <;> omega)]), (by rw [show ((if (5 : Int) = 1 ∨ (5 : Int) = 2 ∨ (5 : Int) = 9 then (f 24) else if (5 : Int) = 0 ∧ ¬ a2 < (f 15) ((f 21) ((ovO a3 (f 23) (fun _ => (shF (v 1) (f 1) (v 22) 2)) (f 27)) a1 - 1) * 5 + (f 22) ((ovO a3 (f 23) (fun _ => (shF (v 1) (f 1) (v 22) 2)) (f 27)) a1 - 1)) then u1 (ovE (v 23) a3 (f 26) (f 23) (fun _ => (shF (v 1) (f 1) (v 22) 2)) (f 24)) ((ovO a3 (f 23) (fun _ => (shF (v 1) (f 1) (v 22) 2)) (f 27)) a1 - 1) a3 else (ovE (v 23) a3 (f 26) (f 23) (fun _ => (shF (v 1) (f 1) (v 22) 2)) (f 24))) : Int → Int) = (ovE (v 23) a3 (f 26) (f 23) (fun _ => (shF (v 1) (f 1) (v 22) 2)) (f 24)) from by first | rfl | (rw [if_pos (by omega)]) | (rw [if_neg (by omega), if_neg (by first | omega | (rw [← hj]; omega))]) | (rw [if_neg (by omega), if_pos (by rw [← hj]; omega), hj]), show ((if (5 : Int) = 0 then u1 (f 25) ((ovO a3 (f 23) (fun _ => (shF (v 1) (f 1) (v 22) 2)) (f 27)) a1 - 1) a2 else (f 25)) : Int → Int) = (f 25) from by first | rfl | (rw [if_neg (by omega)]) | (rw [if_pos (by omega), hj]), show ((if (5 : Int) = 1 ∨ (5 : Int) = 2 ∨ (5 : Int) = 9 then (f 26) else if (5 : Int) = 0 ∧ ¬ a2 < (f 15) ((f 21) ((ovO a3 (f 23) (fun _ => (shF (v 1) (f 1) (v 22) 2)) (f 27)) a1 - 1) * 5 + (f 22) ((ovO a3 (f 23) (fun _ => (shF (v 1) (f 1) (v 22) 2)) (f 27)) a1 - 1)) then u1 (ovH (v 23) a3 (f 26) (f 23) (fun _ => (shF (v 1) (f 1) (v 22) 2))) ((ovO a3 (f 23) (fun _ => (shF (v 1) (f 1) (v 22) 2)) (f 27)) a1 - 1) 1 else (ovH (v 23) a3 (f 26) (f 23) (fun _ => (shF (v 1) (f 1) (v 22) 2)))) : Int → Int) = (ovH (v 23) a3 (f 26) (f 23) (fun _ => (shF (v 1) (f 1) (v 22) 2))) from by first | rfl | (rw [if_pos (by omega)]) | (rw [if_neg (by omega), if_neg (by first | omega | (rw [← hj]; omega))]) | (rw [if_neg (by omega), if_pos (by rw [← hj]; omega), hj]), show ((if (5 : Int) = 1 ∨ (5 : Int) = 2 ∨ (5 : Int) = 9 then (f 27) else if (5 : Int) = 0 ∧ ¬ a2 < (f 15) ((f 21) ((ovO a3 (f 23) (fun _ => (shF (v 1) (f 1) (v 22) 2)) (f 27)) a1 - 1) * 5 + (f 22) ((ovO a3 (f 23) (fun _ => (shF (v 1) (f 1) (v 22) 2)) (f 27)) a1 - 1)) then u1 (ovO a3 (f 23) (fun _ => (shF (v 1) (f 1) (v 22) 2)) (f 27)) a1 0 else (ovO a3 (f 23) (fun _ => (shF (v 1) (f 1) (v 22) 2)) (f 27))) : Int → Int) = (ovO a3 (f 23) (fun _ => (shF (v 1) (f 1) (v 22) 2)) (f 27)) from by first | rfl | (rw [if_pos (by omega)]) | (rw [if_neg (by omega), if_neg (by rw [← hj]; omega)]) | (rw [if_neg (by omega), if_pos (by rw [← hj]; omega), hjw (by omega)])]), rfl, (by first | (rw [if_pos (by omega)]; done) | (rw [if_neg (by omega), ← hj]; first | (rw [if_pos (by omega)] <;> omega) | (rw [if_neg (by omega)] <;> omega))), (by first | omega | ((repeat' split) <;> omega)), (by first | omega | (rw [← hj]; (repeat' split) <;> omega) | ((repeat' split) <;> omega))⟩
          · exfalso; omega
        · replace hP : gWd D (rwT k ad) (va_up (va_up v 25 (v 25)) 26 (v 26)) (va_up (va_up (va_up (va_up f 24 (f 24)) 25 (f 25)) 26 (f 26)) 27 (f 27)) g H := by have h9 := hP; simp only [if_neg hzp] at h9; exact h9
          refine lv_istore (lv' := [(4, .int (iI z_10)), (0, .ref (ad 0)), (1, .int (iI a1)), (2, .int (iI a2)), (3, .int (iI a3))]) hx hb dX10_reach_34 hl (by decide) rfl (fun ls hl => ?_)
          refine lv_iload hx hb dX10_reach_36 (lv_at hl 0 rfl) ?_
          refine gi_zeq (tgt := 48) hx hb dX10_reach_38 (by decide) (by omega) (fun c_28 => ?_) (fun c_28 => ?_)
          · exfalso; omega
          · refine lv_aload_n hx hb dX10_reach_41 rfl (lv_at hl 1 rfl) ?_
            refine lv_iload hx hb dX10_reach_42 (lv_at hl 0 rfl) ?_
            refine g_cv (As := [.int (iI z_10)]) (rest := []) (n := 1) C hml (c_X10_refuse l D k A ad hD (va_up (va_up v 25 (v 25)) 26 (v 26)) (va_up (va_up (va_up (va_up f 24 (f 24)) 25 (f 25)) 26 (f 26)) 27 (f 27)) g z_10 (by omega) (show 0 ≤ z_10 ∧ z_10 ≤ 10 from by omega)) mM_X10_88 mI_X10_refuse mE_X10_refuse mN_X10 mC_X10_refuse (by decide +kernel) 0 (ci := 10) rfl rfl hP hS (fun _ h => h) ⟨Nat.le_of_ble_eq_true rfl, Nat.le_of_ble_eq_true rfl⟩ ⟨Nat.zero_le _, Nat.zero_le _⟩ hl.1 rfl rfl (Nat.le_of_ble_eq_true rfl) dX10_reach_44 (fun r_29 v_29 f_29 g_29 H locs hq_29 hP _ hS => ?_)
            obtain ⟨rfl, rfl, rfl, rfl⟩ := hq_29
            show W p l e (gRm 3 68) s m args below meth c _ _ 0 0 Q (F0 m 47 ls [.int (iI (-1))])
            have hP : gWd D (rwT k ad) (va_up (va_up v 25 z_10) 26 (v 26)) (va_up (va_up (va_up (va_up f 24 (f 24)) 25 (f 25)) 26 (f 26)) 27 (f 27)) g H := ⟨hP.1, (gF_up (V := rwV) (F := rwF) (gF_up (V := rwV) (F := rwF) (gF_up (V := rwV) (F := rwF) (gF_up (V := rwV) (F := rwF) (gR_up (V := rwV) (F := rwF) (gR_up (V := rwV) (F := rwF) ⟨hok.1, hok.2⟩ 25 (hP.2.1 25)) 26 (hP.2.1 26)) 24 (hP.2.2 24)) 25 (hP.2.2 25)) 26 (hP.2.2 26)) 27 (hP.2.2 27))⟩
            exact g_iret hQ C hr hlocks hP hS dX10_reach_47 ⟨(-1), z_10, rfl, (by rw [show ((if z_10 = 1 ∨ z_10 = 2 ∨ z_10 = 9 then (v 26) else a3) : Int) = (v 26) from by first | rfl | omega | ((repeat' split) <;> omega)]), (by rw [show ((if z_10 = 1 ∨ z_10 = 2 ∨ z_10 = 9 then (f 24) else if z_10 = 0 ∧ ¬ a2 < (f 15) ((f 21) ((ovO a3 (f 23) (fun _ => (shF (v 1) (f 1) (v 22) 2)) (f 27)) a1 - 1) * 5 + (f 22) ((ovO a3 (f 23) (fun _ => (shF (v 1) (f 1) (v 22) 2)) (f 27)) a1 - 1)) then u1 (ovE (v 23) a3 (f 26) (f 23) (fun _ => (shF (v 1) (f 1) (v 22) 2)) (f 24)) ((ovO a3 (f 23) (fun _ => (shF (v 1) (f 1) (v 22) 2)) (f 27)) a1 - 1) a3 else (ovE (v 23) a3 (f 26) (f 23) (fun _ => (shF (v 1) (f 1) (v 22) 2)) (f 24))) : Int → Int) = (f 24) from by first | rfl | (rw [if_pos (by omega)]) | (rw [if_neg (by omega), if_neg (by first | omega | (rw [← hj]; omega))]) | (rw [if_neg (by omega), if_pos (by rw [← hj]; omega), hj]), show ((if z_10 = 0 then u1 (f 25) ((ovO a3 (f 23) (fun _ => (shF (v 1) (f 1) (v 22) 2)) (f 27)) a1 - 1) a2 else (f 25)) : Int → Int) = (f 25) from by first | rfl | (rw [if_neg (by omega)]) | (rw [if_pos (by omega), hj]), show ((if z_10 = 1 ∨ z_10 = 2 ∨ z_10 = 9 then (f 26) else if z_10 = 0 ∧ ¬ a2 < (f 15) ((f 21) ((ovO a3 (f 23) (fun _ => (shF (v 1) (f 1) (v 22) 2)) (f 27)) a1 - 1) * 5 + (f 22) ((ovO a3 (f 23) (fun _ => (shF (v 1) (f 1) (v 22) 2)) (f 27)) a1 - 1)) then u1 (ovH (v 23) a3 (f 26) (f 23) (fun _ => (shF (v 1) (f 1) (v 22) 2))) ((ovO a3 (f 23) (fun _ => (shF (v 1) (f 1) (v 22) 2)) (f 27)) a1 - 1) 1 else (ovH (v 23) a3 (f 26) (f 23) (fun _ => (shF (v 1) (f 1) (v 22) 2)))) : Int → Int) = (f 26) from by first | rfl | (rw [if_pos (by omega)]) | (rw [if_neg (by omega), if_neg (by first | omega | (rw [← hj]; omega))]) | (rw [if_neg (by omega), if_pos (by rw [← hj]; omega), hj]), show ((if z_10 = 1 ∨ z_10 = 2 ∨ z_10 = 9 then (f 27) else if z_10 = 0 ∧ ¬ a2 < (f 15) ((f 21) ((ovO a3 (f 23) (fun _ => (shF (v 1) (f 1) (v 22) 2)) (f 27)) a1 - 1) * 5 + (f 22) ((ovO a3 (f 23) (fun _ => (shF (v 1) (f 1) (v 22) 2)) (f 27)) a1 - 1)) then u1 (ovO a3 (f 23) (fun _ => (shF (v 1) (f 1) (v 22) 2)) (f 27)) a1 0 else (ovO a3 (f 23) (fun _ => (shF (v 1) (f 1) (v 22) 2)) (f 27))) : Int → Int) = (f 27) from by first | rfl | (rw [if_pos (by omega)]) | (rw [if_neg (by omega), if_neg (by rw [← hj]; omega)]) | (rw [if_neg (by omega), if_pos (by rw [← hj]; omega), hjw (by omega)])]), rfl, (by first | (rw [if_pos (by omega)]; done) | (rw [if_neg (by omega), ← hj]; first | (rw [if_pos (by omega)] <;> omega) | (rw [if_neg (by omega)] <;> omega))), (by first | omega | ((repeat' split) <;> omega)), (by first | omega | (rw [← hj]; (repeat' split) <;> omega) | ((repeat' split) <;> omega))⟩
      · refine lv_iconst (v := iI 2) hx hb dX10_reach_25 rfl ?_
        refine lv_goto (tgt := 34) hx hb dX10_reach_26 (by decide) ?_
        refine lv_istore (lv' := [(4, .int (iI 2)), (0, .ref (ad 0)), (1, .int (iI a1)), (2, .int (iI a2)), (3, .int (iI a3))]) hx hb dX10_reach_34 hl (by decide) rfl (fun ls hl => ?_)
        refine lv_iload hx hb dX10_reach_36 (lv_at hl 0 rfl) ?_
        refine gi_zeq (tgt := 48) hx hb dX10_reach_38 (by decide) (by decide) (fun c_30 => ?_) (fun c_30 => ?_)
        · exfalso; omega
        · refine lv_aload_n hx hb dX10_reach_41 rfl (lv_at hl 1 rfl) ?_
          refine lv_iload hx hb dX10_reach_42 (lv_at hl 0 rfl) ?_
          refine g_cv (As := [.int (iI 2)]) (rest := []) (n := 1) C hml (c_X10_refuse l D k A ad hD (va_up (va_up v 25 (v 25)) 26 (v 26)) (va_up (va_up (va_up (va_up f 24 (f 24)) 25 (f 25)) 26 (f 26)) 27 (f 27)) g 2 (by decide) (show 0 ≤ (2 : Int) ∧ (2 : Int) ≤ 10 from by omega)) mM_X10_88 mI_X10_refuse mE_X10_refuse mN_X10 mC_X10_refuse (by decide +kernel) 0 (ci := 10) rfl rfl hP hS (fun _ h => h) ⟨Nat.le_of_ble_eq_true rfl, Nat.le_of_ble_eq_true rfl⟩ ⟨Nat.zero_le _, Nat.zero_le _⟩ hl.1 rfl rfl (Nat.le_of_ble_eq_true rfl) dX10_reach_44 (fun r_31 v_31 f_31 g_31 H locs hq_31 hP _ hS => ?_)
          obtain ⟨rfl, rfl, rfl, rfl⟩ := hq_31
          show W p l e (gRm 3 68) s m args below meth c _ _ 0 0 Q (F0 m 47 ls [.int (iI (-1))])
          have hP : gWd D (rwT k ad) (va_up (va_up v 25 (2 : Int)) 26 (v 26)) (va_up (va_up (va_up (va_up f 24 (f 24)) 25 (f 25)) 26 (f 26)) 27 (f 27)) g H := ⟨hP.1, (gF_up (V := rwV) (F := rwF) (gF_up (V := rwV) (F := rwF) (gF_up (V := rwV) (F := rwF) (gF_up (V := rwV) (F := rwF) (gR_up (V := rwV) (F := rwF) (gR_up (V := rwV) (F := rwF) ⟨hok.1, hok.2⟩ 25 (hP.2.1 25)) 26 (hP.2.1 26)) 24 (hP.2.2 24)) 25 (hP.2.2 25)) 26 (hP.2.2 26)) 27 (hP.2.2 27))⟩
          exact g_iret hQ C hr hlocks hP hS dX10_reach_47 ⟨(-1), (2 : Int), rfl, (by rw [show ((if (2 : Int) = 1 ∨ (2 : Int) = 2 ∨ (2 : Int) = 9 then (v 26) else a3) : Int) = (v 26) from by first | rfl | omega | ((repeat' split) <;> omega)]), (by rw [show ((if (2 : Int) = 1 ∨ (2 : Int) = 2 ∨ (2 : Int) = 9 then (f 24) else if (2 : Int) = 0 ∧ ¬ a2 < (f 15) ((f 21) ((ovO a3 (f 23) (fun _ => (shF (v 1) (f 1) (v 22) 2)) (f 27)) a1 - 1) * 5 + (f 22) ((ovO a3 (f 23) (fun _ => (shF (v 1) (f 1) (v 22) 2)) (f 27)) a1 - 1)) then u1 (ovE (v 23) a3 (f 26) (f 23) (fun _ => (shF (v 1) (f 1) (v 22) 2)) (f 24)) ((ovO a3 (f 23) (fun _ => (shF (v 1) (f 1) (v 22) 2)) (f 27)) a1 - 1) a3 else (ovE (v 23) a3 (f 26) (f 23) (fun _ => (shF (v 1) (f 1) (v 22) 2)) (f 24))) : Int → Int) = (f 24) from by first | rfl | (rw [if_pos (by omega)]) | (rw [if_neg (by omega), if_neg (by first | omega | (rw [← hj]; omega))]) | (rw [if_neg (by omega), if_pos (by rw [← hj]; omega), hj]), show ((if (2 : Int) = 0 then u1 (f 25) ((ovO a3 (f 23) (fun _ => (shF (v 1) (f 1) (v 22) 2)) (f 27)) a1 - 1) a2 else (f 25)) : Int → Int) = (f 25) from by first | rfl | (rw [if_neg (by omega)]) | (rw [if_pos (by omega), hj]), show ((if (2 : Int) = 1 ∨ (2 : Int) = 2 ∨ (2 : Int) = 9 then (f 26) else if (2 : Int) = 0 ∧ ¬ a2 < (f 15) ((f 21) ((ovO a3 (f 23) (fun _ => (shF (v 1) (f 1) (v 22) 2)) (f 27)) a1 - 1) * 5 + (f 22) ((ovO a3 (f 23) (fun _ => (shF (v 1) (f 1) (v 22) 2)) (f 27)) a1 - 1)) then u1 (ovH (v 23) a3 (f 26) (f 23) (fun _ => (shF (v 1) (f 1) (v 22) 2))) ((ovO a3 (f 23) (fun _ => (shF (v 1) (f 1) (v 22) 2)) (f 27)) a1 - 1) 1 else (ovH (v 23) a3 (f 26) (f 23) (fun _ => (shF (v 1) (f 1) (v 22) 2)))) : Int → Int) = (f 26) from by first | rfl | (rw [if_pos (by omega)]) | (rw [if_neg (by omega), if_neg (by first | omega | (rw [← hj]; omega))]) | (rw [if_neg (by omega), if_pos (by rw [← hj]; omega), hj]), show ((if (2 : Int) = 1 ∨ (2 : Int) = 2 ∨ (2 : Int) = 9 then (f 27) else if (2 : Int) = 0 ∧ ¬ a2 < (f 15) ((f 21) ((ovO a3 (f 23) (fun _ => (shF (v 1) (f 1) (v 22) 2)) (f 27)) a1 - 1) * 5 + (f 22) ((ovO a3 (f 23) (fun _ => (shF (v 1) (f 1) (v 22) 2)) (f 27)) a1 - 1)) then u1 (ovO a3 (f 23) (fun _ => (shF (v 1) (f 1) (v 22) 2)) (f 27)) a1 0 else (ovO a3 (f 23) (fun _ => (shF (v 1) (f 1) (v 22) 2)) (f 27))) : Int → Int) = (f 27) from by first | rfl | (rw [if_pos (by omega)]) | (rw [if_neg (by omega), if_neg (by rw [← hj]; omega)]) | (rw [if_neg (by omega), if_pos (by rw [← hj]; omega), hjw (by omega)])]), rfl, (by first | (rw [if_pos (by omega)]; done) | (rw [if_neg (by omega), ← hj]; first | (rw [if_pos (by omega)] <;> omega) | (rw [if_neg (by omega)] <;> omega))), (by first | omega | ((repeat' split) <;> omega)), (by first | omega | (rw [← hj]; (repeat' split) <;> omega) | ((repeat' split) <;> omega))⟩

set_option maxHeartbeats 4000000 in
set_option maxRecDepth 100000 in
theorem x_Ro_fall (l : Launch) (D : va_G) (k : Nat → ClassId) (A : Nat → Prop) (ad : Nat → Nat) (hD : rwD A k ad) (v : gV) (f g : gF) (a1 : Int) (a2 : Int) (a3 : Int) (h_a1 : inR a1) (h_a2 : inR a2) (h_a3 : inR a3) (hs : shOk (v 1) (f 1)) (hO : OI (v 23) (f 20) (f 26) (f 27)) : GM l D k A (rwT k ad) yX10_fall cX10_fall 6 (some .boolean) 3 68 [.ref (ad 0), .int (iI a1), .int (iI a2), .int (iI a3)] v f g (fun r v1 f1 g1 => ∃ (z : Int) (w25 : Int), r = some (.int (iI z)) ∧ (va_up (va_up v 25 w25) 26 (if w25 = 1 ∨ w25 = 2 ∨ w25 = 9 then (v 26) else a2)) = v1 ∧ (va_up (va_up (va_up f 24 (if w25 = 1 ∨ w25 = 2 ∨ w25 = 9 then (f 24) else if w25 = 0 then u1 (ovE (v 23) a2 (f 26) (f 23) (fun _ => (shF (v 1) (f 1) (v 22) 2)) (f 24)) ((ovO a2 (f 23) (fun _ => (shF (v 1) (f 1) (v 22) 2)) (f 27)) a1 - 1) a2 else (ovE (v 23) a2 (f 26) (f 23) (fun _ => (shF (v 1) (f 1) (v 22) 2)) (f 24)))) 26 (if w25 = 1 ∨ w25 = 2 ∨ w25 = 9 then (f 26) else if w25 = 0 then u1 (ovH (v 23) a2 (f 26) (f 23) (fun _ => (shF (v 1) (f 1) (v 22) 2))) ((ovO a2 (f 23) (fun _ => (shF (v 1) (f 1) (v 22) 2)) (f 27)) a1 - 1) (if a3 = 0 then 2 else 4) else (ovH (v 23) a2 (f 26) (f 23) (fun _ => (shF (v 1) (f 1) (v 22) 2))))) 27 (if w25 = 1 ∨ w25 = 2 ∨ w25 = 9 then (f 27) else if w25 = 0 then u1 (ovO a2 (f 23) (fun _ => (shF (v 1) (f 1) (v 22) 2)) (f 27)) a1 0 else (ovO a2 (f 23) (fun _ => (shF (v 1) (f 1) (v 22) 2)) (f 27)))) = f1 ∧ g = g1 ∧ (z = (if w25 = 0 then 1 else 0)) ∧ (w25 = (if ¬ (0 ≤ a1 ∧ a1 < (v 21)) then 1 else if (if a2 < 0 ∨ 1000000 < a2 then (2 : Int) else if a2 < (v 26) then 9 else 0) ≠ 0 then (if a2 < 0 ∨ 1000000 < a2 then (2 : Int) else if a2 < (v 26) then 9 else 0) else if (ovO a2 (f 23) (fun _ => (shF (v 1) (f 1) (v 22) 2)) (f 27)) a1 = 0 then 5 else 0))) := by
  refine GM.of (by decide) (Nat.le_of_ble_eq_true rfl) ?_
  intro p e s m args below meth c Q ls hQ C hml hr hlocks hP hl
  have hx := C.1
  have hb := C.2.1
  have hok := hP.2
  have hS : va_S A s.heap s.heap [] := va_S.rf
  have hl : lv_has ls 6 [(0, .ref (ad 0)), (1, .int (iI a1)), (2, .int (iI a2)), (3, .int (iI a3))] := hl
  have hP : gWd D (rwT k ad) (va_up (va_up v 25 (v 25)) 26 (v 26)) (va_up (va_up (va_up f 24 (f 24)) 26 (f 26)) 27 (f 27)) g s.heap := by rw [va_id, va_id, va_id, va_id, va_id]; exact hP
  have hwr : ∀ k, 0 ≤ (f 20) k ∧ (f 20) k ≤ 15 := fun k => hok.2 20 k
  have r_1 : 0 ≤ (v 21) ∧ (v 21) ≤ 16 := hok.1 21
  refine lv_aload_n hx hb dX10_fall_0 rfl (lv_at hl 0 rfl) ?_
  refine rwG_field C hP mF_X10_37 dX10_fall_1 ?_
  refine lv_iload_n hx hb dX10_fall_4 rfl (lv_at hl 1 rfl) ?_
  refine g_cv (As := [.int (iI a1)]) (rest := []) (n := 1) C hml (c_X2_knows l D k A ad hD (va_up (va_up v 25 (v 25)) 26 (v 26)) (va_up (va_up (va_up f 24 (f 24)) 26 (f 26)) 27 (f 27)) g a1 (by omega)) mM_X10_180 mI_X2_knows mE_X2_knows mN_X2 mC_X2_knows (by decide +kernel) 27 (ci := 2) rfl rfl hP hS (fun _ h => h) ⟨Nat.le_of_ble_eq_true rfl, Nat.le_of_ble_eq_true rfl⟩ ⟨Nat.zero_le _, Nat.zero_le _⟩ hl.1 rfl rfl (Nat.le_of_ble_eq_true rfl) dX10_fall_5 (fun r_2 v_2 f_2 g_2 H locs hq_2 hP _ hS => ?_)
  obtain ⟨z_2, rfl, rfl, rfl, rfl, p0_2⟩ := hq_2
  show W p l e (gRm 3 68) s m args below meth c _ _ 0 0 Q (F0 m 8 ls [.int (iI z_2)])
  replace p0_2 : z_2 = (if 0 ≤ a1 ∧ a1 < (v 21) then 1 else 0) := p0_2
  have w_2 := gif (P := 0 ≤ a1 ∧ a1 < (v 21)) p0_2
  clear p0_2
  have hz_2 : inR z_2 := (by first | omega | (rw [p0_2]; split <;> omega))
  refine gi_zeq (tgt := 19) hx hb dX10_fall_8 (by decide) (by omega) (fun c_3 => ?_) (fun c_3 => ?_)
  · have vz_2 := gif0 w_2 c_3
    clear w_2
    refine lv_iconst (v := iI 1) hx hb dX10_fall_19 rfl ?_
    refine lv_istore (lv' := [(4, .int (iI 1)), (0, .ref (ad 0)), (1, .int (iI a1)), (2, .int (iI a2)), (3, .int (iI a3))]) hx hb dX10_fall_20 hl (by decide) rfl (fun ls hl => ?_)
    refine lv_iload hx hb dX10_fall_22 (lv_at hl 0 rfl) ?_
    refine gi_zeq (tgt := 34) hx hb dX10_fall_24 (by decide) (by decide) (fun c_4 => ?_) (fun c_4 => ?_)
    · exfalso; omega
    · refine lv_aload_n hx hb dX10_fall_27 rfl (lv_at hl 1 rfl) ?_
      refine lv_iload hx hb dX10_fall_28 (lv_at hl 0 rfl) ?_
      refine g_cv (As := [.int (iI 1)]) (rest := []) (n := 1) C hml (c_X10_deny l D k A ad hD (va_up (va_up v 25 (v 25)) 26 (v 26)) (va_up (va_up (va_up f 24 (f 24)) 26 (f 26)) 27 (f 27)) g 1 (by decide) (show 0 ≤ (1 : Int) ∧ (1 : Int) ≤ 10 from by omega)) mM_X10_140 mI_X10_deny mE_X10_deny mN_X10 mC_X10_deny (by decide +kernel) 0 (ci := 10) rfl rfl hP hS (fun _ h => h) ⟨Nat.le_of_ble_eq_true rfl, Nat.le_of_ble_eq_true rfl⟩ ⟨Nat.zero_le _, Nat.zero_le _⟩ hl.1 rfl rfl (Nat.le_of_ble_eq_true rfl) dX10_fall_30 (fun r_5 v_5 f_5 g_5 H locs hq_5 hP _ hS => ?_)
      obtain ⟨rfl, rfl, rfl, rfl⟩ := hq_5
      show W p l e (gRm 3 68) s m args below meth c _ _ 0 0 Q (F0 m 33 ls [.int (iI 0)])
      have hP : gWd D (rwT k ad) (va_up (va_up v 25 (1 : Int)) 26 (v 26)) (va_up (va_up (va_up f 24 (f 24)) 26 (f 26)) 27 (f 27)) g H := ⟨hP.1, (gF_up (V := rwV) (F := rwF) (gF_up (V := rwV) (F := rwF) (gF_up (V := rwV) (F := rwF) (gR_up (V := rwV) (F := rwF) (gR_up (V := rwV) (F := rwF) ⟨hok.1, hok.2⟩ 25 (hP.2.1 25)) 26 (hP.2.1 26)) 24 (hP.2.2 24)) 26 (hP.2.2 26)) 27 (hP.2.2 27))⟩
      exact g_zret hQ C hr hlocks (by decide) hP hS dX10_fall_33 ⟨0, (1 : Int), rfl, (by rw [show ((if (1 : Int) = 1 ∨ (1 : Int) = 2 ∨ (1 : Int) = 9 then (v 26) else a2) : Int) = (v 26) from by first | rfl | omega | ((repeat' split) <;> omega)]), (by rw [show ((if (1 : Int) = 1 ∨ (1 : Int) = 2 ∨ (1 : Int) = 9 then (f 24) else if (1 : Int) = 0 then u1 (ovE (v 23) a2 (f 26) (f 23) (fun _ => (shF (v 1) (f 1) (v 22) 2)) (f 24)) ((ovO a2 (f 23) (fun _ => (shF (v 1) (f 1) (v 22) 2)) (f 27)) a1 - 1) a2 else (ovE (v 23) a2 (f 26) (f 23) (fun _ => (shF (v 1) (f 1) (v 22) 2)) (f 24))) : Int → Int) = (f 24) from by first | rfl | (rw [if_pos (by omega)]) | (rw [if_neg (by omega), if_neg (by omega)]) | (rw [if_neg (by omega), if_pos (by omega), hj]), show ((if (1 : Int) = 1 ∨ (1 : Int) = 2 ∨ (1 : Int) = 9 then (f 26) else if (1 : Int) = 0 then u1 (ovH (v 23) a2 (f 26) (f 23) (fun _ => (shF (v 1) (f 1) (v 22) 2))) ((ovO a2 (f 23) (fun _ => (shF (v 1) (f 1) (v 22) 2)) (f 27)) a1 - 1) (if a3 = 0 then 2 else 4) else (ovH (v 23) a2 (f 26) (f 23) (fun _ => (shF (v 1) (f 1) (v 22) 2)))) : Int → Int) = (f 26) from by first | rfl | (rw [if_pos (by omega)]) | (rw [if_neg (by omega), if_neg (by omega)]) | (rw [if_neg (by omega), if_pos (by omega), hj]; first | rw [if_pos (by omega)] | rw [if_neg (by omega)]), show ((if (1 : Int) = 1 ∨ (1 : Int) = 2 ∨ (1 : Int) = 9 then (f 27) else if (1 : Int) = 0 then u1 (ovO a2 (f 23) (fun _ => (shF (v 1) (f 1) (v 22) 2)) (f 27)) a1 0 else (ovO a2 (f 23) (fun _ => (shF (v 1) (f 1) (v 22) 2)) (f 27))) : Int → Int) = (f 27) from by first | rfl | (rw [if_pos (by omega)]) | (rw [if_neg (by omega), if_neg (by omega)]) | (rw [if_neg (by omega), if_pos (by omega), hjw (by omega)])]), rfl, (by first | omega | ((repeat' split) <;> omega)), (by first | omega | ((repeat' split) <;> omega))⟩
  · have vz_2 := gif1 w_2 c_3
    clear w_2
    refine lv_aload_n hx hb dX10_fall_11 rfl (lv_at hl 0 rfl) ?_
    refine lv_iload_n hx hb dX10_fall_12 rfl (lv_at hl 2 rfl) ?_
    refine g_cv (As := [.int (iI a2)]) (rest := []) (n := 1) C hml (x_Ro_passTo l D k A ad hD (va_up (va_up v 25 (v 25)) 26 (v 26)) (va_up (va_up (va_up f 24 (f 24)) 26 (f 26)) 27 (f 27)) g a2 (by omega) (show shOk (v 1) (f 1) from hs) (show OI (v 23) (f 20) (f 26) (f 27) from hO)) mM_X10_183 mI_X10_passTo mE_X10_passTo mN_X10 mC_X10_passTo (by decide +kernel) 0 (ci := 10) rfl rfl hP hS (fun _ h => h) ⟨Nat.le_of_ble_eq_true rfl, Nat.le_of_ble_eq_true rfl⟩ ⟨Nat.zero_le _, Nat.zero_le _⟩ hl.1 rfl rfl (Nat.le_of_ble_eq_true rfl) dX10_fall_13 (fun r_6 v_6 f_6 g_6 H locs hq_6 hP _ hS => ?_)
    obtain ⟨z_6, rfl, rfl, rfl, rfl, p0_6⟩ := hq_6
    show W p l e (gRm 3 68) s m args below meth c _ _ 0 0 Q (F0 m 16 ls [.int (iI z_6)])
    have hP : gWd D (rwT k ad) (va_up (va_up v 25 (v 25)) 26 (if z_6 = 0 then a2 else (v 26))) (va_up (va_up (va_up f 24 (if z_6 = 0 then (ovE (v 23) a2 (f 26) (f 23) (fun _ => (shF (v 1) (f 1) (v 22) 2)) (f 24)) else (f 24))) 26 (if z_6 = 0 then (ovH (v 23) a2 (f 26) (f 23) (fun _ => (shF (v 1) (f 1) (v 22) 2))) else (f 26))) 27 (if z_6 = 0 then (ovO a2 (f 23) (fun _ => (shF (v 1) (f 1) (v 22) 2)) (f 27)) else (f 27))) g H := ⟨hP.1, (gF_up (V := rwV) (F := rwF) (gF_up (V := rwV) (F := rwF) (gF_up (V := rwV) (F := rwF) (gR_up (V := rwV) (F := rwF) (gR_up (V := rwV) (F := rwF) ⟨hok.1, hok.2⟩ 25 (hP.2.1 25)) 26 (hP.2.1 26)) 24 (hP.2.2 24)) 26 (hP.2.2 26)) 27 (hP.2.2 27))⟩
    replace p0_6 : z_6 = (if a2 < 0 ∨ 1000000 < a2 then (2 : Int) else if a2 < (v 26) then 9 else 0) := p0_6
    have hz_6 : inR z_6 := (by first | omega | (rw [p0_6]; split <;> omega))
    have hpz := p0_6
    clear p0_6
    rcases (show z_6 = 0 ∨ z_6 ≠ 0 by omega) with hzp | hzp
    · replace hP : gWd D (rwT k ad) (va_up (va_up v 25 (v 25)) 26 a2) (va_up (va_up (va_up f 24 (ovE (v 23) a2 (f 26) (f 23) (fun _ => (shF (v 1) (f 1) (v 22) 2)) (f 24))) 26 (ovH (v 23) a2 (f 26) (f 23) (fun _ => (shF (v 1) (f 1) (v 22) 2)))) 27 (ovO a2 (f 23) (fun _ => (shF (v 1) (f 1) (v 22) 2)) (f 27))) g H := by have h9 := hP; simp only [if_pos hzp] at h9; exact h9
      have hO2 : OI (v 23) (f 20) (ovH (v 23) a2 (f 26) (f 23) (fun _ => (shF (v 1) (f 1) (v 22) 2))) (ovO a2 (f 23) (fun _ => (shF (v 1) (f 1) (v 22) 2)) (f 27)) := OI_ov hO hwr
      refine lv_goto (tgt := 20) hx hb dX10_fall_16 (by decide) ?_
      refine lv_istore (lv' := [(4, .int (iI z_6)), (0, .ref (ad 0)), (1, .int (iI a1)), (2, .int (iI a2)), (3, .int (iI a3))]) hx hb dX10_fall_20 hl (by decide) rfl (fun ls hl => ?_)
      refine lv_iload hx hb dX10_fall_22 (lv_at hl 0 rfl) ?_
      refine gi_zeq (tgt := 34) hx hb dX10_fall_24 (by decide) (by omega) (fun c_7 => ?_) (fun c_7 => ?_)
      · refine lv_aload_n hx hb dX10_fall_34 rfl (lv_at hl 1 rfl) ?_
        refine rwG_tries C hP mF_X10_44 dX10_fall_35 ?_
        refine lv_iload_n hx hb dX10_fall_38 rfl (lv_at hl 2 rfl) ?_
        refine g_cv (As := [.int (iI a1)]) (rest := []) (n := 1) C hml (c_X7_openOf l D k A ad hD (va_up (va_up v 25 (v 25)) 26 a2) (va_up (va_up (va_up f 24 (ovE (v 23) a2 (f 26) (f 23) (fun _ => (shF (v 1) (f 1) (v 22) 2)) (f 24))) 26 (ovH (v 23) a2 (f 26) (f 23) (fun _ => (shF (v 1) (f 1) (v 22) 2)))) 27 (ovO a2 (f 23) (fun _ => (shF (v 1) (f 1) (v 22) 2)) (f 27))) g a1 (by omega) (show 0 ≤ a1 ∧ a1 ≤ 15 from by omega)) mM_X10_197 mI_X7_openOf mE_X7_openOf mN_X7 mC_X7_openOf (by decide +kernel) 30 (ci := 7) rfl rfl hP hS (fun _ h => h) ⟨Nat.le_of_ble_eq_true rfl, Nat.le_of_ble_eq_true rfl⟩ ⟨Nat.zero_le _, Nat.zero_le _⟩ hl.1 rfl rfl (Nat.le_of_ble_eq_true rfl) dX10_fall_39 (fun r_8 v_8 f_8 g_8 H locs hq_8 hP _ hS => ?_)
        obtain ⟨z_8, rfl, rfl, rfl, rfl, p0_8, p1_8⟩ := hq_8
        show W p l e (gRm 3 68) s m args below meth c _ _ 0 0 Q (F0 m 42 ls [.int (iI z_8)])
        replace p0_8 : z_8 = ((ovO a2 (f 23) (fun _ => (shF (v 1) (f 1) (v 22) 2)) (f 27)) a1 - 1) := p0_8
        replace p1_8 : (-1) ≤ z_8 ∧ z_8 ≤ 299 := p1_8
        have hz_8 : inR z_8 := (by first | omega | (rw [p0_8]; split <;> omega))
        have hj : z_8 = (ovO a2 (f 23) (fun _ => (shF (v 1) (f 1) (v 22) 2)) (f 27)) a1 - 1 := p0_8
        have hjw : 0 < (ovO a2 (f 23) (fun _ => (shF (v 1) (f 1) (v 22) 2)) (f 27)) a1 → (f 20) z_8 = a1 := fun h => by rw [hj]; exact ((hO2.1 a1 (by omega) (by omega)).2.2 h).1
        refine lv_istore (lv' := [(5, .int (iI z_8)), (4, .int (iI z_6)), (0, .ref (ad 0)), (1, .int (iI a1)), (2, .int (iI a2)), (3, .int (iI a3))]) hx hb dX10_fall_42 hl (by decide) rfl (fun ls hl => ?_)
        refine lv_iload hx hb dX10_fall_44 (lv_at hl 0 rfl) ?_
        refine lv_iconst (v := iI (-1)) hx hb dX10_fall_46 rfl ?_
        refine gi_cne (tgt := 56) hx hb dX10_fall_47 (by decide) (by omega) (by decide) (fun c_9 => ?_) (fun c_9 => ?_)
        · refine lv_aload_n hx hb dX10_fall_56 rfl (lv_at hl 2 rfl) ?_
          refine rwG_tries C hP mF_X10_44 dX10_fall_57 ?_
          refine lv_iload hx hb dX10_fall_60 (lv_at hl 0 rfl) ?_
          refine lv_aload_n hx hb dX10_fall_62 rfl (lv_at hl 2 rfl) ?_
          refine rwG_time C hP mF_X10_114 dX10_fall_63 ?_
          show W p l e (gRm 3 68) s m args below meth c _ _ 0 0 Q (F0 m 66 ls [.int (iI a2), .int (iI z_8), .ref (ad 30)])
          have r_10 : 0 ≤ a2 ∧ a2 ≤ 1000000 := hP.2.1 26
          refine lv_iload_n hx hb dX10_fall_66 rfl (lv_at hl 5 rfl) ?_
          refine gi_zeq (tgt := 74) hx hb dX10_fall_67 (by decide) (by omega) (fun c_11 => ?_) (fun c_11 => ?_)
          · refine lv_iconst (v := iI 2) hx hb dX10_fall_74 rfl ?_
            refine g_cv (As := [.int (iI z_8), .int (iI a2), .int (iI 2)]) (rest := []) (n := 3) C hml (c_X7_finish l D k A ad hD (va_up (va_up v 25 (v 25)) 26 a2) (va_up (va_up (va_up f 24 (ovE (v 23) a2 (f 26) (f 23) (fun _ => (shF (v 1) (f 1) (v 22) 2)) (f 24))) 26 (ovH (v 23) a2 (f 26) (f 23) (fun _ => (shF (v 1) (f 1) (v 22) 2)))) 27 (ovO a2 (f 23) (fun _ => (shF (v 1) (f 1) (v 22) 2)) (f 27))) g z_8 a2 2 (by omega) (by omega) (by decide) (show 0 ≤ z_8 ∧ z_8 ≤ 299 from by omega) (show (-1) ≤ a2 ∧ a2 ≤ 1000999 from by omega) (show 0 ≤ (2 : Int) ∧ (2 : Int) ≤ 4 from by omega)) mM_X10_209 mI_X7_finish mE_X7_finish mN_X7 mC_X7_finish (by decide +kernel) 30 (ci := 7) rfl rfl hP hS (fun _ h => h) ⟨Nat.le_of_ble_eq_true rfl, Nat.le_of_ble_eq_true rfl⟩ ⟨Nat.zero_le _, Nat.zero_le _⟩ hl.1 rfl rfl (Nat.le_of_ble_eq_true rfl) dX10_fall_75 (fun r_12 v_12 f_12 g_12 H locs hq_12 hP _ hS => ?_)
            obtain ⟨rfl, rfl, rfl, rfl⟩ := hq_12
            show W p l e (gRm 3 68) s m args below meth c _ _ 0 0 Q (F0 m 78 ls [])
            have hP : gWd D (rwT k ad) (va_up (va_up v 25 (v 25)) 26 a2) (va_up (va_up (va_up f 24 (u1 (ovE (v 23) a2 (f 26) (f 23) (fun _ => (shF (v 1) (f 1) (v 22) 2)) (f 24)) z_8 a2)) 26 (u1 (ovH (v 23) a2 (f 26) (f 23) (fun _ => (shF (v 1) (f 1) (v 22) 2))) z_8 (2 : Int))) 27 (u1 (ovO a2 (f 23) (fun _ => (shF (v 1) (f 1) (v 22) 2)) (f 27)) ((f 20) z_8) 0)) g H := ⟨hP.1, (gF_up (V := rwV) (F := rwF) (gF_up (V := rwV) (F := rwF) (gF_up (V := rwV) (F := rwF) (gR_up (V := rwV) (F := rwF) (gR_up (V := rwV) (F := rwF) ⟨hok.1, hok.2⟩ 25 (hP.2.1 25)) 26 (hP.2.1 26)) 24 (hP.2.2 24)) 26 (hP.2.2 26)) 27 (hP.2.2 27))⟩
            refine lv_aload_n hx hb dX10_fall_78 rfl (lv_at hl 2 rfl) ?_
            refine g_cv (As := []) (rest := []) (n := 0) C hml (c_X10_grant l D k A ad hD (va_up (va_up v 25 (v 25)) 26 a2) (va_up (va_up (va_up f 24 (u1 (ovE (v 23) a2 (f 26) (f 23) (fun _ => (shF (v 1) (f 1) (v 22) 2)) (f 24)) z_8 a2)) 26 (u1 (ovH (v 23) a2 (f 26) (f 23) (fun _ => (shF (v 1) (f 1) (v 22) 2))) z_8 (2 : Int))) 27 (u1 (ovO a2 (f 23) (fun _ => (shF (v 1) (f 1) (v 22) 2)) (f 27)) ((f 20) z_8) 0)) g) mM_X10_160 mI_X10_grant mE_X10_grant mN_X10 mC_X10_grant (by decide +kernel) 0 (ci := 10) rfl rfl hP hS (fun _ h => h) ⟨Nat.le_of_ble_eq_true rfl, Nat.le_of_ble_eq_true rfl⟩ ⟨Nat.zero_le _, Nat.zero_le _⟩ hl.1 rfl rfl (Nat.le_of_ble_eq_true rfl) dX10_fall_79 (fun r_13 v_13 f_13 g_13 H locs hq_13 hP _ hS => ?_)
            obtain ⟨rfl, rfl, rfl, rfl⟩ := hq_13
            show W p l e (gRm 3 68) s m args below meth c _ _ 0 0 Q (F0 m 82 ls [.int (iI 1)])
            have hP : gWd D (rwT k ad) (va_up (va_up v 25 0) 26 a2) (va_up (va_up (va_up f 24 (u1 (ovE (v 23) a2 (f 26) (f 23) (fun _ => (shF (v 1) (f 1) (v 22) 2)) (f 24)) z_8 a2)) 26 (u1 (ovH (v 23) a2 (f 26) (f 23) (fun _ => (shF (v 1) (f 1) (v 22) 2))) z_8 (2 : Int))) 27 (u1 (ovO a2 (f 23) (fun _ => (shF (v 1) (f 1) (v 22) 2)) (f 27)) ((f 20) z_8) 0)) g H := ⟨hP.1, (gF_up (V := rwV) (F := rwF) (gF_up (V := rwV) (F := rwF) (gF_up (V := rwV) (F := rwF) (gR_up (V := rwV) (F := rwF) (gR_up (V := rwV) (F := rwF) ⟨hok.1, hok.2⟩ 25 (hP.2.1 25)) 26 (hP.2.1 26)) 24 (hP.2.2 24)) 26 (hP.2.2 26)) 27 (hP.2.2 27))⟩
            exact g_zret hQ C hr hlocks (by decide) hP hS dX10_fall_82 ⟨1, 0, rfl, (by rw [show ((if (0 : Int) = 1 ∨ (0 : Int) = 2 ∨ (0 : Int) = 9 then (v 26) else a2) : Int) = a2 from by first | rfl | omega | ((repeat' split) <;> omega)]), (by rw [show ((if (0 : Int) = 1 ∨ (0 : Int) = 2 ∨ (0 : Int) = 9 then (f 24) else if (0 : Int) = 0 then u1 (ovE (v 23) a2 (f 26) (f 23) (fun _ => (shF (v 1) (f 1) (v 22) 2)) (f 24)) ((ovO a2 (f 23) (fun _ => (shF (v 1) (f 1) (v 22) 2)) (f 27)) a1 - 1) a2 else (ovE (v 23) a2 (f 26) (f 23) (fun _ => (shF (v 1) (f 1) (v 22) 2)) (f 24))) : Int → Int) = (u1 (ovE (v 23) a2 (f 26) (f 23) (fun _ => (shF (v 1) (f 1) (v 22) 2)) (f 24)) z_8 a2) from by first | rfl | (rw [if_pos (by omega)]) | (rw [if_neg (by omega), if_neg (by omega)]) | (rw [if_neg (by omega), if_pos (by omega), hj]), show ((if (0 : Int) = 1 ∨ (0 : Int) = 2 ∨ (0 : Int) = 9 then (f 26) else if (0 : Int) = 0 then u1 (ovH (v 23) a2 (f 26) (f 23) (fun _ => (shF (v 1) (f 1) (v 22) 2))) ((ovO a2 (f 23) (fun _ => (shF (v 1) (f 1) (v 22) 2)) (f 27)) a1 - 1) (if a3 = 0 then 2 else 4) else (ovH (v 23) a2 (f 26) (f 23) (fun _ => (shF (v 1) (f 1) (v 22) 2)))) : Int → Int) = (u1 (ovH (v 23) a2 (f 26) (f 23) (fun _ => (shF (v 1) (f 1) (v 22) 2))) z_8 (2 : Int)) from by first | rfl | (rw [if_pos (by omega)]) | (rw [if_neg (by omega), if_neg (by omega)]) | (rw [if_neg (by omega), if_pos (by omega), hj]; first | rw [if_pos (by omega)] | rw [if_neg (by omega)]), show ((if (0 : Int) = 1 ∨ (0 : Int) = 2 ∨ (0 : Int) = 9 then (f 27) else if (0 : Int) = 0 then u1 (ovO a2 (f 23) (fun _ => (shF (v 1) (f 1) (v 22) 2)) (f 27)) a1 0 else (ovO a2 (f 23) (fun _ => (shF (v 1) (f 1) (v 22) 2)) (f 27))) : Int → Int) = (u1 (ovO a2 (f 23) (fun _ => (shF (v 1) (f 1) (v 22) 2)) (f 27)) ((f 20) z_8) 0) from by first | rfl | (rw [if_pos (by omega)]) | (rw [if_neg (by omega), if_neg (by omega)]) | (rw [if_neg (by omega), if_pos (by omega), hjw (by omega)])]), rfl, (by first | omega | ((repeat' split) <;> omega)), (by first | omega | ((repeat' split) <;> omega))⟩
          · refine lv_iconst (v := iI 4) hx hb dX10_fall_70 rfl ?_
            refine lv_goto (tgt := 75) hx hb dX10_fall_71 (by decide) ?_
            refine g_cv (As := [.int (iI z_8), .int (iI a2), .int (iI 4)]) (rest := []) (n := 3) C hml (c_X7_finish l D k A ad hD (va_up (va_up v 25 (v 25)) 26 a2) (va_up (va_up (va_up f 24 (ovE (v 23) a2 (f 26) (f 23) (fun _ => (shF (v 1) (f 1) (v 22) 2)) (f 24))) 26 (ovH (v 23) a2 (f 26) (f 23) (fun _ => (shF (v 1) (f 1) (v 22) 2)))) 27 (ovO a2 (f 23) (fun _ => (shF (v 1) (f 1) (v 22) 2)) (f 27))) g z_8 a2 4 (by omega) (by omega) (by decide) (show 0 ≤ z_8 ∧ z_8 ≤ 299 from by omega) (show (-1) ≤ a2 ∧ a2 ≤ 1000999 from by omega) (show 0 ≤ (4 : Int) ∧ (4 : Int) ≤ 4 from by omega)) mM_X10_209 mI_X7_finish mE_X7_finish mN_X7 mC_X7_finish (by decide +kernel) 30 (ci := 7) rfl rfl hP hS (fun _ h => h) ⟨Nat.le_of_ble_eq_true rfl, Nat.le_of_ble_eq_true rfl⟩ ⟨Nat.zero_le _, Nat.zero_le _⟩ hl.1 rfl rfl (Nat.le_of_ble_eq_true rfl) dX10_fall_75 (fun r_14 v_14 f_14 g_14 H locs hq_14 hP _ hS => ?_)
            obtain ⟨rfl, rfl, rfl, rfl⟩ := hq_14
            show W p l e (gRm 3 68) s m args below meth c _ _ 0 0 Q (F0 m 78 ls [])
            have hP : gWd D (rwT k ad) (va_up (va_up v 25 (v 25)) 26 a2) (va_up (va_up (va_up f 24 (u1 (ovE (v 23) a2 (f 26) (f 23) (fun _ => (shF (v 1) (f 1) (v 22) 2)) (f 24)) z_8 a2)) 26 (u1 (ovH (v 23) a2 (f 26) (f 23) (fun _ => (shF (v 1) (f 1) (v 22) 2))) z_8 (4 : Int))) 27 (u1 (ovO a2 (f 23) (fun _ => (shF (v 1) (f 1) (v 22) 2)) (f 27)) ((f 20) z_8) 0)) g H := ⟨hP.1, (gF_up (V := rwV) (F := rwF) (gF_up (V := rwV) (F := rwF) (gF_up (V := rwV) (F := rwF) (gR_up (V := rwV) (F := rwF) (gR_up (V := rwV) (F := rwF) ⟨hok.1, hok.2⟩ 25 (hP.2.1 25)) 26 (hP.2.1 26)) 24 (hP.2.2 24)) 26 (hP.2.2 26)) 27 (hP.2.2 27))⟩
            refine lv_aload_n hx hb dX10_fall_78 rfl (lv_at hl 2 rfl) ?_
            refine g_cv (As := []) (rest := []) (n := 0) C hml (c_X10_grant l D k A ad hD (va_up (va_up v 25 (v 25)) 26 a2) (va_up (va_up (va_up f 24 (u1 (ovE (v 23) a2 (f 26) (f 23) (fun _ => (shF (v 1) (f 1) (v 22) 2)) (f 24)) z_8 a2)) 26 (u1 (ovH (v 23) a2 (f 26) (f 23) (fun _ => (shF (v 1) (f 1) (v 22) 2))) z_8 (4 : Int))) 27 (u1 (ovO a2 (f 23) (fun _ => (shF (v 1) (f 1) (v 22) 2)) (f 27)) ((f 20) z_8) 0)) g) mM_X10_160 mI_X10_grant mE_X10_grant mN_X10 mC_X10_grant (by decide +kernel) 0 (ci := 10) rfl rfl hP hS (fun _ h => h) ⟨Nat.le_of_ble_eq_true rfl, Nat.le_of_ble_eq_true rfl⟩ ⟨Nat.zero_le _, Nat.zero_le _⟩ hl.1 rfl rfl (Nat.le_of_ble_eq_true rfl) dX10_fall_79 (fun r_15 v_15 f_15 g_15 H locs hq_15 hP _ hS => ?_)
            obtain ⟨rfl, rfl, rfl, rfl⟩ := hq_15
            show W p l e (gRm 3 68) s m args below meth c _ _ 0 0 Q (F0 m 82 ls [.int (iI 1)])
            have hP : gWd D (rwT k ad) (va_up (va_up v 25 0) 26 a2) (va_up (va_up (va_up f 24 (u1 (ovE (v 23) a2 (f 26) (f 23) (fun _ => (shF (v 1) (f 1) (v 22) 2)) (f 24)) z_8 a2)) 26 (u1 (ovH (v 23) a2 (f 26) (f 23) (fun _ => (shF (v 1) (f 1) (v 22) 2))) z_8 (4 : Int))) 27 (u1 (ovO a2 (f 23) (fun _ => (shF (v 1) (f 1) (v 22) 2)) (f 27)) ((f 20) z_8) 0)) g H := ⟨hP.1, (gF_up (V := rwV) (F := rwF) (gF_up (V := rwV) (F := rwF) (gF_up (V := rwV) (F := rwF) (gR_up (V := rwV) (F := rwF) (gR_up (V := rwV) (F := rwF) ⟨hok.1, hok.2⟩ 25 (hP.2.1 25)) 26 (hP.2.1 26)) 24 (hP.2.2 24)) 26 (hP.2.2 26)) 27 (hP.2.2 27))⟩
            exact g_zret hQ C hr hlocks (by decide) hP hS dX10_fall_82 ⟨1, 0, rfl, (by rw [show ((if (0 : Int) = 1 ∨ (0 : Int) = 2 ∨ (0 : Int) = 9 then (v 26) else a2) : Int) = a2 from by first | rfl | omega | ((repeat' split) <;> omega)]), (by rw [show ((if (0 : Int) = 1 ∨ (0 : Int) = 2 ∨ (0 : Int) = 9 then (f 24) else if (0 : Int) = 0 then u1 (ovE (v 23) a2 (f 26) (f 23) (fun _ => (shF (v 1) (f 1) (v 22) 2)) (f 24)) ((ovO a2 (f 23) (fun _ => (shF (v 1) (f 1) (v 22) 2)) (f 27)) a1 - 1) a2 else (ovE (v 23) a2 (f 26) (f 23) (fun _ => (shF (v 1) (f 1) (v 22) 2)) (f 24))) : Int → Int) = (u1 (ovE (v 23) a2 (f 26) (f 23) (fun _ => (shF (v 1) (f 1) (v 22) 2)) (f 24)) z_8 a2) from by first | rfl | (rw [if_pos (by omega)]) | (rw [if_neg (by omega), if_neg (by omega)]) | (rw [if_neg (by omega), if_pos (by omega), hj]), show ((if (0 : Int) = 1 ∨ (0 : Int) = 2 ∨ (0 : Int) = 9 then (f 26) else if (0 : Int) = 0 then u1 (ovH (v 23) a2 (f 26) (f 23) (fun _ => (shF (v 1) (f 1) (v 22) 2))) ((ovO a2 (f 23) (fun _ => (shF (v 1) (f 1) (v 22) 2)) (f 27)) a1 - 1) (if a3 = 0 then 2 else 4) else (ovH (v 23) a2 (f 26) (f 23) (fun _ => (shF (v 1) (f 1) (v 22) 2)))) : Int → Int) = (u1 (ovH (v 23) a2 (f 26) (f 23) (fun _ => (shF (v 1) (f 1) (v 22) 2))) z_8 (4 : Int)) from by first | rfl | (rw [if_pos (by omega)]) | (rw [if_neg (by omega), if_neg (by omega)]) | (rw [if_neg (by omega), if_pos (by omega), hj]; first | rw [if_pos (by omega)] | rw [if_neg (by omega)]), show ((if (0 : Int) = 1 ∨ (0 : Int) = 2 ∨ (0 : Int) = 9 then (f 27) else if (0 : Int) = 0 then u1 (ovO a2 (f 23) (fun _ => (shF (v 1) (f 1) (v 22) 2)) (f 27)) a1 0 else (ovO a2 (f 23) (fun _ => (shF (v 1) (f 1) (v 22) 2)) (f 27))) : Int → Int) = (u1 (ovO a2 (f 23) (fun _ => (shF (v 1) (f 1) (v 22) 2)) (f 27)) ((f 20) z_8) 0) from by first | rfl | (rw [if_pos (by omega)]) | (rw [if_neg (by omega), if_neg (by omega)]) | (rw [if_neg (by omega), if_pos (by omega), hjw (by omega)])]), rfl, (by first | omega | ((repeat' split) <;> omega)), (by first | omega | ((repeat' split) <;> omega))⟩
        · refine lv_aload_n hx hb dX10_fall_50 rfl (lv_at hl 2 rfl) ?_
          refine lv_iconst (v := iI 5) hx hb dX10_fall_51 rfl ?_
          refine g_cv (As := [.int (iI 5)]) (rest := []) (n := 1) C hml (c_X10_deny l D k A ad hD (va_up (va_up v 25 (v 25)) 26 a2) (va_up (va_up (va_up f 24 (ovE (v 23) a2 (f 26) (f 23) (fun _ => (shF (v 1) (f 1) (v 22) 2)) (f 24))) 26 (ovH (v 23) a2 (f 26) (f 23) (fun _ => (shF (v 1) (f 1) (v 22) 2)))) 27 (ovO a2 (f 23) (fun _ => (shF (v 1) (f 1) (v 22) 2)) (f 27))) g 5 (by decide) (show 0 ≤ (5 : Int) ∧ (5 : Int) ≤ 10 from by omega)) mM_X10_140 mI_X10_deny mE_X10_deny mN_X10 mC_X10_deny (by decide +kernel) 0 (ci := 10) rfl rfl hP hS (fun _ h => h) ⟨Nat.le_of_ble_eq_true rfl, Nat.le_of_ble_eq_true rfl⟩ ⟨Nat.zero_le _, Nat.zero_le _⟩ hl.1 rfl rfl (Nat.le_of_ble_eq_true rfl) dX10_fall_52 (fun r_16 v_16 f_16 g_16 H locs hq_16 hP _ hS => ?_)
          obtain ⟨rfl, rfl, rfl, rfl⟩ := hq_16
          show W p l e (gRm 3 68) s m args below meth c _ _ 0 0 Q (F0 m 55 ls [.int (iI 0)])
          have hP : gWd D (rwT k ad) (va_up (va_up v 25 (5 : Int)) 26 a2) (va_up (va_up (va_up f 24 (ovE (v 23) a2 (f 26) (f 23) (fun _ => (shF (v 1) (f 1) (v 22) 2)) (f 24))) 26 (ovH (v 23) a2 (f 26) (f 23) (fun _ => (shF (v 1) (f 1) (v 22) 2)))) 27 (ovO a2 (f 23) (fun _ => (shF (v 1) (f 1) (v 22) 2)) (f 27))) g H := ⟨hP.1, (gF_up (V := rwV) (F := rwF) (gF_up (V := rwV) (F := rwF) (gF_up (V := rwV) (F := rwF) (gR_up (V := rwV) (F := rwF) (gR_up (V := rwV) (F := rwF) ⟨hok.1, hok.2⟩ 25 (hP.2.1 25)) 26 (hP.2.1 26)) 24 (hP.2.2 24)) 26 (hP.2.2 26)) 27 (hP.2.2 27))⟩
          exact g_zret hQ C hr hlocks (by decide) hP hS dX10_fall_55 ⟨0, (5 : Int), rfl, (by rw [show ((if (5 : Int) = 1 ∨ (5 : Int) = 2 ∨ (5 : Int) = 9 then (v 26) else a2) : Int) = a2 from by first | rfl | omega | ((repeat' split) <;> omega)]), (by rw [show ((if (5 : Int) = 1 ∨ (5 : Int) = 2 ∨ (5 : Int) = 9 then (f 24) else if (5 : Int) = 0 then u1 (ovE (v 23) a2 (f 26) (f 23) (fun _ => (shF (v 1) (f 1) (v 22) 2)) (f 24)) ((ovO a2 (f 23) (fun _ => (shF (v 1) (f 1) (v 22) 2)) (f 27)) a1 - 1) a2 else (ovE (v 23) a2 (f 26) (f 23) (fun _ => (shF (v 1) (f 1) (v 22) 2)) (f 24))) : Int → Int) = (ovE (v 23) a2 (f 26) (f 23) (fun _ => (shF (v 1) (f 1) (v 22) 2)) (f 24)) from by first | rfl | (rw [if_pos (by omega)]) | (rw [if_neg (by omega), if_neg (by omega)]) | (rw [if_neg (by omega), if_pos (by omega), hj]), show ((if (5 : Int) = 1 ∨ (5 : Int) = 2 ∨ (5 : Int) = 9 then (f 26) else if (5 : Int) = 0 then u1 (ovH (v 23) a2 (f 26) (f 23) (fun _ => (shF (v 1) (f 1) (v 22) 2))) ((ovO a2 (f 23) (fun _ => (shF (v 1) (f 1) (v 22) 2)) (f 27)) a1 - 1) (if a3 = 0 then 2 else 4) else (ovH (v 23) a2 (f 26) (f 23) (fun _ => (shF (v 1) (f 1) (v 22) 2)))) : Int → Int) = (ovH (v 23) a2 (f 26) (f 23) (fun _ => (shF (v 1) (f 1) (v 22) 2))) from by first | rfl | (rw [if_pos (by omega)]) | (rw [if_neg (by omega), if_neg (by omega)]) | (rw [if_neg (by omega), if_pos (by omega), hj]; first | rw [if_pos (by omega)] | rw [if_neg (by omega)]), show ((if (5 : Int) = 1 ∨ (5 : Int) = 2 ∨ (5 : Int) = 9 then (f 27) else if (5 : Int) = 0 then u1 (ovO a2 (f 23) (fun _ => (shF (v 1) (f 1) (v 22) 2)) (f 27)) a1 0 else (ovO a2 (f 23) (fun _ => (shF (v 1) (f 1) (v 22) 2)) (f 27))) : Int → Int) = (ovO a2 (f 23) (fun _ => (shF (v 1) (f 1) (v 22) 2)) (f 27)) from by first | rfl | (rw [if_pos (by omega)]) | (rw [if_neg (by omega), if_neg (by omega)]) | (rw [if_neg (by omega), if_pos (by omega), hjw (by omega)])]), rfl, (by first | omega | ((repeat' split) <;> omega)), (by first | omega | ((repeat' split) <;> omega))⟩
      · exfalso; omega
    · replace hP : gWd D (rwT k ad) (va_up (va_up v 25 (v 25)) 26 (v 26)) (va_up (va_up (va_up f 24 (f 24)) 26 (f 26)) 27 (f 27)) g H := by have h9 := hP; simp only [if_neg hzp] at h9; exact h9
      refine lv_goto (tgt := 20) hx hb dX10_fall_16 (by decide) ?_
      refine lv_istore (lv' := [(4, .int (iI z_6)), (0, .ref (ad 0)), (1, .int (iI a1)), (2, .int (iI a2)), (3, .int (iI a3))]) hx hb dX10_fall_20 hl (by decide) rfl (fun ls hl => ?_)
      refine lv_iload hx hb dX10_fall_22 (lv_at hl 0 rfl) ?_
      refine gi_zeq (tgt := 34) hx hb dX10_fall_24 (by decide) (by omega) (fun c_17 => ?_) (fun c_17 => ?_)
      · exfalso; omega
      · refine lv_aload_n hx hb dX10_fall_27 rfl (lv_at hl 1 rfl) ?_
        refine lv_iload hx hb dX10_fall_28 (lv_at hl 0 rfl) ?_
        refine g_cv (As := [.int (iI z_6)]) (rest := []) (n := 1) C hml (c_X10_deny l D k A ad hD (va_up (va_up v 25 (v 25)) 26 (v 26)) (va_up (va_up (va_up f 24 (f 24)) 26 (f 26)) 27 (f 27)) g z_6 (by omega) (show 0 ≤ z_6 ∧ z_6 ≤ 10 from by omega)) mM_X10_140 mI_X10_deny mE_X10_deny mN_X10 mC_X10_deny (by decide +kernel) 0 (ci := 10) rfl rfl hP hS (fun _ h => h) ⟨Nat.le_of_ble_eq_true rfl, Nat.le_of_ble_eq_true rfl⟩ ⟨Nat.zero_le _, Nat.zero_le _⟩ hl.1 rfl rfl (Nat.le_of_ble_eq_true rfl) dX10_fall_30 (fun r_18 v_18 f_18 g_18 H locs hq_18 hP _ hS => ?_)
        obtain ⟨rfl, rfl, rfl, rfl⟩ := hq_18
        show W p l e (gRm 3 68) s m args below meth c _ _ 0 0 Q (F0 m 33 ls [.int (iI 0)])
        have hP : gWd D (rwT k ad) (va_up (va_up v 25 z_6) 26 (v 26)) (va_up (va_up (va_up f 24 (f 24)) 26 (f 26)) 27 (f 27)) g H := ⟨hP.1, (gF_up (V := rwV) (F := rwF) (gF_up (V := rwV) (F := rwF) (gF_up (V := rwV) (F := rwF) (gR_up (V := rwV) (F := rwF) (gR_up (V := rwV) (F := rwF) ⟨hok.1, hok.2⟩ 25 (hP.2.1 25)) 26 (hP.2.1 26)) 24 (hP.2.2 24)) 26 (hP.2.2 26)) 27 (hP.2.2 27))⟩
        exact g_zret hQ C hr hlocks (by decide) hP hS dX10_fall_33 ⟨0, z_6, rfl, (by rw [show ((if z_6 = 1 ∨ z_6 = 2 ∨ z_6 = 9 then (v 26) else a2) : Int) = (v 26) from by first | rfl | omega | ((repeat' split) <;> omega)]), (by rw [show ((if z_6 = 1 ∨ z_6 = 2 ∨ z_6 = 9 then (f 24) else if z_6 = 0 then u1 (ovE (v 23) a2 (f 26) (f 23) (fun _ => (shF (v 1) (f 1) (v 22) 2)) (f 24)) ((ovO a2 (f 23) (fun _ => (shF (v 1) (f 1) (v 22) 2)) (f 27)) a1 - 1) a2 else (ovE (v 23) a2 (f 26) (f 23) (fun _ => (shF (v 1) (f 1) (v 22) 2)) (f 24))) : Int → Int) = (f 24) from by first | rfl | (rw [if_pos (by omega)]) | (rw [if_neg (by omega), if_neg (by omega)]) | (rw [if_neg (by omega), if_pos (by omega), hj]), show ((if z_6 = 1 ∨ z_6 = 2 ∨ z_6 = 9 then (f 26) else if z_6 = 0 then u1 (ovH (v 23) a2 (f 26) (f 23) (fun _ => (shF (v 1) (f 1) (v 22) 2))) ((ovO a2 (f 23) (fun _ => (shF (v 1) (f 1) (v 22) 2)) (f 27)) a1 - 1) (if a3 = 0 then 2 else 4) else (ovH (v 23) a2 (f 26) (f 23) (fun _ => (shF (v 1) (f 1) (v 22) 2)))) : Int → Int) = (f 26) from by first | rfl | (rw [if_pos (by omega)]) | (rw [if_neg (by omega), if_neg (by omega)]) | (rw [if_neg (by omega), if_pos (by omega), hj]; first | rw [if_pos (by omega)] | rw [if_neg (by omega)]), show ((if z_6 = 1 ∨ z_6 = 2 ∨ z_6 = 9 then (f 27) else if z_6 = 0 then u1 (ovO a2 (f 23) (fun _ => (shF (v 1) (f 1) (v 22) 2)) (f 27)) a1 0 else (ovO a2 (f 23) (fun _ => (shF (v 1) (f 1) (v 22) 2)) (f 27))) : Int → Int) = (f 27) from by first | rfl | (rw [if_pos (by omega)]) | (rw [if_neg (by omega), if_neg (by omega)]) | (rw [if_neg (by omega), if_pos (by omega), hjw (by omega)])]), rfl, (by first | omega | ((repeat' split) <;> omega)), (by first | omega | ((repeat' split) <;> omega))⟩

set_option maxHeartbeats 4000000 in
set_option maxRecDepth 100000 in
theorem x_Ro_out (l : Launch) (D : va_G) (k : Nat → ClassId) (A : Nat → Prop) (ad : Nat → Nat) (hD : rwD A k ad) (v : gV) (f g : gF) (a1 : Int) (a2 : Int) (a3 : Int) (h_a1 : inR a1) (h_a2 : inR a2) (h_a3 : inR a3) (hs : shOk (v 1) (f 1)) (hO : OI (v 23) (f 20) (f 26) (f 27)) (h3 : a3 = 0 ∨ a3 = 1) : GM l D k A (rwT k ad) yX10_out cX10_out 5 (some .boolean) 3 68 [.ref (ad 0), .int (iI a1), .int (iI a2), .int (iI a3)] v f g (fun r v1 f1 g1 => ∃ (z : Int) (w25 : Int), r = some (.int (iI z)) ∧ (va_up (va_up v 25 w25) 26 (if w25 = 1 ∨ w25 = 2 ∨ w25 = 9 then (v 26) else a2)) = v1 ∧ (va_up (va_up (va_up (va_up (va_up (va_up f 24 (if w25 = 1 ∨ w25 = 2 ∨ w25 = 9 then (f 24) else (ovE (v 23) a2 (f 26) (f 23) (fun _ => (shF (v 1) (f 1) (v 22) 2)) (f 24)))) 26 (if w25 = 1 ∨ w25 = 2 ∨ w25 = 9 then (f 26) else (ovH (v 23) a2 (f 26) (f 23) (fun _ => (shF (v 1) (f 1) (v 22) 2))))) 27 (if w25 = 1 ∨ w25 = 2 ∨ w25 = 9 then (f 27) else (ovO a2 (f 23) (fun _ => (shF (v 1) (f 1) (v 22) 2)) (f 27)))) 31 (if w25 = 0 ∧ a3 ≠ 0 then u1 (f 31) a1 ((f 31) a1 + 1) else (f 31))) 32 (if w25 = 0 ∧ a3 ≠ 0 then u1 (f 32) (a1 * 20 + (f 31) a1) a2 else (f 32))) 33 (if w25 = 0 then (if a3 ≠ 0 then u1 (f 33) (a1 * 20 + (f 31) a1) (-1) else u1 (f 33) (a1 * 20 + (f 31) a1 - 1) a2) else (f 33))) = f1 ∧ g = g1 ∧ (z = (if w25 = 0 then 1 else 0)) ∧ (w25 = (if ¬ (0 ≤ a1 ∧ a1 < (v 21)) then 1 else if (if a2 < 0 ∨ 1000000 < a2 then (2 : Int) else if a2 < (v 26) then 9 else 0) ≠ 0 then (if a2 < 0 ∨ 1000000 < a2 then (2 : Int) else if a2 < (v 26) then 9 else 0) else if ((0 < (f 31) a1 ∧ (f 33) (a1 * 20 + (f 31) a1 - 1) = (-1)) ∧ a3 = 1) ∨ (¬ (0 < (f 31) a1 ∧ (f 33) (a1 * 20 + (f 31) a1 - 1) = (-1)) ∧ a3 = 0) then 10 else if a3 = 1 ∧ 20 ≤ (f 31) a1 then 3 else 0))) := by
  refine GM.of (by decide) (Nat.le_of_ble_eq_true rfl) ?_
  intro p e s m args below meth c Q ls hQ C hml hr hlocks hP hl
  have hx := C.1
  have hb := C.2.1
  have hok := hP.2
  have hS : va_S A s.heap s.heap [] := va_S.rf
  have hl : lv_has ls 5 [(0, .ref (ad 0)), (1, .int (iI a1)), (2, .int (iI a2)), (3, .int (iI a3))] := hl
  have hP : gWd D (rwT k ad) (va_up (va_up v 25 (v 25)) 26 (v 26)) (va_up (va_up (va_up (va_up (va_up (va_up f 24 (f 24)) 26 (f 26)) 27 (f 27)) 31 (f 31)) 32 (f 32)) 33 (f 33)) g s.heap := by rw [va_id, va_id, va_id, va_id, va_id, va_id, va_id, va_id]; exact hP
  have hwr : ∀ k, 0 ≤ (f 20) k ∧ (f 20) k ≤ 15 := fun k => hok.2 20 k
  have r_1 : 0 ≤ (v 21) ∧ (v 21) ≤ 16 := hok.1 21
  refine lv_aload_n hx hb dX10_out_0 rfl (lv_at hl 0 rfl) ?_
  refine rwG_field C hP mF_X10_37 dX10_out_1 ?_
  refine lv_iload_n hx hb dX10_out_4 rfl (lv_at hl 1 rfl) ?_
  refine g_cv (As := [.int (iI a1)]) (rest := []) (n := 1) C hml (c_X2_knows l D k A ad hD (va_up (va_up v 25 (v 25)) 26 (v 26)) (va_up (va_up (va_up (va_up (va_up (va_up f 24 (f 24)) 26 (f 26)) 27 (f 27)) 31 (f 31)) 32 (f 32)) 33 (f 33)) g a1 (by omega)) mM_X10_180 mI_X2_knows mE_X2_knows mN_X2 mC_X2_knows (by decide +kernel) 27 (ci := 2) rfl rfl hP hS (fun _ h => h) ⟨Nat.le_of_ble_eq_true rfl, Nat.le_of_ble_eq_true rfl⟩ ⟨Nat.zero_le _, Nat.zero_le _⟩ hl.1 rfl rfl (Nat.le_of_ble_eq_true rfl) dX10_out_5 (fun r_2 v_2 f_2 g_2 H locs hq_2 hP _ hS => ?_)
  obtain ⟨z_2, rfl, rfl, rfl, rfl, p0_2⟩ := hq_2
  show W p l e (gRm 3 68) s m args below meth c _ _ 0 0 Q (F0 m 8 ls [.int (iI z_2)])
  replace p0_2 : z_2 = (if 0 ≤ a1 ∧ a1 < (v 21) then 1 else 0) := p0_2
  have w_2 := gif (P := 0 ≤ a1 ∧ a1 < (v 21)) p0_2
  clear p0_2
  have hz_2 : inR z_2 := (by first | omega | (rw [p0_2]; split <;> omega))
  refine gi_zeq (tgt := 19) hx hb dX10_out_8 (by decide) (by omega) (fun c_3 => ?_) (fun c_3 => ?_)
  · have vz_2 := gif0 w_2 c_3
    clear w_2
    refine lv_iconst (v := iI 1) hx hb dX10_out_19 rfl ?_
    refine lv_istore (lv' := [(4, .int (iI 1)), (0, .ref (ad 0)), (1, .int (iI a1)), (2, .int (iI a2)), (3, .int (iI a3))]) hx hb dX10_out_20 hl (by decide) rfl (fun ls hl => ?_)
    refine lv_iload hx hb dX10_out_22 (lv_at hl 0 rfl) ?_
    refine gi_zeq (tgt := 34) hx hb dX10_out_24 (by decide) (by decide) (fun c_4 => ?_) (fun c_4 => ?_)
    · exfalso; omega
    · refine lv_aload_n hx hb dX10_out_27 rfl (lv_at hl 1 rfl) ?_
      refine lv_iload hx hb dX10_out_28 (lv_at hl 0 rfl) ?_
      refine g_cv (As := [.int (iI 1)]) (rest := []) (n := 1) C hml (c_X10_deny l D k A ad hD (va_up (va_up v 25 (v 25)) 26 (v 26)) (va_up (va_up (va_up (va_up (va_up (va_up f 24 (f 24)) 26 (f 26)) 27 (f 27)) 31 (f 31)) 32 (f 32)) 33 (f 33)) g 1 (by decide) (show 0 ≤ (1 : Int) ∧ (1 : Int) ≤ 10 from by omega)) mM_X10_140 mI_X10_deny mE_X10_deny mN_X10 mC_X10_deny (by decide +kernel) 0 (ci := 10) rfl rfl hP hS (fun _ h => h) ⟨Nat.le_of_ble_eq_true rfl, Nat.le_of_ble_eq_true rfl⟩ ⟨Nat.zero_le _, Nat.zero_le _⟩ hl.1 rfl rfl (Nat.le_of_ble_eq_true rfl) dX10_out_30 (fun r_5 v_5 f_5 g_5 H locs hq_5 hP _ hS => ?_)
      obtain ⟨rfl, rfl, rfl, rfl⟩ := hq_5
      show W p l e (gRm 3 68) s m args below meth c _ _ 0 0 Q (F0 m 33 ls [.int (iI 0)])
      have hP : gWd D (rwT k ad) (va_up (va_up v 25 (1 : Int)) 26 (v 26)) (va_up (va_up (va_up (va_up (va_up (va_up f 24 (f 24)) 26 (f 26)) 27 (f 27)) 31 (f 31)) 32 (f 32)) 33 (f 33)) g H := ⟨hP.1, (gF_up (V := rwV) (F := rwF) (gF_up (V := rwV) (F := rwF) (gF_up (V := rwV) (F := rwF) (gF_up (V := rwV) (F := rwF) (gF_up (V := rwV) (F := rwF) (gF_up (V := rwV) (F := rwF) (gR_up (V := rwV) (F := rwF) (gR_up (V := rwV) (F := rwF) ⟨hok.1, hok.2⟩ 25 (hP.2.1 25)) 26 (hP.2.1 26)) 24 (hP.2.2 24)) 26 (hP.2.2 26)) 27 (hP.2.2 27)) 31 (hP.2.2 31)) 32 (hP.2.2 32)) 33 (hP.2.2 33))⟩
      exact g_zret hQ C hr hlocks (by decide) hP hS dX10_out_33 ⟨0, (1 : Int), rfl, (by rw [show ((if (1 : Int) = 1 ∨ (1 : Int) = 2 ∨ (1 : Int) = 9 then (v 26) else a2) : Int) = (v 26) from by first | rfl | omega | ((repeat' split) <;> omega)]), (by rw [show ((if (1 : Int) = 1 ∨ (1 : Int) = 2 ∨ (1 : Int) = 9 then (f 24) else (ovE (v 23) a2 (f 26) (f 23) (fun _ => (shF (v 1) (f 1) (v 22) 2)) (f 24))) : Int → Int) = (f 24) from by first | rfl | (rw [if_pos (by omega)]) | (rw [if_neg (by omega)]), show ((if (1 : Int) = 1 ∨ (1 : Int) = 2 ∨ (1 : Int) = 9 then (f 26) else (ovH (v 23) a2 (f 26) (f 23) (fun _ => (shF (v 1) (f 1) (v 22) 2)))) : Int → Int) = (f 26) from by first | rfl | (rw [if_pos (by omega)]) | (rw [if_neg (by omega)]), show ((if (1 : Int) = 1 ∨ (1 : Int) = 2 ∨ (1 : Int) = 9 then (f 27) else (ovO a2 (f 23) (fun _ => (shF (v 1) (f 1) (v 22) 2)) (f 27))) : Int → Int) = (f 27) from by first | rfl | (rw [if_pos (by omega)]) | (rw [if_neg (by omega)]), show ((if (1 : Int) = 0 ∧ a3 ≠ 0 then u1 (f 31) a1 ((f 31) a1 + 1) else (f 31)) : Int → Int) = (f 31) from by first | rfl | (rw [if_pos (by omega)]) | (rw [if_neg (by omega)]), show ((if (1 : Int) = 0 ∧ a3 ≠ 0 then u1 (f 32) (a1 * 20 + (f 31) a1) a2 else (f 32)) : Int → Int) = (f 32) from by first | rfl | (rw [if_pos (by omega)]) | (rw [if_neg (by omega)]), show ((if (1 : Int) = 0 then (if a3 ≠ 0 then u1 (f 33) (a1 * 20 + (f 31) a1) (-1) else u1 (f 33) (a1 * 20 + (f 31) a1 - 1) a2) else (f 33)) : Int → Int) = (f 33) from by first | rfl | (rw [if_neg (by omega)]) | (rw [if_pos (by omega), if_pos (by omega)]) | (rw [if_pos (by omega), if_neg (by omega)])]), rfl, (by first | omega | ((repeat' split) <;> omega)), (by first | omega | ((repeat' split) <;> omega))⟩
  · have vz_2 := gif1 w_2 c_3
    clear w_2
    refine lv_aload_n hx hb dX10_out_11 rfl (lv_at hl 0 rfl) ?_
    refine lv_iload_n hx hb dX10_out_12 rfl (lv_at hl 2 rfl) ?_
    refine g_cv (As := [.int (iI a2)]) (rest := []) (n := 1) C hml (x_Ro_passTo l D k A ad hD (va_up (va_up v 25 (v 25)) 26 (v 26)) (va_up (va_up (va_up (va_up (va_up (va_up f 24 (f 24)) 26 (f 26)) 27 (f 27)) 31 (f 31)) 32 (f 32)) 33 (f 33)) g a2 (by omega) (show shOk (v 1) (f 1) from hs) (show OI (v 23) (f 20) (f 26) (f 27) from hO)) mM_X10_183 mI_X10_passTo mE_X10_passTo mN_X10 mC_X10_passTo (by decide +kernel) 0 (ci := 10) rfl rfl hP hS (fun _ h => h) ⟨Nat.le_of_ble_eq_true rfl, Nat.le_of_ble_eq_true rfl⟩ ⟨Nat.zero_le _, Nat.zero_le _⟩ hl.1 rfl rfl (Nat.le_of_ble_eq_true rfl) dX10_out_13 (fun r_6 v_6 f_6 g_6 H locs hq_6 hP _ hS => ?_)
    obtain ⟨z_6, rfl, rfl, rfl, rfl, p0_6⟩ := hq_6
    show W p l e (gRm 3 68) s m args below meth c _ _ 0 0 Q (F0 m 16 ls [.int (iI z_6)])
    have hP : gWd D (rwT k ad) (va_up (va_up v 25 (v 25)) 26 (if z_6 = 0 then a2 else (v 26))) (va_up (va_up (va_up (va_up (va_up (va_up f 24 (if z_6 = 0 then (ovE (v 23) a2 (f 26) (f 23) (fun _ => (shF (v 1) (f 1) (v 22) 2)) (f 24)) else (f 24))) 26 (if z_6 = 0 then (ovH (v 23) a2 (f 26) (f 23) (fun _ => (shF (v 1) (f 1) (v 22) 2))) else (f 26))) 27 (if z_6 = 0 then (ovO a2 (f 23) (fun _ => (shF (v 1) (f 1) (v 22) 2)) (f 27)) else (f 27))) 31 (f 31)) 32 (f 32)) 33 (f 33)) g H := ⟨hP.1, (gF_up (V := rwV) (F := rwF) (gF_up (V := rwV) (F := rwF) (gF_up (V := rwV) (F := rwF) (gF_up (V := rwV) (F := rwF) (gF_up (V := rwV) (F := rwF) (gF_up (V := rwV) (F := rwF) (gR_up (V := rwV) (F := rwF) (gR_up (V := rwV) (F := rwF) ⟨hok.1, hok.2⟩ 25 (hP.2.1 25)) 26 (hP.2.1 26)) 24 (hP.2.2 24)) 26 (hP.2.2 26)) 27 (hP.2.2 27)) 31 (hP.2.2 31)) 32 (hP.2.2 32)) 33 (hP.2.2 33))⟩
    replace p0_6 : z_6 = (if a2 < 0 ∨ 1000000 < a2 then (2 : Int) else if a2 < (v 26) then 9 else 0) := p0_6
    have hz_6 : inR z_6 := (by first | omega | (rw [p0_6]; split <;> omega))
    have hpz := p0_6
    clear p0_6
    rcases (show z_6 = 0 ∨ z_6 ≠ 0 by omega) with hzp | hzp
    · replace hP : gWd D (rwT k ad) (va_up (va_up v 25 (v 25)) 26 a2) (va_up (va_up (va_up (va_up (va_up (va_up f 24 (ovE (v 23) a2 (f 26) (f 23) (fun _ => (shF (v 1) (f 1) (v 22) 2)) (f 24))) 26 (ovH (v 23) a2 (f 26) (f 23) (fun _ => (shF (v 1) (f 1) (v 22) 2)))) 27 (ovO a2 (f 23) (fun _ => (shF (v 1) (f 1) (v 22) 2)) (f 27))) 31 (f 31)) 32 (f 32)) 33 (f 33)) g H := by have h9 := hP; simp only [if_pos hzp] at h9; exact h9
      have hO2 : OI (v 23) (f 20) (ovH (v 23) a2 (f 26) (f 23) (fun _ => (shF (v 1) (f 1) (v 22) 2))) (ovO a2 (f 23) (fun _ => (shF (v 1) (f 1) (v 22) 2)) (f 27)) := OI_ov hO hwr
      refine lv_goto (tgt := 20) hx hb dX10_out_16 (by decide) ?_
      refine lv_istore (lv' := [(4, .int (iI z_6)), (0, .ref (ad 0)), (1, .int (iI a1)), (2, .int (iI a2)), (3, .int (iI a3))]) hx hb dX10_out_20 hl (by decide) rfl (fun ls hl => ?_)
      refine lv_iload hx hb dX10_out_22 (lv_at hl 0 rfl) ?_
      refine gi_zeq (tgt := 34) hx hb dX10_out_24 (by decide) (by omega) (fun c_7 => ?_) (fun c_7 => ?_)
      · refine lv_aload_n hx hb dX10_out_34 rfl (lv_at hl 1 rfl) ?_
        refine rwG_watch C hP mF_X10_58 dX10_out_35 ?_
        refine lv_iload_n hx hb dX10_out_38 rfl (lv_at hl 2 rfl) ?_
        refine g_cv (As := [.int (iI a1)]) (rest := []) (n := 1) C hml (x_Wa_isOut l D k A ad hD (va_up (va_up v 25 (v 25)) 26 a2) (va_up (va_up (va_up (va_up (va_up (va_up f 24 (ovE (v 23) a2 (f 26) (f 23) (fun _ => (shF (v 1) (f 1) (v 22) 2)) (f 24))) 26 (ovH (v 23) a2 (f 26) (f 23) (fun _ => (shF (v 1) (f 1) (v 22) 2)))) 27 (ovO a2 (f 23) (fun _ => (shF (v 1) (f 1) (v 22) 2)) (f 27))) 31 (f 31)) 32 (f 32)) 33 (f 33)) g a1 (by omega) (show 0 ≤ a1 ∧ a1 ≤ 15 from by omega)) mM_X10_212 mI_X9_isOut mE_X9_isOut mN_X9 mC_X9_isOut (by decide +kernel) 43 (ci := 9) rfl rfl hP hS (fun _ h => h) ⟨Nat.le_of_ble_eq_true rfl, Nat.le_of_ble_eq_true rfl⟩ ⟨Nat.zero_le _, Nat.zero_le _⟩ hl.1 rfl rfl (Nat.le_of_ble_eq_true rfl) dX10_out_39 (fun r_8 v_8 f_8 g_8 H locs hq_8 hP _ hS => ?_)
        obtain ⟨z_8, rfl, rfl, rfl, rfl, p0_8⟩ := hq_8
        show W p l e (gRm 3 68) s m args below meth c _ _ 0 0 Q (F0 m 42 ls [.int (iI z_8)])
        replace p0_8 : z_8 = (if 0 < (f 31) a1 ∧ (f 33) (a1 * 20 + (f 31) a1 - 1) = (-1) then 1 else 0) := p0_8
        have w_8 := gif (P := 0 < (f 31) a1 ∧ (f 33) (a1 * 20 + (f 31) a1 - 1) = (-1)) p0_8
        clear p0_8
        have hz_8 : inR z_8 := (by first | omega | (rw [p0_8]; split <;> omega))
        refine lv_iload_n hx hb dX10_out_42 rfl (lv_at hl 4 rfl) ?_
        refine gi_cne (tgt := 53) hx hb dX10_out_43 (by decide) (by omega) (by omega) (fun c_9 => ?_) (fun c_9 => ?_)
        · refine lv_iload_n hx hb dX10_out_53 rfl (lv_at hl 4 rfl) ?_
          refine gi_zne (tgt := 74) hx hb dX10_out_54 (by decide) (by omega) (fun c_10 => ?_) (fun c_10 => ?_)
          · refine lv_aload_n hx hb dX10_out_74 rfl (lv_at hl 1 rfl) ?_
            refine rwG_watch C hP mF_X10_58 dX10_out_75 ?_
            refine rwG_watch_times C hP mF_X10_218 dX10_out_78 ?_
            refine lv_iload_n hx hb dX10_out_81 rfl (lv_at hl 2 rfl) ?_
            refine rwL_watch_times C hP (by omega) (by omega) dX10_out_82 ?_
            show W p l e (gRm 3 68) s m args below meth c _ _ 0 0 Q (F0 m 83 ls [.int (iI (f 31 a1))])
            have r_11 : 0 ≤ (f 31 a1) ∧ (f 31 a1) ≤ 20 := hP.2.2 31 a1
            refine lv_bipush (v := iI 20) hx hb dX10_out_83 (by decide) ?_
            refine gi_clt (tgt := 94) hx hb dX10_out_85 (by decide) (by omega) (by decide) (fun c_12 => ?_) (fun c_12 => ?_)
            · refine lv_aload_n hx hb dX10_out_94 rfl (lv_at hl 1 rfl) ?_
              refine rwG_watch C hP mF_X10_58 dX10_out_95 ?_
              refine lv_iload_n hx hb dX10_out_98 rfl (lv_at hl 2 rfl) ?_
              refine lv_aload_n hx hb dX10_out_99 rfl (lv_at hl 1 rfl) ?_
              refine rwG_time C hP mF_X10_114 dX10_out_100 ?_
              show W p l e (gRm 3 68) s m args below meth c _ _ 0 0 Q (F0 m 103 ls [.int (iI a2), .int (iI a1), .ref (ad 43)])
              have r_13 : 0 ≤ a2 ∧ a2 ≤ 1000000 := hP.2.1 26
              refine g_cv (As := [.int (iI a1), .int (iI a2)]) (rest := []) (n := 2) C hml (x_Wa_goOut l D k A ad hD (va_up (va_up v 25 (v 25)) 26 a2) (va_up (va_up (va_up (va_up (va_up (va_up f 24 (ovE (v 23) a2 (f 26) (f 23) (fun _ => (shF (v 1) (f 1) (v 22) 2)) (f 24))) 26 (ovH (v 23) a2 (f 26) (f 23) (fun _ => (shF (v 1) (f 1) (v 22) 2)))) 27 (ovO a2 (f 23) (fun _ => (shF (v 1) (f 1) (v 22) 2)) (f 27))) 31 (f 31)) 32 (f 32)) 33 (f 33)) g a1 a2 (by omega) (by omega) (show 0 ≤ a1 ∧ a1 ≤ 15 from by omega) (show (f 31) a1 < 20 from by omega) (show 0 ≤ a2 ∧ a2 ≤ 1000000 from by omega)) mM_X10_221 mI_X9_goOut mE_X9_goOut mN_X9 mC_X9_goOut (by decide +kernel) 43 (ci := 9) rfl rfl hP hS (fun _ h => h) ⟨Nat.le_of_ble_eq_true rfl, Nat.le_of_ble_eq_true rfl⟩ ⟨Nat.zero_le _, Nat.zero_le _⟩ hl.1 rfl rfl (Nat.le_of_ble_eq_true rfl) dX10_out_103 (fun r_14 v_14 f_14 g_14 H locs hq_14 hP _ hS => ?_)
              obtain ⟨rfl, rfl, rfl, rfl⟩ := hq_14
              show W p l e (gRm 3 68) s m args below meth c _ _ 0 0 Q (F0 m 106 ls [])
              have hP : gWd D (rwT k ad) (va_up (va_up v 25 (v 25)) 26 a2) (va_up (va_up (va_up (va_up (va_up (va_up f 24 (ovE (v 23) a2 (f 26) (f 23) (fun _ => (shF (v 1) (f 1) (v 22) 2)) (f 24))) 26 (ovH (v 23) a2 (f 26) (f 23) (fun _ => (shF (v 1) (f 1) (v 22) 2)))) 27 (ovO a2 (f 23) (fun _ => (shF (v 1) (f 1) (v 22) 2)) (f 27))) 31 (u1 (f 31) a1 ((f 31) a1 + 1))) 32 (u1 (f 32) (a1 * 20 + (f 31) a1) a2)) 33 (u1 (f 33) (a1 * 20 + (f 31) a1) (-1))) g H := ⟨hP.1, (gF_up (V := rwV) (F := rwF) (gF_up (V := rwV) (F := rwF) (gF_up (V := rwV) (F := rwF) (gF_up (V := rwV) (F := rwF) (gF_up (V := rwV) (F := rwF) (gF_up (V := rwV) (F := rwF) (gR_up (V := rwV) (F := rwF) (gR_up (V := rwV) (F := rwF) ⟨hok.1, hok.2⟩ 25 (hP.2.1 25)) 26 (hP.2.1 26)) 24 (hP.2.2 24)) 26 (hP.2.2 26)) 27 (hP.2.2 27)) 31 (hP.2.2 31)) 32 (hP.2.2 32)) 33 (hP.2.2 33))⟩
              refine lv_aload_n hx hb dX10_out_106 rfl (lv_at hl 1 rfl) ?_
              refine g_cv (As := []) (rest := []) (n := 0) C hml (c_X10_grant l D k A ad hD (va_up (va_up v 25 (v 25)) 26 a2) (va_up (va_up (va_up (va_up (va_up (va_up f 24 (ovE (v 23) a2 (f 26) (f 23) (fun _ => (shF (v 1) (f 1) (v 22) 2)) (f 24))) 26 (ovH (v 23) a2 (f 26) (f 23) (fun _ => (shF (v 1) (f 1) (v 22) 2)))) 27 (ovO a2 (f 23) (fun _ => (shF (v 1) (f 1) (v 22) 2)) (f 27))) 31 (u1 (f 31) a1 ((f 31) a1 + 1))) 32 (u1 (f 32) (a1 * 20 + (f 31) a1) a2)) 33 (u1 (f 33) (a1 * 20 + (f 31) a1) (-1))) g) mM_X10_160 mI_X10_grant mE_X10_grant mN_X10 mC_X10_grant (by decide +kernel) 0 (ci := 10) rfl rfl hP hS (fun _ h => h) ⟨Nat.le_of_ble_eq_true rfl, Nat.le_of_ble_eq_true rfl⟩ ⟨Nat.zero_le _, Nat.zero_le _⟩ hl.1 rfl rfl (Nat.le_of_ble_eq_true rfl) dX10_out_107 (fun r_15 v_15 f_15 g_15 H locs hq_15 hP _ hS => ?_)
              obtain ⟨rfl, rfl, rfl, rfl⟩ := hq_15
              show W p l e (gRm 3 68) s m args below meth c _ _ 0 0 Q (F0 m 110 ls [.int (iI 1)])
              have hP : gWd D (rwT k ad) (va_up (va_up v 25 0) 26 a2) (va_up (va_up (va_up (va_up (va_up (va_up f 24 (ovE (v 23) a2 (f 26) (f 23) (fun _ => (shF (v 1) (f 1) (v 22) 2)) (f 24))) 26 (ovH (v 23) a2 (f 26) (f 23) (fun _ => (shF (v 1) (f 1) (v 22) 2)))) 27 (ovO a2 (f 23) (fun _ => (shF (v 1) (f 1) (v 22) 2)) (f 27))) 31 (u1 (f 31) a1 ((f 31) a1 + 1))) 32 (u1 (f 32) (a1 * 20 + (f 31) a1) a2)) 33 (u1 (f 33) (a1 * 20 + (f 31) a1) (-1))) g H := ⟨hP.1, (gF_up (V := rwV) (F := rwF) (gF_up (V := rwV) (F := rwF) (gF_up (V := rwV) (F := rwF) (gF_up (V := rwV) (F := rwF) (gF_up (V := rwV) (F := rwF) (gF_up (V := rwV) (F := rwF) (gR_up (V := rwV) (F := rwF) (gR_up (V := rwV) (F := rwF) ⟨hok.1, hok.2⟩ 25 (hP.2.1 25)) 26 (hP.2.1 26)) 24 (hP.2.2 24)) 26 (hP.2.2 26)) 27 (hP.2.2 27)) 31 (hP.2.2 31)) 32 (hP.2.2 32)) 33 (hP.2.2 33))⟩
              exact g_zret hQ C hr hlocks (by decide) hP hS dX10_out_110 ⟨1, 0, rfl, (by rw [show ((if (0 : Int) = 1 ∨ (0 : Int) = 2 ∨ (0 : Int) = 9 then (v 26) else a2) : Int) = a2 from by first | rfl | omega | ((repeat' split) <;> omega)]), (by rw [show ((if (0 : Int) = 1 ∨ (0 : Int) = 2 ∨ (0 : Int) = 9 then (f 24) else (ovE (v 23) a2 (f 26) (f 23) (fun _ => (shF (v 1) (f 1) (v 22) 2)) (f 24))) : Int → Int) = (ovE (v 23) a2 (f 26) (f 23) (fun _ => (shF (v 1) (f 1) (v 22) 2)) (f 24)) from by first | rfl | (rw [if_pos (by omega)]) | (rw [if_neg (by omega)]), show ((if (0 : Int) = 1 ∨ (0 : Int) = 2 ∨ (0 : Int) = 9 then (f 26) else (ovH (v 23) a2 (f 26) (f 23) (fun _ => (shF (v 1) (f 1) (v 22) 2)))) : Int → Int) = (ovH (v 23) a2 (f 26) (f 23) (fun _ => (shF (v 1) (f 1) (v 22) 2))) from by first | rfl | (rw [if_pos (by omega)]) | (rw [if_neg (by omega)]), show ((if (0 : Int) = 1 ∨ (0 : Int) = 2 ∨ (0 : Int) = 9 then (f 27) else (ovO a2 (f 23) (fun _ => (shF (v 1) (f 1) (v 22) 2)) (f 27))) : Int → Int) = (ovO a2 (f 23) (fun _ => (shF (v 1) (f 1) (v 22) 2)) (f 27)) from by first | rfl | (rw [if_pos (by omega)]) | (rw [if_neg (by omega)]), show ((if (0 : Int) = 0 ∧ a3 ≠ 0 then u1 (f 31) a1 ((f 31) a1 + 1) else (f 31)) : Int → Int) = (u1 (f 31) a1 ((f 31) a1 + 1)) from by first | rfl | (rw [if_pos (by omega)]) | (rw [if_neg (by omega)]), show ((if (0 : Int) = 0 ∧ a3 ≠ 0 then u1 (f 32) (a1 * 20 + (f 31) a1) a2 else (f 32)) : Int → Int) = (u1 (f 32) (a1 * 20 + (f 31) a1) a2) from by first | rfl | (rw [if_pos (by omega)]) | (rw [if_neg (by omega)]), show ((if (0 : Int) = 0 then (if a3 ≠ 0 then u1 (f 33) (a1 * 20 + (f 31) a1) (-1) else u1 (f 33) (a1 * 20 + (f 31) a1 - 1) a2) else (f 33)) : Int → Int) = (u1 (f 33) (a1 * 20 + (f 31) a1) (-1)) from by first | rfl | (rw [if_neg (by omega)]) | (rw [if_pos (by omega), if_pos (by omega)]) | (rw [if_pos (by omega), if_neg (by omega)])]), rfl, (by first | omega | ((repeat' split) <;> omega)), (by first | omega | ((repeat' split) <;> omega))⟩
            · refine lv_aload_n hx hb dX10_out_88 rfl (lv_at hl 1 rfl) ?_
              refine lv_iconst (v := iI 3) hx hb dX10_out_89 rfl ?_
              refine g_cv (As := [.int (iI 3)]) (rest := []) (n := 1) C hml (c_X10_deny l D k A ad hD (va_up (va_up v 25 (v 25)) 26 a2) (va_up (va_up (va_up (va_up (va_up (va_up f 24 (ovE (v 23) a2 (f 26) (f 23) (fun _ => (shF (v 1) (f 1) (v 22) 2)) (f 24))) 26 (ovH (v 23) a2 (f 26) (f 23) (fun _ => (shF (v 1) (f 1) (v 22) 2)))) 27 (ovO a2 (f 23) (fun _ => (shF (v 1) (f 1) (v 22) 2)) (f 27))) 31 (f 31)) 32 (f 32)) 33 (f 33)) g 3 (by decide) (show 0 ≤ (3 : Int) ∧ (3 : Int) ≤ 10 from by omega)) mM_X10_140 mI_X10_deny mE_X10_deny mN_X10 mC_X10_deny (by decide +kernel) 0 (ci := 10) rfl rfl hP hS (fun _ h => h) ⟨Nat.le_of_ble_eq_true rfl, Nat.le_of_ble_eq_true rfl⟩ ⟨Nat.zero_le _, Nat.zero_le _⟩ hl.1 rfl rfl (Nat.le_of_ble_eq_true rfl) dX10_out_90 (fun r_16 v_16 f_16 g_16 H locs hq_16 hP _ hS => ?_)
              obtain ⟨rfl, rfl, rfl, rfl⟩ := hq_16
              show W p l e (gRm 3 68) s m args below meth c _ _ 0 0 Q (F0 m 93 ls [.int (iI 0)])
              have hP : gWd D (rwT k ad) (va_up (va_up v 25 (3 : Int)) 26 a2) (va_up (va_up (va_up (va_up (va_up (va_up f 24 (ovE (v 23) a2 (f 26) (f 23) (fun _ => (shF (v 1) (f 1) (v 22) 2)) (f 24))) 26 (ovH (v 23) a2 (f 26) (f 23) (fun _ => (shF (v 1) (f 1) (v 22) 2)))) 27 (ovO a2 (f 23) (fun _ => (shF (v 1) (f 1) (v 22) 2)) (f 27))) 31 (f 31)) 32 (f 32)) 33 (f 33)) g H := ⟨hP.1, (gF_up (V := rwV) (F := rwF) (gF_up (V := rwV) (F := rwF) (gF_up (V := rwV) (F := rwF) (gF_up (V := rwV) (F := rwF) (gF_up (V := rwV) (F := rwF) (gF_up (V := rwV) (F := rwF) (gR_up (V := rwV) (F := rwF) (gR_up (V := rwV) (F := rwF) ⟨hok.1, hok.2⟩ 25 (hP.2.1 25)) 26 (hP.2.1 26)) 24 (hP.2.2 24)) 26 (hP.2.2 26)) 27 (hP.2.2 27)) 31 (hP.2.2 31)) 32 (hP.2.2 32)) 33 (hP.2.2 33))⟩
              exact g_zret hQ C hr hlocks (by decide) hP hS dX10_out_93 ⟨0, (3 : Int), rfl, (by rw [show ((if (3 : Int) = 1 ∨ (3 : Int) = 2 ∨ (3 : Int) = 9 then (v 26) else a2) : Int) = a2 from by first | rfl | omega | ((repeat' split) <;> omega)]), (by rw [show ((if (3 : Int) = 1 ∨ (3 : Int) = 2 ∨ (3 : Int) = 9 then (f 24) else (ovE (v 23) a2 (f 26) (f 23) (fun _ => (shF (v 1) (f 1) (v 22) 2)) (f 24))) : Int → Int) = (ovE (v 23) a2 (f 26) (f 23) (fun _ => (shF (v 1) (f 1) (v 22) 2)) (f 24)) from by first | rfl | (rw [if_pos (by omega)]) | (rw [if_neg (by omega)]), show ((if (3 : Int) = 1 ∨ (3 : Int) = 2 ∨ (3 : Int) = 9 then (f 26) else (ovH (v 23) a2 (f 26) (f 23) (fun _ => (shF (v 1) (f 1) (v 22) 2)))) : Int → Int) = (ovH (v 23) a2 (f 26) (f 23) (fun _ => (shF (v 1) (f 1) (v 22) 2))) from by first | rfl | (rw [if_pos (by omega)]) | (rw [if_neg (by omega)]), show ((if (3 : Int) = 1 ∨ (3 : Int) = 2 ∨ (3 : Int) = 9 then (f 27) else (ovO a2 (f 23) (fun _ => (shF (v 1) (f 1) (v 22) 2)) (f 27))) : Int → Int) = (ovO a2 (f 23) (fun _ => (shF (v 1) (f 1) (v 22) 2)) (f 27)) from by first | rfl | (rw [if_pos (by omega)]) | (rw [if_neg (by omega)]), show ((if (3 : Int) = 0 ∧ a3 ≠ 0 then u1 (f 31) a1 ((f 31) a1 + 1) else (f 31)) : Int → Int) = (f 31) from by first | rfl | (rw [if_pos (by omega)]) | (rw [if_neg (by omega)]), show ((if (3 : Int) = 0 ∧ a3 ≠ 0 then u1 (f 32) (a1 * 20 + (f 31) a1) a2 else (f 32)) : Int → Int) = (f 32) from by first | rfl | (rw [if_pos (by omega)]) | (rw [if_neg (by omega)]), show ((if (3 : Int) = 0 then (if a3 ≠ 0 then u1 (f 33) (a1 * 20 + (f 31) a1) (-1) else u1 (f 33) (a1 * 20 + (f 31) a1 - 1) a2) else (f 33)) : Int → Int) = (f 33) from by first | rfl | (rw [if_neg (by omega)]) | (rw [if_pos (by omega), if_pos (by omega)]) | (rw [if_pos (by omega), if_neg (by omega)])]), rfl, (by first | omega | ((repeat' split) <;> omega)), (by first | omega | ((repeat' split) <;> omega))⟩
          · refine lv_aload_n hx hb dX10_out_57 rfl (lv_at hl 1 rfl) ?_
            refine rwG_watch C hP mF_X10_58 dX10_out_58 ?_
            refine lv_iload_n hx hb dX10_out_61 rfl (lv_at hl 2 rfl) ?_
            refine lv_aload_n hx hb dX10_out_62 rfl (lv_at hl 1 rfl) ?_
            refine rwG_time C hP mF_X10_114 dX10_out_63 ?_
            show W p l e (gRm 3 68) s m args below meth c _ _ 0 0 Q (F0 m 66 ls [.int (iI a2), .int (iI a1), .ref (ad 43)])
            have r_17 : 0 ≤ a2 ∧ a2 ≤ 1000000 := hP.2.1 26
            refine g_cv (As := [.int (iI a1), .int (iI a2)]) (rest := []) (n := 2) C hml (x_Wa_comeIn l D k A ad hD (va_up (va_up v 25 (v 25)) 26 a2) (va_up (va_up (va_up (va_up (va_up (va_up f 24 (ovE (v 23) a2 (f 26) (f 23) (fun _ => (shF (v 1) (f 1) (v 22) 2)) (f 24))) 26 (ovH (v 23) a2 (f 26) (f 23) (fun _ => (shF (v 1) (f 1) (v 22) 2)))) 27 (ovO a2 (f 23) (fun _ => (shF (v 1) (f 1) (v 22) 2)) (f 27))) 31 (f 31)) 32 (f 32)) 33 (f 33)) g a1 a2 (by omega) (by omega) (show 0 ≤ a1 ∧ a1 ≤ 15 from by omega) (show 0 < (f 31) a1 from by omega) (show 0 ≤ a2 ∧ a2 ≤ 1000000 from by omega)) mM_X10_215 mI_X9_comeIn mE_X9_comeIn mN_X9 mC_X9_comeIn (by decide +kernel) 43 (ci := 9) rfl rfl hP hS (fun _ h => h) ⟨Nat.le_of_ble_eq_true rfl, Nat.le_of_ble_eq_true rfl⟩ ⟨Nat.zero_le _, Nat.zero_le _⟩ hl.1 rfl rfl (Nat.le_of_ble_eq_true rfl) dX10_out_66 (fun r_18 v_18 f_18 g_18 H locs hq_18 hP _ hS => ?_)
            obtain ⟨rfl, rfl, rfl, rfl⟩ := hq_18
            show W p l e (gRm 3 68) s m args below meth c _ _ 0 0 Q (F0 m 69 ls [])
            have hP : gWd D (rwT k ad) (va_up (va_up v 25 (v 25)) 26 a2) (va_up (va_up (va_up (va_up (va_up (va_up f 24 (ovE (v 23) a2 (f 26) (f 23) (fun _ => (shF (v 1) (f 1) (v 22) 2)) (f 24))) 26 (ovH (v 23) a2 (f 26) (f 23) (fun _ => (shF (v 1) (f 1) (v 22) 2)))) 27 (ovO a2 (f 23) (fun _ => (shF (v 1) (f 1) (v 22) 2)) (f 27))) 31 (f 31)) 32 (f 32)) 33 (u1 (f 33) (a1 * 20 + (f 31) a1 - 1) a2)) g H := ⟨hP.1, (gF_up (V := rwV) (F := rwF) (gF_up (V := rwV) (F := rwF) (gF_up (V := rwV) (F := rwF) (gF_up (V := rwV) (F := rwF) (gF_up (V := rwV) (F := rwF) (gF_up (V := rwV) (F := rwF) (gR_up (V := rwV) (F := rwF) (gR_up (V := rwV) (F := rwF) ⟨hok.1, hok.2⟩ 25 (hP.2.1 25)) 26 (hP.2.1 26)) 24 (hP.2.2 24)) 26 (hP.2.2 26)) 27 (hP.2.2 27)) 31 (hP.2.2 31)) 32 (hP.2.2 32)) 33 (hP.2.2 33))⟩
            refine lv_aload_n hx hb dX10_out_69 rfl (lv_at hl 1 rfl) ?_
            refine g_cv (As := []) (rest := []) (n := 0) C hml (c_X10_grant l D k A ad hD (va_up (va_up v 25 (v 25)) 26 a2) (va_up (va_up (va_up (va_up (va_up (va_up f 24 (ovE (v 23) a2 (f 26) (f 23) (fun _ => (shF (v 1) (f 1) (v 22) 2)) (f 24))) 26 (ovH (v 23) a2 (f 26) (f 23) (fun _ => (shF (v 1) (f 1) (v 22) 2)))) 27 (ovO a2 (f 23) (fun _ => (shF (v 1) (f 1) (v 22) 2)) (f 27))) 31 (f 31)) 32 (f 32)) 33 (u1 (f 33) (a1 * 20 + (f 31) a1 - 1) a2)) g) mM_X10_160 mI_X10_grant mE_X10_grant mN_X10 mC_X10_grant (by decide +kernel) 0 (ci := 10) rfl rfl hP hS (fun _ h => h) ⟨Nat.le_of_ble_eq_true rfl, Nat.le_of_ble_eq_true rfl⟩ ⟨Nat.zero_le _, Nat.zero_le _⟩ hl.1 rfl rfl (Nat.le_of_ble_eq_true rfl) dX10_out_70 (fun r_19 v_19 f_19 g_19 H locs hq_19 hP _ hS => ?_)
            obtain ⟨rfl, rfl, rfl, rfl⟩ := hq_19
            show W p l e (gRm 3 68) s m args below meth c _ _ 0 0 Q (F0 m 73 ls [.int (iI 1)])
            have hP : gWd D (rwT k ad) (va_up (va_up v 25 0) 26 a2) (va_up (va_up (va_up (va_up (va_up (va_up f 24 (ovE (v 23) a2 (f 26) (f 23) (fun _ => (shF (v 1) (f 1) (v 22) 2)) (f 24))) 26 (ovH (v 23) a2 (f 26) (f 23) (fun _ => (shF (v 1) (f 1) (v 22) 2)))) 27 (ovO a2 (f 23) (fun _ => (shF (v 1) (f 1) (v 22) 2)) (f 27))) 31 (f 31)) 32 (f 32)) 33 (u1 (f 33) (a1 * 20 + (f 31) a1 - 1) a2)) g H := ⟨hP.1, (gF_up (V := rwV) (F := rwF) (gF_up (V := rwV) (F := rwF) (gF_up (V := rwV) (F := rwF) (gF_up (V := rwV) (F := rwF) (gF_up (V := rwV) (F := rwF) (gF_up (V := rwV) (F := rwF) (gR_up (V := rwV) (F := rwF) (gR_up (V := rwV) (F := rwF) ⟨hok.1, hok.2⟩ 25 (hP.2.1 25)) 26 (hP.2.1 26)) 24 (hP.2.2 24)) 26 (hP.2.2 26)) 27 (hP.2.2 27)) 31 (hP.2.2 31)) 32 (hP.2.2 32)) 33 (hP.2.2 33))⟩
            exact g_zret hQ C hr hlocks (by decide) hP hS dX10_out_73 ⟨1, 0, rfl, (by rw [show ((if (0 : Int) = 1 ∨ (0 : Int) = 2 ∨ (0 : Int) = 9 then (v 26) else a2) : Int) = a2 from by first | rfl | omega | ((repeat' split) <;> omega)]), (by rw [show ((if (0 : Int) = 1 ∨ (0 : Int) = 2 ∨ (0 : Int) = 9 then (f 24) else (ovE (v 23) a2 (f 26) (f 23) (fun _ => (shF (v 1) (f 1) (v 22) 2)) (f 24))) : Int → Int) = (ovE (v 23) a2 (f 26) (f 23) (fun _ => (shF (v 1) (f 1) (v 22) 2)) (f 24)) from by first | rfl | (rw [if_pos (by omega)]) | (rw [if_neg (by omega)]), show ((if (0 : Int) = 1 ∨ (0 : Int) = 2 ∨ (0 : Int) = 9 then (f 26) else (ovH (v 23) a2 (f 26) (f 23) (fun _ => (shF (v 1) (f 1) (v 22) 2)))) : Int → Int) = (ovH (v 23) a2 (f 26) (f 23) (fun _ => (shF (v 1) (f 1) (v 22) 2))) from by first | rfl | (rw [if_pos (by omega)]) | (rw [if_neg (by omega)]), show ((if (0 : Int) = 1 ∨ (0 : Int) = 2 ∨ (0 : Int) = 9 then (f 27) else (ovO a2 (f 23) (fun _ => (shF (v 1) (f 1) (v 22) 2)) (f 27))) : Int → Int) = (ovO a2 (f 23) (fun _ => (shF (v 1) (f 1) (v 22) 2)) (f 27)) from by first | rfl | (rw [if_pos (by omega)]) | (rw [if_neg (by omega)]), show ((if (0 : Int) = 0 ∧ a3 ≠ 0 then u1 (f 31) a1 ((f 31) a1 + 1) else (f 31)) : Int → Int) = (f 31) from by first | rfl | (rw [if_pos (by omega)]) | (rw [if_neg (by omega)]), show ((if (0 : Int) = 0 ∧ a3 ≠ 0 then u1 (f 32) (a1 * 20 + (f 31) a1) a2 else (f 32)) : Int → Int) = (f 32) from by first | rfl | (rw [if_pos (by omega)]) | (rw [if_neg (by omega)]), show ((if (0 : Int) = 0 then (if a3 ≠ 0 then u1 (f 33) (a1 * 20 + (f 31) a1) (-1) else u1 (f 33) (a1 * 20 + (f 31) a1 - 1) a2) else (f 33)) : Int → Int) = (u1 (f 33) (a1 * 20 + (f 31) a1 - 1) a2) from by first | rfl | (rw [if_neg (by omega)]) | (rw [if_pos (by omega), if_pos (by omega)]) | (rw [if_pos (by omega), if_neg (by omega)])]), rfl, (by first | omega | ((repeat' split) <;> omega)), (by first | omega | ((repeat' split) <;> omega))⟩
        · refine lv_aload_n hx hb dX10_out_46 rfl (lv_at hl 1 rfl) ?_
          refine lv_bipush (v := iI 10) hx hb dX10_out_47 (by decide) ?_
          refine g_cv (As := [.int (iI 10)]) (rest := []) (n := 1) C hml (c_X10_deny l D k A ad hD (va_up (va_up v 25 (v 25)) 26 a2) (va_up (va_up (va_up (va_up (va_up (va_up f 24 (ovE (v 23) a2 (f 26) (f 23) (fun _ => (shF (v 1) (f 1) (v 22) 2)) (f 24))) 26 (ovH (v 23) a2 (f 26) (f 23) (fun _ => (shF (v 1) (f 1) (v 22) 2)))) 27 (ovO a2 (f 23) (fun _ => (shF (v 1) (f 1) (v 22) 2)) (f 27))) 31 (f 31)) 32 (f 32)) 33 (f 33)) g 10 (by decide) (show 0 ≤ (10 : Int) ∧ (10 : Int) ≤ 10 from by omega)) mM_X10_140 mI_X10_deny mE_X10_deny mN_X10 mC_X10_deny (by decide +kernel) 0 (ci := 10) rfl rfl hP hS (fun _ h => h) ⟨Nat.le_of_ble_eq_true rfl, Nat.le_of_ble_eq_true rfl⟩ ⟨Nat.zero_le _, Nat.zero_le _⟩ hl.1 rfl rfl (Nat.le_of_ble_eq_true rfl) dX10_out_49 (fun r_20 v_20 f_20 g_20 H locs hq_20 hP _ hS => ?_)
          obtain ⟨rfl, rfl, rfl, rfl⟩ := hq_20
          show W p l e (gRm 3 68) s m args below meth c _ _ 0 0 Q (F0 m 52 ls [.int (iI 0)])
          have hP : gWd D (rwT k ad) (va_up (va_up v 25 (10 : Int)) 26 a2) (va_up (va_up (va_up (va_up (va_up (va_up f 24 (ovE (v 23) a2 (f 26) (f 23) (fun _ => (shF (v 1) (f 1) (v 22) 2)) (f 24))) 26 (ovH (v 23) a2 (f 26) (f 23) (fun _ => (shF (v 1) (f 1) (v 22) 2)))) 27 (ovO a2 (f 23) (fun _ => (shF (v 1) (f 1) (v 22) 2)) (f 27))) 31 (f 31)) 32 (f 32)) 33 (f 33)) g H := ⟨hP.1, (gF_up (V := rwV) (F := rwF) (gF_up (V := rwV) (F := rwF) (gF_up (V := rwV) (F := rwF) (gF_up (V := rwV) (F := rwF) (gF_up (V := rwV) (F := rwF) (gF_up (V := rwV) (F := rwF) (gR_up (V := rwV) (F := rwF) (gR_up (V := rwV) (F := rwF) ⟨hok.1, hok.2⟩ 25 (hP.2.1 25)) 26 (hP.2.1 26)) 24 (hP.2.2 24)) 26 (hP.2.2 26)) 27 (hP.2.2 27)) 31 (hP.2.2 31)) 32 (hP.2.2 32)) 33 (hP.2.2 33))⟩
          exact g_zret hQ C hr hlocks (by decide) hP hS dX10_out_52 ⟨0, (10 : Int), rfl, (by rw [show ((if (10 : Int) = 1 ∨ (10 : Int) = 2 ∨ (10 : Int) = 9 then (v 26) else a2) : Int) = a2 from by first | rfl | omega | ((repeat' split) <;> omega)]), (by rw [show ((if (10 : Int) = 1 ∨ (10 : Int) = 2 ∨ (10 : Int) = 9 then (f 24) else (ovE (v 23) a2 (f 26) (f 23) (fun _ => (shF (v 1) (f 1) (v 22) 2)) (f 24))) : Int → Int) = (ovE (v 23) a2 (f 26) (f 23) (fun _ => (shF (v 1) (f 1) (v 22) 2)) (f 24)) from by first | rfl | (rw [if_pos (by omega)]) | (rw [if_neg (by omega)]), show ((if (10 : Int) = 1 ∨ (10 : Int) = 2 ∨ (10 : Int) = 9 then (f 26) else (ovH (v 23) a2 (f 26) (f 23) (fun _ => (shF (v 1) (f 1) (v 22) 2)))) : Int → Int) = (ovH (v 23) a2 (f 26) (f 23) (fun _ => (shF (v 1) (f 1) (v 22) 2))) from by first | rfl | (rw [if_pos (by omega)]) | (rw [if_neg (by omega)]), show ((if (10 : Int) = 1 ∨ (10 : Int) = 2 ∨ (10 : Int) = 9 then (f 27) else (ovO a2 (f 23) (fun _ => (shF (v 1) (f 1) (v 22) 2)) (f 27))) : Int → Int) = (ovO a2 (f 23) (fun _ => (shF (v 1) (f 1) (v 22) 2)) (f 27)) from by first | rfl | (rw [if_pos (by omega)]) | (rw [if_neg (by omega)]), show ((if (10 : Int) = 0 ∧ a3 ≠ 0 then u1 (f 31) a1 ((f 31) a1 + 1) else (f 31)) : Int → Int) = (f 31) from by first | rfl | (rw [if_pos (by omega)]) | (rw [if_neg (by omega)]), show ((if (10 : Int) = 0 ∧ a3 ≠ 0 then u1 (f 32) (a1 * 20 + (f 31) a1) a2 else (f 32)) : Int → Int) = (f 32) from by first | rfl | (rw [if_pos (by omega)]) | (rw [if_neg (by omega)]), show ((if (10 : Int) = 0 then (if a3 ≠ 0 then u1 (f 33) (a1 * 20 + (f 31) a1) (-1) else u1 (f 33) (a1 * 20 + (f 31) a1 - 1) a2) else (f 33)) : Int → Int) = (f 33) from by first | rfl | (rw [if_neg (by omega)]) | (rw [if_pos (by omega), if_pos (by omega)]) | (rw [if_pos (by omega), if_neg (by omega)])]), rfl, (by first | omega | ((repeat' split) <;> omega)), (by first | omega | ((repeat' split) <;> omega))⟩
      · exfalso; omega
    · replace hP : gWd D (rwT k ad) (va_up (va_up v 25 (v 25)) 26 (v 26)) (va_up (va_up (va_up (va_up (va_up (va_up f 24 (f 24)) 26 (f 26)) 27 (f 27)) 31 (f 31)) 32 (f 32)) 33 (f 33)) g H := by have h9 := hP; simp only [if_neg hzp] at h9; exact h9
      refine lv_goto (tgt := 20) hx hb dX10_out_16 (by decide) ?_
      refine lv_istore (lv' := [(4, .int (iI z_6)), (0, .ref (ad 0)), (1, .int (iI a1)), (2, .int (iI a2)), (3, .int (iI a3))]) hx hb dX10_out_20 hl (by decide) rfl (fun ls hl => ?_)
      refine lv_iload hx hb dX10_out_22 (lv_at hl 0 rfl) ?_
      refine gi_zeq (tgt := 34) hx hb dX10_out_24 (by decide) (by omega) (fun c_21 => ?_) (fun c_21 => ?_)
      · exfalso; omega
      · refine lv_aload_n hx hb dX10_out_27 rfl (lv_at hl 1 rfl) ?_
        refine lv_iload hx hb dX10_out_28 (lv_at hl 0 rfl) ?_
        refine g_cv (As := [.int (iI z_6)]) (rest := []) (n := 1) C hml (c_X10_deny l D k A ad hD (va_up (va_up v 25 (v 25)) 26 (v 26)) (va_up (va_up (va_up (va_up (va_up (va_up f 24 (f 24)) 26 (f 26)) 27 (f 27)) 31 (f 31)) 32 (f 32)) 33 (f 33)) g z_6 (by omega) (show 0 ≤ z_6 ∧ z_6 ≤ 10 from by omega)) mM_X10_140 mI_X10_deny mE_X10_deny mN_X10 mC_X10_deny (by decide +kernel) 0 (ci := 10) rfl rfl hP hS (fun _ h => h) ⟨Nat.le_of_ble_eq_true rfl, Nat.le_of_ble_eq_true rfl⟩ ⟨Nat.zero_le _, Nat.zero_le _⟩ hl.1 rfl rfl (Nat.le_of_ble_eq_true rfl) dX10_out_30 (fun r_22 v_22 f_22 g_22 H locs hq_22 hP _ hS => ?_)
        obtain ⟨rfl, rfl, rfl, rfl⟩ := hq_22
        show W p l e (gRm 3 68) s m args below meth c _ _ 0 0 Q (F0 m 33 ls [.int (iI 0)])
        have hP : gWd D (rwT k ad) (va_up (va_up v 25 z_6) 26 (v 26)) (va_up (va_up (va_up (va_up (va_up (va_up f 24 (f 24)) 26 (f 26)) 27 (f 27)) 31 (f 31)) 32 (f 32)) 33 (f 33)) g H := ⟨hP.1, (gF_up (V := rwV) (F := rwF) (gF_up (V := rwV) (F := rwF) (gF_up (V := rwV) (F := rwF) (gF_up (V := rwV) (F := rwF) (gF_up (V := rwV) (F := rwF) (gF_up (V := rwV) (F := rwF) (gR_up (V := rwV) (F := rwF) (gR_up (V := rwV) (F := rwF) ⟨hok.1, hok.2⟩ 25 (hP.2.1 25)) 26 (hP.2.1 26)) 24 (hP.2.2 24)) 26 (hP.2.2 26)) 27 (hP.2.2 27)) 31 (hP.2.2 31)) 32 (hP.2.2 32)) 33 (hP.2.2 33))⟩
        exact g_zret hQ C hr hlocks (by decide) hP hS dX10_out_33 ⟨0, z_6, rfl, (by rw [show ((if z_6 = 1 ∨ z_6 = 2 ∨ z_6 = 9 then (v 26) else a2) : Int) = (v 26) from by first | rfl | omega | ((repeat' split) <;> omega)]), (by rw [show ((if z_6 = 1 ∨ z_6 = 2 ∨ z_6 = 9 then (f 24) else (ovE (v 23) a2 (f 26) (f 23) (fun _ => (shF (v 1) (f 1) (v 22) 2)) (f 24))) : Int → Int) = (f 24) from by first | rfl | (rw [if_pos (by omega)]) | (rw [if_neg (by omega)]), show ((if z_6 = 1 ∨ z_6 = 2 ∨ z_6 = 9 then (f 26) else (ovH (v 23) a2 (f 26) (f 23) (fun _ => (shF (v 1) (f 1) (v 22) 2)))) : Int → Int) = (f 26) from by first | rfl | (rw [if_pos (by omega)]) | (rw [if_neg (by omega)]), show ((if z_6 = 1 ∨ z_6 = 2 ∨ z_6 = 9 then (f 27) else (ovO a2 (f 23) (fun _ => (shF (v 1) (f 1) (v 22) 2)) (f 27))) : Int → Int) = (f 27) from by first | rfl | (rw [if_pos (by omega)]) | (rw [if_neg (by omega)]), show ((if z_6 = 0 ∧ a3 ≠ 0 then u1 (f 31) a1 ((f 31) a1 + 1) else (f 31)) : Int → Int) = (f 31) from by first | rfl | (rw [if_pos (by omega)]) | (rw [if_neg (by omega)]), show ((if z_6 = 0 ∧ a3 ≠ 0 then u1 (f 32) (a1 * 20 + (f 31) a1) a2 else (f 32)) : Int → Int) = (f 32) from by first | rfl | (rw [if_pos (by omega)]) | (rw [if_neg (by omega)]), show ((if z_6 = 0 then (if a3 ≠ 0 then u1 (f 33) (a1 * 20 + (f 31) a1) (-1) else u1 (f 33) (a1 * 20 + (f 31) a1 - 1) a2) else (f 33)) : Int → Int) = (f 33) from by first | rfl | (rw [if_neg (by omega)]) | (rw [if_pos (by omega), if_pos (by omega)]) | (rw [if_pos (by omega), if_neg (by omega)])]), rfl, (by first | omega | ((repeat' split) <;> omega)), (by first | omega | ((repeat' split) <;> omega))⟩

set_option maxHeartbeats 4000000 in
set_option maxRecDepth 100000 in
theorem x_Ro_clock (l : Launch) (D : va_G) (k : Nat → ClassId) (A : Nat → Prop) (ad : Nat → Nat) (hD : rwD A k ad) (v : gV) (f g : gF) (a1 : Int) (h_a1 : inR a1) (hs : shOk (v 1) (f 1)) (hO : OI (v 23) (f 20) (f 26) (f 27)) : GM l D k A (rwT k ad) yX10_clock cX10_clock 3 (some .boolean) 3 68 [.ref (ad 0), .int (iI a1)] v f g (fun r v1 f1 g1 => ∃ (z : Int) (w25 : Int), r = some (.int (iI z)) ∧ (va_up (va_up v 25 w25) 26 (if w25 = 0 then a1 else (v 26))) = v1 ∧ (va_up (va_up (va_up f 24 (if w25 = 0 then (ovE (v 23) a1 (f 26) (f 23) (fun _ => (shF (v 1) (f 1) (v 22) 2)) (f 24)) else (f 24))) 26 (if w25 = 0 then (ovH (v 23) a1 (f 26) (f 23) (fun _ => (shF (v 1) (f 1) (v 22) 2))) else (f 26))) 27 (if w25 = 0 then (ovO a1 (f 23) (fun _ => (shF (v 1) (f 1) (v 22) 2)) (f 27)) else (f 27))) = f1 ∧ g = g1 ∧ (z = (if w25 = 0 then 1 else 0)) ∧ (w25 = (if a1 < 0 ∨ 1000000 < a1 then (2 : Int) else if a1 < (v 26) then 9 else 0))) := by
  refine GM.of (by decide) (Nat.le_of_ble_eq_true rfl) ?_
  intro p e s m args below meth c Q ls hQ C hml hr hlocks hP hl
  have hx := C.1
  have hb := C.2.1
  have hok := hP.2
  have hS : va_S A s.heap s.heap [] := va_S.rf
  have hl : lv_has ls 3 [(0, .ref (ad 0)), (1, .int (iI a1))] := hl
  have hP : gWd D (rwT k ad) (va_up (va_up v 25 (v 25)) 26 (v 26)) (va_up (va_up (va_up f 24 (f 24)) 26 (f 26)) 27 (f 27)) g s.heap := by rw [va_id, va_id, va_id, va_id, va_id]; exact hP
  have hwr : ∀ k, 0 ≤ (f 20) k ∧ (f 20) k ≤ 15 := fun k => hok.2 20 k
  refine lv_aload_n hx hb dX10_clock_0 rfl (lv_at hl 0 rfl) ?_
  refine lv_iload_n hx hb dX10_clock_1 rfl (lv_at hl 1 rfl) ?_
  refine g_cv (As := [.int (iI a1)]) (rest := []) (n := 1) C hml (x_Ro_passTo l D k A ad hD (va_up (va_up v 25 (v 25)) 26 (v 26)) (va_up (va_up (va_up f 24 (f 24)) 26 (f 26)) 27 (f 27)) g a1 (by omega) (show shOk (v 1) (f 1) from hs) (show OI (v 23) (f 20) (f 26) (f 27) from hO)) mM_X10_183 mI_X10_passTo mE_X10_passTo mN_X10 mC_X10_passTo (by decide +kernel) 0 (ci := 10) rfl rfl hP hS (fun _ h => h) ⟨Nat.le_of_ble_eq_true rfl, Nat.le_of_ble_eq_true rfl⟩ ⟨Nat.zero_le _, Nat.zero_le _⟩ hl.1 rfl rfl (Nat.le_of_ble_eq_true rfl) dX10_clock_2 (fun r_1 v_1 f_1 g_1 H locs hq_1 hP _ hS => ?_)
  obtain ⟨z_1, rfl, rfl, rfl, rfl, p0_1⟩ := hq_1
  show W p l e (gRm 3 68) s m args below meth c _ _ 0 0 Q (F0 m 5 ls [.int (iI z_1)])
  have hP : gWd D (rwT k ad) (va_up (va_up v 25 (v 25)) 26 (if z_1 = 0 then a1 else (v 26))) (va_up (va_up (va_up f 24 (if z_1 = 0 then (ovE (v 23) a1 (f 26) (f 23) (fun _ => (shF (v 1) (f 1) (v 22) 2)) (f 24)) else (f 24))) 26 (if z_1 = 0 then (ovH (v 23) a1 (f 26) (f 23) (fun _ => (shF (v 1) (f 1) (v 22) 2))) else (f 26))) 27 (if z_1 = 0 then (ovO a1 (f 23) (fun _ => (shF (v 1) (f 1) (v 22) 2)) (f 27)) else (f 27))) g H := ⟨hP.1, (gF_up (V := rwV) (F := rwF) (gF_up (V := rwV) (F := rwF) (gF_up (V := rwV) (F := rwF) (gR_up (V := rwV) (F := rwF) (gR_up (V := rwV) (F := rwF) ⟨hok.1, hok.2⟩ 25 (hP.2.1 25)) 26 (hP.2.1 26)) 24 (hP.2.2 24)) 26 (hP.2.2 26)) 27 (hP.2.2 27))⟩
  replace p0_1 : z_1 = (if a1 < 0 ∨ 1000000 < a1 then (2 : Int) else if a1 < (v 26) then 9 else 0) := p0_1
  have hz_1 : inR z_1 := (by first | omega | (rw [p0_1]; split <;> omega))
  have hpz := p0_1
  clear p0_1
  rcases (show z_1 = 0 ∨ z_1 ≠ 0 by omega) with hzp | hzp
  · replace hP : gWd D (rwT k ad) (va_up (va_up v 25 (v 25)) 26 a1) (va_up (va_up (va_up f 24 (ovE (v 23) a1 (f 26) (f 23) (fun _ => (shF (v 1) (f 1) (v 22) 2)) (f 24))) 26 (ovH (v 23) a1 (f 26) (f 23) (fun _ => (shF (v 1) (f 1) (v 22) 2)))) 27 (ovO a1 (f 23) (fun _ => (shF (v 1) (f 1) (v 22) 2)) (f 27))) g H := by have h9 := hP; simp only [if_pos hzp] at h9; exact h9
    have hO2 : OI (v 23) (f 20) (ovH (v 23) a1 (f 26) (f 23) (fun _ => (shF (v 1) (f 1) (v 22) 2))) (ovO a1 (f 23) (fun _ => (shF (v 1) (f 1) (v 22) 2)) (f 27)) := OI_ov hO hwr
    refine lv_istore_n (lv' := [(2, .int (iI z_1)), (0, .ref (ad 0)), (1, .int (iI a1))]) hx hb dX10_clock_5 rfl hl (by decide) rfl (fun ls hl => ?_)
    refine lv_iload_n hx hb dX10_clock_6 rfl (lv_at hl 0 rfl) ?_
    refine gi_zne (tgt := 17) hx hb dX10_clock_7 (by decide) (by omega) (fun c_2 => ?_) (fun c_2 => ?_)
    · exfalso; omega
    · refine lv_aload_n hx hb dX10_clock_10 rfl (lv_at hl 1 rfl) ?_
      refine g_cv (As := []) (rest := []) (n := 0) C hml (c_X10_grant l D k A ad hD (va_up (va_up v 25 (v 25)) 26 a1) (va_up (va_up (va_up f 24 (ovE (v 23) a1 (f 26) (f 23) (fun _ => (shF (v 1) (f 1) (v 22) 2)) (f 24))) 26 (ovH (v 23) a1 (f 26) (f 23) (fun _ => (shF (v 1) (f 1) (v 22) 2)))) 27 (ovO a1 (f 23) (fun _ => (shF (v 1) (f 1) (v 22) 2)) (f 27))) g) mM_X10_160 mI_X10_grant mE_X10_grant mN_X10 mC_X10_grant (by decide +kernel) 0 (ci := 10) rfl rfl hP hS (fun _ h => h) ⟨Nat.le_of_ble_eq_true rfl, Nat.le_of_ble_eq_true rfl⟩ ⟨Nat.zero_le _, Nat.zero_le _⟩ hl.1 rfl rfl (Nat.le_of_ble_eq_true rfl) dX10_clock_11 (fun r_3 v_3 f_3 g_3 H locs hq_3 hP _ hS => ?_)
      obtain ⟨rfl, rfl, rfl, rfl⟩ := hq_3
      show W p l e (gRm 3 68) s m args below meth c _ _ 0 0 Q (F0 m 14 ls [.int (iI 1)])
      have hP : gWd D (rwT k ad) (va_up (va_up v 25 0) 26 a1) (va_up (va_up (va_up f 24 (ovE (v 23) a1 (f 26) (f 23) (fun _ => (shF (v 1) (f 1) (v 22) 2)) (f 24))) 26 (ovH (v 23) a1 (f 26) (f 23) (fun _ => (shF (v 1) (f 1) (v 22) 2)))) 27 (ovO a1 (f 23) (fun _ => (shF (v 1) (f 1) (v 22) 2)) (f 27))) g H := ⟨hP.1, (gF_up (V := rwV) (F := rwF) (gF_up (V := rwV) (F := rwF) (gF_up (V := rwV) (F := rwF) (gR_up (V := rwV) (F := rwF) (gR_up (V := rwV) (F := rwF) ⟨hok.1, hok.2⟩ 25 (hP.2.1 25)) 26 (hP.2.1 26)) 24 (hP.2.2 24)) 26 (hP.2.2 26)) 27 (hP.2.2 27))⟩
      refine lv_goto (tgt := 22) hx hb dX10_clock_14 (by decide) ?_
      exact g_zret hQ C hr hlocks (by decide) hP hS dX10_clock_22 ⟨1, 0, rfl, (by rw [show ((if (0 : Int) = 0 then a1 else (v 26)) : Int) = a1 from by first | rfl | omega | ((repeat' split) <;> omega)]), (by rw [show ((if (0 : Int) = 0 then (ovE (v 23) a1 (f 26) (f 23) (fun _ => (shF (v 1) (f 1) (v 22) 2)) (f 24)) else (f 24)) : Int → Int) = (ovE (v 23) a1 (f 26) (f 23) (fun _ => (shF (v 1) (f 1) (v 22) 2)) (f 24)) from by first | rfl | (rw [if_pos (by omega)]) | (rw [if_neg (by omega)]), show ((if (0 : Int) = 0 then (ovH (v 23) a1 (f 26) (f 23) (fun _ => (shF (v 1) (f 1) (v 22) 2))) else (f 26)) : Int → Int) = (ovH (v 23) a1 (f 26) (f 23) (fun _ => (shF (v 1) (f 1) (v 22) 2))) from by first | rfl | (rw [if_pos (by omega)]) | (rw [if_neg (by omega)]), show ((if (0 : Int) = 0 then (ovO a1 (f 23) (fun _ => (shF (v 1) (f 1) (v 22) 2)) (f 27)) else (f 27)) : Int → Int) = (ovO a1 (f 23) (fun _ => (shF (v 1) (f 1) (v 22) 2)) (f 27)) from by first | rfl | (rw [if_pos (by omega)]) | (rw [if_neg (by omega)])]), rfl, (by first | omega | ((repeat' split) <;> omega)), (by first | exact hpz | omega)⟩
  · replace hP : gWd D (rwT k ad) (va_up (va_up v 25 (v 25)) 26 (v 26)) (va_up (va_up (va_up f 24 (f 24)) 26 (f 26)) 27 (f 27)) g H := by have h9 := hP; simp only [if_neg hzp] at h9; exact h9
    refine lv_istore_n (lv' := [(2, .int (iI z_1)), (0, .ref (ad 0)), (1, .int (iI a1))]) hx hb dX10_clock_5 rfl hl (by decide) rfl (fun ls hl => ?_)
    refine lv_iload_n hx hb dX10_clock_6 rfl (lv_at hl 0 rfl) ?_
    refine gi_zne (tgt := 17) hx hb dX10_clock_7 (by decide) (by omega) (fun c_4 => ?_) (fun c_4 => ?_)
    · refine lv_aload_n hx hb dX10_clock_17 rfl (lv_at hl 1 rfl) ?_
      refine lv_iload_n hx hb dX10_clock_18 rfl (lv_at hl 0 rfl) ?_
      refine g_cv (As := [.int (iI z_1)]) (rest := []) (n := 1) C hml (c_X10_deny l D k A ad hD (va_up (va_up v 25 (v 25)) 26 (v 26)) (va_up (va_up (va_up f 24 (f 24)) 26 (f 26)) 27 (f 27)) g z_1 (by omega) (show 0 ≤ z_1 ∧ z_1 ≤ 10 from by omega)) mM_X10_140 mI_X10_deny mE_X10_deny mN_X10 mC_X10_deny (by decide +kernel) 0 (ci := 10) rfl rfl hP hS (fun _ h => h) ⟨Nat.le_of_ble_eq_true rfl, Nat.le_of_ble_eq_true rfl⟩ ⟨Nat.zero_le _, Nat.zero_le _⟩ hl.1 rfl rfl (Nat.le_of_ble_eq_true rfl) dX10_clock_19 (fun r_5 v_5 f_5 g_5 H locs hq_5 hP _ hS => ?_)
      obtain ⟨rfl, rfl, rfl, rfl⟩ := hq_5
      show W p l e (gRm 3 68) s m args below meth c _ _ 0 0 Q (F0 m 22 ls [.int (iI 0)])
      have hP : gWd D (rwT k ad) (va_up (va_up v 25 z_1) 26 (v 26)) (va_up (va_up (va_up f 24 (f 24)) 26 (f 26)) 27 (f 27)) g H := ⟨hP.1, (gF_up (V := rwV) (F := rwF) (gF_up (V := rwV) (F := rwF) (gF_up (V := rwV) (F := rwF) (gR_up (V := rwV) (F := rwF) (gR_up (V := rwV) (F := rwF) ⟨hok.1, hok.2⟩ 25 (hP.2.1 25)) 26 (hP.2.1 26)) 24 (hP.2.2 24)) 26 (hP.2.2 26)) 27 (hP.2.2 27))⟩
      exact g_zret hQ C hr hlocks (by decide) hP hS dX10_clock_22 ⟨0, z_1, rfl, (by rw [show ((if z_1 = 0 then a1 else (v 26)) : Int) = (v 26) from by first | rfl | omega | ((repeat' split) <;> omega)]), (by rw [show ((if z_1 = 0 then (ovE (v 23) a1 (f 26) (f 23) (fun _ => (shF (v 1) (f 1) (v 22) 2)) (f 24)) else (f 24)) : Int → Int) = (f 24) from by first | rfl | (rw [if_pos (by omega)]) | (rw [if_neg (by omega)]), show ((if z_1 = 0 then (ovH (v 23) a1 (f 26) (f 23) (fun _ => (shF (v 1) (f 1) (v 22) 2))) else (f 26)) : Int → Int) = (f 26) from by first | rfl | (rw [if_pos (by omega)]) | (rw [if_neg (by omega)]), show ((if z_1 = 0 then (ovO a1 (f 23) (fun _ => (shF (v 1) (f 1) (v 22) 2)) (f 27)) else (f 27)) : Int → Int) = (f 27) from by first | rfl | (rw [if_pos (by omega)]) | (rw [if_neg (by omega)])]), rfl, (by first | omega | ((repeat' split) <;> omega)), (by first | exact hpz | omega)⟩
    · exfalso; omega

set_option maxHeartbeats 4000000 in
set_option maxRecDepth 100000 in
theorem x_Ro_now (l : Launch) (D : va_G) (k : Nat → ClassId) (A : Nat → Prop) (ad : Nat → Nat) (hD : rwD A k ad) (v : gV) (f g : gF) : GM l D k A (rwT k ad) yX10_now cX10_now 1 (some .int) 1 21 [.ref (ad 0)] v f g (fun r v1 f1 g1 => ∃ (z : Int), r = some (.int (iI z)) ∧ (va_up v 25 0) = v1 ∧ f = f1 ∧ g = g1 ∧ (z = (v 26)) ∧ (0 ≤ z ∧ z ≤ 1000000)) := by
  refine GM.of (by decide) (Nat.le_of_ble_eq_true rfl) ?_
  intro p e s m args below meth c Q ls hQ C hml hr hlocks hP hl
  have hx := C.1
  have hb := C.2.1
  have hok := hP.2
  have hS : va_S A s.heap s.heap [] := va_S.rf
  have hl : lv_has ls 1 [(0, .ref (ad 0))] := hl
  have hP : gWd D (rwT k ad) (va_up v 25 (v 25)) f g s.heap := by rw [va_id]; exact hP
  refine lv_aload_n hx hb dX10_now_0 rfl (lv_at hl 0 rfl) ?_
  refine lv_aload_n hx hb dX10_now_1 rfl (lv_at hl 0 rfl) ?_
  refine rwG_time C hP mF_X10_114 dX10_now_2 ?_
  show W p l e (gRm 1 21) s m args below meth c _ _ 0 0 Q (F0 m 5 ls [.int (iI (v 26)), .ref (ad 0)])
  have r_1 : 0 ≤ (v 26) ∧ (v 26) ≤ 1000000 := hok.1 26
  refine g_cv (As := [.int (iI (v 26))]) (rest := []) (n := 1) C hml (c_X10_answer l D k A ad hD (va_up v 25 (v 25)) f g (v 26) (by omega)) mM_X10_120 mI_X10_answer mE_X10_answer mN_X10 mC_X10_answer (by decide +kernel) 0 (ci := 10) rfl rfl hP hS (fun _ h => h) ⟨Nat.le_of_ble_eq_true rfl, Nat.le_of_ble_eq_true rfl⟩ ⟨Nat.zero_le _, Nat.zero_le _⟩ hl.1 rfl rfl (Nat.le_of_ble_eq_true rfl) dX10_now_5 (fun r_2 v_2 f_2 g_2 H locs hq_2 hP _ hS => ?_)
  obtain ⟨z_2, rfl, rfl, rfl, rfl, p0_2⟩ := hq_2
  show W p l e (gRm 1 21) s m args below meth c _ _ 0 0 Q (F0 m 8 ls [.int (iI z_2)])
  have hP : gWd D (rwT k ad) (va_up v 25 0) f g H := ⟨hP.1, (gR_up (V := rwV) (F := rwF) ⟨hok.1, hok.2⟩ 25 (hP.2.1 25))⟩
  replace p0_2 : z_2 = (v 26) := p0_2
  have hz_2 : inR z_2 := (by first | omega | (rw [p0_2]; split <;> omega))
  exact g_iret hQ C hr hlocks hP hS dX10_now_8 ⟨z_2, rfl, rfl, rfl, rfl, (by first | omega | ((repeat' split) <;> omega)), (by first | omega | ((repeat' split) <;> omega))⟩
end
