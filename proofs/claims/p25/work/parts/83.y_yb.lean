section
theorem dG_dX11_climber_0 : (decode cX11_climber 0 = .ok (.aload_n 0, 1)) ∧ (decode cX11_climber 1 = .ok (.iconst 0, 1)) ∧ (decode cX11_climber 2 = .ok (.putfield 146, 3)) ∧ (decode cX11_climber 5 = .ok (.aload_n 0, 1)) ∧ (decode cX11_climber 6 = .ok (.iconst 0, 1)) ∧ (decode cX11_climber 7 = .ok (.putfield 149, 3)) ∧ (decode cX11_climber 10 = .ok (.aload_n 0, 1)) ∧ (decode cX11_climber 11 = .ok (.getfield 301, 3)) ∧ (decode cX11_climber 14 = .ok (.ifCond .ne 9, 3)) ∧ (decode cX11_climber 17 = .ok (.aload_n 0, 1)) ∧ (decode cX11_climber 18 = .ok (.iconst 1, 1)) ∧ (decode cX11_climber 19 = .ok (.invokevirtual 295, 3)) := by decide +kernel
theorem dX11_climber_0 : decode cX11_climber 0 = .ok (.aload_n 0, 1) := dG_dX11_climber_0.1
theorem dX11_climber_1 : decode cX11_climber 1 = .ok (.iconst 0, 1) := dG_dX11_climber_0.2.1
theorem dX11_climber_2 : decode cX11_climber 2 = .ok (.putfield 146, 3) := dG_dX11_climber_0.2.2.1
theorem dX11_climber_5 : decode cX11_climber 5 = .ok (.aload_n 0, 1) := dG_dX11_climber_0.2.2.2.1
theorem dX11_climber_6 : decode cX11_climber 6 = .ok (.iconst 0, 1) := dG_dX11_climber_0.2.2.2.2.1
theorem dX11_climber_7 : decode cX11_climber 7 = .ok (.putfield 149, 3) := dG_dX11_climber_0.2.2.2.2.2.1
theorem dX11_climber_10 : decode cX11_climber 10 = .ok (.aload_n 0, 1) := dG_dX11_climber_0.2.2.2.2.2.2.1
theorem dX11_climber_11 : decode cX11_climber 11 = .ok (.getfield 301, 3) := dG_dX11_climber_0.2.2.2.2.2.2.2.1
theorem dX11_climber_14 : decode cX11_climber 14 = .ok (.ifCond .ne 9, 3) := dG_dX11_climber_0.2.2.2.2.2.2.2.2.1
theorem dX11_climber_17 : decode cX11_climber 17 = .ok (.aload_n 0, 1) := dG_dX11_climber_0.2.2.2.2.2.2.2.2.2.1
theorem dX11_climber_18 : decode cX11_climber 18 = .ok (.iconst 1, 1) := dG_dX11_climber_0.2.2.2.2.2.2.2.2.2.2.1
theorem dX11_climber_19 : decode cX11_climber 19 = .ok (.invokevirtual 295, 3) := dG_dX11_climber_0.2.2.2.2.2.2.2.2.2.2.2
theorem dG_dX11_climber_22 : (decode cX11_climber 22 = .ok (.ireturn, 1)) ∧ (decode cX11_climber 23 = .ok (.aload_n 0, 1)) ∧ (decode cX11_climber 24 = .ok (.getfield 313, 3)) ∧ (decode cX11_climber 27 = .ok (.bipush 16, 2)) ∧ (decode cX11_climber 29 = .ok (.if_icmp .ne 9, 3)) ∧ (decode cX11_climber 32 = .ok (.aload_n 0, 1)) ∧ (decode cX11_climber 33 = .ok (.iconst 3, 1)) ∧ (decode cX11_climber 34 = .ok (.invokevirtual 295, 3)) ∧ (decode cX11_climber 37 = .ok (.ireturn, 1)) ∧ (decode cX11_climber 38 = .ok (.aload_n 0, 1)) ∧ (decode cX11_climber 39 = .ok (.getfield 319, 3)) ∧ (decode cX11_climber 42 = .ok (.ifCond .gt 10, 3)) := by decide +kernel
theorem dX11_climber_22 : decode cX11_climber 22 = .ok (.ireturn, 1) := dG_dX11_climber_22.1
theorem dX11_climber_23 : decode cX11_climber 23 = .ok (.aload_n 0, 1) := dG_dX11_climber_22.2.1
theorem dX11_climber_24 : decode cX11_climber 24 = .ok (.getfield 313, 3) := dG_dX11_climber_22.2.2.1
theorem dX11_climber_27 : decode cX11_climber 27 = .ok (.bipush 16, 2) := dG_dX11_climber_22.2.2.2.1
theorem dX11_climber_29 : decode cX11_climber 29 = .ok (.if_icmp .ne 9, 3) := dG_dX11_climber_22.2.2.2.2.1
theorem dX11_climber_32 : decode cX11_climber 32 = .ok (.aload_n 0, 1) := dG_dX11_climber_22.2.2.2.2.2.1
theorem dX11_climber_33 : decode cX11_climber 33 = .ok (.iconst 3, 1) := dG_dX11_climber_22.2.2.2.2.2.2.1
theorem dX11_climber_34 : decode cX11_climber 34 = .ok (.invokevirtual 295, 3) := dG_dX11_climber_22.2.2.2.2.2.2.2.1
theorem dX11_climber_37 : decode cX11_climber 37 = .ok (.ireturn, 1) := dG_dX11_climber_22.2.2.2.2.2.2.2.2.1
theorem dX11_climber_38 : decode cX11_climber 38 = .ok (.aload_n 0, 1) := dG_dX11_climber_22.2.2.2.2.2.2.2.2.2.1
theorem dX11_climber_39 : decode cX11_climber 39 = .ok (.getfield 319, 3) := dG_dX11_climber_22.2.2.2.2.2.2.2.2.2.2.1
theorem dX11_climber_42 : decode cX11_climber 42 = .ok (.ifCond .gt 10, 3) := dG_dX11_climber_22.2.2.2.2.2.2.2.2.2.2.2
theorem dG_dX11_climber_45 : (decode cX11_climber 45 = .ok (.aload_n 0, 1)) ∧ (decode cX11_climber 46 = .ok (.getfield 82, 3)) ∧ (decode cX11_climber 49 = .ok (.ifCond .le 10, 3)) ∧ (decode cX11_climber 52 = .ok (.aload_n 0, 1)) ∧ (decode cX11_climber 53 = .ok (.bipush 10, 2)) ∧ (decode cX11_climber 55 = .ok (.invokevirtual 295, 3)) ∧ (decode cX11_climber 58 = .ok (.ireturn, 1)) ∧ (decode cX11_climber 59 = .ok (.aload_n 0, 1)) ∧ (decode cX11_climber 60 = .ok (.getfield 85, 3)) ∧ (decode cX11_climber 63 = .ok (.aload_n 0, 1)) ∧ (decode cX11_climber 64 = .ok (.getfield 313, 3)) ∧ (decode cX11_climber 67 = .ok (.iconst 1, 1)) := by decide +kernel
theorem dX11_climber_45 : decode cX11_climber 45 = .ok (.aload_n 0, 1) := dG_dX11_climber_45.1
theorem dX11_climber_46 : decode cX11_climber 46 = .ok (.getfield 82, 3) := dG_dX11_climber_45.2.1
theorem dX11_climber_49 : decode cX11_climber 49 = .ok (.ifCond .le 10, 3) := dG_dX11_climber_45.2.2.1
theorem dX11_climber_52 : decode cX11_climber 52 = .ok (.aload_n 0, 1) := dG_dX11_climber_45.2.2.2.1
theorem dX11_climber_53 : decode cX11_climber 53 = .ok (.bipush 10, 2) := dG_dX11_climber_45.2.2.2.2.1
theorem dX11_climber_55 : decode cX11_climber 55 = .ok (.invokevirtual 295, 3) := dG_dX11_climber_45.2.2.2.2.2.1
theorem dX11_climber_58 : decode cX11_climber 58 = .ok (.ireturn, 1) := dG_dX11_climber_45.2.2.2.2.2.2.1
theorem dX11_climber_59 : decode cX11_climber 59 = .ok (.aload_n 0, 1) := dG_dX11_climber_45.2.2.2.2.2.2.2.1
theorem dX11_climber_60 : decode cX11_climber 60 = .ok (.getfield 85, 3) := dG_dX11_climber_45.2.2.2.2.2.2.2.2.1
theorem dX11_climber_63 : decode cX11_climber 63 = .ok (.aload_n 0, 1) := dG_dX11_climber_45.2.2.2.2.2.2.2.2.2.1
theorem dX11_climber_64 : decode cX11_climber 64 = .ok (.getfield 313, 3) := dG_dX11_climber_45.2.2.2.2.2.2.2.2.2.2.1
theorem dX11_climber_67 : decode cX11_climber 67 = .ok (.iconst 1, 1) := dG_dX11_climber_45.2.2.2.2.2.2.2.2.2.2.2
theorem dG_dX11_climber_68 : (decode cX11_climber 68 = .ok (.bastore, 1)) ∧ (decode cX11_climber 69 = .ok (.aload_n 0, 1)) ∧ (decode cX11_climber 70 = .ok (.getfield 88, 3)) ∧ (decode cX11_climber 73 = .ok (.aload_n 0, 1)) ∧ (decode cX11_climber 74 = .ok (.getfield 313, 3)) ∧ (decode cX11_climber 77 = .ok (.aload_n 0, 1)) ∧ (decode cX11_climber 78 = .ok (.getfield 313, 3)) ∧ (decode cX11_climber 81 = .ok (.iastore, 1)) ∧ (decode cX11_climber 82 = .ok (.aload_n 0, 1)) ∧ (decode cX11_climber 83 = .ok (.getfield 124, 3)) ∧ (decode cX11_climber 86 = .ok (.aload_n 0, 1)) ∧ (decode cX11_climber 87 = .ok (.getfield 313, 3)) := by decide +kernel
theorem dX11_climber_68 : decode cX11_climber 68 = .ok (.bastore, 1) := dG_dX11_climber_68.1
theorem dX11_climber_69 : decode cX11_climber 69 = .ok (.aload_n 0, 1) := dG_dX11_climber_68.2.1
theorem dX11_climber_70 : decode cX11_climber 70 = .ok (.getfield 88, 3) := dG_dX11_climber_68.2.2.1
theorem dX11_climber_73 : decode cX11_climber 73 = .ok (.aload_n 0, 1) := dG_dX11_climber_68.2.2.2.1
theorem dX11_climber_74 : decode cX11_climber 74 = .ok (.getfield 313, 3) := dG_dX11_climber_68.2.2.2.2.1
theorem dX11_climber_77 : decode cX11_climber 77 = .ok (.aload_n 0, 1) := dG_dX11_climber_68.2.2.2.2.2.1
theorem dX11_climber_78 : decode cX11_climber 78 = .ok (.getfield 313, 3) := dG_dX11_climber_68.2.2.2.2.2.2.1
theorem dX11_climber_81 : decode cX11_climber 81 = .ok (.iastore, 1) := dG_dX11_climber_68.2.2.2.2.2.2.2.1
theorem dX11_climber_82 : decode cX11_climber 82 = .ok (.aload_n 0, 1) := dG_dX11_climber_68.2.2.2.2.2.2.2.2.1
theorem dX11_climber_83 : decode cX11_climber 83 = .ok (.getfield 124, 3) := dG_dX11_climber_68.2.2.2.2.2.2.2.2.2.1
theorem dX11_climber_86 : decode cX11_climber 86 = .ok (.aload_n 0, 1) := dG_dX11_climber_68.2.2.2.2.2.2.2.2.2.2.1
theorem dX11_climber_87 : decode cX11_climber 87 = .ok (.getfield 313, 3) := dG_dX11_climber_68.2.2.2.2.2.2.2.2.2.2.2
theorem dG_dX11_climber_90 : (decode cX11_climber 90 = .ok (.iconst 0, 1)) ∧ (decode cX11_climber 91 = .ok (.iastore, 1)) ∧ (decode cX11_climber 92 = .ok (.aload_n 0, 1)) ∧ (decode cX11_climber 93 = .ok (.dup, 1)) ∧ (decode cX11_climber 94 = .ok (.getfield 313, 3)) ∧ (decode cX11_climber 97 = .ok (.iconst 1, 1)) ∧ (decode cX11_climber 98 = .ok (.iadd, 1)) ∧ (decode cX11_climber 99 = .ok (.putfield 313, 3)) ∧ (decode cX11_climber 102 = .ok (.aload_n 0, 1)) ∧ (decode cX11_climber 103 = .ok (.getfield 91, 3)) ∧ (decode cX11_climber 106 = .ok (.iconst 0, 1)) ∧ (decode cX11_climber 107 = .ok (.aload_n 0, 1)) := by decide +kernel
theorem dX11_climber_90 : decode cX11_climber 90 = .ok (.iconst 0, 1) := dG_dX11_climber_90.1
theorem dX11_climber_91 : decode cX11_climber 91 = .ok (.iastore, 1) := dG_dX11_climber_90.2.1
theorem dX11_climber_92 : decode cX11_climber 92 = .ok (.aload_n 0, 1) := dG_dX11_climber_90.2.2.1
theorem dX11_climber_93 : decode cX11_climber 93 = .ok (.dup, 1) := dG_dX11_climber_90.2.2.2.1
theorem dX11_climber_94 : decode cX11_climber 94 = .ok (.getfield 313, 3) := dG_dX11_climber_90.2.2.2.2.1
theorem dX11_climber_97 : decode cX11_climber 97 = .ok (.iconst 1, 1) := dG_dX11_climber_90.2.2.2.2.2.1
theorem dX11_climber_98 : decode cX11_climber 98 = .ok (.iadd, 1) := dG_dX11_climber_90.2.2.2.2.2.2.1
theorem dX11_climber_99 : decode cX11_climber 99 = .ok (.putfield 313, 3) := dG_dX11_climber_90.2.2.2.2.2.2.2.1
theorem dX11_climber_102 : decode cX11_climber 102 = .ok (.aload_n 0, 1) := dG_dX11_climber_90.2.2.2.2.2.2.2.2.1
theorem dX11_climber_103 : decode cX11_climber 103 = .ok (.getfield 91, 3) := dG_dX11_climber_90.2.2.2.2.2.2.2.2.2.1
theorem dX11_climber_106 : decode cX11_climber 106 = .ok (.iconst 0, 1) := dG_dX11_climber_90.2.2.2.2.2.2.2.2.2.2.1
theorem dX11_climber_107 : decode cX11_climber 107 = .ok (.aload_n 0, 1) := dG_dX11_climber_90.2.2.2.2.2.2.2.2.2.2.2
theorem dG_dX11_climber_108 : (decode cX11_climber 108 = .ok (.getfield 313, 3)) ∧ (decode cX11_climber 111 = .ok (.iastore, 1)) ∧ (decode cX11_climber 112 = .ok (.aload_n 0, 1)) ∧ (decode cX11_climber 113 = .ok (.iconst 0, 1)) ∧ (decode cX11_climber 114 = .ok (.putfield 82, 3)) ∧ (decode cX11_climber 117 = .ok (.aload_n 0, 1)) ∧ (decode cX11_climber 118 = .ok (.getfield 313, 3)) ∧ (decode cX11_climber 121 = .ok (.iconst 1, 1)) ∧ (decode cX11_climber 122 = .ok (.isub, 1)) ∧ (decode cX11_climber 123 = .ok (.ireturn, 1)) ∧ (decode cX11_route 0 = .ok (.aload_n 0, 1)) ∧ (decode cX11_route 1 = .ok (.iconst 0, 1)) := by decide +kernel
theorem dX11_climber_108 : decode cX11_climber 108 = .ok (.getfield 313, 3) := dG_dX11_climber_108.1
theorem dX11_climber_111 : decode cX11_climber 111 = .ok (.iastore, 1) := dG_dX11_climber_108.2.1
theorem dX11_climber_112 : decode cX11_climber 112 = .ok (.aload_n 0, 1) := dG_dX11_climber_108.2.2.1
theorem dX11_climber_113 : decode cX11_climber 113 = .ok (.iconst 0, 1) := dG_dX11_climber_108.2.2.2.1
theorem dX11_climber_114 : decode cX11_climber 114 = .ok (.putfield 82, 3) := dG_dX11_climber_108.2.2.2.2.1
theorem dX11_climber_117 : decode cX11_climber 117 = .ok (.aload_n 0, 1) := dG_dX11_climber_108.2.2.2.2.2.1
theorem dX11_climber_118 : decode cX11_climber 118 = .ok (.getfield 313, 3) := dG_dX11_climber_108.2.2.2.2.2.2.1
theorem dX11_climber_121 : decode cX11_climber 121 = .ok (.iconst 1, 1) := dG_dX11_climber_108.2.2.2.2.2.2.2.1
theorem dX11_climber_122 : decode cX11_climber 122 = .ok (.isub, 1) := dG_dX11_climber_108.2.2.2.2.2.2.2.2.1
theorem dX11_climber_123 : decode cX11_climber 123 = .ok (.ireturn, 1) := dG_dX11_climber_108.2.2.2.2.2.2.2.2.2.1
theorem dX11_route_0 : decode cX11_route 0 = .ok (.aload_n 0, 1) := dG_dX11_climber_108.2.2.2.2.2.2.2.2.2.2.1
theorem dX11_route_1 : decode cX11_route 1 = .ok (.iconst 0, 1) := dG_dX11_climber_108.2.2.2.2.2.2.2.2.2.2.2
theorem dG_dX11_route_2 : (decode cX11_route 2 = .ok (.putfield 146, 3)) ∧ (decode cX11_route 5 = .ok (.aload_n 0, 1)) ∧ (decode cX11_route 6 = .ok (.iconst 0, 1)) ∧ (decode cX11_route 7 = .ok (.putfield 149, 3)) ∧ (decode cX11_route 10 = .ok (.aload_n 0, 1)) ∧ (decode cX11_route 11 = .ok (.iload_n 1, 1)) ∧ (decode cX11_route 12 = .ok (.iload_n 2, 1)) ∧ (decode cX11_route 13 = .ok (.invokevirtual 328, 3)) ∧ (decode cX11_route 16 = .ok (.ifCond .ne 9, 3)) ∧ (decode cX11_route 19 = .ok (.aload_n 0, 1)) ∧ (decode cX11_route 20 = .ok (.iconst 1, 1)) ∧ (decode cX11_route 21 = .ok (.invokevirtual 332, 3)) := by decide +kernel
theorem dX11_route_2 : decode cX11_route 2 = .ok (.putfield 146, 3) := dG_dX11_route_2.1
theorem dX11_route_5 : decode cX11_route 5 = .ok (.aload_n 0, 1) := dG_dX11_route_2.2.1
theorem dX11_route_6 : decode cX11_route 6 = .ok (.iconst 0, 1) := dG_dX11_route_2.2.2.1
theorem dX11_route_7 : decode cX11_route 7 = .ok (.putfield 149, 3) := dG_dX11_route_2.2.2.2.1
theorem dX11_route_10 : decode cX11_route 10 = .ok (.aload_n 0, 1) := dG_dX11_route_2.2.2.2.2.1
theorem dX11_route_11 : decode cX11_route 11 = .ok (.iload_n 1, 1) := dG_dX11_route_2.2.2.2.2.2.1
theorem dX11_route_12 : decode cX11_route 12 = .ok (.iload_n 2, 1) := dG_dX11_route_2.2.2.2.2.2.2.1
theorem dX11_route_13 : decode cX11_route 13 = .ok (.invokevirtual 328, 3) := dG_dX11_route_2.2.2.2.2.2.2.2.1
theorem dX11_route_16 : decode cX11_route 16 = .ok (.ifCond .ne 9, 3) := dG_dX11_route_2.2.2.2.2.2.2.2.2.1
theorem dX11_route_19 : decode cX11_route 19 = .ok (.aload_n 0, 1) := dG_dX11_route_2.2.2.2.2.2.2.2.2.2.1
theorem dX11_route_20 : decode cX11_route 20 = .ok (.iconst 1, 1) := dG_dX11_route_2.2.2.2.2.2.2.2.2.2.2.1
theorem dX11_route_21 : decode cX11_route 21 = .ok (.invokevirtual 332, 3) := dG_dX11_route_2.2.2.2.2.2.2.2.2.2.2.2
theorem dG_dX11_route_24 : (decode cX11_route 24 = .ok (.ireturn, 1)) ∧ (decode cX11_route 25 = .ok (.iload_n 3, 1)) ∧ (decode cX11_route 26 = .ok (.iconst 2, 1)) ∧ (decode cX11_route 27 = .ok (.if_icmp .lt 46, 3)) ∧ (decode cX11_route 30 = .ok (.iload_n 3, 1)) ∧ (decode cX11_route 31 = .ok (.bipush 60, 2)) ∧ (decode cX11_route 33 = .ok (.if_icmp .gt 40, 3)) ∧ (decode cX11_route 36 = .ok (.iload 4, 2)) ∧ (decode cX11_route 38 = .ok (.ifCond .lt 35, 3)) ∧ (decode cX11_route 41 = .ok (.iload 5, 2)) ∧ (decode cX11_route 43 = .ok (.ifCond .lt 30, 3)) ∧ (decode cX11_route 46 = .ok (.iload 6, 2)) := by decide +kernel
theorem dX11_route_24 : decode cX11_route 24 = .ok (.ireturn, 1) := dG_dX11_route_24.1
theorem dX11_route_25 : decode cX11_route 25 = .ok (.iload_n 3, 1) := dG_dX11_route_24.2.1
theorem dX11_route_26 : decode cX11_route 26 = .ok (.iconst 2, 1) := dG_dX11_route_24.2.2.1
theorem dX11_route_27 : decode cX11_route 27 = .ok (.if_icmp .lt 46, 3) := dG_dX11_route_24.2.2.2.1
theorem dX11_route_30 : decode cX11_route 30 = .ok (.iload_n 3, 1) := dG_dX11_route_24.2.2.2.2.1
theorem dX11_route_31 : decode cX11_route 31 = .ok (.bipush 60, 2) := dG_dX11_route_24.2.2.2.2.2.1
theorem dX11_route_33 : decode cX11_route 33 = .ok (.if_icmp .gt 40, 3) := dG_dX11_route_24.2.2.2.2.2.2.1
theorem dX11_route_36 : decode cX11_route 36 = .ok (.iload 4, 2) := dG_dX11_route_24.2.2.2.2.2.2.2.1
theorem dX11_route_38 : decode cX11_route 38 = .ok (.ifCond .lt 35, 3) := dG_dX11_route_24.2.2.2.2.2.2.2.2.1
theorem dX11_route_41 : decode cX11_route 41 = .ok (.iload 5, 2) := dG_dX11_route_24.2.2.2.2.2.2.2.2.2.1
theorem dX11_route_43 : decode cX11_route 43 = .ok (.ifCond .lt 30, 3) := dG_dX11_route_24.2.2.2.2.2.2.2.2.2.2.1
theorem dX11_route_46 : decode cX11_route 46 = .ok (.iload 6, 2) := dG_dX11_route_24.2.2.2.2.2.2.2.2.2.2.2
theorem dG_dX11_route_48 : (decode cX11_route 48 = .ok (.ifCond .lt 25, 3)) ∧ (decode cX11_route 51 = .ok (.iload 4, 2)) ∧ (decode cX11_route 53 = .ok (.iload_n 3, 1)) ∧ (decode cX11_route 54 = .ok (.if_icmp .gt 19, 3)) ∧ (decode cX11_route 57 = .ok (.iload 5, 2)) ∧ (decode cX11_route 59 = .ok (.iload_n 3, 1)) ∧ (decode cX11_route 60 = .ok (.if_icmp .gt 13, 3)) ∧ (decode cX11_route 63 = .ok (.iload 6, 2)) ∧ (decode cX11_route 65 = .ok (.iload_n 3, 1)) ∧ (decode cX11_route 66 = .ok (.if_icmp .gt 7, 3)) ∧ (decode cX11_route 69 = .ok (.iconst 1, 1)) ∧ (decode cX11_route 70 = .ok (.goto 4, 3)) := by decide +kernel
theorem dX11_route_48 : decode cX11_route 48 = .ok (.ifCond .lt 25, 3) := dG_dX11_route_48.1
theorem dX11_route_51 : decode cX11_route 51 = .ok (.iload 4, 2) := dG_dX11_route_48.2.1
theorem dX11_route_53 : decode cX11_route 53 = .ok (.iload_n 3, 1) := dG_dX11_route_48.2.2.1
theorem dX11_route_54 : decode cX11_route 54 = .ok (.if_icmp .gt 19, 3) := dG_dX11_route_48.2.2.2.1
theorem dX11_route_57 : decode cX11_route 57 = .ok (.iload 5, 2) := dG_dX11_route_48.2.2.2.2.1
theorem dX11_route_59 : decode cX11_route 59 = .ok (.iload_n 3, 1) := dG_dX11_route_48.2.2.2.2.2.1
theorem dX11_route_60 : decode cX11_route 60 = .ok (.if_icmp .gt 13, 3) := dG_dX11_route_48.2.2.2.2.2.2.1
theorem dX11_route_63 : decode cX11_route 63 = .ok (.iload 6, 2) := dG_dX11_route_48.2.2.2.2.2.2.2.1
theorem dX11_route_65 : decode cX11_route 65 = .ok (.iload_n 3, 1) := dG_dX11_route_48.2.2.2.2.2.2.2.2.1
theorem dX11_route_66 : decode cX11_route 66 = .ok (.if_icmp .gt 7, 3) := dG_dX11_route_48.2.2.2.2.2.2.2.2.2.1
theorem dX11_route_69 : decode cX11_route 69 = .ok (.iconst 1, 1) := dG_dX11_route_48.2.2.2.2.2.2.2.2.2.2.1
theorem dX11_route_70 : decode cX11_route 70 = .ok (.goto 4, 3) := dG_dX11_route_48.2.2.2.2.2.2.2.2.2.2.2
theorem dG_dX11_route_73 : (decode cX11_route 73 = .ok (.iconst 0, 1)) ∧ (decode cX11_route 74 = .ok (.istore 7, 2)) ∧ (decode cX11_route 76 = .ok (.iload 7, 2)) ∧ (decode cX11_route 78 = .ok (.ifCond .eq 57, 3)) ∧ (decode cX11_route 81 = .ok (.iload 4, 2)) ∧ (decode cX11_route 83 = .ok (.ifCond .ne 11, 3)) ∧ (decode cX11_route 86 = .ok (.iload 5, 2)) ∧ (decode cX11_route 88 = .ok (.ifCond .ne 47, 3)) ∧ (decode cX11_route 91 = .ok (.goto 15, 3)) ∧ (decode cX11_route 94 = .ok (.iload 5, 2)) ∧ (decode cX11_route 96 = .ok (.ifCond .eq 10, 3)) ∧ (decode cX11_route 99 = .ok (.iload 5, 2)) := by decide +kernel
theorem dX11_route_73 : decode cX11_route 73 = .ok (.iconst 0, 1) := dG_dX11_route_73.1
theorem dX11_route_74 : decode cX11_route 74 = .ok (.istore 7, 2) := dG_dX11_route_73.2.1
theorem dX11_route_76 : decode cX11_route 76 = .ok (.iload 7, 2) := dG_dX11_route_73.2.2.1
theorem dX11_route_78 : decode cX11_route 78 = .ok (.ifCond .eq 57, 3) := dG_dX11_route_73.2.2.2.1
theorem dX11_route_81 : decode cX11_route 81 = .ok (.iload 4, 2) := dG_dX11_route_73.2.2.2.2.1
theorem dX11_route_83 : decode cX11_route 83 = .ok (.ifCond .ne 11, 3) := dG_dX11_route_73.2.2.2.2.2.1
theorem dX11_route_86 : decode cX11_route 86 = .ok (.iload 5, 2) := dG_dX11_route_73.2.2.2.2.2.2.1
theorem dX11_route_88 : decode cX11_route 88 = .ok (.ifCond .ne 47, 3) := dG_dX11_route_73.2.2.2.2.2.2.2.1
theorem dX11_route_91 : decode cX11_route 91 = .ok (.goto 15, 3) := dG_dX11_route_73.2.2.2.2.2.2.2.2.1
theorem dX11_route_94 : decode cX11_route 94 = .ok (.iload 5, 2) := dG_dX11_route_73.2.2.2.2.2.2.2.2.2.1
theorem dX11_route_96 : decode cX11_route 96 = .ok (.ifCond .eq 10, 3) := dG_dX11_route_73.2.2.2.2.2.2.2.2.2.2.1
theorem dX11_route_99 : decode cX11_route 99 = .ok (.iload 5, 2) := dG_dX11_route_73.2.2.2.2.2.2.2.2.2.2.2
theorem dG_dX11_route_101 : (decode cX11_route 101 = .ok (.iload 4, 2)) ∧ (decode cX11_route 103 = .ok (.if_icmp .le 32, 3)) ∧ (decode cX11_route 106 = .ok (.iload 5, 2)) ∧ (decode cX11_route 108 = .ok (.ifCond .ne 11, 3)) ∧ (decode cX11_route 111 = .ok (.iload 6, 2)) ∧ (decode cX11_route 113 = .ok (.ifCond .ne 22, 3)) ∧ (decode cX11_route 116 = .ok (.goto 15, 3)) ∧ (decode cX11_route 119 = .ok (.iload 6, 2)) ∧ (decode cX11_route 121 = .ok (.ifCond .eq 10, 3)) ∧ (decode cX11_route 124 = .ok (.iload 6, 2)) ∧ (decode cX11_route 126 = .ok (.iload 5, 2)) ∧ (decode cX11_route 128 = .ok (.if_icmp .le 7, 3)) := by decide +kernel
theorem dX11_route_101 : decode cX11_route 101 = .ok (.iload 4, 2) := dG_dX11_route_101.1
theorem dX11_route_103 : decode cX11_route 103 = .ok (.if_icmp .le 32, 3) := dG_dX11_route_101.2.1
theorem dX11_route_106 : decode cX11_route 106 = .ok (.iload 5, 2) := dG_dX11_route_101.2.2.1
theorem dX11_route_108 : decode cX11_route 108 = .ok (.ifCond .ne 11, 3) := dG_dX11_route_101.2.2.2.1
theorem dX11_route_111 : decode cX11_route 111 = .ok (.iload 6, 2) := dG_dX11_route_101.2.2.2.2.1
theorem dX11_route_113 : decode cX11_route 113 = .ok (.ifCond .ne 22, 3) := dG_dX11_route_101.2.2.2.2.2.1
theorem dX11_route_116 : decode cX11_route 116 = .ok (.goto 15, 3) := dG_dX11_route_101.2.2.2.2.2.2.1
theorem dX11_route_119 : decode cX11_route 119 = .ok (.iload 6, 2) := dG_dX11_route_101.2.2.2.2.2.2.2.1
theorem dX11_route_121 : decode cX11_route 121 = .ok (.ifCond .eq 10, 3) := dG_dX11_route_101.2.2.2.2.2.2.2.2.1
theorem dX11_route_124 : decode cX11_route 124 = .ok (.iload 6, 2) := dG_dX11_route_101.2.2.2.2.2.2.2.2.2.1
theorem dX11_route_126 : decode cX11_route 126 = .ok (.iload 5, 2) := dG_dX11_route_101.2.2.2.2.2.2.2.2.2.2.1
theorem dX11_route_128 : decode cX11_route 128 = .ok (.if_icmp .le 7, 3) := dG_dX11_route_101.2.2.2.2.2.2.2.2.2.2.2
theorem dG_dX11_route_131 : (decode cX11_route 131 = .ok (.iconst 1, 1)) ∧ (decode cX11_route 132 = .ok (.goto 4, 3)) ∧ (decode cX11_route 135 = .ok (.iconst 0, 1)) ∧ (decode cX11_route 136 = .ok (.istore 7, 2)) ∧ (decode cX11_route 138 = .ok (.iload 7, 2)) ∧ (decode cX11_route 140 = .ok (.ifCond .ne 9, 3)) ∧ (decode cX11_route 143 = .ok (.aload_n 0, 1)) ∧ (decode cX11_route 144 = .ok (.iconst 2, 1)) ∧ (decode cX11_route 145 = .ok (.invokevirtual 332, 3)) ∧ (decode cX11_route 148 = .ok (.ireturn, 1)) ∧ (decode cX11_route 149 = .ok (.iload_n 1, 1)) ∧ (decode cX11_route 150 = .ok (.iload_n 2, 1)) := by decide +kernel
theorem dX11_route_131 : decode cX11_route 131 = .ok (.iconst 1, 1) := dG_dX11_route_131.1
theorem dX11_route_132 : decode cX11_route 132 = .ok (.goto 4, 3) := dG_dX11_route_131.2.1
theorem dX11_route_135 : decode cX11_route 135 = .ok (.iconst 0, 1) := dG_dX11_route_131.2.2.1
theorem dX11_route_136 : decode cX11_route 136 = .ok (.istore 7, 2) := dG_dX11_route_131.2.2.2.1
theorem dX11_route_138 : decode cX11_route 138 = .ok (.iload 7, 2) := dG_dX11_route_131.2.2.2.2.1
theorem dX11_route_140 : decode cX11_route 140 = .ok (.ifCond .ne 9, 3) := dG_dX11_route_131.2.2.2.2.2.1
theorem dX11_route_143 : decode cX11_route 143 = .ok (.aload_n 0, 1) := dG_dX11_route_131.2.2.2.2.2.2.1
theorem dX11_route_144 : decode cX11_route 144 = .ok (.iconst 2, 1) := dG_dX11_route_131.2.2.2.2.2.2.2.1
theorem dX11_route_145 : decode cX11_route 145 = .ok (.invokevirtual 332, 3) := dG_dX11_route_131.2.2.2.2.2.2.2.2.1
theorem dX11_route_148 : decode cX11_route 148 = .ok (.ireturn, 1) := dG_dX11_route_131.2.2.2.2.2.2.2.2.2.1
theorem dX11_route_149 : decode cX11_route 149 = .ok (.iload_n 1, 1) := dG_dX11_route_131.2.2.2.2.2.2.2.2.2.2.1
theorem dX11_route_150 : decode cX11_route 150 = .ok (.iload_n 2, 1) := dG_dX11_route_131.2.2.2.2.2.2.2.2.2.2.2
theorem dG_dX11_route_151 : (decode cX11_route 151 = .ok (.invokestatic 335, 3)) ∧ (decode cX11_route 154 = .ok (.istore 8, 2)) ∧ (decode cX11_route 156 = .ok (.aload_n 0, 1)) ∧ (decode cX11_route 157 = .ok (.getfield 79, 3)) ∧ (decode cX11_route 160 = .ok (.iload 8, 2)) ∧ (decode cX11_route 162 = .ok (.iaload, 1)) ∧ (decode cX11_route 163 = .ok (.ifCond .le 10, 3)) ∧ (decode cX11_route 166 = .ok (.aload_n 0, 1)) ∧ (decode cX11_route 167 = .ok (.bipush 10, 2)) ∧ (decode cX11_route 169 = .ok (.invokevirtual 332, 3)) ∧ (decode cX11_route 172 = .ok (.ireturn, 1)) ∧ (decode cX11_route 173 = .ok (.aload_n 0, 1)) := by decide +kernel
theorem dX11_route_151 : decode cX11_route 151 = .ok (.invokestatic 335, 3) := dG_dX11_route_151.1
theorem dX11_route_154 : decode cX11_route 154 = .ok (.istore 8, 2) := dG_dX11_route_151.2.1
theorem dX11_route_156 : decode cX11_route 156 = .ok (.aload_n 0, 1) := dG_dX11_route_151.2.2.1
theorem dX11_route_157 : decode cX11_route 157 = .ok (.getfield 79, 3) := dG_dX11_route_151.2.2.2.1
theorem dX11_route_160 : decode cX11_route 160 = .ok (.iload 8, 2) := dG_dX11_route_151.2.2.2.2.1
theorem dX11_route_162 : decode cX11_route 162 = .ok (.iaload, 1) := dG_dX11_route_151.2.2.2.2.2.1
theorem dX11_route_163 : decode cX11_route 163 = .ok (.ifCond .le 10, 3) := dG_dX11_route_151.2.2.2.2.2.2.1
theorem dX11_route_166 : decode cX11_route 166 = .ok (.aload_n 0, 1) := dG_dX11_route_151.2.2.2.2.2.2.2.1
theorem dX11_route_167 : decode cX11_route 167 = .ok (.bipush 10, 2) := dG_dX11_route_151.2.2.2.2.2.2.2.2.1
theorem dX11_route_169 : decode cX11_route 169 = .ok (.invokevirtual 332, 3) := dG_dX11_route_151.2.2.2.2.2.2.2.2.2.1
theorem dX11_route_172 : decode cX11_route 172 = .ok (.ireturn, 1) := dG_dX11_route_151.2.2.2.2.2.2.2.2.2.2.1
theorem dX11_route_173 : decode cX11_route 173 = .ok (.aload_n 0, 1) := dG_dX11_route_151.2.2.2.2.2.2.2.2.2.2.2
theorem dG_dX11_route_174 : (decode cX11_route 174 = .ok (.getfield 73, 3)) ∧ (decode cX11_route 177 = .ok (.iload 8, 2)) ∧ (decode cX11_route 179 = .ok (.iload_n 3, 1)) ∧ (decode cX11_route 180 = .ok (.iastore, 1)) ∧ (decode cX11_route 181 = .ok (.aload_n 0, 1)) ∧ (decode cX11_route 182 = .ok (.getfield 76, 3)) ∧ (decode cX11_route 185 = .ok (.iconst 3, 1)) ∧ (decode cX11_route 186 = .ok (.iload 8, 2)) ∧ (decode cX11_route 188 = .ok (.imul, 1)) ∧ (decode cX11_route 189 = .ok (.iload 4, 2)) ∧ (decode cX11_route 191 = .ok (.iastore, 1)) ∧ (decode cX11_route 192 = .ok (.aload_n 0, 1)) := by decide +kernel
theorem dX11_route_174 : decode cX11_route 174 = .ok (.getfield 73, 3) := dG_dX11_route_174.1
theorem dX11_route_177 : decode cX11_route 177 = .ok (.iload 8, 2) := dG_dX11_route_174.2.1
theorem dX11_route_179 : decode cX11_route 179 = .ok (.iload_n 3, 1) := dG_dX11_route_174.2.2.1
theorem dX11_route_180 : decode cX11_route 180 = .ok (.iastore, 1) := dG_dX11_route_174.2.2.2.1
theorem dX11_route_181 : decode cX11_route 181 = .ok (.aload_n 0, 1) := dG_dX11_route_174.2.2.2.2.1
theorem dX11_route_182 : decode cX11_route 182 = .ok (.getfield 76, 3) := dG_dX11_route_174.2.2.2.2.2.1
theorem dX11_route_185 : decode cX11_route 185 = .ok (.iconst 3, 1) := dG_dX11_route_174.2.2.2.2.2.2.1
theorem dX11_route_186 : decode cX11_route 186 = .ok (.iload 8, 2) := dG_dX11_route_174.2.2.2.2.2.2.2.1
theorem dX11_route_188 : decode cX11_route 188 = .ok (.imul, 1) := dG_dX11_route_174.2.2.2.2.2.2.2.2.1
theorem dX11_route_189 : decode cX11_route 189 = .ok (.iload 4, 2) := dG_dX11_route_174.2.2.2.2.2.2.2.2.2.1
theorem dX11_route_191 : decode cX11_route 191 = .ok (.iastore, 1) := dG_dX11_route_174.2.2.2.2.2.2.2.2.2.2.1
theorem dX11_route_192 : decode cX11_route 192 = .ok (.aload_n 0, 1) := dG_dX11_route_174.2.2.2.2.2.2.2.2.2.2.2
theorem dG_dX11_route_193 : (decode cX11_route 193 = .ok (.getfield 76, 3)) ∧ (decode cX11_route 196 = .ok (.iconst 3, 1)) ∧ (decode cX11_route 197 = .ok (.iload 8, 2)) ∧ (decode cX11_route 199 = .ok (.imul, 1)) ∧ (decode cX11_route 200 = .ok (.iconst 1, 1)) ∧ (decode cX11_route 201 = .ok (.iadd, 1)) ∧ (decode cX11_route 202 = .ok (.iload 5, 2)) ∧ (decode cX11_route 204 = .ok (.iastore, 1)) ∧ (decode cX11_route 205 = .ok (.aload_n 0, 1)) ∧ (decode cX11_route 206 = .ok (.getfield 76, 3)) ∧ (decode cX11_route 209 = .ok (.iconst 3, 1)) ∧ (decode cX11_route 210 = .ok (.iload 8, 2)) := by decide +kernel
theorem dX11_route_193 : decode cX11_route 193 = .ok (.getfield 76, 3) := dG_dX11_route_193.1
theorem dX11_route_196 : decode cX11_route 196 = .ok (.iconst 3, 1) := dG_dX11_route_193.2.1
theorem dX11_route_197 : decode cX11_route 197 = .ok (.iload 8, 2) := dG_dX11_route_193.2.2.1
theorem dX11_route_199 : decode cX11_route 199 = .ok (.imul, 1) := dG_dX11_route_193.2.2.2.1
theorem dX11_route_200 : decode cX11_route 200 = .ok (.iconst 1, 1) := dG_dX11_route_193.2.2.2.2.1
theorem dX11_route_201 : decode cX11_route 201 = .ok (.iadd, 1) := dG_dX11_route_193.2.2.2.2.2.1
theorem dX11_route_202 : decode cX11_route 202 = .ok (.iload 5, 2) := dG_dX11_route_193.2.2.2.2.2.2.1
theorem dX11_route_204 : decode cX11_route 204 = .ok (.iastore, 1) := dG_dX11_route_193.2.2.2.2.2.2.2.1
theorem dX11_route_205 : decode cX11_route 205 = .ok (.aload_n 0, 1) := dG_dX11_route_193.2.2.2.2.2.2.2.2.1
theorem dX11_route_206 : decode cX11_route 206 = .ok (.getfield 76, 3) := dG_dX11_route_193.2.2.2.2.2.2.2.2.2.1
theorem dX11_route_209 : decode cX11_route 209 = .ok (.iconst 3, 1) := dG_dX11_route_193.2.2.2.2.2.2.2.2.2.2.1
theorem dX11_route_210 : decode cX11_route 210 = .ok (.iload 8, 2) := dG_dX11_route_193.2.2.2.2.2.2.2.2.2.2.2
theorem dG_dX11_route_212 : (decode cX11_route 212 = .ok (.imul, 1)) ∧ (decode cX11_route 213 = .ok (.iconst 2, 1)) ∧ (decode cX11_route 214 = .ok (.iadd, 1)) ∧ (decode cX11_route 215 = .ok (.iload 6, 2)) ∧ (decode cX11_route 217 = .ok (.iastore, 1)) ∧ (decode cX11_route 218 = .ok (.iconst 1, 1)) ∧ (decode cX11_route 219 = .ok (.ireturn, 1)) ∧ (decode cX11_told 0 = .ok (.aload_n 0, 1)) ∧ (decode cX11_told 1 = .ok (.iconst 0, 1)) ∧ (decode cX11_told 2 = .ok (.putfield 146, 3)) ∧ (decode cX11_told 5 = .ok (.aload_n 0, 1)) ∧ (decode cX11_told 6 = .ok (.iconst 0, 1)) := by decide +kernel
theorem dX11_route_212 : decode cX11_route 212 = .ok (.imul, 1) := dG_dX11_route_212.1
theorem dX11_route_213 : decode cX11_route 213 = .ok (.iconst 2, 1) := dG_dX11_route_212.2.1
theorem dX11_route_214 : decode cX11_route 214 = .ok (.iadd, 1) := dG_dX11_route_212.2.2.1
theorem dX11_route_215 : decode cX11_route 215 = .ok (.iload 6, 2) := dG_dX11_route_212.2.2.2.1
theorem dX11_route_217 : decode cX11_route 217 = .ok (.iastore, 1) := dG_dX11_route_212.2.2.2.2.1
theorem dX11_route_218 : decode cX11_route 218 = .ok (.iconst 1, 1) := dG_dX11_route_212.2.2.2.2.2.1
theorem dX11_route_219 : decode cX11_route 219 = .ok (.ireturn, 1) := dG_dX11_route_212.2.2.2.2.2.2.1
theorem dX11_told_0 : decode cX11_told 0 = .ok (.aload_n 0, 1) := dG_dX11_route_212.2.2.2.2.2.2.2.1
theorem dX11_told_1 : decode cX11_told 1 = .ok (.iconst 0, 1) := dG_dX11_route_212.2.2.2.2.2.2.2.2.1
theorem dX11_told_2 : decode cX11_told 2 = .ok (.putfield 146, 3) := dG_dX11_route_212.2.2.2.2.2.2.2.2.2.1
theorem dX11_told_5 : decode cX11_told 5 = .ok (.aload_n 0, 1) := dG_dX11_route_212.2.2.2.2.2.2.2.2.2.2.1
theorem dX11_told_6 : decode cX11_told 6 = .ok (.iconst 0, 1) := dG_dX11_route_212.2.2.2.2.2.2.2.2.2.2.2
theorem dG_dX11_told_7 : (decode cX11_told 7 = .ok (.putfield 149, 3)) ∧ (decode cX11_told 10 = .ok (.aload_n 0, 1)) ∧ (decode cX11_told 11 = .ok (.iload_n 1, 1)) ∧ (decode cX11_told 12 = .ok (.invokevirtual 325, 3)) ∧ (decode cX11_told 15 = .ok (.ifCond .eq 17, 3)) ∧ (decode cX11_told 18 = .ok (.iload_n 2, 1)) ∧ (decode cX11_told 19 = .ok (.iconst (-1), 1)) ∧ (decode cX11_told 20 = .ok (.if_icmp .eq 18, 3)) ∧ (decode cX11_told 23 = .ok (.aload_n 0, 1)) ∧ (decode cX11_told 24 = .ok (.iload_n 1, 1)) ∧ (decode cX11_told 25 = .ok (.iload_n 2, 1)) ∧ (decode cX11_told 26 = .ok (.invokevirtual 328, 3)) := by decide +kernel
theorem dX11_told_7 : decode cX11_told 7 = .ok (.putfield 149, 3) := dG_dX11_told_7.1
theorem dX11_told_10 : decode cX11_told 10 = .ok (.aload_n 0, 1) := dG_dX11_told_7.2.1
theorem dX11_told_11 : decode cX11_told 11 = .ok (.iload_n 1, 1) := dG_dX11_told_7.2.2.1
theorem dX11_told_12 : decode cX11_told 12 = .ok (.invokevirtual 325, 3) := dG_dX11_told_7.2.2.2.1
theorem dX11_told_15 : decode cX11_told 15 = .ok (.ifCond .eq 17, 3) := dG_dX11_told_7.2.2.2.2.1
theorem dX11_told_18 : decode cX11_told 18 = .ok (.iload_n 2, 1) := dG_dX11_told_7.2.2.2.2.2.1
theorem dX11_told_19 : decode cX11_told 19 = .ok (.iconst (-1), 1) := dG_dX11_told_7.2.2.2.2.2.2.1
theorem dX11_told_20 : decode cX11_told 20 = .ok (.if_icmp .eq 18, 3) := dG_dX11_told_7.2.2.2.2.2.2.2.1
theorem dX11_told_23 : decode cX11_told 23 = .ok (.aload_n 0, 1) := dG_dX11_told_7.2.2.2.2.2.2.2.2.1
theorem dX11_told_24 : decode cX11_told 24 = .ok (.iload_n 1, 1) := dG_dX11_told_7.2.2.2.2.2.2.2.2.2.1
theorem dX11_told_25 : decode cX11_told 25 = .ok (.iload_n 2, 1) := dG_dX11_told_7.2.2.2.2.2.2.2.2.2.2.1
theorem dX11_told_26 : decode cX11_told 26 = .ok (.invokevirtual 328, 3) := dG_dX11_told_7.2.2.2.2.2.2.2.2.2.2.2
theorem dG_dX11_told_29 : (decode cX11_told 29 = .ok (.ifCond .ne 9, 3)) ∧ (decode cX11_told 32 = .ok (.aload_n 0, 1)) ∧ (decode cX11_told 33 = .ok (.iconst 1, 1)) ∧ (decode cX11_told 34 = .ok (.invokevirtual 295, 3)) ∧ (decode cX11_told 37 = .ok (.ireturn, 1)) ∧ (decode cX11_told 38 = .ok (.iload_n 3, 1)) ∧ (decode cX11_told 39 = .ok (.ifCond .lt 8, 3)) ∧ (decode cX11_told 42 = .ok (.iload_n 3, 1)) ∧ (decode cX11_told 43 = .ok (.iconst 4, 1)) ∧ (decode cX11_told 44 = .ok (.if_icmp .le 9, 3)) ∧ (decode cX11_told 47 = .ok (.aload_n 0, 1)) ∧ (decode cX11_told 48 = .ok (.iconst 2, 1)) := by decide +kernel
theorem dX11_told_29 : decode cX11_told 29 = .ok (.ifCond .ne 9, 3) := dG_dX11_told_29.1
theorem dX11_told_32 : decode cX11_told 32 = .ok (.aload_n 0, 1) := dG_dX11_told_29.2.1
theorem dX11_told_33 : decode cX11_told 33 = .ok (.iconst 1, 1) := dG_dX11_told_29.2.2.1
theorem dX11_told_34 : decode cX11_told 34 = .ok (.invokevirtual 295, 3) := dG_dX11_told_29.2.2.2.1
theorem dX11_told_37 : decode cX11_told 37 = .ok (.ireturn, 1) := dG_dX11_told_29.2.2.2.2.1
theorem dX11_told_38 : decode cX11_told 38 = .ok (.iload_n 3, 1) := dG_dX11_told_29.2.2.2.2.2.1
theorem dX11_told_39 : decode cX11_told 39 = .ok (.ifCond .lt 8, 3) := dG_dX11_told_29.2.2.2.2.2.2.1
theorem dX11_told_42 : decode cX11_told 42 = .ok (.iload_n 3, 1) := dG_dX11_told_29.2.2.2.2.2.2.2.1
theorem dX11_told_43 : decode cX11_told 43 = .ok (.iconst 4, 1) := dG_dX11_told_29.2.2.2.2.2.2.2.2.1
theorem dX11_told_44 : decode cX11_told 44 = .ok (.if_icmp .le 9, 3) := dG_dX11_told_29.2.2.2.2.2.2.2.2.2.1
theorem dX11_told_47 : decode cX11_told 47 = .ok (.aload_n 0, 1) := dG_dX11_told_29.2.2.2.2.2.2.2.2.2.2.1
theorem dX11_told_48 : decode cX11_told 48 = .ok (.iconst 2, 1) := dG_dX11_told_29.2.2.2.2.2.2.2.2.2.2.2
theorem dG_dX11_told_49 : (decode cX11_told 49 = .ok (.invokevirtual 295, 3)) ∧ (decode cX11_told 52 = .ok (.ireturn, 1)) ∧ (decode cX11_told 53 = .ok (.iload_n 2, 1)) ∧ (decode cX11_told 54 = .ok (.iconst (-1), 1)) ∧ (decode cX11_told 55 = .ok (.if_icmp .ne 65, 3)) ∧ (decode cX11_told 58 = .ok (.iload_n 3, 1)) ∧ (decode cX11_told 59 = .ok (.ifCond .ne 12, 3)) ∧ (decode cX11_told 62 = .ok (.aload_n 0, 1)) ∧ (decode cX11_told 63 = .ok (.getfield 20, 3)) ∧ (decode cX11_told 66 = .ok (.iload_n 1, 1)) ∧ (decode cX11_told 67 = .ok (.iaload, 1)) ∧ (decode cX11_told 68 = .ok (.goto 51, 3)) := by decide +kernel
theorem dX11_told_49 : decode cX11_told 49 = .ok (.invokevirtual 295, 3) := dG_dX11_told_49.1
theorem dX11_told_52 : decode cX11_told 52 = .ok (.ireturn, 1) := dG_dX11_told_49.2.1
theorem dX11_told_53 : decode cX11_told 53 = .ok (.iload_n 2, 1) := dG_dX11_told_49.2.2.1
theorem dX11_told_54 : decode cX11_told 54 = .ok (.iconst (-1), 1) := dG_dX11_told_49.2.2.2.1
theorem dX11_told_55 : decode cX11_told 55 = .ok (.if_icmp .ne 65, 3) := dG_dX11_told_49.2.2.2.2.1
theorem dX11_told_58 : decode cX11_told 58 = .ok (.iload_n 3, 1) := dG_dX11_told_49.2.2.2.2.2.1
theorem dX11_told_59 : decode cX11_told 59 = .ok (.ifCond .ne 12, 3) := dG_dX11_told_49.2.2.2.2.2.2.1
theorem dX11_told_62 : decode cX11_told 62 = .ok (.aload_n 0, 1) := dG_dX11_told_49.2.2.2.2.2.2.2.1
theorem dX11_told_63 : decode cX11_told 63 = .ok (.getfield 20, 3) := dG_dX11_told_49.2.2.2.2.2.2.2.2.1
theorem dX11_told_66 : decode cX11_told 66 = .ok (.iload_n 1, 1) := dG_dX11_told_49.2.2.2.2.2.2.2.2.2.1
theorem dX11_told_67 : decode cX11_told 67 = .ok (.iaload, 1) := dG_dX11_told_49.2.2.2.2.2.2.2.2.2.2.1
theorem dX11_told_68 : decode cX11_told 68 = .ok (.goto 51, 3) := dG_dX11_told_49.2.2.2.2.2.2.2.2.2.2.2
theorem dG_dX11_told_71 : (decode cX11_told 71 = .ok (.iload_n 3, 1)) ∧ (decode cX11_told 72 = .ok (.iconst 1, 1)) ∧ (decode cX11_told 73 = .ok (.if_icmp .ne 12, 3)) ∧ (decode cX11_told 76 = .ok (.aload_n 0, 1)) ∧ (decode cX11_told 77 = .ok (.getfield 24, 3)) ∧ (decode cX11_told 80 = .ok (.iload_n 1, 1)) ∧ (decode cX11_told 81 = .ok (.iaload, 1)) ∧ (decode cX11_told 82 = .ok (.goto 37, 3)) ∧ (decode cX11_told 85 = .ok (.iload_n 3, 1)) ∧ (decode cX11_told 86 = .ok (.iconst 2, 1)) ∧ (decode cX11_told 87 = .ok (.if_icmp .ne 12, 3)) ∧ (decode cX11_told 90 = .ok (.aload_n 0, 1)) := by decide +kernel
theorem dX11_told_71 : decode cX11_told 71 = .ok (.iload_n 3, 1) := dG_dX11_told_71.1
theorem dX11_told_72 : decode cX11_told 72 = .ok (.iconst 1, 1) := dG_dX11_told_71.2.1
theorem dX11_told_73 : decode cX11_told 73 = .ok (.if_icmp .ne 12, 3) := dG_dX11_told_71.2.2.1
theorem dX11_told_76 : decode cX11_told 76 = .ok (.aload_n 0, 1) := dG_dX11_told_71.2.2.2.1
theorem dX11_told_77 : decode cX11_told 77 = .ok (.getfield 24, 3) := dG_dX11_told_71.2.2.2.2.1
theorem dX11_told_80 : decode cX11_told 80 = .ok (.iload_n 1, 1) := dG_dX11_told_71.2.2.2.2.2.1
theorem dX11_told_81 : decode cX11_told 81 = .ok (.iaload, 1) := dG_dX11_told_71.2.2.2.2.2.2.1
theorem dX11_told_82 : decode cX11_told 82 = .ok (.goto 37, 3) := dG_dX11_told_71.2.2.2.2.2.2.2.1
theorem dX11_told_85 : decode cX11_told 85 = .ok (.iload_n 3, 1) := dG_dX11_told_71.2.2.2.2.2.2.2.2.1
theorem dX11_told_86 : decode cX11_told 86 = .ok (.iconst 2, 1) := dG_dX11_told_71.2.2.2.2.2.2.2.2.2.1
theorem dX11_told_87 : decode cX11_told 87 = .ok (.if_icmp .ne 12, 3) := dG_dX11_told_71.2.2.2.2.2.2.2.2.2.2.1
theorem dX11_told_90 : decode cX11_told 90 = .ok (.aload_n 0, 1) := dG_dX11_told_71.2.2.2.2.2.2.2.2.2.2.2
theorem dG_dX11_told_91 : (decode cX11_told 91 = .ok (.getfield 27, 3)) ∧ (decode cX11_told 94 = .ok (.iload_n 1, 1)) ∧ (decode cX11_told 95 = .ok (.iaload, 1)) ∧ (decode cX11_told 96 = .ok (.goto 23, 3)) ∧ (decode cX11_told 99 = .ok (.iload_n 3, 1)) ∧ (decode cX11_told 100 = .ok (.iconst 3, 1)) ∧ (decode cX11_told 101 = .ok (.if_icmp .ne 12, 3)) ∧ (decode cX11_told 104 = .ok (.aload_n 0, 1)) ∧ (decode cX11_told 105 = .ok (.getfield 30, 3)) ∧ (decode cX11_told 108 = .ok (.iload_n 1, 1)) ∧ (decode cX11_told 109 = .ok (.iaload, 1)) ∧ (decode cX11_told 110 = .ok (.goto 9, 3)) := by decide +kernel
theorem dX11_told_91 : decode cX11_told 91 = .ok (.getfield 27, 3) := dG_dX11_told_91.1
theorem dX11_told_94 : decode cX11_told 94 = .ok (.iload_n 1, 1) := dG_dX11_told_91.2.1
theorem dX11_told_95 : decode cX11_told 95 = .ok (.iaload, 1) := dG_dX11_told_91.2.2.1
theorem dX11_told_96 : decode cX11_told 96 = .ok (.goto 23, 3) := dG_dX11_told_91.2.2.2.1
theorem dX11_told_99 : decode cX11_told 99 = .ok (.iload_n 3, 1) := dG_dX11_told_91.2.2.2.2.1
theorem dX11_told_100 : decode cX11_told 100 = .ok (.iconst 3, 1) := dG_dX11_told_91.2.2.2.2.2.1
theorem dX11_told_101 : decode cX11_told 101 = .ok (.if_icmp .ne 12, 3) := dG_dX11_told_91.2.2.2.2.2.2.1
theorem dX11_told_104 : decode cX11_told 104 = .ok (.aload_n 0, 1) := dG_dX11_told_91.2.2.2.2.2.2.2.1
theorem dX11_told_105 : decode cX11_told 105 = .ok (.getfield 30, 3) := dG_dX11_told_91.2.2.2.2.2.2.2.2.1
theorem dX11_told_108 : decode cX11_told 108 = .ok (.iload_n 1, 1) := dG_dX11_told_91.2.2.2.2.2.2.2.2.2.1
theorem dX11_told_109 : decode cX11_told 109 = .ok (.iaload, 1) := dG_dX11_told_91.2.2.2.2.2.2.2.2.2.2.1
theorem dX11_told_110 : decode cX11_told 110 = .ok (.goto 9, 3) := dG_dX11_told_91.2.2.2.2.2.2.2.2.2.2.2
theorem dG_dX11_told_113 : (decode cX11_told 113 = .ok (.aload_n 0, 1)) ∧ (decode cX11_told 114 = .ok (.getfield 91, 3)) ∧ (decode cX11_told 117 = .ok (.iload_n 1, 1)) ∧ (decode cX11_told 118 = .ok (.iaload, 1)) ∧ (decode cX11_told 119 = .ok (.ireturn, 1)) ∧ (decode cX11_told 120 = .ok (.iload_n 1, 1)) ∧ (decode cX11_told 121 = .ok (.iload_n 2, 1)) ∧ (decode cX11_told 122 = .ok (.invokestatic 335, 3)) ∧ (decode cX11_told 125 = .ok (.istore 4, 2)) ∧ (decode cX11_told 127 = .ok (.iload_n 3, 1)) ∧ (decode cX11_told 128 = .ok (.ifCond .ne 13, 3)) ∧ (decode cX11_told 131 = .ok (.aload_n 0, 1)) := by decide +kernel
theorem dX11_told_113 : decode cX11_told 113 = .ok (.aload_n 0, 1) := dG_dX11_told_113.1
theorem dX11_told_114 : decode cX11_told 114 = .ok (.getfield 91, 3) := dG_dX11_told_113.2.1
theorem dX11_told_117 : decode cX11_told 117 = .ok (.iload_n 1, 1) := dG_dX11_told_113.2.2.1
theorem dX11_told_118 : decode cX11_told 118 = .ok (.iaload, 1) := dG_dX11_told_113.2.2.2.1
theorem dX11_told_119 : decode cX11_told 119 = .ok (.ireturn, 1) := dG_dX11_told_113.2.2.2.2.1
theorem dX11_told_120 : decode cX11_told 120 = .ok (.iload_n 1, 1) := dG_dX11_told_113.2.2.2.2.2.1
theorem dX11_told_121 : decode cX11_told 121 = .ok (.iload_n 2, 1) := dG_dX11_told_113.2.2.2.2.2.2.1
theorem dX11_told_122 : decode cX11_told 122 = .ok (.invokestatic 335, 3) := dG_dX11_told_113.2.2.2.2.2.2.2.1
theorem dX11_told_125 : decode cX11_told 125 = .ok (.istore 4, 2) := dG_dX11_told_113.2.2.2.2.2.2.2.2.1
theorem dX11_told_127 : decode cX11_told 127 = .ok (.iload_n 3, 1) := dG_dX11_told_113.2.2.2.2.2.2.2.2.2.1
theorem dX11_told_128 : decode cX11_told 128 = .ok (.ifCond .ne 13, 3) := dG_dX11_told_113.2.2.2.2.2.2.2.2.2.2.1
theorem dX11_told_131 : decode cX11_told 131 = .ok (.aload_n 0, 1) := dG_dX11_told_113.2.2.2.2.2.2.2.2.2.2.2
theorem dG_dX11_told_132 : (decode cX11_told 132 = .ok (.getfield 73, 3)) ∧ (decode cX11_told 135 = .ok (.iload 4, 2)) ∧ (decode cX11_told 137 = .ok (.iaload, 1)) ∧ (decode cX11_told 138 = .ok (.goto 31, 3)) ∧ (decode cX11_told 141 = .ok (.iload_n 3, 1)) ∧ (decode cX11_told 142 = .ok (.iconst 4, 1)) ∧ (decode cX11_told 143 = .ok (.if_icmp .ne 13, 3)) ∧ (decode cX11_told 146 = .ok (.aload_n 0, 1)) ∧ (decode cX11_told 147 = .ok (.getfield 79, 3)) ∧ (decode cX11_told 150 = .ok (.iload 4, 2)) ∧ (decode cX11_told 152 = .ok (.iaload, 1)) ∧ (decode cX11_told 153 = .ok (.goto 16, 3)) := by decide +kernel
theorem dX11_told_132 : decode cX11_told 132 = .ok (.getfield 73, 3) := dG_dX11_told_132.1
theorem dX11_told_135 : decode cX11_told 135 = .ok (.iload 4, 2) := dG_dX11_told_132.2.1
theorem dX11_told_137 : decode cX11_told 137 = .ok (.iaload, 1) := dG_dX11_told_132.2.2.1
theorem dX11_told_138 : decode cX11_told 138 = .ok (.goto 31, 3) := dG_dX11_told_132.2.2.2.1
theorem dX11_told_141 : decode cX11_told 141 = .ok (.iload_n 3, 1) := dG_dX11_told_132.2.2.2.2.1
theorem dX11_told_142 : decode cX11_told 142 = .ok (.iconst 4, 1) := dG_dX11_told_132.2.2.2.2.2.1
theorem dX11_told_143 : decode cX11_told 143 = .ok (.if_icmp .ne 13, 3) := dG_dX11_told_132.2.2.2.2.2.2.1
theorem dX11_told_146 : decode cX11_told 146 = .ok (.aload_n 0, 1) := dG_dX11_told_132.2.2.2.2.2.2.2.1
theorem dX11_told_147 : decode cX11_told 147 = .ok (.getfield 79, 3) := dG_dX11_told_132.2.2.2.2.2.2.2.2.1
theorem dX11_told_150 : decode cX11_told 150 = .ok (.iload 4, 2) := dG_dX11_told_132.2.2.2.2.2.2.2.2.2.1
theorem dX11_told_152 : decode cX11_told 152 = .ok (.iaload, 1) := dG_dX11_told_132.2.2.2.2.2.2.2.2.2.2.1
theorem dX11_told_153 : decode cX11_told 153 = .ok (.goto 16, 3) := dG_dX11_told_132.2.2.2.2.2.2.2.2.2.2.2
theorem dG_dX11_told_156 : (decode cX11_told 156 = .ok (.aload_n 0, 1)) ∧ (decode cX11_told 157 = .ok (.getfield 76, 3)) ∧ (decode cX11_told 160 = .ok (.iconst 3, 1)) ∧ (decode cX11_told 161 = .ok (.iload 4, 2)) ∧ (decode cX11_told 163 = .ok (.imul, 1)) ∧ (decode cX11_told 164 = .ok (.iload_n 3, 1)) ∧ (decode cX11_told 165 = .ok (.iadd, 1)) ∧ (decode cX11_told 166 = .ok (.iconst 1, 1)) ∧ (decode cX11_told 167 = .ok (.isub, 1)) ∧ (decode cX11_told 168 = .ok (.iaload, 1)) ∧ (decode cX11_told 169 = .ok (.ireturn, 1)) ∧ (decode cX11_begin 0 = .ok (.aload_n 0, 1)) := by decide +kernel
theorem dX11_told_156 : decode cX11_told 156 = .ok (.aload_n 0, 1) := dG_dX11_told_156.1
theorem dX11_told_157 : decode cX11_told 157 = .ok (.getfield 76, 3) := dG_dX11_told_156.2.1
theorem dX11_told_160 : decode cX11_told 160 = .ok (.iconst 3, 1) := dG_dX11_told_156.2.2.1
theorem dX11_told_161 : decode cX11_told 161 = .ok (.iload 4, 2) := dG_dX11_told_156.2.2.2.1
theorem dX11_told_163 : decode cX11_told 163 = .ok (.imul, 1) := dG_dX11_told_156.2.2.2.2.1
theorem dX11_told_164 : decode cX11_told 164 = .ok (.iload_n 3, 1) := dG_dX11_told_156.2.2.2.2.2.1
theorem dX11_told_165 : decode cX11_told 165 = .ok (.iadd, 1) := dG_dX11_told_156.2.2.2.2.2.2.1
theorem dX11_told_166 : decode cX11_told 166 = .ok (.iconst 1, 1) := dG_dX11_told_156.2.2.2.2.2.2.2.1
theorem dX11_told_167 : decode cX11_told 167 = .ok (.isub, 1) := dG_dX11_told_156.2.2.2.2.2.2.2.2.1
theorem dX11_told_168 : decode cX11_told 168 = .ok (.iaload, 1) := dG_dX11_told_156.2.2.2.2.2.2.2.2.2.1
theorem dX11_told_169 : decode cX11_told 169 = .ok (.ireturn, 1) := dG_dX11_told_156.2.2.2.2.2.2.2.2.2.2.1
theorem dX11_begin_0 : decode cX11_begin 0 = .ok (.aload_n 0, 1) := dG_dX11_told_156.2.2.2.2.2.2.2.2.2.2.2
theorem dG_dX11_begin_1 : (decode cX11_begin 1 = .ok (.iconst 0, 1)) ∧ (decode cX11_begin 2 = .ok (.putfield 146, 3)) ∧ (decode cX11_begin 5 = .ok (.aload_n 0, 1)) ∧ (decode cX11_begin 6 = .ok (.iconst 0, 1)) ∧ (decode cX11_begin 7 = .ok (.putfield 149, 3)) ∧ (decode cX11_begin 10 = .ok (.aload_n 0, 1)) ∧ (decode cX11_begin 11 = .ok (.iload_n 1, 1)) ∧ (decode cX11_begin 12 = .ok (.invokevirtual 349, 3)) ∧ (decode cX11_begin 15 = .ok (.ifCond .eq 22, 3)) ∧ (decode cX11_begin 18 = .ok (.aload_n 0, 1)) ∧ (decode cX11_begin 19 = .ok (.getfield 82, 3)) ∧ (decode cX11_begin 22 = .ok (.ifCond .lt 15, 3)) := by decide +kernel
theorem dX11_begin_1 : decode cX11_begin 1 = .ok (.iconst 0, 1) := dG_dX11_begin_1.1
theorem dX11_begin_2 : decode cX11_begin 2 = .ok (.putfield 146, 3) := dG_dX11_begin_1.2.1
theorem dX11_begin_5 : decode cX11_begin 5 = .ok (.aload_n 0, 1) := dG_dX11_begin_1.2.2.1
theorem dX11_begin_6 : decode cX11_begin 6 = .ok (.iconst 0, 1) := dG_dX11_begin_1.2.2.2.1
theorem dX11_begin_7 : decode cX11_begin 7 = .ok (.putfield 149, 3) := dG_dX11_begin_1.2.2.2.2.1
theorem dX11_begin_10 : decode cX11_begin 10 = .ok (.aload_n 0, 1) := dG_dX11_begin_1.2.2.2.2.2.1
theorem dX11_begin_11 : decode cX11_begin 11 = .ok (.iload_n 1, 1) := dG_dX11_begin_1.2.2.2.2.2.2.1
theorem dX11_begin_12 : decode cX11_begin 12 = .ok (.invokevirtual 349, 3) := dG_dX11_begin_1.2.2.2.2.2.2.2.1
theorem dX11_begin_15 : decode cX11_begin 15 = .ok (.ifCond .eq 22, 3) := dG_dX11_begin_1.2.2.2.2.2.2.2.2.1
theorem dX11_begin_18 : decode cX11_begin 18 = .ok (.aload_n 0, 1) := dG_dX11_begin_1.2.2.2.2.2.2.2.2.2.1
theorem dX11_begin_19 : decode cX11_begin 19 = .ok (.getfield 82, 3) := dG_dX11_begin_1.2.2.2.2.2.2.2.2.2.2.1
theorem dX11_begin_22 : decode cX11_begin 22 = .ok (.ifCond .lt 15, 3) := dG_dX11_begin_1.2.2.2.2.2.2.2.2.2.2.2
theorem dG_dX11_begin_25 : (decode cX11_begin 25 = .ok (.aload_n 0, 1)) ∧ (decode cX11_begin 26 = .ok (.aload_n 0, 1)) ∧ (decode cX11_begin 27 = .ok (.getfield 82, 3)) ∧ (decode cX11_begin 30 = .ok (.iload_n 2, 1)) ∧ (decode cX11_begin 31 = .ok (.invokevirtual 328, 3)) ∧ (decode cX11_begin 34 = .ok (.ifCond .ne 9, 3)) ∧ (decode cX11_begin 37 = .ok (.aload_n 0, 1)) ∧ (decode cX11_begin 38 = .ok (.iconst 1, 1)) ∧ (decode cX11_begin 39 = .ok (.invokevirtual 295, 3)) ∧ (decode cX11_begin 42 = .ok (.ireturn, 1)) ∧ (decode cX11_begin 43 = .ok (.aload_n 0, 1)) ∧ (decode cX11_begin 44 = .ok (.iload_n 3, 1)) := by decide +kernel
theorem dX11_begin_25 : decode cX11_begin 25 = .ok (.aload_n 0, 1) := dG_dX11_begin_25.1
theorem dX11_begin_26 : decode cX11_begin 26 = .ok (.aload_n 0, 1) := dG_dX11_begin_25.2.1
theorem dX11_begin_27 : decode cX11_begin 27 = .ok (.getfield 82, 3) := dG_dX11_begin_25.2.2.1
theorem dX11_begin_30 : decode cX11_begin 30 = .ok (.iload_n 2, 1) := dG_dX11_begin_25.2.2.2.1
theorem dX11_begin_31 : decode cX11_begin 31 = .ok (.invokevirtual 328, 3) := dG_dX11_begin_25.2.2.2.2.1
theorem dX11_begin_34 : decode cX11_begin 34 = .ok (.ifCond .ne 9, 3) := dG_dX11_begin_25.2.2.2.2.2.1
theorem dX11_begin_37 : decode cX11_begin 37 = .ok (.aload_n 0, 1) := dG_dX11_begin_25.2.2.2.2.2.2.1
theorem dX11_begin_38 : decode cX11_begin 38 = .ok (.iconst 1, 1) := dG_dX11_begin_25.2.2.2.2.2.2.2.1
theorem dX11_begin_39 : decode cX11_begin 39 = .ok (.invokevirtual 295, 3) := dG_dX11_begin_25.2.2.2.2.2.2.2.2.1
theorem dX11_begin_42 : decode cX11_begin 42 = .ok (.ireturn, 1) := dG_dX11_begin_25.2.2.2.2.2.2.2.2.2.1
theorem dX11_begin_43 : decode cX11_begin 43 = .ok (.aload_n 0, 1) := dG_dX11_begin_25.2.2.2.2.2.2.2.2.2.2.1
theorem dX11_begin_44 : decode cX11_begin 44 = .ok (.iload_n 3, 1) := dG_dX11_begin_25.2.2.2.2.2.2.2.2.2.2.2
theorem dG_dX11_begin_45 : (decode cX11_begin 45 = .ok (.invokevirtual 352, 3)) ∧ (decode cX11_begin 48 = .ok (.istore 4, 2)) ∧ (decode cX11_begin 50 = .ok (.iload 4, 2)) ∧ (decode cX11_begin 52 = .ok (.ifCond .le 10, 3)) ∧ (decode cX11_begin 55 = .ok (.aload_n 0, 1)) ∧ (decode cX11_begin 56 = .ok (.iload 4, 2)) ∧ (decode cX11_begin 58 = .ok (.invokevirtual 295, 3)) ∧ (decode cX11_begin 61 = .ok (.ireturn, 1)) ∧ (decode cX11_begin 62 = .ok (.aload_n 0, 1)) ∧ (decode cX11_begin 63 = .ok (.getfield 85, 3)) ∧ (decode cX11_begin 66 = .ok (.bipush 16, 2)) ∧ (decode cX11_begin 68 = .ok (.aload_n 0, 1)) := by decide +kernel
theorem dX11_begin_45 : decode cX11_begin 45 = .ok (.invokevirtual 352, 3) := dG_dX11_begin_45.1
theorem dX11_begin_48 : decode cX11_begin 48 = .ok (.istore 4, 2) := dG_dX11_begin_45.2.1
theorem dX11_begin_50 : decode cX11_begin 50 = .ok (.iload 4, 2) := dG_dX11_begin_45.2.2.1
theorem dX11_begin_52 : decode cX11_begin 52 = .ok (.ifCond .le 10, 3) := dG_dX11_begin_45.2.2.2.1
theorem dX11_begin_55 : decode cX11_begin 55 = .ok (.aload_n 0, 1) := dG_dX11_begin_45.2.2.2.2.1
theorem dX11_begin_56 : decode cX11_begin 56 = .ok (.iload 4, 2) := dG_dX11_begin_45.2.2.2.2.2.1
theorem dX11_begin_58 : decode cX11_begin 58 = .ok (.invokevirtual 295, 3) := dG_dX11_begin_45.2.2.2.2.2.2.1
theorem dX11_begin_61 : decode cX11_begin 61 = .ok (.ireturn, 1) := dG_dX11_begin_45.2.2.2.2.2.2.2.1
theorem dX11_begin_62 : decode cX11_begin 62 = .ok (.aload_n 0, 1) := dG_dX11_begin_45.2.2.2.2.2.2.2.2.1
theorem dX11_begin_63 : decode cX11_begin 63 = .ok (.getfield 85, 3) := dG_dX11_begin_45.2.2.2.2.2.2.2.2.2.1
theorem dX11_begin_66 : decode cX11_begin 66 = .ok (.bipush 16, 2) := dG_dX11_begin_45.2.2.2.2.2.2.2.2.2.2.1
theorem dX11_begin_68 : decode cX11_begin 68 = .ok (.aload_n 0, 1) := dG_dX11_begin_45.2.2.2.2.2.2.2.2.2.2.2
theorem dG_dX11_begin_69 : (decode cX11_begin 69 = .ok (.getfield 82, 3)) ∧ (decode cX11_begin 72 = .ok (.imul, 1)) ∧ (decode cX11_begin 73 = .ok (.iload_n 1, 1)) ∧ (decode cX11_begin 74 = .ok (.iadd, 1)) ∧ (decode cX11_begin 75 = .ok (.baload, 1)) ∧ (decode cX11_begin 76 = .ok (.ifCond .ne 9, 3)) ∧ (decode cX11_begin 79 = .ok (.aload_n 0, 1)) ∧ (decode cX11_begin 80 = .ok (.iconst 4, 1)) ∧ (decode cX11_begin 81 = .ok (.invokevirtual 295, 3)) ∧ (decode cX11_begin 84 = .ok (.ireturn, 1)) ∧ (decode cX11_begin 85 = .ok (.aload_n 0, 1)) ∧ (decode cX11_begin 86 = .ok (.iload_n 1, 1)) := by decide +kernel
theorem dX11_begin_69 : decode cX11_begin 69 = .ok (.getfield 82, 3) := dG_dX11_begin_69.1
theorem dX11_begin_72 : decode cX11_begin 72 = .ok (.imul, 1) := dG_dX11_begin_69.2.1
theorem dX11_begin_73 : decode cX11_begin 73 = .ok (.iload_n 1, 1) := dG_dX11_begin_69.2.2.1
theorem dX11_begin_74 : decode cX11_begin 74 = .ok (.iadd, 1) := dG_dX11_begin_69.2.2.2.1
theorem dX11_begin_75 : decode cX11_begin 75 = .ok (.baload, 1) := dG_dX11_begin_69.2.2.2.2.1
theorem dX11_begin_76 : decode cX11_begin 76 = .ok (.ifCond .ne 9, 3) := dG_dX11_begin_69.2.2.2.2.2.1
theorem dX11_begin_79 : decode cX11_begin 79 = .ok (.aload_n 0, 1) := dG_dX11_begin_69.2.2.2.2.2.2.1
theorem dX11_begin_80 : decode cX11_begin 80 = .ok (.iconst 4, 1) := dG_dX11_begin_69.2.2.2.2.2.2.2.1
theorem dX11_begin_81 : decode cX11_begin 81 = .ok (.invokevirtual 295, 3) := dG_dX11_begin_69.2.2.2.2.2.2.2.2.1
theorem dX11_begin_84 : decode cX11_begin 84 = .ok (.ireturn, 1) := dG_dX11_begin_69.2.2.2.2.2.2.2.2.2.1
theorem dX11_begin_85 : decode cX11_begin 85 = .ok (.aload_n 0, 1) := dG_dX11_begin_69.2.2.2.2.2.2.2.2.2.2.1
theorem dX11_begin_86 : decode cX11_begin 86 = .ok (.iload_n 1, 1) := dG_dX11_begin_69.2.2.2.2.2.2.2.2.2.2.2
theorem dG_dX11_begin_87 : (decode cX11_begin 87 = .ok (.invokevirtual 355, 3)) ∧ (decode cX11_begin 90 = .ok (.ifCond .lt 9, 3)) ∧ (decode cX11_begin 93 = .ok (.aload_n 0, 1)) ∧ (decode cX11_begin 94 = .ok (.iconst 5, 1)) ∧ (decode cX11_begin 95 = .ok (.invokevirtual 295, 3)) ∧ (decode cX11_begin 98 = .ok (.ireturn, 1)) ∧ (decode cX11_begin 99 = .ok (.iconst 0, 1)) ∧ (decode cX11_begin 100 = .ok (.istore 5, 2)) ∧ (decode cX11_begin 102 = .ok (.iconst 0, 1)) ∧ (decode cX11_begin 103 = .ok (.istore 6, 2)) ∧ (decode cX11_begin 105 = .ok (.iconst 0, 1)) ∧ (decode cX11_begin 106 = .ok (.istore 7, 2)) := by decide +kernel
theorem dX11_begin_87 : decode cX11_begin 87 = .ok (.invokevirtual 355, 3) := dG_dX11_begin_87.1
theorem dX11_begin_90 : decode cX11_begin 90 = .ok (.ifCond .lt 9, 3) := dG_dX11_begin_87.2.1
theorem dX11_begin_93 : decode cX11_begin 93 = .ok (.aload_n 0, 1) := dG_dX11_begin_87.2.2.1
theorem dX11_begin_94 : decode cX11_begin 94 = .ok (.iconst 5, 1) := dG_dX11_begin_87.2.2.2.1
theorem dX11_begin_95 : decode cX11_begin 95 = .ok (.invokevirtual 295, 3) := dG_dX11_begin_87.2.2.2.2.1
theorem dX11_begin_98 : decode cX11_begin 98 = .ok (.ireturn, 1) := dG_dX11_begin_87.2.2.2.2.2.1
theorem dX11_begin_99 : decode cX11_begin 99 = .ok (.iconst 0, 1) := dG_dX11_begin_87.2.2.2.2.2.2.1
theorem dX11_begin_100 : decode cX11_begin 100 = .ok (.istore 5, 2) := dG_dX11_begin_87.2.2.2.2.2.2.2.1
theorem dX11_begin_102 : decode cX11_begin 102 = .ok (.iconst 0, 1) := dG_dX11_begin_87.2.2.2.2.2.2.2.2.1
theorem dX11_begin_103 : decode cX11_begin 103 = .ok (.istore 6, 2) := dG_dX11_begin_87.2.2.2.2.2.2.2.2.2.1
theorem dX11_begin_105 : decode cX11_begin 105 = .ok (.iconst 0, 1) := dG_dX11_begin_87.2.2.2.2.2.2.2.2.2.2.1
theorem dX11_begin_106 : decode cX11_begin 106 = .ok (.istore 7, 2) := dG_dX11_begin_87.2.2.2.2.2.2.2.2.2.2.2
theorem dG_dX11_begin_108 : (decode cX11_begin 108 = .ok (.iload 7, 2)) ∧ (decode cX11_begin 110 = .ok (.aload_n 0, 1)) ∧ (decode cX11_begin 111 = .ok (.getfield 319, 3)) ∧ (decode cX11_begin 114 = .ok (.if_icmp .ge 85, 3)) ∧ (decode cX11_begin 117 = .ok (.aload_n 0, 1)) ∧ (decode cX11_begin 118 = .ok (.getfield 94, 3)) ∧ (decode cX11_begin 121 = .ok (.iload 7, 2)) ∧ (decode cX11_begin 123 = .ok (.iaload, 1)) ∧ (decode cX11_begin 124 = .ok (.iload_n 1, 1)) ∧ (decode cX11_begin 125 = .ok (.if_icmp .ne 68, 3)) ∧ (decode cX11_begin 128 = .ok (.aload_n 0, 1)) ∧ (decode cX11_begin 129 = .ok (.getfield 97, 3)) := by decide +kernel
theorem dX11_begin_108 : decode cX11_begin 108 = .ok (.iload 7, 2) := dG_dX11_begin_108.1
theorem dX11_begin_110 : decode cX11_begin 110 = .ok (.aload_n 0, 1) := dG_dX11_begin_108.2.1
theorem dX11_begin_111 : decode cX11_begin 111 = .ok (.getfield 319, 3) := dG_dX11_begin_108.2.2.1
theorem dX11_begin_114 : decode cX11_begin 114 = .ok (.if_icmp .ge 85, 3) := dG_dX11_begin_108.2.2.2.1
theorem dX11_begin_117 : decode cX11_begin 117 = .ok (.aload_n 0, 1) := dG_dX11_begin_108.2.2.2.2.1
theorem dX11_begin_118 : decode cX11_begin 118 = .ok (.getfield 94, 3) := dG_dX11_begin_108.2.2.2.2.2.1
theorem dX11_begin_121 : decode cX11_begin 121 = .ok (.iload 7, 2) := dG_dX11_begin_108.2.2.2.2.2.2.1
theorem dX11_begin_123 : decode cX11_begin 123 = .ok (.iaload, 1) := dG_dX11_begin_108.2.2.2.2.2.2.2.1
theorem dX11_begin_124 : decode cX11_begin 124 = .ok (.iload_n 1, 1) := dG_dX11_begin_108.2.2.2.2.2.2.2.2.1
theorem dX11_begin_125 : decode cX11_begin 125 = .ok (.if_icmp .ne 68, 3) := dG_dX11_begin_108.2.2.2.2.2.2.2.2.2.1
theorem dX11_begin_128 : decode cX11_begin 128 = .ok (.aload_n 0, 1) := dG_dX11_begin_108.2.2.2.2.2.2.2.2.2.2.1
theorem dX11_begin_129 : decode cX11_begin 129 = .ok (.getfield 97, 3) := dG_dX11_begin_108.2.2.2.2.2.2.2.2.2.2.2
theorem dG_dX11_begin_132 : (decode cX11_begin 132 = .ok (.iload 7, 2)) ∧ (decode cX11_begin 134 = .ok (.iaload, 1)) ∧ (decode cX11_begin 135 = .ok (.aload_n 0, 1)) ∧ (decode cX11_begin 136 = .ok (.getfield 82, 3)) ∧ (decode cX11_begin 139 = .ok (.if_icmp .ne 54, 3)) ∧ (decode cX11_begin 142 = .ok (.aload_n 0, 1)) ∧ (decode cX11_begin 143 = .ok (.getfield 100, 3)) ∧ (decode cX11_begin 146 = .ok (.iload 7, 2)) ∧ (decode cX11_begin 148 = .ok (.iaload, 1)) ∧ (decode cX11_begin 149 = .ok (.iload_n 2, 1)) ∧ (decode cX11_begin 150 = .ok (.if_icmp .ne 43, 3)) ∧ (decode cX11_begin 153 = .ok (.aload_n 0, 1)) := by decide +kernel
theorem dX11_begin_132 : decode cX11_begin 132 = .ok (.iload 7, 2) := dG_dX11_begin_132.1
theorem dX11_begin_134 : decode cX11_begin 134 = .ok (.iaload, 1) := dG_dX11_begin_132.2.1
theorem dX11_begin_135 : decode cX11_begin 135 = .ok (.aload_n 0, 1) := dG_dX11_begin_132.2.2.1
theorem dX11_begin_136 : decode cX11_begin 136 = .ok (.getfield 82, 3) := dG_dX11_begin_132.2.2.2.1
theorem dX11_begin_139 : decode cX11_begin 139 = .ok (.if_icmp .ne 54, 3) := dG_dX11_begin_132.2.2.2.2.1
theorem dX11_begin_142 : decode cX11_begin 142 = .ok (.aload_n 0, 1) := dG_dX11_begin_132.2.2.2.2.2.1
theorem dX11_begin_143 : decode cX11_begin 143 = .ok (.getfield 100, 3) := dG_dX11_begin_132.2.2.2.2.2.2.1
theorem dX11_begin_146 : decode cX11_begin 146 = .ok (.iload 7, 2) := dG_dX11_begin_132.2.2.2.2.2.2.2.1
theorem dX11_begin_148 : decode cX11_begin 148 = .ok (.iaload, 1) := dG_dX11_begin_132.2.2.2.2.2.2.2.2.1
theorem dX11_begin_149 : decode cX11_begin 149 = .ok (.iload_n 2, 1) := dG_dX11_begin_132.2.2.2.2.2.2.2.2.2.1
theorem dX11_begin_150 : decode cX11_begin 150 = .ok (.if_icmp .ne 43, 3) := dG_dX11_begin_132.2.2.2.2.2.2.2.2.2.2.1
theorem dX11_begin_153 : decode cX11_begin 153 = .ok (.aload_n 0, 1) := dG_dX11_begin_132.2.2.2.2.2.2.2.2.2.2.2
theorem dG_dX11_begin_154 : (decode cX11_begin 154 = .ok (.getfield 112, 3)) ∧ (decode cX11_begin 157 = .ok (.iload 7, 2)) ∧ (decode cX11_begin 159 = .ok (.iaload, 1)) ∧ (decode cX11_begin 160 = .ok (.iconst 4, 1)) ∧ (decode cX11_begin 161 = .ok (.if_icmp .ne 6, 3)) ∧ (decode cX11_begin 164 = .ok (.goto 29, 3)) ∧ (decode cX11_begin 167 = .ok (.iinc 5 1, 3)) ∧ (decode cX11_begin 170 = .ok (.iload 6, 2)) ∧ (decode cX11_begin 172 = .ok (.ifCond .ne 14, 3)) ∧ (decode cX11_begin 175 = .ok (.aload_n 0, 1)) ∧ (decode cX11_begin 176 = .ok (.getfield 112, 3)) ∧ (decode cX11_begin 179 = .ok (.iload 7, 2)) := by decide +kernel
theorem dX11_begin_154 : decode cX11_begin 154 = .ok (.getfield 112, 3) := dG_dX11_begin_154.1
theorem dX11_begin_157 : decode cX11_begin 157 = .ok (.iload 7, 2) := dG_dX11_begin_154.2.1
theorem dX11_begin_159 : decode cX11_begin 159 = .ok (.iaload, 1) := dG_dX11_begin_154.2.2.1
theorem dX11_begin_160 : decode cX11_begin 160 = .ok (.iconst 4, 1) := dG_dX11_begin_154.2.2.2.1
theorem dX11_begin_161 : decode cX11_begin 161 = .ok (.if_icmp .ne 6, 3) := dG_dX11_begin_154.2.2.2.2.1
theorem dX11_begin_164 : decode cX11_begin 164 = .ok (.goto 29, 3) := dG_dX11_begin_154.2.2.2.2.2.1
theorem dX11_begin_167 : decode cX11_begin 167 = .ok (.iinc 5 1, 3) := dG_dX11_begin_154.2.2.2.2.2.2.1
theorem dX11_begin_170 : decode cX11_begin 170 = .ok (.iload 6, 2) := dG_dX11_begin_154.2.2.2.2.2.2.2.1
theorem dX11_begin_172 : decode cX11_begin 172 = .ok (.ifCond .ne 14, 3) := dG_dX11_begin_154.2.2.2.2.2.2.2.2.1
theorem dX11_begin_175 : decode cX11_begin 175 = .ok (.aload_n 0, 1) := dG_dX11_begin_154.2.2.2.2.2.2.2.2.2.1
theorem dX11_begin_176 : decode cX11_begin 176 = .ok (.getfield 112, 3) := dG_dX11_begin_154.2.2.2.2.2.2.2.2.2.2.1
theorem dX11_begin_179 : decode cX11_begin 179 = .ok (.iload 7, 2) := dG_dX11_begin_154.2.2.2.2.2.2.2.2.2.2.2
theorem dG_dX11_begin_181 : (decode cX11_begin 181 = .ok (.iaload, 1)) ∧ (decode cX11_begin 182 = .ok (.iconst 1, 1)) ∧ (decode cX11_begin 183 = .ok (.if_icmp .ne 7, 3)) ∧ (decode cX11_begin 186 = .ok (.iconst 1, 1)) ∧ (decode cX11_begin 187 = .ok (.goto 4, 3)) ∧ (decode cX11_begin 190 = .ok (.iconst 0, 1)) ∧ (decode cX11_begin 191 = .ok (.istore 6, 2)) ∧ (decode cX11_begin 193 = .ok (.iinc 7 1, 3)) ∧ (decode cX11_begin 196 = .ok (.goto (-88), 3)) ∧ (decode cX11_begin 199 = .ok (.iload 6, 2)) ∧ (decode cX11_begin 201 = .ok (.ifCond .ne 17, 3)) ∧ (decode cX11_begin 204 = .ok (.iload 5, 2)) := by decide +kernel
theorem dX11_begin_181 : decode cX11_begin 181 = .ok (.iaload, 1) := dG_dX11_begin_181.1
theorem dX11_begin_182 : decode cX11_begin 182 = .ok (.iconst 1, 1) := dG_dX11_begin_181.2.1
theorem dX11_begin_183 : decode cX11_begin 183 = .ok (.if_icmp .ne 7, 3) := dG_dX11_begin_181.2.2.1
theorem dX11_begin_186 : decode cX11_begin 186 = .ok (.iconst 1, 1) := dG_dX11_begin_181.2.2.2.1
theorem dX11_begin_187 : decode cX11_begin 187 = .ok (.goto 4, 3) := dG_dX11_begin_181.2.2.2.2.1
theorem dX11_begin_190 : decode cX11_begin 190 = .ok (.iconst 0, 1) := dG_dX11_begin_181.2.2.2.2.2.1
theorem dX11_begin_191 : decode cX11_begin 191 = .ok (.istore 6, 2) := dG_dX11_begin_181.2.2.2.2.2.2.1
theorem dX11_begin_193 : decode cX11_begin 193 = .ok (.iinc 7 1, 3) := dG_dX11_begin_181.2.2.2.2.2.2.2.1
theorem dX11_begin_196 : decode cX11_begin 196 = .ok (.goto (-88), 3) := dG_dX11_begin_181.2.2.2.2.2.2.2.2.1
theorem dX11_begin_199 : decode cX11_begin 199 = .ok (.iload 6, 2) := dG_dX11_begin_181.2.2.2.2.2.2.2.2.2.1
theorem dX11_begin_201 : decode cX11_begin 201 = .ok (.ifCond .ne 17, 3) := dG_dX11_begin_181.2.2.2.2.2.2.2.2.2.2.1
theorem dX11_begin_204 : decode cX11_begin 204 = .ok (.iload 5, 2) := dG_dX11_begin_181.2.2.2.2.2.2.2.2.2.2.2
theorem dG_dX11_begin_206 : (decode cX11_begin 206 = .ok (.aload_n 0, 1)) ∧ (decode cX11_begin 207 = .ok (.getfield 24, 3)) ∧ (decode cX11_begin 210 = .ok (.aload_n 0, 1)) ∧ (decode cX11_begin 211 = .ok (.getfield 82, 3)) ∧ (decode cX11_begin 214 = .ok (.iaload, 1)) ∧ (decode cX11_begin 215 = .ok (.if_icmp .lt 10, 3)) ∧ (decode cX11_begin 218 = .ok (.aload_n 0, 1)) ∧ (decode cX11_begin 219 = .ok (.bipush 6, 2)) ∧ (decode cX11_begin 221 = .ok (.invokevirtual 295, 3)) ∧ (decode cX11_begin 224 = .ok (.ireturn, 1)) ∧ (decode cX11_begin 225 = .ok (.aload_n 0, 1)) ∧ (decode cX11_begin 226 = .ok (.getfield 319, 3)) := by decide +kernel
theorem dX11_begin_206 : decode cX11_begin 206 = .ok (.aload_n 0, 1) := dG_dX11_begin_206.1
theorem dX11_begin_207 : decode cX11_begin 207 = .ok (.getfield 24, 3) := dG_dX11_begin_206.2.1
theorem dX11_begin_210 : decode cX11_begin 210 = .ok (.aload_n 0, 1) := dG_dX11_begin_206.2.2.1
theorem dX11_begin_211 : decode cX11_begin 211 = .ok (.getfield 82, 3) := dG_dX11_begin_206.2.2.2.1
theorem dX11_begin_214 : decode cX11_begin 214 = .ok (.iaload, 1) := dG_dX11_begin_206.2.2.2.2.1
theorem dX11_begin_215 : decode cX11_begin 215 = .ok (.if_icmp .lt 10, 3) := dG_dX11_begin_206.2.2.2.2.2.1
theorem dX11_begin_218 : decode cX11_begin 218 = .ok (.aload_n 0, 1) := dG_dX11_begin_206.2.2.2.2.2.2.1
theorem dX11_begin_219 : decode cX11_begin 219 = .ok (.bipush 6, 2) := dG_dX11_begin_206.2.2.2.2.2.2.2.1
theorem dX11_begin_221 : decode cX11_begin 221 = .ok (.invokevirtual 295, 3) := dG_dX11_begin_206.2.2.2.2.2.2.2.2.1
theorem dX11_begin_224 : decode cX11_begin 224 = .ok (.ireturn, 1) := dG_dX11_begin_206.2.2.2.2.2.2.2.2.2.1
theorem dX11_begin_225 : decode cX11_begin 225 = .ok (.aload_n 0, 1) := dG_dX11_begin_206.2.2.2.2.2.2.2.2.2.2.1
theorem dX11_begin_226 : decode cX11_begin 226 = .ok (.getfield 319, 3) := dG_dX11_begin_206.2.2.2.2.2.2.2.2.2.2.2
theorem dG_dX11_begin_229 : (decode cX11_begin 229 = .ok (.sipush 300, 3)) ∧ (decode cX11_begin 232 = .ok (.if_icmp .ne 9, 3)) ∧ (decode cX11_begin 235 = .ok (.aload_n 0, 1)) ∧ (decode cX11_begin 236 = .ok (.iconst 3, 1)) ∧ (decode cX11_begin 237 = .ok (.invokevirtual 295, 3)) ∧ (decode cX11_begin 240 = .ok (.ireturn, 1)) ∧ (decode cX11_begin 241 = .ok (.aload_n 0, 1)) ∧ (decode cX11_begin 242 = .ok (.iload_n 1, 1)) ∧ (decode cX11_begin 243 = .ok (.iload_n 2, 1)) ∧ (decode cX11_begin 244 = .ok (.invokevirtual 358, 3)) ∧ (decode cX11_begin 247 = .ok (.ifCond .eq 10, 3)) ∧ (decode cX11_begin 250 = .ok (.aload_n 0, 1)) := by decide +kernel
theorem dX11_begin_229 : decode cX11_begin 229 = .ok (.sipush 300, 3) := dG_dX11_begin_229.1
theorem dX11_begin_232 : decode cX11_begin 232 = .ok (.if_icmp .ne 9, 3) := dG_dX11_begin_229.2.1
theorem dX11_begin_235 : decode cX11_begin 235 = .ok (.aload_n 0, 1) := dG_dX11_begin_229.2.2.1
theorem dX11_begin_236 : decode cX11_begin 236 = .ok (.iconst 3, 1) := dG_dX11_begin_229.2.2.2.1
theorem dX11_begin_237 : decode cX11_begin 237 = .ok (.invokevirtual 295, 3) := dG_dX11_begin_229.2.2.2.2.1
theorem dX11_begin_240 : decode cX11_begin 240 = .ok (.ireturn, 1) := dG_dX11_begin_229.2.2.2.2.2.1
theorem dX11_begin_241 : decode cX11_begin 241 = .ok (.aload_n 0, 1) := dG_dX11_begin_229.2.2.2.2.2.2.1
theorem dX11_begin_242 : decode cX11_begin 242 = .ok (.iload_n 1, 1) := dG_dX11_begin_229.2.2.2.2.2.2.2.1
theorem dX11_begin_243 : decode cX11_begin 243 = .ok (.iload_n 2, 1) := dG_dX11_begin_229.2.2.2.2.2.2.2.2.1
theorem dX11_begin_244 : decode cX11_begin 244 = .ok (.invokevirtual 358, 3) := dG_dX11_begin_229.2.2.2.2.2.2.2.2.2.1
theorem dX11_begin_247 : decode cX11_begin 247 = .ok (.ifCond .eq 10, 3) := dG_dX11_begin_229.2.2.2.2.2.2.2.2.2.2.1
theorem dX11_begin_250 : decode cX11_begin 250 = .ok (.aload_n 0, 1) := dG_dX11_begin_229.2.2.2.2.2.2.2.2.2.2.2
theorem dG_dX11_begin_251 : (decode cX11_begin 251 = .ok (.bipush 7, 2)) ∧ (decode cX11_begin 253 = .ok (.invokevirtual 295, 3)) ∧ (decode cX11_begin 256 = .ok (.ireturn, 1)) ∧ (decode cX11_begin 257 = .ok (.iload_n 3, 1)) ∧ (decode cX11_begin 258 = .ok (.aload_n 0, 1)) ∧ (decode cX11_begin 259 = .ok (.iload_n 1, 1)) ∧ (decode cX11_begin 260 = .ok (.invokevirtual 361, 3)) ∧ (decode cX11_begin 263 = .ok (.if_icmp .ge 10, 3)) ∧ (decode cX11_begin 266 = .ok (.aload_n 0, 1)) ∧ (decode cX11_begin 267 = .ok (.bipush 8, 2)) ∧ (decode cX11_begin 269 = .ok (.invokevirtual 295, 3)) ∧ (decode cX11_begin 272 = .ok (.ireturn, 1)) := by decide +kernel
theorem dX11_begin_251 : decode cX11_begin 251 = .ok (.bipush 7, 2) := dG_dX11_begin_251.1
theorem dX11_begin_253 : decode cX11_begin 253 = .ok (.invokevirtual 295, 3) := dG_dX11_begin_251.2.1
theorem dX11_begin_256 : decode cX11_begin 256 = .ok (.ireturn, 1) := dG_dX11_begin_251.2.2.1
theorem dX11_begin_257 : decode cX11_begin 257 = .ok (.iload_n 3, 1) := dG_dX11_begin_251.2.2.2.1
theorem dX11_begin_258 : decode cX11_begin 258 = .ok (.aload_n 0, 1) := dG_dX11_begin_251.2.2.2.2.1
theorem dX11_begin_259 : decode cX11_begin 259 = .ok (.iload_n 1, 1) := dG_dX11_begin_251.2.2.2.2.2.1
theorem dX11_begin_260 : decode cX11_begin 260 = .ok (.invokevirtual 361, 3) := dG_dX11_begin_251.2.2.2.2.2.2.1
theorem dX11_begin_263 : decode cX11_begin 263 = .ok (.if_icmp .ge 10, 3) := dG_dX11_begin_251.2.2.2.2.2.2.2.1
theorem dX11_begin_266 : decode cX11_begin 266 = .ok (.aload_n 0, 1) := dG_dX11_begin_251.2.2.2.2.2.2.2.2.1
theorem dX11_begin_267 : decode cX11_begin 267 = .ok (.bipush 8, 2) := dG_dX11_begin_251.2.2.2.2.2.2.2.2.2.1
theorem dX11_begin_269 : decode cX11_begin 269 = .ok (.invokevirtual 295, 3) := dG_dX11_begin_251.2.2.2.2.2.2.2.2.2.2.1
theorem dX11_begin_272 : decode cX11_begin 272 = .ok (.ireturn, 1) := dG_dX11_begin_251.2.2.2.2.2.2.2.2.2.2.2
theorem dG_dX11_begin_273 : (decode cX11_begin 273 = .ok (.aload_n 0, 1)) ∧ (decode cX11_begin 274 = .ok (.getfield 94, 3)) ∧ (decode cX11_begin 277 = .ok (.aload_n 0, 1)) ∧ (decode cX11_begin 278 = .ok (.getfield 319, 3)) ∧ (decode cX11_begin 281 = .ok (.iload_n 1, 1)) ∧ (decode cX11_begin 282 = .ok (.iastore, 1)) ∧ (decode cX11_begin 283 = .ok (.aload_n 0, 1)) ∧ (decode cX11_begin 284 = .ok (.getfield 97, 3)) ∧ (decode cX11_begin 287 = .ok (.aload_n 0, 1)) ∧ (decode cX11_begin 288 = .ok (.getfield 319, 3)) ∧ (decode cX11_begin 291 = .ok (.aload_n 0, 1)) ∧ (decode cX11_begin 292 = .ok (.getfield 82, 3)) := by decide +kernel
theorem dX11_begin_273 : decode cX11_begin 273 = .ok (.aload_n 0, 1) := dG_dX11_begin_273.1
theorem dX11_begin_274 : decode cX11_begin 274 = .ok (.getfield 94, 3) := dG_dX11_begin_273.2.1
theorem dX11_begin_277 : decode cX11_begin 277 = .ok (.aload_n 0, 1) := dG_dX11_begin_273.2.2.1
theorem dX11_begin_278 : decode cX11_begin 278 = .ok (.getfield 319, 3) := dG_dX11_begin_273.2.2.2.1
theorem dX11_begin_281 : decode cX11_begin 281 = .ok (.iload_n 1, 1) := dG_dX11_begin_273.2.2.2.2.1
theorem dX11_begin_282 : decode cX11_begin 282 = .ok (.iastore, 1) := dG_dX11_begin_273.2.2.2.2.2.1
theorem dX11_begin_283 : decode cX11_begin 283 = .ok (.aload_n 0, 1) := dG_dX11_begin_273.2.2.2.2.2.2.1
theorem dX11_begin_284 : decode cX11_begin 284 = .ok (.getfield 97, 3) := dG_dX11_begin_273.2.2.2.2.2.2.2.1
theorem dX11_begin_287 : decode cX11_begin 287 = .ok (.aload_n 0, 1) := dG_dX11_begin_273.2.2.2.2.2.2.2.2.1
theorem dX11_begin_288 : decode cX11_begin 288 = .ok (.getfield 319, 3) := dG_dX11_begin_273.2.2.2.2.2.2.2.2.2.1
theorem dX11_begin_291 : decode cX11_begin 291 = .ok (.aload_n 0, 1) := dG_dX11_begin_273.2.2.2.2.2.2.2.2.2.2.1
theorem dX11_begin_292 : decode cX11_begin 292 = .ok (.getfield 82, 3) := dG_dX11_begin_273.2.2.2.2.2.2.2.2.2.2.2
theorem dG_dX11_begin_295 : (decode cX11_begin 295 = .ok (.iastore, 1)) ∧ (decode cX11_begin 296 = .ok (.aload_n 0, 1)) ∧ (decode cX11_begin 297 = .ok (.getfield 100, 3)) ∧ (decode cX11_begin 300 = .ok (.aload_n 0, 1)) ∧ (decode cX11_begin 301 = .ok (.getfield 319, 3)) ∧ (decode cX11_begin 304 = .ok (.iload_n 2, 1)) ∧ (decode cX11_begin 305 = .ok (.iastore, 1)) ∧ (decode cX11_begin 306 = .ok (.aload_n 0, 1)) ∧ (decode cX11_begin 307 = .ok (.getfield 103, 3)) ∧ (decode cX11_begin 310 = .ok (.aload_n 0, 1)) ∧ (decode cX11_begin 311 = .ok (.getfield 319, 3)) ∧ (decode cX11_begin 314 = .ok (.iload_n 3, 1)) := by decide +kernel
theorem dX11_begin_295 : decode cX11_begin 295 = .ok (.iastore, 1) := dG_dX11_begin_295.1
theorem dX11_begin_296 : decode cX11_begin 296 = .ok (.aload_n 0, 1) := dG_dX11_begin_295.2.1
theorem dX11_begin_297 : decode cX11_begin 297 = .ok (.getfield 100, 3) := dG_dX11_begin_295.2.2.1
theorem dX11_begin_300 : decode cX11_begin 300 = .ok (.aload_n 0, 1) := dG_dX11_begin_295.2.2.2.1
theorem dX11_begin_301 : decode cX11_begin 301 = .ok (.getfield 319, 3) := dG_dX11_begin_295.2.2.2.2.1
theorem dX11_begin_304 : decode cX11_begin 304 = .ok (.iload_n 2, 1) := dG_dX11_begin_295.2.2.2.2.2.1
theorem dX11_begin_305 : decode cX11_begin 305 = .ok (.iastore, 1) := dG_dX11_begin_295.2.2.2.2.2.2.1
theorem dX11_begin_306 : decode cX11_begin 306 = .ok (.aload_n 0, 1) := dG_dX11_begin_295.2.2.2.2.2.2.2.1
theorem dX11_begin_307 : decode cX11_begin 307 = .ok (.getfield 103, 3) := dG_dX11_begin_295.2.2.2.2.2.2.2.2.1
theorem dX11_begin_310 : decode cX11_begin 310 = .ok (.aload_n 0, 1) := dG_dX11_begin_295.2.2.2.2.2.2.2.2.2.1
theorem dX11_begin_311 : decode cX11_begin 311 = .ok (.getfield 319, 3) := dG_dX11_begin_295.2.2.2.2.2.2.2.2.2.2.1
theorem dX11_begin_314 : decode cX11_begin 314 = .ok (.iload_n 3, 1) := dG_dX11_begin_295.2.2.2.2.2.2.2.2.2.2.2
theorem dG_dX11_begin_315 : (decode cX11_begin 315 = .ok (.iastore, 1)) ∧ (decode cX11_begin 316 = .ok (.aload_n 0, 1)) ∧ (decode cX11_begin 317 = .ok (.getfield 106, 3)) ∧ (decode cX11_begin 320 = .ok (.aload_n 0, 1)) ∧ (decode cX11_begin 321 = .ok (.getfield 319, 3)) ∧ (decode cX11_begin 324 = .ok (.iconst (-1), 1)) ∧ (decode cX11_begin 325 = .ok (.iastore, 1)) ∧ (decode cX11_begin 326 = .ok (.aload_n 0, 1)) ∧ (decode cX11_begin 327 = .ok (.getfield 109, 3)) ∧ (decode cX11_begin 330 = .ok (.aload_n 0, 1)) ∧ (decode cX11_begin 331 = .ok (.getfield 319, 3)) ∧ (decode cX11_begin 334 = .ok (.iconst 0, 1)) := by decide +kernel
theorem dX11_begin_315 : decode cX11_begin 315 = .ok (.iastore, 1) := dG_dX11_begin_315.1
theorem dX11_begin_316 : decode cX11_begin 316 = .ok (.aload_n 0, 1) := dG_dX11_begin_315.2.1
theorem dX11_begin_317 : decode cX11_begin 317 = .ok (.getfield 106, 3) := dG_dX11_begin_315.2.2.1
theorem dX11_begin_320 : decode cX11_begin 320 = .ok (.aload_n 0, 1) := dG_dX11_begin_315.2.2.2.1
theorem dX11_begin_321 : decode cX11_begin 321 = .ok (.getfield 319, 3) := dG_dX11_begin_315.2.2.2.2.1
theorem dX11_begin_324 : decode cX11_begin 324 = .ok (.iconst (-1), 1) := dG_dX11_begin_315.2.2.2.2.2.1
theorem dX11_begin_325 : decode cX11_begin 325 = .ok (.iastore, 1) := dG_dX11_begin_315.2.2.2.2.2.2.1
theorem dX11_begin_326 : decode cX11_begin 326 = .ok (.aload_n 0, 1) := dG_dX11_begin_315.2.2.2.2.2.2.2.1
theorem dX11_begin_327 : decode cX11_begin 327 = .ok (.getfield 109, 3) := dG_dX11_begin_315.2.2.2.2.2.2.2.2.1
theorem dX11_begin_330 : decode cX11_begin 330 = .ok (.aload_n 0, 1) := dG_dX11_begin_315.2.2.2.2.2.2.2.2.2.1
theorem dX11_begin_331 : decode cX11_begin 331 = .ok (.getfield 319, 3) := dG_dX11_begin_315.2.2.2.2.2.2.2.2.2.2.1
theorem dX11_begin_334 : decode cX11_begin 334 = .ok (.iconst 0, 1) := dG_dX11_begin_315.2.2.2.2.2.2.2.2.2.2.2
theorem dG_dX11_begin_335 : (decode cX11_begin 335 = .ok (.iastore, 1)) ∧ (decode cX11_begin 336 = .ok (.aload_n 0, 1)) ∧ (decode cX11_begin 337 = .ok (.getfield 112, 3)) ∧ (decode cX11_begin 340 = .ok (.aload_n 0, 1)) ∧ (decode cX11_begin 341 = .ok (.getfield 319, 3)) ∧ (decode cX11_begin 344 = .ok (.iconst 0, 1)) ∧ (decode cX11_begin 345 = .ok (.iastore, 1)) ∧ (decode cX11_begin 346 = .ok (.aload_n 0, 1)) ∧ (decode cX11_begin 347 = .ok (.getfield 79, 3)) ∧ (decode cX11_begin 350 = .ok (.aload_n 0, 1)) ∧ (decode cX11_begin 351 = .ok (.getfield 82, 3)) ∧ (decode cX11_begin 354 = .ok (.iload_n 2, 1)) := by decide +kernel
theorem dX11_begin_335 : decode cX11_begin 335 = .ok (.iastore, 1) := dG_dX11_begin_335.1
theorem dX11_begin_336 : decode cX11_begin 336 = .ok (.aload_n 0, 1) := dG_dX11_begin_335.2.1
theorem dX11_begin_337 : decode cX11_begin 337 = .ok (.getfield 112, 3) := dG_dX11_begin_335.2.2.1
theorem dX11_begin_340 : decode cX11_begin 340 = .ok (.aload_n 0, 1) := dG_dX11_begin_335.2.2.2.1
theorem dX11_begin_341 : decode cX11_begin 341 = .ok (.getfield 319, 3) := dG_dX11_begin_335.2.2.2.2.1
theorem dX11_begin_344 : decode cX11_begin 344 = .ok (.iconst 0, 1) := dG_dX11_begin_335.2.2.2.2.2.1
theorem dX11_begin_345 : decode cX11_begin 345 = .ok (.iastore, 1) := dG_dX11_begin_335.2.2.2.2.2.2.1
theorem dX11_begin_346 : decode cX11_begin 346 = .ok (.aload_n 0, 1) := dG_dX11_begin_335.2.2.2.2.2.2.2.1
theorem dX11_begin_347 : decode cX11_begin 347 = .ok (.getfield 79, 3) := dG_dX11_begin_335.2.2.2.2.2.2.2.2.1
theorem dX11_begin_350 : decode cX11_begin 350 = .ok (.aload_n 0, 1) := dG_dX11_begin_335.2.2.2.2.2.2.2.2.2.1
theorem dX11_begin_351 : decode cX11_begin 351 = .ok (.getfield 82, 3) := dG_dX11_begin_335.2.2.2.2.2.2.2.2.2.2.1
theorem dX11_begin_354 : decode cX11_begin 354 = .ok (.iload_n 2, 1) := dG_dX11_begin_335.2.2.2.2.2.2.2.2.2.2.2
theorem dG_dX11_begin_355 : (decode cX11_begin 355 = .ok (.invokestatic 335, 3)) ∧ (decode cX11_begin 358 = .ok (.dup2, 1)) ∧ (decode cX11_begin 359 = .ok (.iaload, 1)) ∧ (decode cX11_begin 360 = .ok (.iconst 1, 1)) ∧ (decode cX11_begin 361 = .ok (.iadd, 1)) ∧ (decode cX11_begin 362 = .ok (.iastore, 1)) ∧ (decode cX11_begin 363 = .ok (.aload_n 0, 1)) ∧ (decode cX11_begin 364 = .ok (.dup, 1)) ∧ (decode cX11_begin 365 = .ok (.getfield 319, 3)) ∧ (decode cX11_begin 368 = .ok (.iconst 1, 1)) ∧ (decode cX11_begin 369 = .ok (.iadd, 1)) ∧ (decode cX11_begin 370 = .ok (.putfield 319, 3)) := by decide +kernel
theorem dX11_begin_355 : decode cX11_begin 355 = .ok (.invokestatic 335, 3) := dG_dX11_begin_355.1
theorem dX11_begin_358 : decode cX11_begin 358 = .ok (.dup2, 1) := dG_dX11_begin_355.2.1
theorem dX11_begin_359 : decode cX11_begin 359 = .ok (.iaload, 1) := dG_dX11_begin_355.2.2.1
theorem dX11_begin_360 : decode cX11_begin 360 = .ok (.iconst 1, 1) := dG_dX11_begin_355.2.2.2.1
theorem dX11_begin_361 : decode cX11_begin 361 = .ok (.iadd, 1) := dG_dX11_begin_355.2.2.2.2.1
theorem dX11_begin_362 : decode cX11_begin 362 = .ok (.iastore, 1) := dG_dX11_begin_355.2.2.2.2.2.1
theorem dX11_begin_363 : decode cX11_begin 363 = .ok (.aload_n 0, 1) := dG_dX11_begin_355.2.2.2.2.2.2.1
theorem dX11_begin_364 : decode cX11_begin 364 = .ok (.dup, 1) := dG_dX11_begin_355.2.2.2.2.2.2.2.1
theorem dX11_begin_365 : decode cX11_begin 365 = .ok (.getfield 319, 3) := dG_dX11_begin_355.2.2.2.2.2.2.2.2.1
theorem dX11_begin_368 : decode cX11_begin 368 = .ok (.iconst 1, 1) := dG_dX11_begin_355.2.2.2.2.2.2.2.2.2.1
theorem dX11_begin_369 : decode cX11_begin 369 = .ok (.iadd, 1) := dG_dX11_begin_355.2.2.2.2.2.2.2.2.2.2.1
theorem dX11_begin_370 : decode cX11_begin 370 = .ok (.putfield 319, 3) := dG_dX11_begin_355.2.2.2.2.2.2.2.2.2.2.2
theorem dG_dX11_begin_373 : (decode cX11_begin 373 = .ok (.aload_n 0, 1)) ∧ (decode cX11_begin 374 = .ok (.getfield 319, 3)) ∧ (decode cX11_begin 377 = .ok (.iconst 1, 1)) ∧ (decode cX11_begin 378 = .ok (.isub, 1)) ∧ (decode cX11_begin 379 = .ok (.ireturn, 1)) := by decide +kernel
theorem dX11_begin_373 : decode cX11_begin 373 = .ok (.aload_n 0, 1) := dG_dX11_begin_373.1
theorem dX11_begin_374 : decode cX11_begin 374 = .ok (.getfield 319, 3) := dG_dX11_begin_373.2.1
theorem dX11_begin_377 : decode cX11_begin 377 = .ok (.iconst 1, 1) := dG_dX11_begin_373.2.2.1
theorem dX11_begin_378 : decode cX11_begin 378 = .ok (.isub, 1) := dG_dX11_begin_373.2.2.2.1
theorem dX11_begin_379 : decode cX11_begin 379 = .ok (.ireturn, 1) := dG_dX11_begin_373.2.2.2.2
end

section
set_option maxHeartbeats 4000000 in
set_option maxRecDepth 100000 in
theorem y_climber (l : Launch) (D : va_G) (k : Nat → ClassId) (A : Nat → Prop) (ad : Nat → Nat) (hD : mdD A k ad) (v : gV) (f g : gF) : GM l D k A (mdT k ad) yX11_climber cX11_climber 1 (some .int) 1 21 [.ref (ad 0)] v f g (fun r v1 f1 g1 => ∃ (z : Int) (w0 : Int) (a22_ : Int → Int), r = some (.int (iI z)) ∧ (va_up (va_up (va_up (va_up v 0 w0) 1 0) 22 (if w0 = 0 then (v 22) + 1 else (v 22))) 23 (if w0 = 0 then 0 else (v 23))) = v1 ∧ (va_up (va_up (va_up (va_up f 21 (if w0 = 0 then u1 (f 21) (v 22) 1 else (f 21))) 22 a22_) 23 (if w0 = 0 then u1 (f 23) 0 ((v 22) + 1) else (f 23))) 34 (if w0 = 0 then u1 (f 34) (v 22) 0 else (f 34))) = f1 ∧ g = g1 ∧ (z = (if w0 = 0 then (v 22) else (-1))) ∧ (w0 = (if (v 12) = 0 then 1 else if 16 ≤ (v 22) then 3 else if 0 < (v 25) ∨ 0 < (v 23) then 10 else 0))) := by
  refine GM.of (by decide) (Nat.le_of_ble_eq_true rfl) ?_
  intro p e s m args below meth c Q ls hQ C hml hr hlocks hP hl
  have hx := C.1
  have hb := C.2.1
  have hok := hP.2
  have hS : va_S A s.heap s.heap [] := va_S.rf
  have hl : lv_has ls 1 [(0, .ref (ad 0))] := hl
  have hP : gWd D (mdT k ad) (va_up (va_up (va_up (va_up v 0 (v 0)) 1 (v 1)) 22 (v 22)) 23 (v 23)) (va_up (va_up (va_up (va_up f 21 (f 21)) 22 (f 22)) 23 (f 23)) 34 (f 34)) g s.heap := by rw [va_id, va_id, va_id, va_id, va_id, va_id, va_id, va_id]; exact hP
  have r_1 : 0 ≤ (v 22) ∧ (v 22) ≤ 16 := hok.1 22
  refine lv_aload_n hx hb dX11_climber_0 rfl (lv_at hl 0 rfl) ?_
  refine lv_iconst (v := iI 0) hx hb dX11_climber_1 rfl ?_
  refine mdP_thrown (v1 := (va_up (va_up (va_up (va_up v 0 (v 0)) 1 0) 22 (v 22)) 23 (v 23))) C hP hD hS mF_X11_146 (by decide) rfl (Or.inr (gF_up (V := mdV) (F := mdF) (gF_up (V := mdV) (F := mdF) (gF_up (V := mdV) (F := mdF) (gF_up (V := mdV) (F := mdF) (gR_up (V := mdV) (F := mdF) (gR_up (V := mdV) (F := mdF) (gR_up (V := mdV) (F := mdF) (gR_up (V := mdV) (F := mdF) ⟨hok.1, hok.2⟩ 0 (hP.2.1 0)) 1 (show 0 ≤ 0 ∧ 0 ≤ 0 from by decide)) 22 (hP.2.1 22)) 23 (hP.2.1 23)) 21 (hP.2.2 21)) 22 (hP.2.2 22)) 23 (hP.2.2 23)) 34 (hP.2.2 34))) dX11_climber_2 (fun H locs hP hS => ?_)
  refine lv_aload_n hx hb dX11_climber_5 rfl (lv_at hl 0 rfl) ?_
  refine lv_iconst (v := iI 0) hx hb dX11_climber_6 rfl ?_
  refine mdP_status (v1 := (va_up (va_up (va_up (va_up v 0 0) 1 0) 22 (v 22)) 23 (v 23))) C hP hD hS mF_X11_149 (by decide) rfl (Or.inr (gF_up (V := mdV) (F := mdF) (gF_up (V := mdV) (F := mdF) (gF_up (V := mdV) (F := mdF) (gF_up (V := mdV) (F := mdF) (gR_up (V := mdV) (F := mdF) (gR_up (V := mdV) (F := mdF) (gR_up (V := mdV) (F := mdF) (gR_up (V := mdV) (F := mdF) ⟨hok.1, hok.2⟩ 0 (show 0 ≤ 0 ∧ 0 ≤ 10 from by decide)) 1 (hP.2.1 1)) 22 (hP.2.1 22)) 23 (hP.2.1 23)) 21 (hP.2.2 21)) 22 (hP.2.2 22)) 23 (hP.2.2 23)) 34 (hP.2.2 34))) dX11_climber_7 (fun H locs hP hS => ?_)
  refine lv_aload_n hx hb dX11_climber_10 rfl (lv_at hl 0 rfl) ?_
  refine mdG_rounds C hP mF_X11_301 dX11_climber_11 ?_
  show W p l e (gRm 1 21) s m args below meth c _ _ 0 0 Q (F0 m 14 ls [.int (iI (v 12))])
  have r_2 : 0 ≤ (v 12) ∧ (v 12) ≤ 4 := hok.1 12
  refine gi_zne (tgt := 23) hx hb dX11_climber_14 (by decide) (by omega) (fun c_3 => ?_) (fun c_3 => ?_)
  · refine lv_aload_n hx hb dX11_climber_23 rfl (lv_at hl 0 rfl) ?_
    refine mdG_climbers C hP mF_X11_313 dX11_climber_24 ?_
    show W p l e (gRm 1 21) s m args below meth c _ _ 0 0 Q (F0 m 27 ls [.int (iI (v 22))])
    refine lv_bipush (v := iI 16) hx hb dX11_climber_27 (by decide) ?_
    refine gi_cne (tgt := 38) hx hb dX11_climber_29 (by decide) (by omega) (by decide) (fun c_4 => ?_) (fun c_4 => ?_)
    · refine lv_aload_n hx hb dX11_climber_38 rfl (lv_at hl 0 rfl) ?_
      refine mdG_tried C hP mF_X11_319 dX11_climber_39 ?_
      show W p l e (gRm 1 21) s m args below meth c _ _ 0 0 Q (F0 m 42 ls [.int (iI (v 25))])
      have r_5 : 0 ≤ (v 25) ∧ (v 25) ≤ 300 := hok.1 25
      refine gi_zgt (tgt := 52) hx hb dX11_climber_42 (by decide) (by omega) (fun c_6 => ?_) (fun c_6 => ?_)
      · refine lv_aload_n hx hb dX11_climber_52 rfl (lv_at hl 0 rfl) ?_
        refine lv_bipush (v := iI 10) hx hb dX11_climber_53 (by decide) ?_
        refine g_cv (As := [.int (iI 10)]) (rest := []) (n := 1) C hml (m_X11_refuse l D k A ad hD (va_up (va_up (va_up (va_up v 0 0) 1 0) 22 (v 22)) 23 (v 23)) (va_up (va_up (va_up (va_up f 21 (f 21)) 22 (f 22)) 23 (f 23)) 34 (f 34)) g 10 (by decide) (show 0 ≤ (10 : Int) ∧ (10 : Int) ≤ 10 from by omega)) mM_X11_295 mI_X11_refuse mE_X11_refuse mN_X11 mC_X11_refuse (by decide +kernel) 0 (ci := 11) rfl rfl hP hS (fun _ h => h) ⟨Nat.le_of_ble_eq_true rfl, Nat.le_of_ble_eq_true rfl⟩ ⟨Nat.zero_le _, Nat.zero_le _⟩ hl.1 rfl rfl (Nat.le_of_ble_eq_true rfl) dX11_climber_55 (fun r_7 v_7 f_7 g_7 H locs hq_7 hP _ hS => ?_)
        obtain ⟨rfl, rfl, rfl, rfl⟩ := hq_7
        show W p l e (gRm 1 21) s m args below meth c _ _ 0 0 Q (F0 m 58 ls [.int (iI (-1))])
        have hP : gWd D (mdT k ad) (va_up (va_up (va_up (va_up v 0 (10 : Int)) 1 0) 22 (v 22)) 23 (v 23)) (va_up (va_up (va_up (va_up f 21 (f 21)) 22 (f 22)) 23 (f 23)) 34 (f 34)) g H := ⟨hP.1, (gF_up (V := mdV) (F := mdF) (gF_up (V := mdV) (F := mdF) (gF_up (V := mdV) (F := mdF) (gF_up (V := mdV) (F := mdF) (gR_up (V := mdV) (F := mdF) (gR_up (V := mdV) (F := mdF) (gR_up (V := mdV) (F := mdF) (gR_up (V := mdV) (F := mdF) ⟨hok.1, hok.2⟩ 0 (hP.2.1 0)) 1 (hP.2.1 1)) 22 (hP.2.1 22)) 23 (hP.2.1 23)) 21 (hP.2.2 21)) 22 (hP.2.2 22)) 23 (hP.2.2 23)) 34 (hP.2.2 34))⟩
        exact g_iret hQ C hr hlocks hP hS dX11_climber_58 ⟨(-1), (10 : Int), (f 22), rfl, (by rw [show ((if (10 : Int) = 0 then (v 22) + 1 else (v 22)) : Int) = (v 22) from by first | rfl | omega | ((repeat' split) <;> omega), show ((if (10 : Int) = 0 then 0 else (v 23)) : Int) = (v 23) from by first | rfl | omega | ((repeat' split) <;> omega)]), (by rw [show ((if (10 : Int) = 0 then u1 (f 21) (v 22) 1 else (f 21)) : Int → Int) = (f 21) from by first | rfl | (rw [if_pos (by omega)]; done) | (rw [if_neg (by omega)]; done) | (rw [if_neg (by omega), if_pos (by omega)]; done) | (rw [if_neg (by omega), if_neg (by omega)]; done), show ((if (10 : Int) = 0 then u1 (f 23) 0 ((v 22) + 1) else (f 23)) : Int → Int) = (f 23) from by first | rfl | (rw [if_pos (by omega)]; done) | (rw [if_neg (by omega)]; done) | (rw [if_neg (by omega), if_pos (by omega)]; done) | (rw [if_neg (by omega), if_neg (by omega)]; done), show ((if (10 : Int) = 0 then u1 (f 34) (v 22) 0 else (f 34)) : Int → Int) = (f 34) from by first | rfl | (rw [if_pos (by omega)]; done) | (rw [if_neg (by omega)]; done) | (rw [if_neg (by omega), if_pos (by omega)]; done) | (rw [if_neg (by omega), if_neg (by omega)]; done)]), rfl, (by first | omega | ((repeat' split) <;> omega)), (by first | omega | ((repeat' split) <;> omega))⟩
      · refine lv_aload_n hx hb dX11_climber_45 rfl (lv_at hl 0 rfl) ?_
        refine mdG_open C hP mF_X11_82 dX11_climber_46 ?_
        show W p l e (gRm 1 21) s m args below meth c _ _ 0 0 Q (F0 m 49 ls [.int (iI (v 23))])
        have r_8 : (-1) ≤ (v 23) ∧ (v 23) ≤ 3 := hok.1 23
        refine gi_zle (tgt := 59) hx hb dX11_climber_49 (by decide) (by omega) (fun c_9 => ?_) (fun c_9 => ?_)
        · refine lv_aload_n hx hb dX11_climber_59 rfl (lv_at hl 0 rfl) ?_
          refine mdG_isIn C hP mF_X11_85 dX11_climber_60 ?_
          refine lv_aload_n hx hb dX11_climber_63 rfl (lv_at hl 0 rfl) ?_
          refine mdG_climbers C hP mF_X11_313 dX11_climber_64 ?_
          show W p l e (gRm 1 21) s m args below meth c _ _ 0 0 Q (F0 m 67 ls [.int (iI (v 22)), .ref (ad 22)])
          refine lv_iconst (v := iI 1) hx hb dX11_climber_67 rfl ?_
          refine mdS_isIn (f1 := (va_up (va_up (va_up (va_up f 21 (u1 (f 21) (v 22) 1)) 22 (f 22)) 23 (f 23)) 34 (f 34))) C hP hD hS (by omega) (by omega) (by decide) (by decide) rfl (Or.inr (gF_up (V := mdV) (F := mdF) (gF_up (V := mdV) (F := mdF) (gF_up (V := mdV) (F := mdF) (gF_up (V := mdV) (F := mdF) (gR_up (V := mdV) (F := mdF) (gR_up (V := mdV) (F := mdF) (gR_up (V := mdV) (F := mdF) (gR_up (V := mdV) (F := mdF) ⟨hok.1, hok.2⟩ 0 (hP.2.1 0)) 1 (hP.2.1 1)) 22 (hP.2.1 22)) 23 (hP.2.1 23)) 21 (u1_rng (hP.2.2 21) (show 0 ≤ 1 ∧ 1 ≤ 1 from (by decide)))) 22 (hP.2.2 22)) 23 (hP.2.2 23)) 34 (hP.2.2 34))) dX11_climber_68 (fun H locs hP hS => ?_)
          refine lv_aload_n hx hb dX11_climber_69 rfl (lv_at hl 0 rfl) ?_
          refine mdG_order C hP mF_X11_88 dX11_climber_70 ?_
          refine lv_aload_n hx hb dX11_climber_73 rfl (lv_at hl 0 rfl) ?_
          refine mdG_climbers C hP mF_X11_313 dX11_climber_74 ?_
          show W p l e (gRm 1 21) s m args below meth c _ _ 0 0 Q (F0 m 77 ls [.int (iI (v 22)), .ref (ad 23)])
          refine lv_aload_n hx hb dX11_climber_77 rfl (lv_at hl 0 rfl) ?_
          refine mdG_climbers C hP mF_X11_313 dX11_climber_78 ?_
          show W p l e (gRm 1 21) s m args below meth c _ _ 0 0 Q (F0 m 81 ls [.int (iI (v 22)), .int (iI (v 22)), .ref (ad 23)])
          refine mdS_order (f1 := (va_up (va_up (va_up (va_up f 21 (u1 (f 21) (v 22) 1)) 22 (u1 (f 22) (v 22) (v 22))) 23 (f 23)) 34 (f 34))) C hP hD hS (by omega) (by omega) (by omega) rfl (Or.inr (gF_up (V := mdV) (F := mdF) (gF_up (V := mdV) (F := mdF) (gF_up (V := mdV) (F := mdF) (gF_up (V := mdV) (F := mdF) (gR_up (V := mdV) (F := mdF) (gR_up (V := mdV) (F := mdF) (gR_up (V := mdV) (F := mdF) (gR_up (V := mdV) (F := mdF) ⟨hok.1, hok.2⟩ 0 (hP.2.1 0)) 1 (hP.2.1 1)) 22 (hP.2.1 22)) 23 (hP.2.1 23)) 21 (hP.2.2 21)) 22 (u1_rng (hP.2.2 22) (show 0 ≤ (v 22) ∧ (v 22) ≤ 15 from (by omega)))) 23 (hP.2.2 23)) 34 (hP.2.2 34))) dX11_climber_81 (fun H locs hP hS => ?_)
          refine lv_aload_n hx hb dX11_climber_82 rfl (lv_at hl 0 rfl) ?_
          refine mdG_outs C hP mF_X11_124 dX11_climber_83 ?_
          refine lv_aload_n hx hb dX11_climber_86 rfl (lv_at hl 0 rfl) ?_
          refine mdG_climbers C hP mF_X11_313 dX11_climber_87 ?_
          show W p l e (gRm 1 21) s m args below meth c _ _ 0 0 Q (F0 m 90 ls [.int (iI (v 22)), .ref (ad 35)])
          refine lv_iconst (v := iI 0) hx hb dX11_climber_90 rfl ?_
          refine mdS_outs (f1 := (va_up (va_up (va_up (va_up f 21 (u1 (f 21) (v 22) 1)) 22 (u1 (f 22) (v 22) (v 22))) 23 (f 23)) 34 (u1 (f 34) (v 22) 0))) C hP hD hS (by omega) (by omega) (by decide) rfl (Or.inr (gF_up (V := mdV) (F := mdF) (gF_up (V := mdV) (F := mdF) (gF_up (V := mdV) (F := mdF) (gF_up (V := mdV) (F := mdF) (gR_up (V := mdV) (F := mdF) (gR_up (V := mdV) (F := mdF) (gR_up (V := mdV) (F := mdF) (gR_up (V := mdV) (F := mdF) ⟨hok.1, hok.2⟩ 0 (hP.2.1 0)) 1 (hP.2.1 1)) 22 (hP.2.1 22)) 23 (hP.2.1 23)) 21 (hP.2.2 21)) 22 (hP.2.2 22)) 23 (hP.2.2 23)) 34 (u1_rng (hP.2.2 34) (show 0 ≤ 0 ∧ 0 ≤ 20 from (by decide))))) dX11_climber_91 (fun H locs hP hS => ?_)
          refine lv_aload_n hx hb dX11_climber_92 rfl (lv_at hl 0 rfl) ?_
          refine lv_dup hx hb dX11_climber_93 rfl ?_
          refine mdG_climbers C hP mF_X11_313 dX11_climber_94 ?_
          show W p l e (gRm 1 21) s m args below meth c _ _ 0 0 Q (F0 m 97 ls [.int (iI (v 22)), .ref (ad 0)])
          refine lv_iconst (v := iI 1) hx hb dX11_climber_97 rfl ?_
          refine gi_add (z := ((v 22) + 1)) hx hb dX11_climber_98 rfl ?_
          refine mdP_climbers (v1 := (va_up (va_up (va_up (va_up v 0 0) 1 0) 22 ((v 22) + 1)) 23 (v 23))) C hP hD hS mF_X11_313 (by omega) rfl (Or.inr (gF_up (V := mdV) (F := mdF) (gF_up (V := mdV) (F := mdF) (gF_up (V := mdV) (F := mdF) (gF_up (V := mdV) (F := mdF) (gR_up (V := mdV) (F := mdF) (gR_up (V := mdV) (F := mdF) (gR_up (V := mdV) (F := mdF) (gR_up (V := mdV) (F := mdF) ⟨hok.1, hok.2⟩ 0 (hP.2.1 0)) 1 (hP.2.1 1)) 22 (show 0 ≤ ((v 22) + 1) ∧ ((v 22) + 1) ≤ 16 from by omega)) 23 (hP.2.1 23)) 21 (hP.2.2 21)) 22 (hP.2.2 22)) 23 (hP.2.2 23)) 34 (hP.2.2 34))) dX11_climber_99 (fun H locs hP hS => ?_)
          refine lv_aload_n hx hb dX11_climber_102 rfl (lv_at hl 0 rfl) ?_
          refine mdG_orderMany C hP mF_X11_91 dX11_climber_103 ?_
          refine lv_iconst (v := iI 0) hx hb dX11_climber_106 rfl ?_
          refine lv_aload_n hx hb dX11_climber_107 rfl (lv_at hl 0 rfl) ?_
          refine mdG_climbers C hP mF_X11_313 dX11_climber_108 ?_
          show W p l e (gRm 1 21) s m args below meth c _ _ 0 0 Q (F0 m 111 ls [.int (iI ((v 22) + 1)), .int (iI 0), .ref (ad 24)])
          have r_10 : 0 ≤ ((v 22) + 1) ∧ ((v 22) + 1) ≤ 16 := hP.2.1 22
          refine mdS_orderMany (f1 := (va_up (va_up (va_up (va_up f 21 (u1 (f 21) (v 22) 1)) 22 (u1 (f 22) (v 22) (v 22))) 23 (u1 (f 23) 0 ((v 22) + 1))) 34 (u1 (f 34) (v 22) 0))) C hP hD hS (by decide) (by decide) (by omega) rfl (Or.inr (gF_up (V := mdV) (F := mdF) (gF_up (V := mdV) (F := mdF) (gF_up (V := mdV) (F := mdF) (gF_up (V := mdV) (F := mdF) (gR_up (V := mdV) (F := mdF) (gR_up (V := mdV) (F := mdF) (gR_up (V := mdV) (F := mdF) (gR_up (V := mdV) (F := mdF) ⟨hok.1, hok.2⟩ 0 (hP.2.1 0)) 1 (hP.2.1 1)) 22 (hP.2.1 22)) 23 (hP.2.1 23)) 21 (hP.2.2 21)) 22 (hP.2.2 22)) 23 (u1_rng (hP.2.2 23) (show 0 ≤ ((v 22) + 1) ∧ ((v 22) + 1) ≤ 16 from (by omega)))) 34 (hP.2.2 34))) dX11_climber_111 (fun H locs hP hS => ?_)
          refine lv_aload_n hx hb dX11_climber_112 rfl (lv_at hl 0 rfl) ?_
          refine lv_iconst (v := iI 0) hx hb dX11_climber_113 rfl ?_
          refine mdP_open (v1 := (va_up (va_up (va_up (va_up v 0 0) 1 0) 22 ((v 22) + 1)) 23 0)) C hP hD hS mF_X11_82 (by decide) rfl (Or.inr (gF_up (V := mdV) (F := mdF) (gF_up (V := mdV) (F := mdF) (gF_up (V := mdV) (F := mdF) (gF_up (V := mdV) (F := mdF) (gR_up (V := mdV) (F := mdF) (gR_up (V := mdV) (F := mdF) (gR_up (V := mdV) (F := mdF) (gR_up (V := mdV) (F := mdF) ⟨hok.1, hok.2⟩ 0 (hP.2.1 0)) 1 (hP.2.1 1)) 22 (hP.2.1 22)) 23 (show (-1) ≤ 0 ∧ 0 ≤ 3 from by decide)) 21 (hP.2.2 21)) 22 (hP.2.2 22)) 23 (hP.2.2 23)) 34 (hP.2.2 34))) dX11_climber_114 (fun H locs hP hS => ?_)
          refine lv_aload_n hx hb dX11_climber_117 rfl (lv_at hl 0 rfl) ?_
          refine mdG_climbers C hP mF_X11_313 dX11_climber_118 ?_
          show W p l e (gRm 1 21) s m args below meth c _ _ 0 0 Q (F0 m 121 ls [.int (iI ((v 22) + 1))])
          refine lv_iconst (v := iI 1) hx hb dX11_climber_121 rfl ?_
          refine gi_sub (z := (((v 22) + 1) - 1)) hx hb dX11_climber_122 rfl ?_
          exact g_iret hQ C hr hlocks hP hS dX11_climber_123 ⟨(((v 22) + 1) - 1), 0, (u1 (f 22) (v 22) (v 22)), rfl, (by rw [show ((if (0 : Int) = 0 then (v 22) + 1 else (v 22)) : Int) = ((v 22) + 1) from by first | rfl | omega | ((repeat' split) <;> omega), show ((if (0 : Int) = 0 then 0 else (v 23)) : Int) = 0 from by first | rfl | omega | ((repeat' split) <;> omega)]), (by rw [show ((if (0 : Int) = 0 then u1 (f 21) (v 22) 1 else (f 21)) : Int → Int) = (u1 (f 21) (v 22) 1) from by first | rfl | (rw [if_pos (by omega)]; done) | (rw [if_neg (by omega)]; done) | (rw [if_neg (by omega), if_pos (by omega)]; done) | (rw [if_neg (by omega), if_neg (by omega)]; done), show ((if (0 : Int) = 0 then u1 (f 23) 0 ((v 22) + 1) else (f 23)) : Int → Int) = (u1 (f 23) 0 ((v 22) + 1)) from by first | rfl | (rw [if_pos (by omega)]; done) | (rw [if_neg (by omega)]; done) | (rw [if_neg (by omega), if_pos (by omega)]; done) | (rw [if_neg (by omega), if_neg (by omega)]; done), show ((if (0 : Int) = 0 then u1 (f 34) (v 22) 0 else (f 34)) : Int → Int) = (u1 (f 34) (v 22) 0) from by first | rfl | (rw [if_pos (by omega)]; done) | (rw [if_neg (by omega)]; done) | (rw [if_neg (by omega), if_pos (by omega)]; done) | (rw [if_neg (by omega), if_neg (by omega)]; done)]), rfl, (by first | omega | ((repeat' split) <;> omega)), (by first | omega | ((repeat' split) <;> omega))⟩
        · refine lv_aload_n hx hb dX11_climber_52 rfl (lv_at hl 0 rfl) ?_
          refine lv_bipush (v := iI 10) hx hb dX11_climber_53 (by decide) ?_
          refine g_cv (As := [.int (iI 10)]) (rest := []) (n := 1) C hml (m_X11_refuse l D k A ad hD (va_up (va_up (va_up (va_up v 0 0) 1 0) 22 (v 22)) 23 (v 23)) (va_up (va_up (va_up (va_up f 21 (f 21)) 22 (f 22)) 23 (f 23)) 34 (f 34)) g 10 (by decide) (show 0 ≤ (10 : Int) ∧ (10 : Int) ≤ 10 from by omega)) mM_X11_295 mI_X11_refuse mE_X11_refuse mN_X11 mC_X11_refuse (by decide +kernel) 0 (ci := 11) rfl rfl hP hS (fun _ h => h) ⟨Nat.le_of_ble_eq_true rfl, Nat.le_of_ble_eq_true rfl⟩ ⟨Nat.zero_le _, Nat.zero_le _⟩ hl.1 rfl rfl (Nat.le_of_ble_eq_true rfl) dX11_climber_55 (fun r_11 v_11 f_11 g_11 H locs hq_11 hP _ hS => ?_)
          obtain ⟨rfl, rfl, rfl, rfl⟩ := hq_11
          show W p l e (gRm 1 21) s m args below meth c _ _ 0 0 Q (F0 m 58 ls [.int (iI (-1))])
          have hP : gWd D (mdT k ad) (va_up (va_up (va_up (va_up v 0 (10 : Int)) 1 0) 22 (v 22)) 23 (v 23)) (va_up (va_up (va_up (va_up f 21 (f 21)) 22 (f 22)) 23 (f 23)) 34 (f 34)) g H := ⟨hP.1, (gF_up (V := mdV) (F := mdF) (gF_up (V := mdV) (F := mdF) (gF_up (V := mdV) (F := mdF) (gF_up (V := mdV) (F := mdF) (gR_up (V := mdV) (F := mdF) (gR_up (V := mdV) (F := mdF) (gR_up (V := mdV) (F := mdF) (gR_up (V := mdV) (F := mdF) ⟨hok.1, hok.2⟩ 0 (hP.2.1 0)) 1 (hP.2.1 1)) 22 (hP.2.1 22)) 23 (hP.2.1 23)) 21 (hP.2.2 21)) 22 (hP.2.2 22)) 23 (hP.2.2 23)) 34 (hP.2.2 34))⟩
          exact g_iret hQ C hr hlocks hP hS dX11_climber_58 ⟨(-1), (10 : Int), (f 22), rfl, (by rw [show ((if (10 : Int) = 0 then (v 22) + 1 else (v 22)) : Int) = (v 22) from by first | rfl | omega | ((repeat' split) <;> omega), show ((if (10 : Int) = 0 then 0 else (v 23)) : Int) = (v 23) from by first | rfl | omega | ((repeat' split) <;> omega)]), (by rw [show ((if (10 : Int) = 0 then u1 (f 21) (v 22) 1 else (f 21)) : Int → Int) = (f 21) from by first | rfl | (rw [if_pos (by omega)]; done) | (rw [if_neg (by omega)]; done) | (rw [if_neg (by omega), if_pos (by omega)]; done) | (rw [if_neg (by omega), if_neg (by omega)]; done), show ((if (10 : Int) = 0 then u1 (f 23) 0 ((v 22) + 1) else (f 23)) : Int → Int) = (f 23) from by first | rfl | (rw [if_pos (by omega)]; done) | (rw [if_neg (by omega)]; done) | (rw [if_neg (by omega), if_pos (by omega)]; done) | (rw [if_neg (by omega), if_neg (by omega)]; done), show ((if (10 : Int) = 0 then u1 (f 34) (v 22) 0 else (f 34)) : Int → Int) = (f 34) from by first | rfl | (rw [if_pos (by omega)]; done) | (rw [if_neg (by omega)]; done) | (rw [if_neg (by omega), if_pos (by omega)]; done) | (rw [if_neg (by omega), if_neg (by omega)]; done)]), rfl, (by first | omega | ((repeat' split) <;> omega)), (by first | omega | ((repeat' split) <;> omega))⟩
    · refine lv_aload_n hx hb dX11_climber_32 rfl (lv_at hl 0 rfl) ?_
      refine lv_iconst (v := iI 3) hx hb dX11_climber_33 rfl ?_
      refine g_cv (As := [.int (iI 3)]) (rest := []) (n := 1) C hml (m_X11_refuse l D k A ad hD (va_up (va_up (va_up (va_up v 0 0) 1 0) 22 (v 22)) 23 (v 23)) (va_up (va_up (va_up (va_up f 21 (f 21)) 22 (f 22)) 23 (f 23)) 34 (f 34)) g 3 (by decide) (show 0 ≤ (3 : Int) ∧ (3 : Int) ≤ 10 from by omega)) mM_X11_295 mI_X11_refuse mE_X11_refuse mN_X11 mC_X11_refuse (by decide +kernel) 0 (ci := 11) rfl rfl hP hS (fun _ h => h) ⟨Nat.le_of_ble_eq_true rfl, Nat.le_of_ble_eq_true rfl⟩ ⟨Nat.zero_le _, Nat.zero_le _⟩ hl.1 rfl rfl (Nat.le_of_ble_eq_true rfl) dX11_climber_34 (fun r_12 v_12 f_12 g_12 H locs hq_12 hP _ hS => ?_)
      obtain ⟨rfl, rfl, rfl, rfl⟩ := hq_12
      show W p l e (gRm 1 21) s m args below meth c _ _ 0 0 Q (F0 m 37 ls [.int (iI (-1))])
      have hP : gWd D (mdT k ad) (va_up (va_up (va_up (va_up v 0 (3 : Int)) 1 0) 22 (v 22)) 23 (v 23)) (va_up (va_up (va_up (va_up f 21 (f 21)) 22 (f 22)) 23 (f 23)) 34 (f 34)) g H := ⟨hP.1, (gF_up (V := mdV) (F := mdF) (gF_up (V := mdV) (F := mdF) (gF_up (V := mdV) (F := mdF) (gF_up (V := mdV) (F := mdF) (gR_up (V := mdV) (F := mdF) (gR_up (V := mdV) (F := mdF) (gR_up (V := mdV) (F := mdF) (gR_up (V := mdV) (F := mdF) ⟨hok.1, hok.2⟩ 0 (hP.2.1 0)) 1 (hP.2.1 1)) 22 (hP.2.1 22)) 23 (hP.2.1 23)) 21 (hP.2.2 21)) 22 (hP.2.2 22)) 23 (hP.2.2 23)) 34 (hP.2.2 34))⟩
      exact g_iret hQ C hr hlocks hP hS dX11_climber_37 ⟨(-1), (3 : Int), (f 22), rfl, (by rw [show ((if (3 : Int) = 0 then (v 22) + 1 else (v 22)) : Int) = (v 22) from by first | rfl | omega | ((repeat' split) <;> omega), show ((if (3 : Int) = 0 then 0 else (v 23)) : Int) = (v 23) from by first | rfl | omega | ((repeat' split) <;> omega)]), (by rw [show ((if (3 : Int) = 0 then u1 (f 21) (v 22) 1 else (f 21)) : Int → Int) = (f 21) from by first | rfl | (rw [if_pos (by omega)]; done) | (rw [if_neg (by omega)]; done) | (rw [if_neg (by omega), if_pos (by omega)]; done) | (rw [if_neg (by omega), if_neg (by omega)]; done), show ((if (3 : Int) = 0 then u1 (f 23) 0 ((v 22) + 1) else (f 23)) : Int → Int) = (f 23) from by first | rfl | (rw [if_pos (by omega)]; done) | (rw [if_neg (by omega)]; done) | (rw [if_neg (by omega), if_pos (by omega)]; done) | (rw [if_neg (by omega), if_neg (by omega)]; done), show ((if (3 : Int) = 0 then u1 (f 34) (v 22) 0 else (f 34)) : Int → Int) = (f 34) from by first | rfl | (rw [if_pos (by omega)]; done) | (rw [if_neg (by omega)]; done) | (rw [if_neg (by omega), if_pos (by omega)]; done) | (rw [if_neg (by omega), if_neg (by omega)]; done)]), rfl, (by first | omega | ((repeat' split) <;> omega)), (by first | omega | ((repeat' split) <;> omega))⟩
  · refine lv_aload_n hx hb dX11_climber_17 rfl (lv_at hl 0 rfl) ?_
    refine lv_iconst (v := iI 1) hx hb dX11_climber_18 rfl ?_
    refine g_cv (As := [.int (iI 1)]) (rest := []) (n := 1) C hml (m_X11_refuse l D k A ad hD (va_up (va_up (va_up (va_up v 0 0) 1 0) 22 (v 22)) 23 (v 23)) (va_up (va_up (va_up (va_up f 21 (f 21)) 22 (f 22)) 23 (f 23)) 34 (f 34)) g 1 (by decide) (show 0 ≤ (1 : Int) ∧ (1 : Int) ≤ 10 from by omega)) mM_X11_295 mI_X11_refuse mE_X11_refuse mN_X11 mC_X11_refuse (by decide +kernel) 0 (ci := 11) rfl rfl hP hS (fun _ h => h) ⟨Nat.le_of_ble_eq_true rfl, Nat.le_of_ble_eq_true rfl⟩ ⟨Nat.zero_le _, Nat.zero_le _⟩ hl.1 rfl rfl (Nat.le_of_ble_eq_true rfl) dX11_climber_19 (fun r_13 v_13 f_13 g_13 H locs hq_13 hP _ hS => ?_)
    obtain ⟨rfl, rfl, rfl, rfl⟩ := hq_13
    show W p l e (gRm 1 21) s m args below meth c _ _ 0 0 Q (F0 m 22 ls [.int (iI (-1))])
    have hP : gWd D (mdT k ad) (va_up (va_up (va_up (va_up v 0 (1 : Int)) 1 0) 22 (v 22)) 23 (v 23)) (va_up (va_up (va_up (va_up f 21 (f 21)) 22 (f 22)) 23 (f 23)) 34 (f 34)) g H := ⟨hP.1, (gF_up (V := mdV) (F := mdF) (gF_up (V := mdV) (F := mdF) (gF_up (V := mdV) (F := mdF) (gF_up (V := mdV) (F := mdF) (gR_up (V := mdV) (F := mdF) (gR_up (V := mdV) (F := mdF) (gR_up (V := mdV) (F := mdF) (gR_up (V := mdV) (F := mdF) ⟨hok.1, hok.2⟩ 0 (hP.2.1 0)) 1 (hP.2.1 1)) 22 (hP.2.1 22)) 23 (hP.2.1 23)) 21 (hP.2.2 21)) 22 (hP.2.2 22)) 23 (hP.2.2 23)) 34 (hP.2.2 34))⟩
    exact g_iret hQ C hr hlocks hP hS dX11_climber_22 ⟨(-1), (1 : Int), (f 22), rfl, (by rw [show ((if (1 : Int) = 0 then (v 22) + 1 else (v 22)) : Int) = (v 22) from by first | rfl | omega | ((repeat' split) <;> omega), show ((if (1 : Int) = 0 then 0 else (v 23)) : Int) = (v 23) from by first | rfl | omega | ((repeat' split) <;> omega)]), (by rw [show ((if (1 : Int) = 0 then u1 (f 21) (v 22) 1 else (f 21)) : Int → Int) = (f 21) from by first | rfl | (rw [if_pos (by omega)]; done) | (rw [if_neg (by omega)]; done) | (rw [if_neg (by omega), if_pos (by omega)]; done) | (rw [if_neg (by omega), if_neg (by omega)]; done), show ((if (1 : Int) = 0 then u1 (f 23) 0 ((v 22) + 1) else (f 23)) : Int → Int) = (f 23) from by first | rfl | (rw [if_pos (by omega)]; done) | (rw [if_neg (by omega)]; done) | (rw [if_neg (by omega), if_pos (by omega)]; done) | (rw [if_neg (by omega), if_neg (by omega)]; done), show ((if (1 : Int) = 0 then u1 (f 34) (v 22) 0 else (f 34)) : Int → Int) = (f 34) from by first | rfl | (rw [if_pos (by omega)]; done) | (rw [if_neg (by omega)]; done) | (rw [if_neg (by omega), if_pos (by omega)]; done) | (rw [if_neg (by omega), if_neg (by omega)]; done)]), rfl, (by first | omega | ((repeat' split) <;> omega)), (by first | omega | ((repeat' split) <;> omega))⟩

set_option maxHeartbeats 4000000 in
set_option maxRecDepth 100000 in
theorem y_route (l : Launch) (D : va_G) (k : Nat → ClassId) (A : Nat → Prop) (ad : Nat → Nat) (hD : mdD A k ad) (v : gV) (f g : gF) (a1 : Int) (a2 : Int) (a3 : Int) (a4 : Int) (a5 : Int) (a6 : Int) (h_a1 : inR a1) (h_a2 : inR a2) (h_a3 : inR a3) (h_a4 : inR a4) (h_a5 : inR a5) (h_a6 : inR a6) : GM l D k A (mdT k ad) yX11_route cX11_route 9 (some .boolean) 2 43 [.ref (ad 0), .int (iI a1), .int (iI a2), .int (iI a3), .int (iI a4), .int (iI a5), .int (iI a6)] v f g (fun r v1 f1 g1 => ∃ (z : Int) (w0 : Int), r = some (.int (iI z)) ∧ (va_up (va_up v 0 w0) 1 0) = v1 ∧ (va_up (va_up f 18 (if w0 = 0 then u1 (f 18) (a1 * 5 + a2) a3 else (f 18))) 19 (if w0 = 0 then u1 (u1 (u1 (f 19) ((a1 * 5 + a2) * 3 + 0) a4) ((a1 * 5 + a2) * 3 + 1) a5) ((a1 * 5 + a2) * 3 + 2) a6 else (f 19))) = f1 ∧ g = g1 ∧ (z = (if w0 = 0 then 1 else 0)) ∧ (w0 = (if ¬ ((0 ≤ a1 ∧ a1 < (v 12)) ∧ 0 ≤ a2 ∧ a2 < (f 1) a1) then 1 else if ¬ ((2 ≤ a3 ∧ a3 ≤ 60) ∧ (a4 = 0 ∨ (0 < a4 ∧ a4 ≤ a3)) ∧ (a5 = 0 ∨ (a4 ≠ 0 ∧ a4 < a5 ∧ a5 ≤ a3)) ∧ (a6 = 0 ∨ (a5 ≠ 0 ∧ a5 < a6 ∧ a6 ≤ a3))) then 2 else if 0 < (f 20) (a1 * 5 + a2) then 10 else 0))) := by
  refine GM.of (by decide) (Nat.le_of_ble_eq_true rfl) ?_
  intro p e s m args below meth c Q ls hQ C hml hr hlocks hP hl
  have hx := C.1
  have hb := C.2.1
  have hok := hP.2
  have hS : va_S A s.heap s.heap [] := va_S.rf
  have hl : lv_has ls 9 [(0, .ref (ad 0)), (1, .int (iI a1)), (2, .int (iI a2)), (3, .int (iI a3)), (4, .int (iI a4)), (5, .int (iI a5)), (6, .int (iI a6))] := hl
  have hP : gWd D (mdT k ad) (va_up (va_up v 0 (v 0)) 1 (v 1)) (va_up (va_up f 18 (f 18)) 19 (f 19)) g s.heap := by rw [va_id, va_id, va_id, va_id]; exact hP
  have r_1 : 0 ≤ (v 12) ∧ (v 12) ≤ 4 := hok.1 12
  refine lv_aload_n hx hb dX11_route_0 rfl (lv_at hl 0 rfl) ?_
  refine lv_iconst (v := iI 0) hx hb dX11_route_1 rfl ?_
  refine mdP_thrown (v1 := (va_up (va_up v 0 (v 0)) 1 0)) C hP hD hS mF_X11_146 (by decide) rfl (Or.inr (gF_up (V := mdV) (F := mdF) (gF_up (V := mdV) (F := mdF) (gR_up (V := mdV) (F := mdF) (gR_up (V := mdV) (F := mdF) ⟨hok.1, hok.2⟩ 0 (hP.2.1 0)) 1 (show 0 ≤ 0 ∧ 0 ≤ 0 from by decide)) 18 (hP.2.2 18)) 19 (hP.2.2 19))) dX11_route_2 (fun H locs hP hS => ?_)
  refine lv_aload_n hx hb dX11_route_5 rfl (lv_at hl 0 rfl) ?_
  refine lv_iconst (v := iI 0) hx hb dX11_route_6 rfl ?_
  refine mdP_status (v1 := (va_up (va_up v 0 0) 1 0)) C hP hD hS mF_X11_149 (by decide) rfl (Or.inr (gF_up (V := mdV) (F := mdF) (gF_up (V := mdV) (F := mdF) (gR_up (V := mdV) (F := mdF) (gR_up (V := mdV) (F := mdF) ⟨hok.1, hok.2⟩ 0 (show 0 ≤ 0 ∧ 0 ≤ 10 from by decide)) 1 (hP.2.1 1)) 18 (hP.2.2 18)) 19 (hP.2.2 19))) dX11_route_7 (fun H locs hP hS => ?_)
  refine lv_aload_n hx hb dX11_route_10 rfl (lv_at hl 0 rfl) ?_
  refine lv_iload_n hx hb dX11_route_11 rfl (lv_at hl 1 rfl) ?_
  refine lv_iload_n hx hb dX11_route_12 rfl (lv_at hl 2 rfl) ?_
  refine g_cv (As := [.int (iI a1), .int (iI a2)]) (rest := []) (n := 2) C hml (m_X11_isRoute l D k A ad hD (va_up (va_up v 0 0) 1 0) (va_up (va_up f 18 (f 18)) 19 (f 19)) g a1 a2 (by omega) (by omega)) mM_X11_328 mI_X11_isRoute mE_X11_isRoute mN_X11 mC_X11_isRoute (by decide +kernel) 0 (ci := 11) rfl rfl hP hS (fun _ h => h) ⟨Nat.le_of_ble_eq_true rfl, Nat.le_of_ble_eq_true rfl⟩ ⟨Nat.zero_le _, Nat.zero_le _⟩ hl.1 rfl rfl (Nat.le_of_ble_eq_true rfl) dX11_route_13 (fun r_2 v_2 f_2 g_2 H locs hq_2 hP _ hS => ?_)
  obtain ⟨z_2, rfl, rfl, rfl, rfl, p0_2, p1_2⟩ := hq_2
  show W p l e (gRm 2 43) s m args below meth c _ _ 0 0 Q (F0 m 16 ls [.int (iI z_2)])
  replace p0_2 : z_2 = (if (0 ≤ a1 ∧ a1 < (v 12)) ∧ 0 ≤ a2 ∧ a2 < (f 1) a1 then 1 else 0) := p0_2
  have w_2 := gif (P := (0 ≤ a1 ∧ a1 < (v 12)) ∧ 0 ≤ a2 ∧ a2 < (f 1) a1) p0_2
  clear p0_2
  replace p1_2 : z_2 = 1 → a2 ≤ 4 ∧ a1 ≤ 3 := p1_2
  have hz_2 : inR z_2 := (by first | omega | (rw [p0_2]; split <;> omega))
  refine gi_zne (tgt := 25) hx hb dX11_route_16 (by decide) (by omega) (fun c_3 => ?_) (fun c_3 => ?_)
  · have vz_2 := gif1 w_2 c_3
    have voz_2 := gif1o w_2 c_3
    clear w_2
    refine lv_iload_n hx hb dX11_route_25 rfl (lv_at hl 3 rfl) ?_
    refine lv_iconst (v := iI 2) hx hb dX11_route_26 rfl ?_
    refine gi_clt (tgt := 73) hx hb dX11_route_27 (by decide) (by omega) (by decide) (fun c_4 => ?_) (fun c_4 => ?_)
    · refine lv_iconst (v := iI 0) hx hb dX11_route_73 rfl ?_
      refine lv_istore (lv' := [(7, .int (iI 0)), (0, .ref (ad 0)), (1, .int (iI a1)), (2, .int (iI a2)), (3, .int (iI a3)), (4, .int (iI a4)), (5, .int (iI a5)), (6, .int (iI a6))]) hx hb dX11_route_74 hl (by decide) rfl (fun ls hl => ?_)
      refine lv_iload hx hb dX11_route_76 (lv_at hl 0 rfl) ?_
      refine gi_zeq (tgt := 135) hx hb dX11_route_78 (by decide) (by decide) (fun c_5 => ?_) (fun c_5 => ?_)
      · refine lv_iconst (v := iI 0) hx hb dX11_route_135 rfl ?_
        refine lv_istore (lv' := [(7, .int (iI 0)), (0, .ref (ad 0)), (1, .int (iI a1)), (2, .int (iI a2)), (3, .int (iI a3)), (4, .int (iI a4)), (5, .int (iI a5)), (6, .int (iI a6))]) hx hb dX11_route_136 hl (by decide) rfl (fun ls hl => ?_)
        refine lv_iload hx hb dX11_route_138 (lv_at hl 0 rfl) ?_
        refine gi_zne (tgt := 149) hx hb dX11_route_140 (by decide) (by decide) (fun c_6 => ?_) (fun c_6 => ?_)
        · exfalso; omega
        · refine lv_aload_n hx hb dX11_route_143 rfl (lv_at hl 1 rfl) ?_
          refine lv_iconst (v := iI 2) hx hb dX11_route_144 rfl ?_
          refine g_cv (As := [.int (iI 2)]) (rest := []) (n := 1) C hml (m_X11_no l D k A ad hD (va_up (va_up v 0 0) 1 0) (va_up (va_up f 18 (f 18)) 19 (f 19)) g 2 (by decide) (show 0 ≤ (2 : Int) ∧ (2 : Int) ≤ 10 from by omega)) mM_X11_332 mI_X11_no mE_X11_no mN_X11 mC_X11_no (by decide +kernel) 0 (ci := 11) rfl rfl hP hS (fun _ h => h) ⟨Nat.le_of_ble_eq_true rfl, Nat.le_of_ble_eq_true rfl⟩ ⟨Nat.zero_le _, Nat.zero_le _⟩ hl.1 rfl rfl (Nat.le_of_ble_eq_true rfl) dX11_route_145 (fun r_7 v_7 f_7 g_7 H locs hq_7 hP _ hS => ?_)
          obtain ⟨rfl, rfl, rfl, rfl⟩ := hq_7
          show W p l e (gRm 2 43) s m args below meth c _ _ 0 0 Q (F0 m 148 ls [.int (iI 0)])
          have hP : gWd D (mdT k ad) (va_up (va_up v 0 (2 : Int)) 1 0) (va_up (va_up f 18 (f 18)) 19 (f 19)) g H := ⟨hP.1, (gF_up (V := mdV) (F := mdF) (gF_up (V := mdV) (F := mdF) (gR_up (V := mdV) (F := mdF) (gR_up (V := mdV) (F := mdF) ⟨hok.1, hok.2⟩ 0 (hP.2.1 0)) 1 (hP.2.1 1)) 18 (hP.2.2 18)) 19 (hP.2.2 19))⟩
          exact g_zret hQ C hr hlocks (by decide) hP hS dX11_route_148 ⟨0, (2 : Int), rfl, rfl, (by rw [show ((if (2 : Int) = 0 then u1 (f 18) (a1 * 5 + a2) a3 else (f 18)) : Int → Int) = (f 18) from by first | rfl | (rw [if_neg (by omega)]) | (rw [if_pos rfl]; congr 1; omega), show ((if (2 : Int) = 0 then u1 (u1 (u1 (f 19) ((a1 * 5 + a2) * 3 + 0) a4) ((a1 * 5 + a2) * 3 + 1) a5) ((a1 * 5 + a2) * 3 + 2) a6 else (f 19)) : Int → Int) = (f 19) from by first | rfl | (rw [if_neg (by omega)]) | (rw [if_pos rfl]; exact u3_eq (by omega) (by omega) (by omega))]), rfl, (by first | omega | ((repeat' split) <;> omega)), (by first | omega | ((repeat' split) <;> omega))⟩
      · exfalso; omega
    · refine lv_iload_n hx hb dX11_route_30 rfl (lv_at hl 3 rfl) ?_
      refine lv_bipush (v := iI 60) hx hb dX11_route_31 (by decide) ?_
      refine gi_cgt (tgt := 73) hx hb dX11_route_33 (by decide) (by omega) (by decide) (fun c_8 => ?_) (fun c_8 => ?_)
      · refine lv_iconst (v := iI 0) hx hb dX11_route_73 rfl ?_
        refine lv_istore (lv' := [(7, .int (iI 0)), (0, .ref (ad 0)), (1, .int (iI a1)), (2, .int (iI a2)), (3, .int (iI a3)), (4, .int (iI a4)), (5, .int (iI a5)), (6, .int (iI a6))]) hx hb dX11_route_74 hl (by decide) rfl (fun ls hl => ?_)
        refine lv_iload hx hb dX11_route_76 (lv_at hl 0 rfl) ?_
        refine gi_zeq (tgt := 135) hx hb dX11_route_78 (by decide) (by decide) (fun c_9 => ?_) (fun c_9 => ?_)
        · refine lv_iconst (v := iI 0) hx hb dX11_route_135 rfl ?_
          refine lv_istore (lv' := [(7, .int (iI 0)), (0, .ref (ad 0)), (1, .int (iI a1)), (2, .int (iI a2)), (3, .int (iI a3)), (4, .int (iI a4)), (5, .int (iI a5)), (6, .int (iI a6))]) hx hb dX11_route_136 hl (by decide) rfl (fun ls hl => ?_)
          refine lv_iload hx hb dX11_route_138 (lv_at hl 0 rfl) ?_
          refine gi_zne (tgt := 149) hx hb dX11_route_140 (by decide) (by decide) (fun c_10 => ?_) (fun c_10 => ?_)
          · exfalso; omega
          · refine lv_aload_n hx hb dX11_route_143 rfl (lv_at hl 1 rfl) ?_
            refine lv_iconst (v := iI 2) hx hb dX11_route_144 rfl ?_
            refine g_cv (As := [.int (iI 2)]) (rest := []) (n := 1) C hml (m_X11_no l D k A ad hD (va_up (va_up v 0 0) 1 0) (va_up (va_up f 18 (f 18)) 19 (f 19)) g 2 (by decide) (show 0 ≤ (2 : Int) ∧ (2 : Int) ≤ 10 from by omega)) mM_X11_332 mI_X11_no mE_X11_no mN_X11 mC_X11_no (by decide +kernel) 0 (ci := 11) rfl rfl hP hS (fun _ h => h) ⟨Nat.le_of_ble_eq_true rfl, Nat.le_of_ble_eq_true rfl⟩ ⟨Nat.zero_le _, Nat.zero_le _⟩ hl.1 rfl rfl (Nat.le_of_ble_eq_true rfl) dX11_route_145 (fun r_11 v_11 f_11 g_11 H locs hq_11 hP _ hS => ?_)
            obtain ⟨rfl, rfl, rfl, rfl⟩ := hq_11
            show W p l e (gRm 2 43) s m args below meth c _ _ 0 0 Q (F0 m 148 ls [.int (iI 0)])
            have hP : gWd D (mdT k ad) (va_up (va_up v 0 (2 : Int)) 1 0) (va_up (va_up f 18 (f 18)) 19 (f 19)) g H := ⟨hP.1, (gF_up (V := mdV) (F := mdF) (gF_up (V := mdV) (F := mdF) (gR_up (V := mdV) (F := mdF) (gR_up (V := mdV) (F := mdF) ⟨hok.1, hok.2⟩ 0 (hP.2.1 0)) 1 (hP.2.1 1)) 18 (hP.2.2 18)) 19 (hP.2.2 19))⟩
            exact g_zret hQ C hr hlocks (by decide) hP hS dX11_route_148 ⟨0, (2 : Int), rfl, rfl, (by rw [show ((if (2 : Int) = 0 then u1 (f 18) (a1 * 5 + a2) a3 else (f 18)) : Int → Int) = (f 18) from by first | rfl | (rw [if_neg (by omega)]) | (rw [if_pos rfl]; congr 1; omega), show ((if (2 : Int) = 0 then u1 (u1 (u1 (f 19) ((a1 * 5 + a2) * 3 + 0) a4) ((a1 * 5 + a2) * 3 + 1) a5) ((a1 * 5 + a2) * 3 + 2) a6 else (f 19)) : Int → Int) = (f 19) from by first | rfl | (rw [if_neg (by omega)]) | (rw [if_pos rfl]; exact u3_eq (by omega) (by omega) (by omega))]), rfl, (by first | omega | ((repeat' split) <;> omega)), (by first | omega | ((repeat' split) <;> omega))⟩
        · exfalso; omega
      · refine lv_iload hx hb dX11_route_36 (lv_at hl 4 rfl) ?_
        refine gi_zlt (tgt := 73) hx hb dX11_route_38 (by decide) (by omega) (fun c_12 => ?_) (fun c_12 => ?_)
        · refine lv_iconst (v := iI 0) hx hb dX11_route_73 rfl ?_
          refine lv_istore (lv' := [(7, .int (iI 0)), (0, .ref (ad 0)), (1, .int (iI a1)), (2, .int (iI a2)), (3, .int (iI a3)), (4, .int (iI a4)), (5, .int (iI a5)), (6, .int (iI a6))]) hx hb dX11_route_74 hl (by decide) rfl (fun ls hl => ?_)
          refine lv_iload hx hb dX11_route_76 (lv_at hl 0 rfl) ?_
          refine gi_zeq (tgt := 135) hx hb dX11_route_78 (by decide) (by decide) (fun c_13 => ?_) (fun c_13 => ?_)
          · refine lv_iconst (v := iI 0) hx hb dX11_route_135 rfl ?_
            refine lv_istore (lv' := [(7, .int (iI 0)), (0, .ref (ad 0)), (1, .int (iI a1)), (2, .int (iI a2)), (3, .int (iI a3)), (4, .int (iI a4)), (5, .int (iI a5)), (6, .int (iI a6))]) hx hb dX11_route_136 hl (by decide) rfl (fun ls hl => ?_)
            refine lv_iload hx hb dX11_route_138 (lv_at hl 0 rfl) ?_
            refine gi_zne (tgt := 149) hx hb dX11_route_140 (by decide) (by decide) (fun c_14 => ?_) (fun c_14 => ?_)
            · exfalso; omega
            · refine lv_aload_n hx hb dX11_route_143 rfl (lv_at hl 1 rfl) ?_
              refine lv_iconst (v := iI 2) hx hb dX11_route_144 rfl ?_
              refine g_cv (As := [.int (iI 2)]) (rest := []) (n := 1) C hml (m_X11_no l D k A ad hD (va_up (va_up v 0 0) 1 0) (va_up (va_up f 18 (f 18)) 19 (f 19)) g 2 (by decide) (show 0 ≤ (2 : Int) ∧ (2 : Int) ≤ 10 from by omega)) mM_X11_332 mI_X11_no mE_X11_no mN_X11 mC_X11_no (by decide +kernel) 0 (ci := 11) rfl rfl hP hS (fun _ h => h) ⟨Nat.le_of_ble_eq_true rfl, Nat.le_of_ble_eq_true rfl⟩ ⟨Nat.zero_le _, Nat.zero_le _⟩ hl.1 rfl rfl (Nat.le_of_ble_eq_true rfl) dX11_route_145 (fun r_15 v_15 f_15 g_15 H locs hq_15 hP _ hS => ?_)
              obtain ⟨rfl, rfl, rfl, rfl⟩ := hq_15
              show W p l e (gRm 2 43) s m args below meth c _ _ 0 0 Q (F0 m 148 ls [.int (iI 0)])
              have hP : gWd D (mdT k ad) (va_up (va_up v 0 (2 : Int)) 1 0) (va_up (va_up f 18 (f 18)) 19 (f 19)) g H := ⟨hP.1, (gF_up (V := mdV) (F := mdF) (gF_up (V := mdV) (F := mdF) (gR_up (V := mdV) (F := mdF) (gR_up (V := mdV) (F := mdF) ⟨hok.1, hok.2⟩ 0 (hP.2.1 0)) 1 (hP.2.1 1)) 18 (hP.2.2 18)) 19 (hP.2.2 19))⟩
              exact g_zret hQ C hr hlocks (by decide) hP hS dX11_route_148 ⟨0, (2 : Int), rfl, rfl, (by rw [show ((if (2 : Int) = 0 then u1 (f 18) (a1 * 5 + a2) a3 else (f 18)) : Int → Int) = (f 18) from by first | rfl | (rw [if_neg (by omega)]) | (rw [if_pos rfl]; congr 1; omega), show ((if (2 : Int) = 0 then u1 (u1 (u1 (f 19) ((a1 * 5 + a2) * 3 + 0) a4) ((a1 * 5 + a2) * 3 + 1) a5) ((a1 * 5 + a2) * 3 + 2) a6 else (f 19)) : Int → Int) = (f 19) from by first | rfl | (rw [if_neg (by omega)]) | (rw [if_pos rfl]; exact u3_eq (by omega) (by omega) (by omega))]), rfl, (by first | omega | ((repeat' split) <;> omega)), (by first | omega | ((repeat' split) <;> omega))⟩
          · exfalso; omega
        · refine lv_iload hx hb dX11_route_41 (lv_at hl 5 rfl) ?_
          refine gi_zlt (tgt := 73) hx hb dX11_route_43 (by decide) (by omega) (fun c_16 => ?_) (fun c_16 => ?_)
          · refine lv_iconst (v := iI 0) hx hb dX11_route_73 rfl ?_
            refine lv_istore (lv' := [(7, .int (iI 0)), (0, .ref (ad 0)), (1, .int (iI a1)), (2, .int (iI a2)), (3, .int (iI a3)), (4, .int (iI a4)), (5, .int (iI a5)), (6, .int (iI a6))]) hx hb dX11_route_74 hl (by decide) rfl (fun ls hl => ?_)
            refine lv_iload hx hb dX11_route_76 (lv_at hl 0 rfl) ?_
            refine gi_zeq (tgt := 135) hx hb dX11_route_78 (by decide) (by decide) (fun c_17 => ?_) (fun c_17 => ?_)
            · refine lv_iconst (v := iI 0) hx hb dX11_route_135 rfl ?_
              refine lv_istore (lv' := [(7, .int (iI 0)), (0, .ref (ad 0)), (1, .int (iI a1)), (2, .int (iI a2)), (3, .int (iI a3)), (4, .int (iI a4)), (5, .int (iI a5)), (6, .int (iI a6))]) hx hb dX11_route_136 hl (by decide) rfl (fun ls hl => ?_)
              refine lv_iload hx hb dX11_route_138 (lv_at hl 0 rfl) ?_
              refine gi_zne (tgt := 149) hx hb dX11_route_140 (by decide) (by decide) (fun c_18 => ?_) (fun c_18 => ?_)
              · exfalso; omega
              · refine lv_aload_n hx hb dX11_route_143 rfl (lv_at hl 1 rfl) ?_
                refine lv_iconst (v := iI 2) hx hb dX11_route_144 rfl ?_
                refine g_cv (As := [.int (iI 2)]) (rest := []) (n := 1) C hml (m_X11_no l D k A ad hD (va_up (va_up v 0 0) 1 0) (va_up (va_up f 18 (f 18)) 19 (f 19)) g 2 (by decide) (show 0 ≤ (2 : Int) ∧ (2 : Int) ≤ 10 from by omega)) mM_X11_332 mI_X11_no mE_X11_no mN_X11 mC_X11_no (by decide +kernel) 0 (ci := 11) rfl rfl hP hS (fun _ h => h) ⟨Nat.le_of_ble_eq_true rfl, Nat.le_of_ble_eq_true rfl⟩ ⟨Nat.zero_le _, Nat.zero_le _⟩ hl.1 rfl rfl (Nat.le_of_ble_eq_true rfl) dX11_route_145 (fun r_19 v_19 f_19 g_19 H locs hq_19 hP _ hS => ?_)
                obtain ⟨rfl, rfl, rfl, rfl⟩ := hq_19
                show W p l e (gRm 2 43) s m args below meth c _ _ 0 0 Q (F0 m 148 ls [.int (iI 0)])
                have hP : gWd D (mdT k ad) (va_up (va_up v 0 (2 : Int)) 1 0) (va_up (va_up f 18 (f 18)) 19 (f 19)) g H := ⟨hP.1, (gF_up (V := mdV) (F := mdF) (gF_up (V := mdV) (F := mdF) (gR_up (V := mdV) (F := mdF) (gR_up (V := mdV) (F := mdF) ⟨hok.1, hok.2⟩ 0 (hP.2.1 0)) 1 (hP.2.1 1)) 18 (hP.2.2 18)) 19 (hP.2.2 19))⟩
                exact g_zret hQ C hr hlocks (by decide) hP hS dX11_route_148 ⟨0, (2 : Int), rfl, rfl, (by rw [show ((if (2 : Int) = 0 then u1 (f 18) (a1 * 5 + a2) a3 else (f 18)) : Int → Int) = (f 18) from by first | rfl | (rw [if_neg (by omega)]) | (rw [if_pos rfl]; congr 1; omega), show ((if (2 : Int) = 0 then u1 (u1 (u1 (f 19) ((a1 * 5 + a2) * 3 + 0) a4) ((a1 * 5 + a2) * 3 + 1) a5) ((a1 * 5 + a2) * 3 + 2) a6 else (f 19)) : Int → Int) = (f 19) from by first | rfl | (rw [if_neg (by omega)]) | (rw [if_pos rfl]; exact u3_eq (by omega) (by omega) (by omega))]), rfl, (by first | omega | ((repeat' split) <;> omega)), (by first | omega | ((repeat' split) <;> omega))⟩
            · exfalso; omega
          · refine lv_iload hx hb dX11_route_46 (lv_at hl 6 rfl) ?_
            refine gi_zlt (tgt := 73) hx hb dX11_route_48 (by decide) (by omega) (fun c_20 => ?_) (fun c_20 => ?_)
            · refine lv_iconst (v := iI 0) hx hb dX11_route_73 rfl ?_
              refine lv_istore (lv' := [(7, .int (iI 0)), (0, .ref (ad 0)), (1, .int (iI a1)), (2, .int (iI a2)), (3, .int (iI a3)), (4, .int (iI a4)), (5, .int (iI a5)), (6, .int (iI a6))]) hx hb dX11_route_74 hl (by decide) rfl (fun ls hl => ?_)
              refine lv_iload hx hb dX11_route_76 (lv_at hl 0 rfl) ?_
              refine gi_zeq (tgt := 135) hx hb dX11_route_78 (by decide) (by decide) (fun c_21 => ?_) (fun c_21 => ?_)
              · refine lv_iconst (v := iI 0) hx hb dX11_route_135 rfl ?_
                refine lv_istore (lv' := [(7, .int (iI 0)), (0, .ref (ad 0)), (1, .int (iI a1)), (2, .int (iI a2)), (3, .int (iI a3)), (4, .int (iI a4)), (5, .int (iI a5)), (6, .int (iI a6))]) hx hb dX11_route_136 hl (by decide) rfl (fun ls hl => ?_)
                refine lv_iload hx hb dX11_route_138 (lv_at hl 0 rfl) ?_
                refine gi_zne (tgt := 149) hx hb dX11_route_140 (by decide) (by decide) (fun c_22 => ?_) (fun c_22 => ?_)
                · exfalso; omega
                · refine lv_aload_n hx hb dX11_route_143 rfl (lv_at hl 1 rfl) ?_
                  refine lv_iconst (v := iI 2) hx hb dX11_route_144 rfl ?_
                  refine g_cv (As := [.int (iI 2)]) (rest := []) (n := 1) C hml (m_X11_no l D k A ad hD (va_up (va_up v 0 0) 1 0) (va_up (va_up f 18 (f 18)) 19 (f 19)) g 2 (by decide) (show 0 ≤ (2 : Int) ∧ (2 : Int) ≤ 10 from by omega)) mM_X11_332 mI_X11_no mE_X11_no mN_X11 mC_X11_no (by decide +kernel) 0 (ci := 11) rfl rfl hP hS (fun _ h => h) ⟨Nat.le_of_ble_eq_true rfl, Nat.le_of_ble_eq_true rfl⟩ ⟨Nat.zero_le _, Nat.zero_le _⟩ hl.1 rfl rfl (Nat.le_of_ble_eq_true rfl) dX11_route_145 (fun r_23 v_23 f_23 g_23 H locs hq_23 hP _ hS => ?_)
                  obtain ⟨rfl, rfl, rfl, rfl⟩ := hq_23
                  show W p l e (gRm 2 43) s m args below meth c _ _ 0 0 Q (F0 m 148 ls [.int (iI 0)])
                  have hP : gWd D (mdT k ad) (va_up (va_up v 0 (2 : Int)) 1 0) (va_up (va_up f 18 (f 18)) 19 (f 19)) g H := ⟨hP.1, (gF_up (V := mdV) (F := mdF) (gF_up (V := mdV) (F := mdF) (gR_up (V := mdV) (F := mdF) (gR_up (V := mdV) (F := mdF) ⟨hok.1, hok.2⟩ 0 (hP.2.1 0)) 1 (hP.2.1 1)) 18 (hP.2.2 18)) 19 (hP.2.2 19))⟩
                  exact g_zret hQ C hr hlocks (by decide) hP hS dX11_route_148 ⟨0, (2 : Int), rfl, rfl, (by rw [show ((if (2 : Int) = 0 then u1 (f 18) (a1 * 5 + a2) a3 else (f 18)) : Int → Int) = (f 18) from by first | rfl | (rw [if_neg (by omega)]) | (rw [if_pos rfl]; congr 1; omega), show ((if (2 : Int) = 0 then u1 (u1 (u1 (f 19) ((a1 * 5 + a2) * 3 + 0) a4) ((a1 * 5 + a2) * 3 + 1) a5) ((a1 * 5 + a2) * 3 + 2) a6 else (f 19)) : Int → Int) = (f 19) from by first | rfl | (rw [if_neg (by omega)]) | (rw [if_pos rfl]; exact u3_eq (by omega) (by omega) (by omega))]), rfl, (by first | omega | ((repeat' split) <;> omega)), (by first | omega | ((repeat' split) <;> omega))⟩
              · exfalso; omega
            · refine lv_iload hx hb dX11_route_51 (lv_at hl 4 rfl) ?_
              refine lv_iload_n hx hb dX11_route_53 rfl (lv_at hl 3 rfl) ?_
              refine gi_cgt (tgt := 73) hx hb dX11_route_54 (by decide) (by omega) (by omega) (fun c_24 => ?_) (fun c_24 => ?_)
              · refine lv_iconst (v := iI 0) hx hb dX11_route_73 rfl ?_
                refine lv_istore (lv' := [(7, .int (iI 0)), (0, .ref (ad 0)), (1, .int (iI a1)), (2, .int (iI a2)), (3, .int (iI a3)), (4, .int (iI a4)), (5, .int (iI a5)), (6, .int (iI a6))]) hx hb dX11_route_74 hl (by decide) rfl (fun ls hl => ?_)
                refine lv_iload hx hb dX11_route_76 (lv_at hl 0 rfl) ?_
                refine gi_zeq (tgt := 135) hx hb dX11_route_78 (by decide) (by decide) (fun c_25 => ?_) (fun c_25 => ?_)
                · refine lv_iconst (v := iI 0) hx hb dX11_route_135 rfl ?_
                  refine lv_istore (lv' := [(7, .int (iI 0)), (0, .ref (ad 0)), (1, .int (iI a1)), (2, .int (iI a2)), (3, .int (iI a3)), (4, .int (iI a4)), (5, .int (iI a5)), (6, .int (iI a6))]) hx hb dX11_route_136 hl (by decide) rfl (fun ls hl => ?_)
                  refine lv_iload hx hb dX11_route_138 (lv_at hl 0 rfl) ?_
                  refine gi_zne (tgt := 149) hx hb dX11_route_140 (by decide) (by decide) (fun c_26 => ?_) (fun c_26 => ?_)
                  · exfalso; omega
                  · refine lv_aload_n hx hb dX11_route_143 rfl (lv_at hl 1 rfl) ?_
                    refine lv_iconst (v := iI 2) hx hb dX11_route_144 rfl ?_
                    refine g_cv (As := [.int (iI 2)]) (rest := []) (n := 1) C hml (m_X11_no l D k A ad hD (va_up (va_up v 0 0) 1 0) (va_up (va_up f 18 (f 18)) 19 (f 19)) g 2 (by decide) (show 0 ≤ (2 : Int) ∧ (2 : Int) ≤ 10 from by omega)) mM_X11_332 mI_X11_no mE_X11_no mN_X11 mC_X11_no (by decide +kernel) 0 (ci := 11) rfl rfl hP hS (fun _ h => h) ⟨Nat.le_of_ble_eq_true rfl, Nat.le_of_ble_eq_true rfl⟩ ⟨Nat.zero_le _, Nat.zero_le _⟩ hl.1 rfl rfl (Nat.le_of_ble_eq_true rfl) dX11_route_145 (fun r_27 v_27 f_27 g_27 H locs hq_27 hP _ hS => ?_)
                    obtain ⟨rfl, rfl, rfl, rfl⟩ := hq_27
                    show W p l e (gRm 2 43) s m args below meth c _ _ 0 0 Q (F0 m 148 ls [.int (iI 0)])
                    have hP : gWd D (mdT k ad) (va_up (va_up v 0 (2 : Int)) 1 0) (va_up (va_up f 18 (f 18)) 19 (f 19)) g H := ⟨hP.1, (gF_up (V := mdV) (F := mdF) (gF_up (V := mdV) (F := mdF) (gR_up (V := mdV) (F := mdF) (gR_up (V := mdV) (F := mdF) ⟨hok.1, hok.2⟩ 0 (hP.2.1 0)) 1 (hP.2.1 1)) 18 (hP.2.2 18)) 19 (hP.2.2 19))⟩
                    exact g_zret hQ C hr hlocks (by decide) hP hS dX11_route_148 ⟨0, (2 : Int), rfl, rfl, (by rw [show ((if (2 : Int) = 0 then u1 (f 18) (a1 * 5 + a2) a3 else (f 18)) : Int → Int) = (f 18) from by first | rfl | (rw [if_neg (by omega)]) | (rw [if_pos rfl]; congr 1; omega), show ((if (2 : Int) = 0 then u1 (u1 (u1 (f 19) ((a1 * 5 + a2) * 3 + 0) a4) ((a1 * 5 + a2) * 3 + 1) a5) ((a1 * 5 + a2) * 3 + 2) a6 else (f 19)) : Int → Int) = (f 19) from by first | rfl | (rw [if_neg (by omega)]) | (rw [if_pos rfl]; exact u3_eq (by omega) (by omega) (by omega))]), rfl, (by first | omega | ((repeat' split) <;> omega)), (by first | omega | ((repeat' split) <;> omega))⟩
                · exfalso; omega
              · refine lv_iload hx hb dX11_route_57 (lv_at hl 5 rfl) ?_
                refine lv_iload_n hx hb dX11_route_59 rfl (lv_at hl 3 rfl) ?_
                refine gi_cgt (tgt := 73) hx hb dX11_route_60 (by decide) (by omega) (by omega) (fun c_28 => ?_) (fun c_28 => ?_)
                · refine lv_iconst (v := iI 0) hx hb dX11_route_73 rfl ?_
                  refine lv_istore (lv' := [(7, .int (iI 0)), (0, .ref (ad 0)), (1, .int (iI a1)), (2, .int (iI a2)), (3, .int (iI a3)), (4, .int (iI a4)), (5, .int (iI a5)), (6, .int (iI a6))]) hx hb dX11_route_74 hl (by decide) rfl (fun ls hl => ?_)
                  refine lv_iload hx hb dX11_route_76 (lv_at hl 0 rfl) ?_
                  refine gi_zeq (tgt := 135) hx hb dX11_route_78 (by decide) (by decide) (fun c_29 => ?_) (fun c_29 => ?_)
                  · refine lv_iconst (v := iI 0) hx hb dX11_route_135 rfl ?_
                    refine lv_istore (lv' := [(7, .int (iI 0)), (0, .ref (ad 0)), (1, .int (iI a1)), (2, .int (iI a2)), (3, .int (iI a3)), (4, .int (iI a4)), (5, .int (iI a5)), (6, .int (iI a6))]) hx hb dX11_route_136 hl (by decide) rfl (fun ls hl => ?_)
                    refine lv_iload hx hb dX11_route_138 (lv_at hl 0 rfl) ?_
                    refine gi_zne (tgt := 149) hx hb dX11_route_140 (by decide) (by decide) (fun c_30 => ?_) (fun c_30 => ?_)
                    · exfalso; omega
                    · refine lv_aload_n hx hb dX11_route_143 rfl (lv_at hl 1 rfl) ?_
                      refine lv_iconst (v := iI 2) hx hb dX11_route_144 rfl ?_
                      refine g_cv (As := [.int (iI 2)]) (rest := []) (n := 1) C hml (m_X11_no l D k A ad hD (va_up (va_up v 0 0) 1 0) (va_up (va_up f 18 (f 18)) 19 (f 19)) g 2 (by decide) (show 0 ≤ (2 : Int) ∧ (2 : Int) ≤ 10 from by omega)) mM_X11_332 mI_X11_no mE_X11_no mN_X11 mC_X11_no (by decide +kernel) 0 (ci := 11) rfl rfl hP hS (fun _ h => h) ⟨Nat.le_of_ble_eq_true rfl, Nat.le_of_ble_eq_true rfl⟩ ⟨Nat.zero_le _, Nat.zero_le _⟩ hl.1 rfl rfl (Nat.le_of_ble_eq_true rfl) dX11_route_145 (fun r_31 v_31 f_31 g_31 H locs hq_31 hP _ hS => ?_)
                      obtain ⟨rfl, rfl, rfl, rfl⟩ := hq_31
                      show W p l e (gRm 2 43) s m args below meth c _ _ 0 0 Q (F0 m 148 ls [.int (iI 0)])
                      have hP : gWd D (mdT k ad) (va_up (va_up v 0 (2 : Int)) 1 0) (va_up (va_up f 18 (f 18)) 19 (f 19)) g H := ⟨hP.1, (gF_up (V := mdV) (F := mdF) (gF_up (V := mdV) (F := mdF) (gR_up (V := mdV) (F := mdF) (gR_up (V := mdV) (F := mdF) ⟨hok.1, hok.2⟩ 0 (hP.2.1 0)) 1 (hP.2.1 1)) 18 (hP.2.2 18)) 19 (hP.2.2 19))⟩
                      exact g_zret hQ C hr hlocks (by decide) hP hS dX11_route_148 ⟨0, (2 : Int), rfl, rfl, (by rw [show ((if (2 : Int) = 0 then u1 (f 18) (a1 * 5 + a2) a3 else (f 18)) : Int → Int) = (f 18) from by first | rfl | (rw [if_neg (by omega)]) | (rw [if_pos rfl]; congr 1; omega), show ((if (2 : Int) = 0 then u1 (u1 (u1 (f 19) ((a1 * 5 + a2) * 3 + 0) a4) ((a1 * 5 + a2) * 3 + 1) a5) ((a1 * 5 + a2) * 3 + 2) a6 else (f 19)) : Int → Int) = (f 19) from by first | rfl | (rw [if_neg (by omega)]) | (rw [if_pos rfl]; exact u3_eq (by omega) (by omega) (by omega))]), rfl, (by first | omega | ((repeat' split) <;> omega)), (by first | omega | ((repeat' split) <;> omega))⟩
                  · exfalso; omega
                · refine lv_iload hx hb dX11_route_63 (lv_at hl 6 rfl) ?_
                  refine lv_iload_n hx hb dX11_route_65 rfl (lv_at hl 3 rfl) ?_
                  refine gi_cgt (tgt := 73) hx hb dX11_route_66 (by decide) (by omega) (by omega) (fun c_32 => ?_) (fun c_32 => ?_)
                  · refine lv_iconst (v := iI 0) hx hb dX11_route_73 rfl ?_
                    refine lv_istore (lv' := [(7, .int (iI 0)), (0, .ref (ad 0)), (1, .int (iI a1)), (2, .int (iI a2)), (3, .int (iI a3)), (4, .int (iI a4)), (5, .int (iI a5)), (6, .int (iI a6))]) hx hb dX11_route_74 hl (by decide) rfl (fun ls hl => ?_)
                    refine lv_iload hx hb dX11_route_76 (lv_at hl 0 rfl) ?_
                    refine gi_zeq (tgt := 135) hx hb dX11_route_78 (by decide) (by decide) (fun c_33 => ?_) (fun c_33 => ?_)
                    · refine lv_iconst (v := iI 0) hx hb dX11_route_135 rfl ?_
                      refine lv_istore (lv' := [(7, .int (iI 0)), (0, .ref (ad 0)), (1, .int (iI a1)), (2, .int (iI a2)), (3, .int (iI a3)), (4, .int (iI a4)), (5, .int (iI a5)), (6, .int (iI a6))]) hx hb dX11_route_136 hl (by decide) rfl (fun ls hl => ?_)
                      refine lv_iload hx hb dX11_route_138 (lv_at hl 0 rfl) ?_
                      refine gi_zne (tgt := 149) hx hb dX11_route_140 (by decide) (by decide) (fun c_34 => ?_) (fun c_34 => ?_)
                      · exfalso; omega
                      · refine lv_aload_n hx hb dX11_route_143 rfl (lv_at hl 1 rfl) ?_
                        refine lv_iconst (v := iI 2) hx hb dX11_route_144 rfl ?_
                        refine g_cv (As := [.int (iI 2)]) (rest := []) (n := 1) C hml (m_X11_no l D k A ad hD (va_up (va_up v 0 0) 1 0) (va_up (va_up f 18 (f 18)) 19 (f 19)) g 2 (by decide) (show 0 ≤ (2 : Int) ∧ (2 : Int) ≤ 10 from by omega)) mM_X11_332 mI_X11_no mE_X11_no mN_X11 mC_X11_no (by decide +kernel) 0 (ci := 11) rfl rfl hP hS (fun _ h => h) ⟨Nat.le_of_ble_eq_true rfl, Nat.le_of_ble_eq_true rfl⟩ ⟨Nat.zero_le _, Nat.zero_le _⟩ hl.1 rfl rfl (Nat.le_of_ble_eq_true rfl) dX11_route_145 (fun r_35 v_35 f_35 g_35 H locs hq_35 hP _ hS => ?_)
                        obtain ⟨rfl, rfl, rfl, rfl⟩ := hq_35
                        show W p l e (gRm 2 43) s m args below meth c _ _ 0 0 Q (F0 m 148 ls [.int (iI 0)])
                        have hP : gWd D (mdT k ad) (va_up (va_up v 0 (2 : Int)) 1 0) (va_up (va_up f 18 (f 18)) 19 (f 19)) g H := ⟨hP.1, (gF_up (V := mdV) (F := mdF) (gF_up (V := mdV) (F := mdF) (gR_up (V := mdV) (F := mdF) (gR_up (V := mdV) (F := mdF) ⟨hok.1, hok.2⟩ 0 (hP.2.1 0)) 1 (hP.2.1 1)) 18 (hP.2.2 18)) 19 (hP.2.2 19))⟩
                        exact g_zret hQ C hr hlocks (by decide) hP hS dX11_route_148 ⟨0, (2 : Int), rfl, rfl, (by rw [show ((if (2 : Int) = 0 then u1 (f 18) (a1 * 5 + a2) a3 else (f 18)) : Int → Int) = (f 18) from by first | rfl | (rw [if_neg (by omega)]) | (rw [if_pos rfl]; congr 1; omega), show ((if (2 : Int) = 0 then u1 (u1 (u1 (f 19) ((a1 * 5 + a2) * 3 + 0) a4) ((a1 * 5 + a2) * 3 + 1) a5) ((a1 * 5 + a2) * 3 + 2) a6 else (f 19)) : Int → Int) = (f 19) from by first | rfl | (rw [if_neg (by omega)]) | (rw [if_pos rfl]; exact u3_eq (by omega) (by omega) (by omega))]), rfl, (by first | omega | ((repeat' split) <;> omega)), (by first | omega | ((repeat' split) <;> omega))⟩
                    · exfalso; omega
                  · refine lv_iconst (v := iI 1) hx hb dX11_route_69 rfl ?_
                    refine lv_goto (tgt := 74) hx hb dX11_route_70 (by decide) ?_
                    refine lv_istore (lv' := [(7, .int (iI 1)), (0, .ref (ad 0)), (1, .int (iI a1)), (2, .int (iI a2)), (3, .int (iI a3)), (4, .int (iI a4)), (5, .int (iI a5)), (6, .int (iI a6))]) hx hb dX11_route_74 hl (by decide) rfl (fun ls hl => ?_)
                    refine lv_iload hx hb dX11_route_76 (lv_at hl 0 rfl) ?_
                    refine gi_zeq (tgt := 135) hx hb dX11_route_78 (by decide) (by decide) (fun c_36 => ?_) (fun c_36 => ?_)
                    · exfalso; omega
                    · refine lv_iload hx hb dX11_route_81 (lv_at hl 5 rfl) ?_
                      refine gi_zne (tgt := 94) hx hb dX11_route_83 (by decide) (by omega) (fun c_37 => ?_) (fun c_37 => ?_)
                      · refine lv_iload hx hb dX11_route_94 (lv_at hl 6 rfl) ?_
                        refine gi_zeq (tgt := 106) hx hb dX11_route_96 (by decide) (by omega) (fun c_38 => ?_) (fun c_38 => ?_)
                        · refine lv_iload hx hb dX11_route_106 (lv_at hl 6 rfl) ?_
                          refine gi_zne (tgt := 119) hx hb dX11_route_108 (by decide) (by omega) (fun c_39 => ?_) (fun c_39 => ?_)
                          · exfalso; omega
                          · refine lv_iload hx hb dX11_route_111 (lv_at hl 7 rfl) ?_
                            refine gi_zne (tgt := 135) hx hb dX11_route_113 (by decide) (by omega) (fun c_40 => ?_) (fun c_40 => ?_)
                            · refine lv_iconst (v := iI 0) hx hb dX11_route_135 rfl ?_
                              refine lv_istore (lv' := [(7, .int (iI 0)), (0, .ref (ad 0)), (1, .int (iI a1)), (2, .int (iI a2)), (3, .int (iI a3)), (4, .int (iI a4)), (5, .int (iI a5)), (6, .int (iI a6))]) hx hb dX11_route_136 hl (by decide) rfl (fun ls hl => ?_)
                              refine lv_iload hx hb dX11_route_138 (lv_at hl 0 rfl) ?_
                              refine gi_zne (tgt := 149) hx hb dX11_route_140 (by decide) (by decide) (fun c_41 => ?_) (fun c_41 => ?_)
                              · exfalso; omega
                              · refine lv_aload_n hx hb dX11_route_143 rfl (lv_at hl 1 rfl) ?_
                                refine lv_iconst (v := iI 2) hx hb dX11_route_144 rfl ?_
                                refine g_cv (As := [.int (iI 2)]) (rest := []) (n := 1) C hml (m_X11_no l D k A ad hD (va_up (va_up v 0 0) 1 0) (va_up (va_up f 18 (f 18)) 19 (f 19)) g 2 (by decide) (show 0 ≤ (2 : Int) ∧ (2 : Int) ≤ 10 from by omega)) mM_X11_332 mI_X11_no mE_X11_no mN_X11 mC_X11_no (by decide +kernel) 0 (ci := 11) rfl rfl hP hS (fun _ h => h) ⟨Nat.le_of_ble_eq_true rfl, Nat.le_of_ble_eq_true rfl⟩ ⟨Nat.zero_le _, Nat.zero_le _⟩ hl.1 rfl rfl (Nat.le_of_ble_eq_true rfl) dX11_route_145 (fun r_42 v_42 f_42 g_42 H locs hq_42 hP _ hS => ?_)
                                obtain ⟨rfl, rfl, rfl, rfl⟩ := hq_42
                                show W p l e (gRm 2 43) s m args below meth c _ _ 0 0 Q (F0 m 148 ls [.int (iI 0)])
                                have hP : gWd D (mdT k ad) (va_up (va_up v 0 (2 : Int)) 1 0) (va_up (va_up f 18 (f 18)) 19 (f 19)) g H := ⟨hP.1, (gF_up (V := mdV) (F := mdF) (gF_up (V := mdV) (F := mdF) (gR_up (V := mdV) (F := mdF) (gR_up (V := mdV) (F := mdF) ⟨hok.1, hok.2⟩ 0 (hP.2.1 0)) 1 (hP.2.1 1)) 18 (hP.2.2 18)) 19 (hP.2.2 19))⟩
                                exact g_zret hQ C hr hlocks (by decide) hP hS dX11_route_148 ⟨0, (2 : Int), rfl, rfl, (by rw [show ((if (2 : Int) = 0 then u1 (f 18) (a1 * 5 + a2) a3 else (f 18)) : Int → Int) = (f 18) from by first | rfl | (rw [if_neg (by omega)]) | (rw [if_pos rfl]; congr 1; omega), show ((if (2 : Int) = 0 then u1 (u1 (u1 (f 19) ((a1 * 5 + a2) * 3 + 0) a4) ((a1 * 5 + a2) * 3 + 1) a5) ((a1 * 5 + a2) * 3 + 2) a6 else (f 19)) : Int → Int) = (f 19) from by first | rfl | (rw [if_neg (by omega)]) | (rw [if_pos rfl]; exact u3_eq (by omega) (by omega) (by omega))]), rfl, (by first | omega | ((repeat' split) <;> omega)), (by first | omega | ((repeat' split) <;> omega))⟩
                            · refine lv_goto (tgt := 131) hx hb dX11_route_116 (by decide) ?_
                              refine lv_iconst (v := iI 1) hx hb dX11_route_131 rfl ?_
                              refine lv_goto (tgt := 136) hx hb dX11_route_132 (by decide) ?_
                              refine lv_istore (lv' := [(7, .int (iI 1)), (0, .ref (ad 0)), (1, .int (iI a1)), (2, .int (iI a2)), (3, .int (iI a3)), (4, .int (iI a4)), (5, .int (iI a5)), (6, .int (iI a6))]) hx hb dX11_route_136 hl (by decide) rfl (fun ls hl => ?_)
                              refine lv_iload hx hb dX11_route_138 (lv_at hl 0 rfl) ?_
                              refine gi_zne (tgt := 149) hx hb dX11_route_140 (by decide) (by decide) (fun c_43 => ?_) (fun c_43 => ?_)
                              · refine lv_iload_n hx hb dX11_route_149 rfl (lv_at hl 2 rfl) ?_
                                refine lv_iload_n hx hb dX11_route_150 rfl (lv_at hl 3 rfl) ?_
                                refine g_cs (As := [.int (iI a1), .int (iI a2)]) (rest := []) (n := 2) C hml (m_X11_at l D k A ad hD (va_up (va_up v 0 0) 1 0) (va_up (va_up f 18 (f 18)) 19 (f 19)) g a1 a2 (by omega) (by omega) (show 0 ≤ a1 ∧ a1 ≤ 3 from by omega) (show 0 ≤ a2 ∧ a2 ≤ 4 from by omega)) mM_X11_335 mS_X11_at mN_X11 mC_X11_at (by decide +kernel) hP hS (fun _ h => h) ⟨Nat.le_of_ble_eq_true rfl, Nat.le_of_ble_eq_true rfl⟩ ⟨Nat.zero_le _, Nat.zero_le _⟩ hl.1 rfl rfl (Nat.le_of_ble_eq_true rfl) dX11_route_151 (fun r_44 v_44 f_44 g_44 H locs hq_44 hP _ hS => ?_)
                                obtain ⟨z_44, rfl, rfl, rfl, rfl, p0_44⟩ := hq_44
                                show W p l e (gRm 2 43) s m args below meth c _ _ 0 0 Q (F0 m 154 ls [.int (iI z_44)])
                                replace p0_44 : z_44 = (5 * a1 + a2) := p0_44
                                have hz_44 : inR z_44 := (by first | omega | (rw [p0_44]; split <;> omega))
                                have hat := p0_44
                                have hbe : (f 20) z_44 = (f 20) (a1 * 5 + a2) := by rw [show z_44 = (a1 * 5 + a2) by omega]
                                refine lv_istore (lv' := [(8, .int (iI z_44)), (7, .int (iI 1)), (0, .ref (ad 0)), (1, .int (iI a1)), (2, .int (iI a2)), (3, .int (iI a3)), (4, .int (iI a4)), (5, .int (iI a5)), (6, .int (iI a6))]) hx hb dX11_route_154 hl (by decide) rfl (fun ls hl => ?_)
                                refine lv_aload_n hx hb dX11_route_156 rfl (lv_at hl 2 rfl) ?_
                                refine mdG_begun C hP mF_X11_79 dX11_route_157 ?_
                                refine lv_iload hx hb dX11_route_160 (lv_at hl 0 rfl) ?_
                                refine mdL_begun C hP (by omega) (by omega) dX11_route_162 ?_
                                show W p l e (gRm 2 43) s m args below meth c _ _ 0 0 Q (F0 m 163 ls [.int (iI (f 20 z_44))])
                                have r_45 : 0 ≤ (f 20 z_44) ∧ (f 20 z_44) ≤ 300 := hP.2.2 20 z_44
                                refine gi_zle (tgt := 173) hx hb dX11_route_163 (by decide) (by omega) (fun c_46 => ?_) (fun c_46 => ?_)
                                · refine lv_aload_n hx hb dX11_route_173 rfl (lv_at hl 2 rfl) ?_
                                  refine mdG_holds C hP mF_X11_73 dX11_route_174 ?_
                                  refine lv_iload hx hb dX11_route_177 (lv_at hl 0 rfl) ?_
                                  refine lv_iload_n hx hb dX11_route_179 rfl (lv_at hl 5 rfl) ?_
                                  refine mdS_holds (f1 := (va_up (va_up f 18 (u1 (f 18) z_44 a3)) 19 (f 19))) C hP hD hS (by omega) (by omega) (by omega) rfl (Or.inr (gF_up (V := mdV) (F := mdF) (gF_up (V := mdV) (F := mdF) (gR_up (V := mdV) (F := mdF) (gR_up (V := mdV) (F := mdF) ⟨hok.1, hok.2⟩ 0 (hP.2.1 0)) 1 (hP.2.1 1)) 18 (u1_rng (hP.2.2 18) (show 0 ≤ a3 ∧ a3 ≤ 60 from (by omega)))) 19 (hP.2.2 19))) dX11_route_180 (fun H locs hP hS => ?_)
                                  refine lv_aload_n hx hb dX11_route_181 rfl (lv_at hl 2 rfl) ?_
                                  refine mdG_zones C hP mF_X11_76 dX11_route_182 ?_
                                  refine lv_iconst (v := iI 3) hx hb dX11_route_185 rfl ?_
                                  refine lv_iload hx hb dX11_route_186 (lv_at hl 0 rfl) ?_
                                  refine gi_mul (z := (3 * z_44)) hx hb dX11_route_188 rfl ?_
                                  refine lv_iload hx hb dX11_route_189 (lv_at hl 6 rfl) ?_
                                  refine mdS_zones (f1 := (va_up (va_up f 18 (u1 (f 18) z_44 a3)) 19 (u1 (f 19) (3 * z_44) a4))) C hP hD hS (by omega) (by omega) (by omega) rfl (Or.inr (gF_up (V := mdV) (F := mdF) (gF_up (V := mdV) (F := mdF) (gR_up (V := mdV) (F := mdF) (gR_up (V := mdV) (F := mdF) ⟨hok.1, hok.2⟩ 0 (hP.2.1 0)) 1 (hP.2.1 1)) 18 (hP.2.2 18)) 19 (u1_rng (hP.2.2 19) (show 0 ≤ a4 ∧ a4 ≤ 60 from (by omega))))) dX11_route_191 (fun H locs hP hS => ?_)
                                  refine lv_aload_n hx hb dX11_route_192 rfl (lv_at hl 2 rfl) ?_
                                  refine mdG_zones C hP mF_X11_76 dX11_route_193 ?_
                                  refine lv_iconst (v := iI 3) hx hb dX11_route_196 rfl ?_
                                  refine lv_iload hx hb dX11_route_197 (lv_at hl 0 rfl) ?_
                                  refine gi_mul (z := (3 * z_44)) hx hb dX11_route_199 rfl ?_
                                  refine lv_iconst (v := iI 1) hx hb dX11_route_200 rfl ?_
                                  refine gi_add (z := ((3 * z_44) + 1)) hx hb dX11_route_201 rfl ?_
                                  refine lv_iload hx hb dX11_route_202 (lv_at hl 7 rfl) ?_
                                  refine mdS_zones (f1 := (va_up (va_up f 18 (u1 (f 18) z_44 a3)) 19 (u1 (u1 (f 19) (3 * z_44) a4) ((3 * z_44) + 1) a5))) C hP hD hS (by omega) (by omega) (by omega) rfl (Or.inr (gF_up (V := mdV) (F := mdF) (gF_up (V := mdV) (F := mdF) (gR_up (V := mdV) (F := mdF) (gR_up (V := mdV) (F := mdF) ⟨hok.1, hok.2⟩ 0 (hP.2.1 0)) 1 (hP.2.1 1)) 18 (hP.2.2 18)) 19 (u1_rng (hP.2.2 19) (show 0 ≤ a5 ∧ a5 ≤ 60 from (by omega))))) dX11_route_204 (fun H locs hP hS => ?_)
                                  refine lv_aload_n hx hb dX11_route_205 rfl (lv_at hl 2 rfl) ?_
                                  refine mdG_zones C hP mF_X11_76 dX11_route_206 ?_
                                  refine lv_iconst (v := iI 3) hx hb dX11_route_209 rfl ?_
                                  refine lv_iload hx hb dX11_route_210 (lv_at hl 0 rfl) ?_
                                  refine gi_mul (z := (3 * z_44)) hx hb dX11_route_212 rfl ?_
                                  refine lv_iconst (v := iI 2) hx hb dX11_route_213 rfl ?_
                                  refine gi_add (z := ((3 * z_44) + 2)) hx hb dX11_route_214 rfl ?_
                                  refine lv_iload hx hb dX11_route_215 (lv_at hl 8 rfl) ?_
                                  refine mdS_zones (f1 := (va_up (va_up f 18 (u1 (f 18) z_44 a3)) 19 (u1 (u1 (u1 (f 19) (3 * z_44) a4) ((3 * z_44) + 1) a5) ((3 * z_44) + 2) a6))) C hP hD hS (by omega) (by omega) (by omega) rfl (Or.inr (gF_up (V := mdV) (F := mdF) (gF_up (V := mdV) (F := mdF) (gR_up (V := mdV) (F := mdF) (gR_up (V := mdV) (F := mdF) ⟨hok.1, hok.2⟩ 0 (hP.2.1 0)) 1 (hP.2.1 1)) 18 (hP.2.2 18)) 19 (u1_rng (hP.2.2 19) (show 0 ≤ a6 ∧ a6 ≤ 60 from (by omega))))) dX11_route_217 (fun H locs hP hS => ?_)
                                  refine lv_iconst (v := iI 1) hx hb dX11_route_218 rfl ?_
                                  exact g_zret hQ C hr hlocks (by decide) hP hS dX11_route_219 ⟨1, 0, rfl, rfl, (by rw [show ((if (0 : Int) = 0 then u1 (f 18) (a1 * 5 + a2) a3 else (f 18)) : Int → Int) = (u1 (f 18) z_44 a3) from by first | rfl | (rw [if_neg (by omega)]) | (rw [if_pos rfl]; congr 1; omega), show ((if (0 : Int) = 0 then u1 (u1 (u1 (f 19) ((a1 * 5 + a2) * 3 + 0) a4) ((a1 * 5 + a2) * 3 + 1) a5) ((a1 * 5 + a2) * 3 + 2) a6 else (f 19)) : Int → Int) = (u1 (u1 (u1 (f 19) (3 * z_44) a4) ((3 * z_44) + 1) a5) ((3 * z_44) + 2) a6) from by first | rfl | (rw [if_neg (by omega)]) | (rw [if_pos rfl]; exact u3_eq (by omega) (by omega) (by omega))]), rfl, (by first | omega | ((repeat' split) <;> omega)), (by first | omega | ((repeat' split) <;> omega))⟩
                                · refine lv_aload_n hx hb dX11_route_166 rfl (lv_at hl 2 rfl) ?_
                                  refine lv_bipush (v := iI 10) hx hb dX11_route_167 (by decide) ?_
                                  refine g_cv (As := [.int (iI 10)]) (rest := []) (n := 1) C hml (m_X11_no l D k A ad hD (va_up (va_up v 0 0) 1 0) (va_up (va_up f 18 (f 18)) 19 (f 19)) g 10 (by decide) (show 0 ≤ (10 : Int) ∧ (10 : Int) ≤ 10 from by omega)) mM_X11_332 mI_X11_no mE_X11_no mN_X11 mC_X11_no (by decide +kernel) 0 (ci := 11) rfl rfl hP hS (fun _ h => h) ⟨Nat.le_of_ble_eq_true rfl, Nat.le_of_ble_eq_true rfl⟩ ⟨Nat.zero_le _, Nat.zero_le _⟩ hl.1 rfl rfl (Nat.le_of_ble_eq_true rfl) dX11_route_169 (fun r_47 v_47 f_47 g_47 H locs hq_47 hP _ hS => ?_)
                                  obtain ⟨rfl, rfl, rfl, rfl⟩ := hq_47
                                  show W p l e (gRm 2 43) s m args below meth c _ _ 0 0 Q (F0 m 172 ls [.int (iI 0)])
                                  have hP : gWd D (mdT k ad) (va_up (va_up v 0 (10 : Int)) 1 0) (va_up (va_up f 18 (f 18)) 19 (f 19)) g H := ⟨hP.1, (gF_up (V := mdV) (F := mdF) (gF_up (V := mdV) (F := mdF) (gR_up (V := mdV) (F := mdF) (gR_up (V := mdV) (F := mdF) ⟨hok.1, hok.2⟩ 0 (hP.2.1 0)) 1 (hP.2.1 1)) 18 (hP.2.2 18)) 19 (hP.2.2 19))⟩
                                  exact g_zret hQ C hr hlocks (by decide) hP hS dX11_route_172 ⟨0, (10 : Int), rfl, rfl, (by rw [show ((if (10 : Int) = 0 then u1 (f 18) (a1 * 5 + a2) a3 else (f 18)) : Int → Int) = (f 18) from by first | rfl | (rw [if_neg (by omega)]) | (rw [if_pos rfl]; congr 1; omega), show ((if (10 : Int) = 0 then u1 (u1 (u1 (f 19) ((a1 * 5 + a2) * 3 + 0) a4) ((a1 * 5 + a2) * 3 + 1) a5) ((a1 * 5 + a2) * 3 + 2) a6 else (f 19)) : Int → Int) = (f 19) from by first | rfl | (rw [if_neg (by omega)]) | (rw [if_pos rfl]; exact u3_eq (by omega) (by omega) (by omega))]), rfl, (by first | omega | ((repeat' split) <;> omega)), (by first | omega | ((repeat' split) <;> omega))⟩
                              · exfalso; omega
                        · refine lv_iload hx hb dX11_route_99 (lv_at hl 6 rfl) ?_
                          refine lv_iload hx hb dX11_route_101 (lv_at hl 5 rfl) ?_
                          refine gi_cle (tgt := 135) hx hb dX11_route_103 (by decide) (by omega) (by omega) (fun c_48 => ?_) (fun c_48 => ?_)
                          · refine lv_iconst (v := iI 0) hx hb dX11_route_135 rfl ?_
                            refine lv_istore (lv' := [(7, .int (iI 0)), (0, .ref (ad 0)), (1, .int (iI a1)), (2, .int (iI a2)), (3, .int (iI a3)), (4, .int (iI a4)), (5, .int (iI a5)), (6, .int (iI a6))]) hx hb dX11_route_136 hl (by decide) rfl (fun ls hl => ?_)
                            refine lv_iload hx hb dX11_route_138 (lv_at hl 0 rfl) ?_
                            refine gi_zne (tgt := 149) hx hb dX11_route_140 (by decide) (by decide) (fun c_49 => ?_) (fun c_49 => ?_)
                            · exfalso; omega
                            · refine lv_aload_n hx hb dX11_route_143 rfl (lv_at hl 1 rfl) ?_
                              refine lv_iconst (v := iI 2) hx hb dX11_route_144 rfl ?_
                              refine g_cv (As := [.int (iI 2)]) (rest := []) (n := 1) C hml (m_X11_no l D k A ad hD (va_up (va_up v 0 0) 1 0) (va_up (va_up f 18 (f 18)) 19 (f 19)) g 2 (by decide) (show 0 ≤ (2 : Int) ∧ (2 : Int) ≤ 10 from by omega)) mM_X11_332 mI_X11_no mE_X11_no mN_X11 mC_X11_no (by decide +kernel) 0 (ci := 11) rfl rfl hP hS (fun _ h => h) ⟨Nat.le_of_ble_eq_true rfl, Nat.le_of_ble_eq_true rfl⟩ ⟨Nat.zero_le _, Nat.zero_le _⟩ hl.1 rfl rfl (Nat.le_of_ble_eq_true rfl) dX11_route_145 (fun r_50 v_50 f_50 g_50 H locs hq_50 hP _ hS => ?_)
                              obtain ⟨rfl, rfl, rfl, rfl⟩ := hq_50
                              show W p l e (gRm 2 43) s m args below meth c _ _ 0 0 Q (F0 m 148 ls [.int (iI 0)])
                              have hP : gWd D (mdT k ad) (va_up (va_up v 0 (2 : Int)) 1 0) (va_up (va_up f 18 (f 18)) 19 (f 19)) g H := ⟨hP.1, (gF_up (V := mdV) (F := mdF) (gF_up (V := mdV) (F := mdF) (gR_up (V := mdV) (F := mdF) (gR_up (V := mdV) (F := mdF) ⟨hok.1, hok.2⟩ 0 (hP.2.1 0)) 1 (hP.2.1 1)) 18 (hP.2.2 18)) 19 (hP.2.2 19))⟩
                              exact g_zret hQ C hr hlocks (by decide) hP hS dX11_route_148 ⟨0, (2 : Int), rfl, rfl, (by rw [show ((if (2 : Int) = 0 then u1 (f 18) (a1 * 5 + a2) a3 else (f 18)) : Int → Int) = (f 18) from by first | rfl | (rw [if_neg (by omega)]) | (rw [if_pos rfl]; congr 1; omega), show ((if (2 : Int) = 0 then u1 (u1 (u1 (f 19) ((a1 * 5 + a2) * 3 + 0) a4) ((a1 * 5 + a2) * 3 + 1) a5) ((a1 * 5 + a2) * 3 + 2) a6 else (f 19)) : Int → Int) = (f 19) from by first | rfl | (rw [if_neg (by omega)]) | (rw [if_pos rfl]; exact u3_eq (by omega) (by omega) (by omega))]), rfl, (by first | omega | ((repeat' split) <;> omega)), (by first | omega | ((repeat' split) <;> omega))⟩
                          · refine lv_iload hx hb dX11_route_106 (lv_at hl 6 rfl) ?_
                            refine gi_zne (tgt := 119) hx hb dX11_route_108 (by decide) (by omega) (fun c_51 => ?_) (fun c_51 => ?_)
                            · refine lv_iload hx hb dX11_route_119 (lv_at hl 7 rfl) ?_
                              refine gi_zeq (tgt := 131) hx hb dX11_route_121 (by decide) (by omega) (fun c_52 => ?_) (fun c_52 => ?_)
                              · refine lv_iconst (v := iI 1) hx hb dX11_route_131 rfl ?_
                                refine lv_goto (tgt := 136) hx hb dX11_route_132 (by decide) ?_
                                refine lv_istore (lv' := [(7, .int (iI 1)), (0, .ref (ad 0)), (1, .int (iI a1)), (2, .int (iI a2)), (3, .int (iI a3)), (4, .int (iI a4)), (5, .int (iI a5)), (6, .int (iI a6))]) hx hb dX11_route_136 hl (by decide) rfl (fun ls hl => ?_)
                                refine lv_iload hx hb dX11_route_138 (lv_at hl 0 rfl) ?_
                                refine gi_zne (tgt := 149) hx hb dX11_route_140 (by decide) (by decide) (fun c_53 => ?_) (fun c_53 => ?_)
                                · refine lv_iload_n hx hb dX11_route_149 rfl (lv_at hl 2 rfl) ?_
                                  refine lv_iload_n hx hb dX11_route_150 rfl (lv_at hl 3 rfl) ?_
                                  refine g_cs (As := [.int (iI a1), .int (iI a2)]) (rest := []) (n := 2) C hml (m_X11_at l D k A ad hD (va_up (va_up v 0 0) 1 0) (va_up (va_up f 18 (f 18)) 19 (f 19)) g a1 a2 (by omega) (by omega) (show 0 ≤ a1 ∧ a1 ≤ 3 from by omega) (show 0 ≤ a2 ∧ a2 ≤ 4 from by omega)) mM_X11_335 mS_X11_at mN_X11 mC_X11_at (by decide +kernel) hP hS (fun _ h => h) ⟨Nat.le_of_ble_eq_true rfl, Nat.le_of_ble_eq_true rfl⟩ ⟨Nat.zero_le _, Nat.zero_le _⟩ hl.1 rfl rfl (Nat.le_of_ble_eq_true rfl) dX11_route_151 (fun r_54 v_54 f_54 g_54 H locs hq_54 hP _ hS => ?_)
                                  obtain ⟨z_54, rfl, rfl, rfl, rfl, p0_54⟩ := hq_54
                                  show W p l e (gRm 2 43) s m args below meth c _ _ 0 0 Q (F0 m 154 ls [.int (iI z_54)])
                                  replace p0_54 : z_54 = (5 * a1 + a2) := p0_54
                                  have hz_54 : inR z_54 := (by first | omega | (rw [p0_54]; split <;> omega))
                                  have hat := p0_54
                                  have hbe : (f 20) z_54 = (f 20) (a1 * 5 + a2) := by rw [show z_54 = (a1 * 5 + a2) by omega]
                                  refine lv_istore (lv' := [(8, .int (iI z_54)), (7, .int (iI 1)), (0, .ref (ad 0)), (1, .int (iI a1)), (2, .int (iI a2)), (3, .int (iI a3)), (4, .int (iI a4)), (5, .int (iI a5)), (6, .int (iI a6))]) hx hb dX11_route_154 hl (by decide) rfl (fun ls hl => ?_)
                                  refine lv_aload_n hx hb dX11_route_156 rfl (lv_at hl 2 rfl) ?_
                                  refine mdG_begun C hP mF_X11_79 dX11_route_157 ?_
                                  refine lv_iload hx hb dX11_route_160 (lv_at hl 0 rfl) ?_
                                  refine mdL_begun C hP (by omega) (by omega) dX11_route_162 ?_
                                  show W p l e (gRm 2 43) s m args below meth c _ _ 0 0 Q (F0 m 163 ls [.int (iI (f 20 z_54))])
                                  have r_55 : 0 ≤ (f 20 z_54) ∧ (f 20 z_54) ≤ 300 := hP.2.2 20 z_54
                                  refine gi_zle (tgt := 173) hx hb dX11_route_163 (by decide) (by omega) (fun c_56 => ?_) (fun c_56 => ?_)
                                  · refine lv_aload_n hx hb dX11_route_173 rfl (lv_at hl 2 rfl) ?_
                                    refine mdG_holds C hP mF_X11_73 dX11_route_174 ?_
                                    refine lv_iload hx hb dX11_route_177 (lv_at hl 0 rfl) ?_
                                    refine lv_iload_n hx hb dX11_route_179 rfl (lv_at hl 5 rfl) ?_
                                    refine mdS_holds (f1 := (va_up (va_up f 18 (u1 (f 18) z_54 a3)) 19 (f 19))) C hP hD hS (by omega) (by omega) (by omega) rfl (Or.inr (gF_up (V := mdV) (F := mdF) (gF_up (V := mdV) (F := mdF) (gR_up (V := mdV) (F := mdF) (gR_up (V := mdV) (F := mdF) ⟨hok.1, hok.2⟩ 0 (hP.2.1 0)) 1 (hP.2.1 1)) 18 (u1_rng (hP.2.2 18) (show 0 ≤ a3 ∧ a3 ≤ 60 from (by omega)))) 19 (hP.2.2 19))) dX11_route_180 (fun H locs hP hS => ?_)
                                    refine lv_aload_n hx hb dX11_route_181 rfl (lv_at hl 2 rfl) ?_
                                    refine mdG_zones C hP mF_X11_76 dX11_route_182 ?_
                                    refine lv_iconst (v := iI 3) hx hb dX11_route_185 rfl ?_
                                    refine lv_iload hx hb dX11_route_186 (lv_at hl 0 rfl) ?_
                                    refine gi_mul (z := (3 * z_54)) hx hb dX11_route_188 rfl ?_
                                    refine lv_iload hx hb dX11_route_189 (lv_at hl 6 rfl) ?_
                                    refine mdS_zones (f1 := (va_up (va_up f 18 (u1 (f 18) z_54 a3)) 19 (u1 (f 19) (3 * z_54) a4))) C hP hD hS (by omega) (by omega) (by omega) rfl (Or.inr (gF_up (V := mdV) (F := mdF) (gF_up (V := mdV) (F := mdF) (gR_up (V := mdV) (F := mdF) (gR_up (V := mdV) (F := mdF) ⟨hok.1, hok.2⟩ 0 (hP.2.1 0)) 1 (hP.2.1 1)) 18 (hP.2.2 18)) 19 (u1_rng (hP.2.2 19) (show 0 ≤ a4 ∧ a4 ≤ 60 from (by omega))))) dX11_route_191 (fun H locs hP hS => ?_)
                                    refine lv_aload_n hx hb dX11_route_192 rfl (lv_at hl 2 rfl) ?_
                                    refine mdG_zones C hP mF_X11_76 dX11_route_193 ?_
                                    refine lv_iconst (v := iI 3) hx hb dX11_route_196 rfl ?_
                                    refine lv_iload hx hb dX11_route_197 (lv_at hl 0 rfl) ?_
                                    refine gi_mul (z := (3 * z_54)) hx hb dX11_route_199 rfl ?_
                                    refine lv_iconst (v := iI 1) hx hb dX11_route_200 rfl ?_
                                    refine gi_add (z := ((3 * z_54) + 1)) hx hb dX11_route_201 rfl ?_
                                    refine lv_iload hx hb dX11_route_202 (lv_at hl 7 rfl) ?_
                                    refine mdS_zones (f1 := (va_up (va_up f 18 (u1 (f 18) z_54 a3)) 19 (u1 (u1 (f 19) (3 * z_54) a4) ((3 * z_54) + 1) a5))) C hP hD hS (by omega) (by omega) (by omega) rfl (Or.inr (gF_up (V := mdV) (F := mdF) (gF_up (V := mdV) (F := mdF) (gR_up (V := mdV) (F := mdF) (gR_up (V := mdV) (F := mdF) ⟨hok.1, hok.2⟩ 0 (hP.2.1 0)) 1 (hP.2.1 1)) 18 (hP.2.2 18)) 19 (u1_rng (hP.2.2 19) (show 0 ≤ a5 ∧ a5 ≤ 60 from (by omega))))) dX11_route_204 (fun H locs hP hS => ?_)
                                    refine lv_aload_n hx hb dX11_route_205 rfl (lv_at hl 2 rfl) ?_
                                    refine mdG_zones C hP mF_X11_76 dX11_route_206 ?_
                                    refine lv_iconst (v := iI 3) hx hb dX11_route_209 rfl ?_
                                    refine lv_iload hx hb dX11_route_210 (lv_at hl 0 rfl) ?_
                                    refine gi_mul (z := (3 * z_54)) hx hb dX11_route_212 rfl ?_
                                    refine lv_iconst (v := iI 2) hx hb dX11_route_213 rfl ?_
                                    refine gi_add (z := ((3 * z_54) + 2)) hx hb dX11_route_214 rfl ?_
                                    refine lv_iload hx hb dX11_route_215 (lv_at hl 8 rfl) ?_
                                    refine mdS_zones (f1 := (va_up (va_up f 18 (u1 (f 18) z_54 a3)) 19 (u1 (u1 (u1 (f 19) (3 * z_54) a4) ((3 * z_54) + 1) a5) ((3 * z_54) + 2) a6))) C hP hD hS (by omega) (by omega) (by omega) rfl (Or.inr (gF_up (V := mdV) (F := mdF) (gF_up (V := mdV) (F := mdF) (gR_up (V := mdV) (F := mdF) (gR_up (V := mdV) (F := mdF) ⟨hok.1, hok.2⟩ 0 (hP.2.1 0)) 1 (hP.2.1 1)) 18 (hP.2.2 18)) 19 (u1_rng (hP.2.2 19) (show 0 ≤ a6 ∧ a6 ≤ 60 from (by omega))))) dX11_route_217 (fun H locs hP hS => ?_)
                                    refine lv_iconst (v := iI 1) hx hb dX11_route_218 rfl ?_
                                    exact g_zret hQ C hr hlocks (by decide) hP hS dX11_route_219 ⟨1, 0, rfl, rfl, (by rw [show ((if (0 : Int) = 0 then u1 (f 18) (a1 * 5 + a2) a3 else (f 18)) : Int → Int) = (u1 (f 18) z_54 a3) from by first | rfl | (rw [if_neg (by omega)]) | (rw [if_pos rfl]; congr 1; omega), show ((if (0 : Int) = 0 then u1 (u1 (u1 (f 19) ((a1 * 5 + a2) * 3 + 0) a4) ((a1 * 5 + a2) * 3 + 1) a5) ((a1 * 5 + a2) * 3 + 2) a6 else (f 19)) : Int → Int) = (u1 (u1 (u1 (f 19) (3 * z_54) a4) ((3 * z_54) + 1) a5) ((3 * z_54) + 2) a6) from by first | rfl | (rw [if_neg (by omega)]) | (rw [if_pos rfl]; exact u3_eq (by omega) (by omega) (by omega))]), rfl, (by first | omega | ((repeat' split) <;> omega)), (by first | omega | ((repeat' split) <;> omega))⟩
                                  · refine lv_aload_n hx hb dX11_route_166 rfl (lv_at hl 2 rfl) ?_
                                    refine lv_bipush (v := iI 10) hx hb dX11_route_167 (by decide) ?_
                                    refine g_cv (As := [.int (iI 10)]) (rest := []) (n := 1) C hml (m_X11_no l D k A ad hD (va_up (va_up v 0 0) 1 0) (va_up (va_up f 18 (f 18)) 19 (f 19)) g 10 (by decide) (show 0 ≤ (10 : Int) ∧ (10 : Int) ≤ 10 from by omega)) mM_X11_332 mI_X11_no mE_X11_no mN_X11 mC_X11_no (by decide +kernel) 0 (ci := 11) rfl rfl hP hS (fun _ h => h) ⟨Nat.le_of_ble_eq_true rfl, Nat.le_of_ble_eq_true rfl⟩ ⟨Nat.zero_le _, Nat.zero_le _⟩ hl.1 rfl rfl (Nat.le_of_ble_eq_true rfl) dX11_route_169 (fun r_57 v_57 f_57 g_57 H locs hq_57 hP _ hS => ?_)
                                    obtain ⟨rfl, rfl, rfl, rfl⟩ := hq_57
                                    show W p l e (gRm 2 43) s m args below meth c _ _ 0 0 Q (F0 m 172 ls [.int (iI 0)])
                                    have hP : gWd D (mdT k ad) (va_up (va_up v 0 (10 : Int)) 1 0) (va_up (va_up f 18 (f 18)) 19 (f 19)) g H := ⟨hP.1, (gF_up (V := mdV) (F := mdF) (gF_up (V := mdV) (F := mdF) (gR_up (V := mdV) (F := mdF) (gR_up (V := mdV) (F := mdF) ⟨hok.1, hok.2⟩ 0 (hP.2.1 0)) 1 (hP.2.1 1)) 18 (hP.2.2 18)) 19 (hP.2.2 19))⟩
                                    exact g_zret hQ C hr hlocks (by decide) hP hS dX11_route_172 ⟨0, (10 : Int), rfl, rfl, (by rw [show ((if (10 : Int) = 0 then u1 (f 18) (a1 * 5 + a2) a3 else (f 18)) : Int → Int) = (f 18) from by first | rfl | (rw [if_neg (by omega)]) | (rw [if_pos rfl]; congr 1; omega), show ((if (10 : Int) = 0 then u1 (u1 (u1 (f 19) ((a1 * 5 + a2) * 3 + 0) a4) ((a1 * 5 + a2) * 3 + 1) a5) ((a1 * 5 + a2) * 3 + 2) a6 else (f 19)) : Int → Int) = (f 19) from by first | rfl | (rw [if_neg (by omega)]) | (rw [if_pos rfl]; exact u3_eq (by omega) (by omega) (by omega))]), rfl, (by first | omega | ((repeat' split) <;> omega)), (by first | omega | ((repeat' split) <;> omega))⟩
                                · exfalso; omega
                              · refine lv_iload hx hb dX11_route_124 (lv_at hl 7 rfl) ?_
                                refine lv_iload hx hb dX11_route_126 (lv_at hl 6 rfl) ?_
                                refine gi_cle (tgt := 135) hx hb dX11_route_128 (by decide) (by omega) (by omega) (fun c_58 => ?_) (fun c_58 => ?_)
                                · refine lv_iconst (v := iI 0) hx hb dX11_route_135 rfl ?_
                                  refine lv_istore (lv' := [(7, .int (iI 0)), (0, .ref (ad 0)), (1, .int (iI a1)), (2, .int (iI a2)), (3, .int (iI a3)), (4, .int (iI a4)), (5, .int (iI a5)), (6, .int (iI a6))]) hx hb dX11_route_136 hl (by decide) rfl (fun ls hl => ?_)
                                  refine lv_iload hx hb dX11_route_138 (lv_at hl 0 rfl) ?_
                                  refine gi_zne (tgt := 149) hx hb dX11_route_140 (by decide) (by decide) (fun c_59 => ?_) (fun c_59 => ?_)
                                  · exfalso; omega
                                  · refine lv_aload_n hx hb dX11_route_143 rfl (lv_at hl 1 rfl) ?_
                                    refine lv_iconst (v := iI 2) hx hb dX11_route_144 rfl ?_
                                    refine g_cv (As := [.int (iI 2)]) (rest := []) (n := 1) C hml (m_X11_no l D k A ad hD (va_up (va_up v 0 0) 1 0) (va_up (va_up f 18 (f 18)) 19 (f 19)) g 2 (by decide) (show 0 ≤ (2 : Int) ∧ (2 : Int) ≤ 10 from by omega)) mM_X11_332 mI_X11_no mE_X11_no mN_X11 mC_X11_no (by decide +kernel) 0 (ci := 11) rfl rfl hP hS (fun _ h => h) ⟨Nat.le_of_ble_eq_true rfl, Nat.le_of_ble_eq_true rfl⟩ ⟨Nat.zero_le _, Nat.zero_le _⟩ hl.1 rfl rfl (Nat.le_of_ble_eq_true rfl) dX11_route_145 (fun r_60 v_60 f_60 g_60 H locs hq_60 hP _ hS => ?_)
                                    obtain ⟨rfl, rfl, rfl, rfl⟩ := hq_60
                                    show W p l e (gRm 2 43) s m args below meth c _ _ 0 0 Q (F0 m 148 ls [.int (iI 0)])
                                    have hP : gWd D (mdT k ad) (va_up (va_up v 0 (2 : Int)) 1 0) (va_up (va_up f 18 (f 18)) 19 (f 19)) g H := ⟨hP.1, (gF_up (V := mdV) (F := mdF) (gF_up (V := mdV) (F := mdF) (gR_up (V := mdV) (F := mdF) (gR_up (V := mdV) (F := mdF) ⟨hok.1, hok.2⟩ 0 (hP.2.1 0)) 1 (hP.2.1 1)) 18 (hP.2.2 18)) 19 (hP.2.2 19))⟩
                                    exact g_zret hQ C hr hlocks (by decide) hP hS dX11_route_148 ⟨0, (2 : Int), rfl, rfl, (by rw [show ((if (2 : Int) = 0 then u1 (f 18) (a1 * 5 + a2) a3 else (f 18)) : Int → Int) = (f 18) from by first | rfl | (rw [if_neg (by omega)]) | (rw [if_pos rfl]; congr 1; omega), show ((if (2 : Int) = 0 then u1 (u1 (u1 (f 19) ((a1 * 5 + a2) * 3 + 0) a4) ((a1 * 5 + a2) * 3 + 1) a5) ((a1 * 5 + a2) * 3 + 2) a6 else (f 19)) : Int → Int) = (f 19) from by first | rfl | (rw [if_neg (by omega)]) | (rw [if_pos rfl]; exact u3_eq (by omega) (by omega) (by omega))]), rfl, (by first | omega | ((repeat' split) <;> omega)), (by first | omega | ((repeat' split) <;> omega))⟩
                                · refine lv_iconst (v := iI 1) hx hb dX11_route_131 rfl ?_
                                  refine lv_goto (tgt := 136) hx hb dX11_route_132 (by decide) ?_
                                  refine lv_istore (lv' := [(7, .int (iI 1)), (0, .ref (ad 0)), (1, .int (iI a1)), (2, .int (iI a2)), (3, .int (iI a3)), (4, .int (iI a4)), (5, .int (iI a5)), (6, .int (iI a6))]) hx hb dX11_route_136 hl (by decide) rfl (fun ls hl => ?_)
                                  refine lv_iload hx hb dX11_route_138 (lv_at hl 0 rfl) ?_
                                  refine gi_zne (tgt := 149) hx hb dX11_route_140 (by decide) (by decide) (fun c_61 => ?_) (fun c_61 => ?_)
                                  · refine lv_iload_n hx hb dX11_route_149 rfl (lv_at hl 2 rfl) ?_
                                    refine lv_iload_n hx hb dX11_route_150 rfl (lv_at hl 3 rfl) ?_
                                    refine g_cs (As := [.int (iI a1), .int (iI a2)]) (rest := []) (n := 2) C hml (m_X11_at l D k A ad hD (va_up (va_up v 0 0) 1 0) (va_up (va_up f 18 (f 18)) 19 (f 19)) g a1 a2 (by omega) (by omega) (show 0 ≤ a1 ∧ a1 ≤ 3 from by omega) (show 0 ≤ a2 ∧ a2 ≤ 4 from by omega)) mM_X11_335 mS_X11_at mN_X11 mC_X11_at (by decide +kernel) hP hS (fun _ h => h) ⟨Nat.le_of_ble_eq_true rfl, Nat.le_of_ble_eq_true rfl⟩ ⟨Nat.zero_le _, Nat.zero_le _⟩ hl.1 rfl rfl (Nat.le_of_ble_eq_true rfl) dX11_route_151 (fun r_62 v_62 f_62 g_62 H locs hq_62 hP _ hS => ?_)
                                    obtain ⟨z_62, rfl, rfl, rfl, rfl, p0_62⟩ := hq_62
                                    show W p l e (gRm 2 43) s m args below meth c _ _ 0 0 Q (F0 m 154 ls [.int (iI z_62)])
                                    replace p0_62 : z_62 = (5 * a1 + a2) := p0_62
                                    have hz_62 : inR z_62 := (by first | omega | (rw [p0_62]; split <;> omega))
                                    have hat := p0_62
                                    have hbe : (f 20) z_62 = (f 20) (a1 * 5 + a2) := by rw [show z_62 = (a1 * 5 + a2) by omega]
                                    refine lv_istore (lv' := [(8, .int (iI z_62)), (7, .int (iI 1)), (0, .ref (ad 0)), (1, .int (iI a1)), (2, .int (iI a2)), (3, .int (iI a3)), (4, .int (iI a4)), (5, .int (iI a5)), (6, .int (iI a6))]) hx hb dX11_route_154 hl (by decide) rfl (fun ls hl => ?_)
                                    refine lv_aload_n hx hb dX11_route_156 rfl (lv_at hl 2 rfl) ?_
                                    refine mdG_begun C hP mF_X11_79 dX11_route_157 ?_
                                    refine lv_iload hx hb dX11_route_160 (lv_at hl 0 rfl) ?_
                                    refine mdL_begun C hP (by omega) (by omega) dX11_route_162 ?_
                                    show W p l e (gRm 2 43) s m args below meth c _ _ 0 0 Q (F0 m 163 ls [.int (iI (f 20 z_62))])
                                    have r_63 : 0 ≤ (f 20 z_62) ∧ (f 20 z_62) ≤ 300 := hP.2.2 20 z_62
                                    refine gi_zle (tgt := 173) hx hb dX11_route_163 (by decide) (by omega) (fun c_64 => ?_) (fun c_64 => ?_)
                                    · refine lv_aload_n hx hb dX11_route_173 rfl (lv_at hl 2 rfl) ?_
                                      refine mdG_holds C hP mF_X11_73 dX11_route_174 ?_
                                      refine lv_iload hx hb dX11_route_177 (lv_at hl 0 rfl) ?_
                                      refine lv_iload_n hx hb dX11_route_179 rfl (lv_at hl 5 rfl) ?_
                                      refine mdS_holds (f1 := (va_up (va_up f 18 (u1 (f 18) z_62 a3)) 19 (f 19))) C hP hD hS (by omega) (by omega) (by omega) rfl (Or.inr (gF_up (V := mdV) (F := mdF) (gF_up (V := mdV) (F := mdF) (gR_up (V := mdV) (F := mdF) (gR_up (V := mdV) (F := mdF) ⟨hok.1, hok.2⟩ 0 (hP.2.1 0)) 1 (hP.2.1 1)) 18 (u1_rng (hP.2.2 18) (show 0 ≤ a3 ∧ a3 ≤ 60 from (by omega)))) 19 (hP.2.2 19))) dX11_route_180 (fun H locs hP hS => ?_)
                                      refine lv_aload_n hx hb dX11_route_181 rfl (lv_at hl 2 rfl) ?_
                                      refine mdG_zones C hP mF_X11_76 dX11_route_182 ?_
                                      refine lv_iconst (v := iI 3) hx hb dX11_route_185 rfl ?_
                                      refine lv_iload hx hb dX11_route_186 (lv_at hl 0 rfl) ?_
                                      refine gi_mul (z := (3 * z_62)) hx hb dX11_route_188 rfl ?_
                                      refine lv_iload hx hb dX11_route_189 (lv_at hl 6 rfl) ?_
                                      refine mdS_zones (f1 := (va_up (va_up f 18 (u1 (f 18) z_62 a3)) 19 (u1 (f 19) (3 * z_62) a4))) C hP hD hS (by omega) (by omega) (by omega) rfl (Or.inr (gF_up (V := mdV) (F := mdF) (gF_up (V := mdV) (F := mdF) (gR_up (V := mdV) (F := mdF) (gR_up (V := mdV) (F := mdF) ⟨hok.1, hok.2⟩ 0 (hP.2.1 0)) 1 (hP.2.1 1)) 18 (hP.2.2 18)) 19 (u1_rng (hP.2.2 19) (show 0 ≤ a4 ∧ a4 ≤ 60 from (by omega))))) dX11_route_191 (fun H locs hP hS => ?_)
                                      refine lv_aload_n hx hb dX11_route_192 rfl (lv_at hl 2 rfl) ?_
                                      refine mdG_zones C hP mF_X11_76 dX11_route_193 ?_
                                      refine lv_iconst (v := iI 3) hx hb dX11_route_196 rfl ?_
                                      refine lv_iload hx hb dX11_route_197 (lv_at hl 0 rfl) ?_
                                      refine gi_mul (z := (3 * z_62)) hx hb dX11_route_199 rfl ?_
                                      refine lv_iconst (v := iI 1) hx hb dX11_route_200 rfl ?_
                                      refine gi_add (z := ((3 * z_62) + 1)) hx hb dX11_route_201 rfl ?_
                                      refine lv_iload hx hb dX11_route_202 (lv_at hl 7 rfl) ?_
                                      refine mdS_zones (f1 := (va_up (va_up f 18 (u1 (f 18) z_62 a3)) 19 (u1 (u1 (f 19) (3 * z_62) a4) ((3 * z_62) + 1) a5))) C hP hD hS (by omega) (by omega) (by omega) rfl (Or.inr (gF_up (V := mdV) (F := mdF) (gF_up (V := mdV) (F := mdF) (gR_up (V := mdV) (F := mdF) (gR_up (V := mdV) (F := mdF) ⟨hok.1, hok.2⟩ 0 (hP.2.1 0)) 1 (hP.2.1 1)) 18 (hP.2.2 18)) 19 (u1_rng (hP.2.2 19) (show 0 ≤ a5 ∧ a5 ≤ 60 from (by omega))))) dX11_route_204 (fun H locs hP hS => ?_)
                                      refine lv_aload_n hx hb dX11_route_205 rfl (lv_at hl 2 rfl) ?_
                                      refine mdG_zones C hP mF_X11_76 dX11_route_206 ?_
                                      refine lv_iconst (v := iI 3) hx hb dX11_route_209 rfl ?_
                                      refine lv_iload hx hb dX11_route_210 (lv_at hl 0 rfl) ?_
                                      refine gi_mul (z := (3 * z_62)) hx hb dX11_route_212 rfl ?_
                                      refine lv_iconst (v := iI 2) hx hb dX11_route_213 rfl ?_
                                      refine gi_add (z := ((3 * z_62) + 2)) hx hb dX11_route_214 rfl ?_
                                      refine lv_iload hx hb dX11_route_215 (lv_at hl 8 rfl) ?_
                                      refine mdS_zones (f1 := (va_up (va_up f 18 (u1 (f 18) z_62 a3)) 19 (u1 (u1 (u1 (f 19) (3 * z_62) a4) ((3 * z_62) + 1) a5) ((3 * z_62) + 2) a6))) C hP hD hS (by omega) (by omega) (by omega) rfl (Or.inr (gF_up (V := mdV) (F := mdF) (gF_up (V := mdV) (F := mdF) (gR_up (V := mdV) (F := mdF) (gR_up (V := mdV) (F := mdF) ⟨hok.1, hok.2⟩ 0 (hP.2.1 0)) 1 (hP.2.1 1)) 18 (hP.2.2 18)) 19 (u1_rng (hP.2.2 19) (show 0 ≤ a6 ∧ a6 ≤ 60 from (by omega))))) dX11_route_217 (fun H locs hP hS => ?_)
                                      refine lv_iconst (v := iI 1) hx hb dX11_route_218 rfl ?_
                                      exact g_zret hQ C hr hlocks (by decide) hP hS dX11_route_219 ⟨1, 0, rfl, rfl, (by rw [show ((if (0 : Int) = 0 then u1 (f 18) (a1 * 5 + a2) a3 else (f 18)) : Int → Int) = (u1 (f 18) z_62 a3) from by first | rfl | (rw [if_neg (by omega)]) | (rw [if_pos rfl]; congr 1; omega), show ((if (0 : Int) = 0 then u1 (u1 (u1 (f 19) ((a1 * 5 + a2) * 3 + 0) a4) ((a1 * 5 + a2) * 3 + 1) a5) ((a1 * 5 + a2) * 3 + 2) a6 else (f 19)) : Int → Int) = (u1 (u1 (u1 (f 19) (3 * z_62) a4) ((3 * z_62) + 1) a5) ((3 * z_62) + 2) a6) from by first | rfl | (rw [if_neg (by omega)]) | (rw [if_pos rfl]; exact u3_eq (by omega) (by omega) (by omega))]), rfl, (by first | omega | ((repeat' split) <;> omega)), (by first | omega | ((repeat' split) <;> omega))⟩
                                    · refine lv_aload_n hx hb dX11_route_166 rfl (lv_at hl 2 rfl) ?_
                                      refine lv_bipush (v := iI 10) hx hb dX11_route_167 (by decide) ?_
                                      refine g_cv (As := [.int (iI 10)]) (rest := []) (n := 1) C hml (m_X11_no l D k A ad hD (va_up (va_up v 0 0) 1 0) (va_up (va_up f 18 (f 18)) 19 (f 19)) g 10 (by decide) (show 0 ≤ (10 : Int) ∧ (10 : Int) ≤ 10 from by omega)) mM_X11_332 mI_X11_no mE_X11_no mN_X11 mC_X11_no (by decide +kernel) 0 (ci := 11) rfl rfl hP hS (fun _ h => h) ⟨Nat.le_of_ble_eq_true rfl, Nat.le_of_ble_eq_true rfl⟩ ⟨Nat.zero_le _, Nat.zero_le _⟩ hl.1 rfl rfl (Nat.le_of_ble_eq_true rfl) dX11_route_169 (fun r_65 v_65 f_65 g_65 H locs hq_65 hP _ hS => ?_)
                                      obtain ⟨rfl, rfl, rfl, rfl⟩ := hq_65
                                      show W p l e (gRm 2 43) s m args below meth c _ _ 0 0 Q (F0 m 172 ls [.int (iI 0)])
                                      have hP : gWd D (mdT k ad) (va_up (va_up v 0 (10 : Int)) 1 0) (va_up (va_up f 18 (f 18)) 19 (f 19)) g H := ⟨hP.1, (gF_up (V := mdV) (F := mdF) (gF_up (V := mdV) (F := mdF) (gR_up (V := mdV) (F := mdF) (gR_up (V := mdV) (F := mdF) ⟨hok.1, hok.2⟩ 0 (hP.2.1 0)) 1 (hP.2.1 1)) 18 (hP.2.2 18)) 19 (hP.2.2 19))⟩
                                      exact g_zret hQ C hr hlocks (by decide) hP hS dX11_route_172 ⟨0, (10 : Int), rfl, rfl, (by rw [show ((if (10 : Int) = 0 then u1 (f 18) (a1 * 5 + a2) a3 else (f 18)) : Int → Int) = (f 18) from by first | rfl | (rw [if_neg (by omega)]) | (rw [if_pos rfl]; congr 1; omega), show ((if (10 : Int) = 0 then u1 (u1 (u1 (f 19) ((a1 * 5 + a2) * 3 + 0) a4) ((a1 * 5 + a2) * 3 + 1) a5) ((a1 * 5 + a2) * 3 + 2) a6 else (f 19)) : Int → Int) = (f 19) from by first | rfl | (rw [if_neg (by omega)]) | (rw [if_pos rfl]; exact u3_eq (by omega) (by omega) (by omega))]), rfl, (by first | omega | ((repeat' split) <;> omega)), (by first | omega | ((repeat' split) <;> omega))⟩
                                  · exfalso; omega
                            · exfalso; omega
                      · refine lv_iload hx hb dX11_route_86 (lv_at hl 6 rfl) ?_
                        refine gi_zne (tgt := 135) hx hb dX11_route_88 (by decide) (by omega) (fun c_66 => ?_) (fun c_66 => ?_)
                        · refine lv_iconst (v := iI 0) hx hb dX11_route_135 rfl ?_
                          refine lv_istore (lv' := [(7, .int (iI 0)), (0, .ref (ad 0)), (1, .int (iI a1)), (2, .int (iI a2)), (3, .int (iI a3)), (4, .int (iI a4)), (5, .int (iI a5)), (6, .int (iI a6))]) hx hb dX11_route_136 hl (by decide) rfl (fun ls hl => ?_)
                          refine lv_iload hx hb dX11_route_138 (lv_at hl 0 rfl) ?_
                          refine gi_zne (tgt := 149) hx hb dX11_route_140 (by decide) (by decide) (fun c_67 => ?_) (fun c_67 => ?_)
                          · exfalso; omega
                          · refine lv_aload_n hx hb dX11_route_143 rfl (lv_at hl 1 rfl) ?_
                            refine lv_iconst (v := iI 2) hx hb dX11_route_144 rfl ?_
                            refine g_cv (As := [.int (iI 2)]) (rest := []) (n := 1) C hml (m_X11_no l D k A ad hD (va_up (va_up v 0 0) 1 0) (va_up (va_up f 18 (f 18)) 19 (f 19)) g 2 (by decide) (show 0 ≤ (2 : Int) ∧ (2 : Int) ≤ 10 from by omega)) mM_X11_332 mI_X11_no mE_X11_no mN_X11 mC_X11_no (by decide +kernel) 0 (ci := 11) rfl rfl hP hS (fun _ h => h) ⟨Nat.le_of_ble_eq_true rfl, Nat.le_of_ble_eq_true rfl⟩ ⟨Nat.zero_le _, Nat.zero_le _⟩ hl.1 rfl rfl (Nat.le_of_ble_eq_true rfl) dX11_route_145 (fun r_68 v_68 f_68 g_68 H locs hq_68 hP _ hS => ?_)
                            obtain ⟨rfl, rfl, rfl, rfl⟩ := hq_68
                            show W p l e (gRm 2 43) s m args below meth c _ _ 0 0 Q (F0 m 148 ls [.int (iI 0)])
                            have hP : gWd D (mdT k ad) (va_up (va_up v 0 (2 : Int)) 1 0) (va_up (va_up f 18 (f 18)) 19 (f 19)) g H := ⟨hP.1, (gF_up (V := mdV) (F := mdF) (gF_up (V := mdV) (F := mdF) (gR_up (V := mdV) (F := mdF) (gR_up (V := mdV) (F := mdF) ⟨hok.1, hok.2⟩ 0 (hP.2.1 0)) 1 (hP.2.1 1)) 18 (hP.2.2 18)) 19 (hP.2.2 19))⟩
                            exact g_zret hQ C hr hlocks (by decide) hP hS dX11_route_148 ⟨0, (2 : Int), rfl, rfl, (by rw [show ((if (2 : Int) = 0 then u1 (f 18) (a1 * 5 + a2) a3 else (f 18)) : Int → Int) = (f 18) from by first | rfl | (rw [if_neg (by omega)]) | (rw [if_pos rfl]; congr 1; omega), show ((if (2 : Int) = 0 then u1 (u1 (u1 (f 19) ((a1 * 5 + a2) * 3 + 0) a4) ((a1 * 5 + a2) * 3 + 1) a5) ((a1 * 5 + a2) * 3 + 2) a6 else (f 19)) : Int → Int) = (f 19) from by first | rfl | (rw [if_neg (by omega)]) | (rw [if_pos rfl]; exact u3_eq (by omega) (by omega) (by omega))]), rfl, (by first | omega | ((repeat' split) <;> omega)), (by first | omega | ((repeat' split) <;> omega))⟩
                        · refine lv_goto (tgt := 106) hx hb dX11_route_91 (by decide) ?_
                          refine lv_iload hx hb dX11_route_106 (lv_at hl 6 rfl) ?_
                          refine gi_zne (tgt := 119) hx hb dX11_route_108 (by decide) (by omega) (fun c_69 => ?_) (fun c_69 => ?_)
                          · exfalso; omega
                          · refine lv_iload hx hb dX11_route_111 (lv_at hl 7 rfl) ?_
                            refine gi_zne (tgt := 135) hx hb dX11_route_113 (by decide) (by omega) (fun c_70 => ?_) (fun c_70 => ?_)
                            · refine lv_iconst (v := iI 0) hx hb dX11_route_135 rfl ?_
                              refine lv_istore (lv' := [(7, .int (iI 0)), (0, .ref (ad 0)), (1, .int (iI a1)), (2, .int (iI a2)), (3, .int (iI a3)), (4, .int (iI a4)), (5, .int (iI a5)), (6, .int (iI a6))]) hx hb dX11_route_136 hl (by decide) rfl (fun ls hl => ?_)
                              refine lv_iload hx hb dX11_route_138 (lv_at hl 0 rfl) ?_
                              refine gi_zne (tgt := 149) hx hb dX11_route_140 (by decide) (by decide) (fun c_71 => ?_) (fun c_71 => ?_)
                              · exfalso; omega
                              · refine lv_aload_n hx hb dX11_route_143 rfl (lv_at hl 1 rfl) ?_
                                refine lv_iconst (v := iI 2) hx hb dX11_route_144 rfl ?_
                                refine g_cv (As := [.int (iI 2)]) (rest := []) (n := 1) C hml (m_X11_no l D k A ad hD (va_up (va_up v 0 0) 1 0) (va_up (va_up f 18 (f 18)) 19 (f 19)) g 2 (by decide) (show 0 ≤ (2 : Int) ∧ (2 : Int) ≤ 10 from by omega)) mM_X11_332 mI_X11_no mE_X11_no mN_X11 mC_X11_no (by decide +kernel) 0 (ci := 11) rfl rfl hP hS (fun _ h => h) ⟨Nat.le_of_ble_eq_true rfl, Nat.le_of_ble_eq_true rfl⟩ ⟨Nat.zero_le _, Nat.zero_le _⟩ hl.1 rfl rfl (Nat.le_of_ble_eq_true rfl) dX11_route_145 (fun r_72 v_72 f_72 g_72 H locs hq_72 hP _ hS => ?_)
                                obtain ⟨rfl, rfl, rfl, rfl⟩ := hq_72
                                show W p l e (gRm 2 43) s m args below meth c _ _ 0 0 Q (F0 m 148 ls [.int (iI 0)])
                                have hP : gWd D (mdT k ad) (va_up (va_up v 0 (2 : Int)) 1 0) (va_up (va_up f 18 (f 18)) 19 (f 19)) g H := ⟨hP.1, (gF_up (V := mdV) (F := mdF) (gF_up (V := mdV) (F := mdF) (gR_up (V := mdV) (F := mdF) (gR_up (V := mdV) (F := mdF) ⟨hok.1, hok.2⟩ 0 (hP.2.1 0)) 1 (hP.2.1 1)) 18 (hP.2.2 18)) 19 (hP.2.2 19))⟩
                                exact g_zret hQ C hr hlocks (by decide) hP hS dX11_route_148 ⟨0, (2 : Int), rfl, rfl, (by rw [show ((if (2 : Int) = 0 then u1 (f 18) (a1 * 5 + a2) a3 else (f 18)) : Int → Int) = (f 18) from by first | rfl | (rw [if_neg (by omega)]) | (rw [if_pos rfl]; congr 1; omega), show ((if (2 : Int) = 0 then u1 (u1 (u1 (f 19) ((a1 * 5 + a2) * 3 + 0) a4) ((a1 * 5 + a2) * 3 + 1) a5) ((a1 * 5 + a2) * 3 + 2) a6 else (f 19)) : Int → Int) = (f 19) from by first | rfl | (rw [if_neg (by omega)]) | (rw [if_pos rfl]; exact u3_eq (by omega) (by omega) (by omega))]), rfl, (by first | omega | ((repeat' split) <;> omega)), (by first | omega | ((repeat' split) <;> omega))⟩
                            · refine lv_goto (tgt := 131) hx hb dX11_route_116 (by decide) ?_
                              refine lv_iconst (v := iI 1) hx hb dX11_route_131 rfl ?_
                              refine lv_goto (tgt := 136) hx hb dX11_route_132 (by decide) ?_
                              refine lv_istore (lv' := [(7, .int (iI 1)), (0, .ref (ad 0)), (1, .int (iI a1)), (2, .int (iI a2)), (3, .int (iI a3)), (4, .int (iI a4)), (5, .int (iI a5)), (6, .int (iI a6))]) hx hb dX11_route_136 hl (by decide) rfl (fun ls hl => ?_)
                              refine lv_iload hx hb dX11_route_138 (lv_at hl 0 rfl) ?_
                              refine gi_zne (tgt := 149) hx hb dX11_route_140 (by decide) (by decide) (fun c_73 => ?_) (fun c_73 => ?_)
                              · refine lv_iload_n hx hb dX11_route_149 rfl (lv_at hl 2 rfl) ?_
                                refine lv_iload_n hx hb dX11_route_150 rfl (lv_at hl 3 rfl) ?_
                                refine g_cs (As := [.int (iI a1), .int (iI a2)]) (rest := []) (n := 2) C hml (m_X11_at l D k A ad hD (va_up (va_up v 0 0) 1 0) (va_up (va_up f 18 (f 18)) 19 (f 19)) g a1 a2 (by omega) (by omega) (show 0 ≤ a1 ∧ a1 ≤ 3 from by omega) (show 0 ≤ a2 ∧ a2 ≤ 4 from by omega)) mM_X11_335 mS_X11_at mN_X11 mC_X11_at (by decide +kernel) hP hS (fun _ h => h) ⟨Nat.le_of_ble_eq_true rfl, Nat.le_of_ble_eq_true rfl⟩ ⟨Nat.zero_le _, Nat.zero_le _⟩ hl.1 rfl rfl (Nat.le_of_ble_eq_true rfl) dX11_route_151 (fun r_74 v_74 f_74 g_74 H locs hq_74 hP _ hS => ?_)
                                obtain ⟨z_74, rfl, rfl, rfl, rfl, p0_74⟩ := hq_74
                                show W p l e (gRm 2 43) s m args below meth c _ _ 0 0 Q (F0 m 154 ls [.int (iI z_74)])
                                replace p0_74 : z_74 = (5 * a1 + a2) := p0_74
                                have hz_74 : inR z_74 := (by first | omega | (rw [p0_74]; split <;> omega))
                                have hat := p0_74
                                have hbe : (f 20) z_74 = (f 20) (a1 * 5 + a2) := by rw [show z_74 = (a1 * 5 + a2) by omega]
                                refine lv_istore (lv' := [(8, .int (iI z_74)), (7, .int (iI 1)), (0, .ref (ad 0)), (1, .int (iI a1)), (2, .int (iI a2)), (3, .int (iI a3)), (4, .int (iI a4)), (5, .int (iI a5)), (6, .int (iI a6))]) hx hb dX11_route_154 hl (by decide) rfl (fun ls hl => ?_)
                                refine lv_aload_n hx hb dX11_route_156 rfl (lv_at hl 2 rfl) ?_
                                refine mdG_begun C hP mF_X11_79 dX11_route_157 ?_
                                refine lv_iload hx hb dX11_route_160 (lv_at hl 0 rfl) ?_
                                refine mdL_begun C hP (by omega) (by omega) dX11_route_162 ?_
                                show W p l e (gRm 2 43) s m args below meth c _ _ 0 0 Q (F0 m 163 ls [.int (iI (f 20 z_74))])
                                have r_75 : 0 ≤ (f 20 z_74) ∧ (f 20 z_74) ≤ 300 := hP.2.2 20 z_74
                                refine gi_zle (tgt := 173) hx hb dX11_route_163 (by decide) (by omega) (fun c_76 => ?_) (fun c_76 => ?_)
                                · refine lv_aload_n hx hb dX11_route_173 rfl (lv_at hl 2 rfl) ?_
                                  refine mdG_holds C hP mF_X11_73 dX11_route_174 ?_
                                  refine lv_iload hx hb dX11_route_177 (lv_at hl 0 rfl) ?_
                                  refine lv_iload_n hx hb dX11_route_179 rfl (lv_at hl 5 rfl) ?_
                                  refine mdS_holds (f1 := (va_up (va_up f 18 (u1 (f 18) z_74 a3)) 19 (f 19))) C hP hD hS (by omega) (by omega) (by omega) rfl (Or.inr (gF_up (V := mdV) (F := mdF) (gF_up (V := mdV) (F := mdF) (gR_up (V := mdV) (F := mdF) (gR_up (V := mdV) (F := mdF) ⟨hok.1, hok.2⟩ 0 (hP.2.1 0)) 1 (hP.2.1 1)) 18 (u1_rng (hP.2.2 18) (show 0 ≤ a3 ∧ a3 ≤ 60 from (by omega)))) 19 (hP.2.2 19))) dX11_route_180 (fun H locs hP hS => ?_)
                                  refine lv_aload_n hx hb dX11_route_181 rfl (lv_at hl 2 rfl) ?_
                                  refine mdG_zones C hP mF_X11_76 dX11_route_182 ?_
                                  refine lv_iconst (v := iI 3) hx hb dX11_route_185 rfl ?_
                                  refine lv_iload hx hb dX11_route_186 (lv_at hl 0 rfl) ?_
                                  refine gi_mul (z := (3 * z_74)) hx hb dX11_route_188 rfl ?_
                                  refine lv_iload hx hb dX11_route_189 (lv_at hl 6 rfl) ?_
                                  refine mdS_zones (f1 := (va_up (va_up f 18 (u1 (f 18) z_74 a3)) 19 (u1 (f 19) (3 * z_74) a4))) C hP hD hS (by omega) (by omega) (by omega) rfl (Or.inr (gF_up (V := mdV) (F := mdF) (gF_up (V := mdV) (F := mdF) (gR_up (V := mdV) (F := mdF) (gR_up (V := mdV) (F := mdF) ⟨hok.1, hok.2⟩ 0 (hP.2.1 0)) 1 (hP.2.1 1)) 18 (hP.2.2 18)) 19 (u1_rng (hP.2.2 19) (show 0 ≤ a4 ∧ a4 ≤ 60 from (by omega))))) dX11_route_191 (fun H locs hP hS => ?_)
                                  refine lv_aload_n hx hb dX11_route_192 rfl (lv_at hl 2 rfl) ?_
                                  refine mdG_zones C hP mF_X11_76 dX11_route_193 ?_
                                  refine lv_iconst (v := iI 3) hx hb dX11_route_196 rfl ?_
                                  refine lv_iload hx hb dX11_route_197 (lv_at hl 0 rfl) ?_
                                  refine gi_mul (z := (3 * z_74)) hx hb dX11_route_199 rfl ?_
                                  refine lv_iconst (v := iI 1) hx hb dX11_route_200 rfl ?_
                                  refine gi_add (z := ((3 * z_74) + 1)) hx hb dX11_route_201 rfl ?_
                                  refine lv_iload hx hb dX11_route_202 (lv_at hl 7 rfl) ?_
                                  refine mdS_zones (f1 := (va_up (va_up f 18 (u1 (f 18) z_74 a3)) 19 (u1 (u1 (f 19) (3 * z_74) a4) ((3 * z_74) + 1) a5))) C hP hD hS (by omega) (by omega) (by omega) rfl (Or.inr (gF_up (V := mdV) (F := mdF) (gF_up (V := mdV) (F := mdF) (gR_up (V := mdV) (F := mdF) (gR_up (V := mdV) (F := mdF) ⟨hok.1, hok.2⟩ 0 (hP.2.1 0)) 1 (hP.2.1 1)) 18 (hP.2.2 18)) 19 (u1_rng (hP.2.2 19) (show 0 ≤ a5 ∧ a5 ≤ 60 from (by omega))))) dX11_route_204 (fun H locs hP hS => ?_)
                                  refine lv_aload_n hx hb dX11_route_205 rfl (lv_at hl 2 rfl) ?_
                                  refine mdG_zones C hP mF_X11_76 dX11_route_206 ?_
                                  refine lv_iconst (v := iI 3) hx hb dX11_route_209 rfl ?_
                                  refine lv_iload hx hb dX11_route_210 (lv_at hl 0 rfl) ?_
                                  refine gi_mul (z := (3 * z_74)) hx hb dX11_route_212 rfl ?_
                                  refine lv_iconst (v := iI 2) hx hb dX11_route_213 rfl ?_
                                  refine gi_add (z := ((3 * z_74) + 2)) hx hb dX11_route_214 rfl ?_
                                  refine lv_iload hx hb dX11_route_215 (lv_at hl 8 rfl) ?_
                                  refine mdS_zones (f1 := (va_up (va_up f 18 (u1 (f 18) z_74 a3)) 19 (u1 (u1 (u1 (f 19) (3 * z_74) a4) ((3 * z_74) + 1) a5) ((3 * z_74) + 2) a6))) C hP hD hS (by omega) (by omega) (by omega) rfl (Or.inr (gF_up (V := mdV) (F := mdF) (gF_up (V := mdV) (F := mdF) (gR_up (V := mdV) (F := mdF) (gR_up (V := mdV) (F := mdF) ⟨hok.1, hok.2⟩ 0 (hP.2.1 0)) 1 (hP.2.1 1)) 18 (hP.2.2 18)) 19 (u1_rng (hP.2.2 19) (show 0 ≤ a6 ∧ a6 ≤ 60 from (by omega))))) dX11_route_217 (fun H locs hP hS => ?_)
                                  refine lv_iconst (v := iI 1) hx hb dX11_route_218 rfl ?_
                                  exact g_zret hQ C hr hlocks (by decide) hP hS dX11_route_219 ⟨1, 0, rfl, rfl, (by rw [show ((if (0 : Int) = 0 then u1 (f 18) (a1 * 5 + a2) a3 else (f 18)) : Int → Int) = (u1 (f 18) z_74 a3) from by first | rfl | (rw [if_neg (by omega)]) | (rw [if_pos rfl]; congr 1; omega), show ((if (0 : Int) = 0 then u1 (u1 (u1 (f 19) ((a1 * 5 + a2) * 3 + 0) a4) ((a1 * 5 + a2) * 3 + 1) a5) ((a1 * 5 + a2) * 3 + 2) a6 else (f 19)) : Int → Int) = (u1 (u1 (u1 (f 19) (3 * z_74) a4) ((3 * z_74) + 1) a5) ((3 * z_74) + 2) a6) from by first | rfl | (rw [if_neg (by omega)]) | (rw [if_pos rfl]; exact u3_eq (by omega) (by omega) (by omega))]), rfl, (by first | omega | ((repeat' split) <;> omega)), (by first | omega | ((repeat' split) <;> omega))⟩
                                · refine lv_aload_n hx hb dX11_route_166 rfl (lv_at hl 2 rfl) ?_
                                  refine lv_bipush (v := iI 10) hx hb dX11_route_167 (by decide) ?_
                                  refine g_cv (As := [.int (iI 10)]) (rest := []) (n := 1) C hml (m_X11_no l D k A ad hD (va_up (va_up v 0 0) 1 0) (va_up (va_up f 18 (f 18)) 19 (f 19)) g 10 (by decide) (show 0 ≤ (10 : Int) ∧ (10 : Int) ≤ 10 from by omega)) mM_X11_332 mI_X11_no mE_X11_no mN_X11 mC_X11_no (by decide +kernel) 0 (ci := 11) rfl rfl hP hS (fun _ h => h) ⟨Nat.le_of_ble_eq_true rfl, Nat.le_of_ble_eq_true rfl⟩ ⟨Nat.zero_le _, Nat.zero_le _⟩ hl.1 rfl rfl (Nat.le_of_ble_eq_true rfl) dX11_route_169 (fun r_77 v_77 f_77 g_77 H locs hq_77 hP _ hS => ?_)
                                  obtain ⟨rfl, rfl, rfl, rfl⟩ := hq_77
                                  show W p l e (gRm 2 43) s m args below meth c _ _ 0 0 Q (F0 m 172 ls [.int (iI 0)])
                                  have hP : gWd D (mdT k ad) (va_up (va_up v 0 (10 : Int)) 1 0) (va_up (va_up f 18 (f 18)) 19 (f 19)) g H := ⟨hP.1, (gF_up (V := mdV) (F := mdF) (gF_up (V := mdV) (F := mdF) (gR_up (V := mdV) (F := mdF) (gR_up (V := mdV) (F := mdF) ⟨hok.1, hok.2⟩ 0 (hP.2.1 0)) 1 (hP.2.1 1)) 18 (hP.2.2 18)) 19 (hP.2.2 19))⟩
                                  exact g_zret hQ C hr hlocks (by decide) hP hS dX11_route_172 ⟨0, (10 : Int), rfl, rfl, (by rw [show ((if (10 : Int) = 0 then u1 (f 18) (a1 * 5 + a2) a3 else (f 18)) : Int → Int) = (f 18) from by first | rfl | (rw [if_neg (by omega)]) | (rw [if_pos rfl]; congr 1; omega), show ((if (10 : Int) = 0 then u1 (u1 (u1 (f 19) ((a1 * 5 + a2) * 3 + 0) a4) ((a1 * 5 + a2) * 3 + 1) a5) ((a1 * 5 + a2) * 3 + 2) a6 else (f 19)) : Int → Int) = (f 19) from by first | rfl | (rw [if_neg (by omega)]) | (rw [if_pos rfl]; exact u3_eq (by omega) (by omega) (by omega))]), rfl, (by first | omega | ((repeat' split) <;> omega)), (by first | omega | ((repeat' split) <;> omega))⟩
                              · exfalso; omega
  · have vz_2 := gif0 w_2 c_3
    clear w_2
    refine lv_aload_n hx hb dX11_route_19 rfl (lv_at hl 0 rfl) ?_
    refine lv_iconst (v := iI 1) hx hb dX11_route_20 rfl ?_
    refine g_cv (As := [.int (iI 1)]) (rest := []) (n := 1) C hml (m_X11_no l D k A ad hD (va_up (va_up v 0 0) 1 0) (va_up (va_up f 18 (f 18)) 19 (f 19)) g 1 (by decide) (show 0 ≤ (1 : Int) ∧ (1 : Int) ≤ 10 from by omega)) mM_X11_332 mI_X11_no mE_X11_no mN_X11 mC_X11_no (by decide +kernel) 0 (ci := 11) rfl rfl hP hS (fun _ h => h) ⟨Nat.le_of_ble_eq_true rfl, Nat.le_of_ble_eq_true rfl⟩ ⟨Nat.zero_le _, Nat.zero_le _⟩ hl.1 rfl rfl (Nat.le_of_ble_eq_true rfl) dX11_route_21 (fun r_78 v_78 f_78 g_78 H locs hq_78 hP _ hS => ?_)
    obtain ⟨rfl, rfl, rfl, rfl⟩ := hq_78
    show W p l e (gRm 2 43) s m args below meth c _ _ 0 0 Q (F0 m 24 ls [.int (iI 0)])
    have hP : gWd D (mdT k ad) (va_up (va_up v 0 (1 : Int)) 1 0) (va_up (va_up f 18 (f 18)) 19 (f 19)) g H := ⟨hP.1, (gF_up (V := mdV) (F := mdF) (gF_up (V := mdV) (F := mdF) (gR_up (V := mdV) (F := mdF) (gR_up (V := mdV) (F := mdF) ⟨hok.1, hok.2⟩ 0 (hP.2.1 0)) 1 (hP.2.1 1)) 18 (hP.2.2 18)) 19 (hP.2.2 19))⟩
    exact g_zret hQ C hr hlocks (by decide) hP hS dX11_route_24 ⟨0, (1 : Int), rfl, rfl, (by rw [show ((if (1 : Int) = 0 then u1 (f 18) (a1 * 5 + a2) a3 else (f 18)) : Int → Int) = (f 18) from by first | rfl | (rw [if_neg (by omega)]) | (rw [if_pos rfl]; congr 1; omega), show ((if (1 : Int) = 0 then u1 (u1 (u1 (f 19) ((a1 * 5 + a2) * 3 + 0) a4) ((a1 * 5 + a2) * 3 + 1) a5) ((a1 * 5 + a2) * 3 + 2) a6 else (f 19)) : Int → Int) = (f 19) from by first | rfl | (rw [if_neg (by omega)]) | (rw [if_pos rfl]; exact u3_eq (by omega) (by omega) (by omega))]), rfl, (by first | omega | ((repeat' split) <;> omega)), (by first | omega | ((repeat' split) <;> omega))⟩

set_option maxHeartbeats 4000000 in
set_option maxRecDepth 100000 in
theorem y_told (l : Launch) (D : va_G) (k : Nat → ClassId) (A : Nat → Prop) (ad : Nat → Nat) (hD : mdD A k ad) (v : gV) (f g : gF) (a1 : Int) (a2 : Int) (a3 : Int) (h_a1 : inR a1) (h_a2 : inR a2) (h_a3 : inR a3) : GM l D k A (mdT k ad) yX11_told cX11_told 5 (some .int) 2 43 [.ref (ad 0), .int (iI a1), .int (iI a2), .int (iI a3)] v f g (fun r v1 f1 g1 => ∃ (z : Int) (w0 : Int), r = some (.int (iI z)) ∧ (va_up (va_up v 0 w0) 1 0) = v1 ∧ f = f1 ∧ g = g1 ∧ (z = (if w0 ≠ 0 then (-1) else if a2 = (-1) then (if a3 = 0 then (f 1) a1 else if a3 = 1 then (f 2) a1 else if a3 = 2 then (f 3) a1 else if a3 = 3 then (f 4) a1 else (f 23) a1) else if a3 = 0 then (f 18) (a1 * 5 + a2) else if a3 = 4 then (f 20) (a1 * 5 + a2) else (f 19) ((a1 * 5 + a2) * 3 + (a3 - 1)))) ∧ ((-1) ≤ z ∧ z ≤ 999) ∧ (w0 = (if ¬ ((a2 = (-1) ∧ 0 ≤ a1 ∧ a1 < (v 12)) ∨ (a2 ≠ (-1) ∧ ((0 ≤ a1 ∧ a1 < (v 12)) ∧ 0 ≤ a2 ∧ a2 < (f 1) a1))) then 1 else if a3 < 0 ∨ 4 < a3 then 2 else 0))) := by
  refine GM.of (by decide) (Nat.le_of_ble_eq_true rfl) ?_
  intro p e s m args below meth c Q ls hQ C hml hr hlocks hP hl
  have hx := C.1
  have hb := C.2.1
  have hok := hP.2
  have hS : va_S A s.heap s.heap [] := va_S.rf
  have hl : lv_has ls 5 [(0, .ref (ad 0)), (1, .int (iI a1)), (2, .int (iI a2)), (3, .int (iI a3))] := hl
  have hP : gWd D (mdT k ad) (va_up (va_up v 0 (v 0)) 1 (v 1)) f g s.heap := by rw [va_id, va_id]; exact hP
  have r_1 : 0 ≤ (v 12) ∧ (v 12) ≤ 4 := hok.1 12
  refine lv_aload_n hx hb dX11_told_0 rfl (lv_at hl 0 rfl) ?_
  refine lv_iconst (v := iI 0) hx hb dX11_told_1 rfl ?_
  refine mdP_thrown (v1 := (va_up (va_up v 0 (v 0)) 1 0)) C hP hD hS mF_X11_146 (by decide) rfl (Or.inr (gR_up (V := mdV) (F := mdF) (gR_up (V := mdV) (F := mdF) ⟨hok.1, hok.2⟩ 0 (hP.2.1 0)) 1 (show 0 ≤ 0 ∧ 0 ≤ 0 from by decide))) dX11_told_2 (fun H locs hP hS => ?_)
  refine lv_aload_n hx hb dX11_told_5 rfl (lv_at hl 0 rfl) ?_
  refine lv_iconst (v := iI 0) hx hb dX11_told_6 rfl ?_
  refine mdP_status (v1 := (va_up (va_up v 0 0) 1 0)) C hP hD hS mF_X11_149 (by decide) rfl (Or.inr (gR_up (V := mdV) (F := mdF) (gR_up (V := mdV) (F := mdF) ⟨hok.1, hok.2⟩ 0 (show 0 ≤ 0 ∧ 0 ≤ 10 from by decide)) 1 (hP.2.1 1))) dX11_told_7 (fun H locs hP hS => ?_)
  refine lv_aload_n hx hb dX11_told_10 rfl (lv_at hl 0 rfl) ?_
  refine lv_iload_n hx hb dX11_told_11 rfl (lv_at hl 1 rfl) ?_
  refine g_cv (As := [.int (iI a1)]) (rest := []) (n := 1) C hml (m_X11_isRound l D k A ad hD (va_up (va_up v 0 0) 1 0) f g a1 (by omega)) mM_X11_325 mI_X11_isRound mE_X11_isRound mN_X11 mC_X11_isRound (by decide +kernel) 0 (ci := 11) rfl rfl hP hS (fun _ h => h) ⟨Nat.le_of_ble_eq_true rfl, Nat.le_of_ble_eq_true rfl⟩ ⟨Nat.zero_le _, Nat.zero_le _⟩ hl.1 rfl rfl (Nat.le_of_ble_eq_true rfl) dX11_told_12 (fun r_2 v_2 f_2 g_2 H locs hq_2 hP _ hS => ?_)
  obtain ⟨z_2, rfl, rfl, rfl, rfl, p0_2⟩ := hq_2
  show W p l e (gRm 2 43) s m args below meth c _ _ 0 0 Q (F0 m 15 ls [.int (iI z_2)])
  replace p0_2 : z_2 = (if 0 ≤ a1 ∧ a1 < (v 12) then 1 else 0) := p0_2
  have w_2 := gif (P := 0 ≤ a1 ∧ a1 < (v 12)) p0_2
  clear p0_2
  have hz_2 : inR z_2 := (by first | omega | (rw [p0_2]; split <;> omega))
  refine gi_zeq (tgt := 32) hx hb dX11_told_15 (by decide) (by omega) (fun c_3 => ?_) (fun c_3 => ?_)
  · have vz_2 := gif0 w_2 c_3
    clear w_2
    refine lv_aload_n hx hb dX11_told_32 rfl (lv_at hl 0 rfl) ?_
    refine lv_iconst (v := iI 1) hx hb dX11_told_33 rfl ?_
    refine g_cv (As := [.int (iI 1)]) (rest := []) (n := 1) C hml (m_X11_refuse l D k A ad hD (va_up (va_up v 0 0) 1 0) f g 1 (by decide) (show 0 ≤ (1 : Int) ∧ (1 : Int) ≤ 10 from by omega)) mM_X11_295 mI_X11_refuse mE_X11_refuse mN_X11 mC_X11_refuse (by decide +kernel) 0 (ci := 11) rfl rfl hP hS (fun _ h => h) ⟨Nat.le_of_ble_eq_true rfl, Nat.le_of_ble_eq_true rfl⟩ ⟨Nat.zero_le _, Nat.zero_le _⟩ hl.1 rfl rfl (Nat.le_of_ble_eq_true rfl) dX11_told_34 (fun r_4 v_4 f_4 g_4 H locs hq_4 hP _ hS => ?_)
    obtain ⟨rfl, rfl, rfl, rfl⟩ := hq_4
    show W p l e (gRm 2 43) s m args below meth c _ _ 0 0 Q (F0 m 37 ls [.int (iI (-1))])
    have hP : gWd D (mdT k ad) (va_up (va_up v 0 (1 : Int)) 1 0) f g H := ⟨hP.1, (gR_up (V := mdV) (F := mdF) (gR_up (V := mdV) (F := mdF) ⟨hok.1, hok.2⟩ 0 (hP.2.1 0)) 1 (hP.2.1 1))⟩
    exact g_iret hQ C hr hlocks hP hS dX11_told_37 ⟨(-1), (1 : Int), rfl, rfl, rfl, rfl, (by first | omega | ((repeat' split) <;> omega)), (by first | omega | ((repeat' split) <;> omega)), (by first | omega | ((repeat' split) <;> omega))⟩
  · have vz_2 := gif1 w_2 c_3
    have voz_2 := gif1o w_2 c_3
    clear w_2
    refine lv_iload_n hx hb dX11_told_18 rfl (lv_at hl 2 rfl) ?_
    refine lv_iconst (v := iI (-1)) hx hb dX11_told_19 rfl ?_
    refine gi_ceq (tgt := 38) hx hb dX11_told_20 (by decide) (by omega) (by decide) (fun c_5 => ?_) (fun c_5 => ?_)
    · refine lv_iload_n hx hb dX11_told_38 rfl (lv_at hl 3 rfl) ?_
      refine gi_zlt (tgt := 47) hx hb dX11_told_39 (by decide) (by omega) (fun c_6 => ?_) (fun c_6 => ?_)
      · refine lv_aload_n hx hb dX11_told_47 rfl (lv_at hl 0 rfl) ?_
        refine lv_iconst (v := iI 2) hx hb dX11_told_48 rfl ?_
        refine g_cv (As := [.int (iI 2)]) (rest := []) (n := 1) C hml (m_X11_refuse l D k A ad hD (va_up (va_up v 0 0) 1 0) f g 2 (by decide) (show 0 ≤ (2 : Int) ∧ (2 : Int) ≤ 10 from by omega)) mM_X11_295 mI_X11_refuse mE_X11_refuse mN_X11 mC_X11_refuse (by decide +kernel) 0 (ci := 11) rfl rfl hP hS (fun _ h => h) ⟨Nat.le_of_ble_eq_true rfl, Nat.le_of_ble_eq_true rfl⟩ ⟨Nat.zero_le _, Nat.zero_le _⟩ hl.1 rfl rfl (Nat.le_of_ble_eq_true rfl) dX11_told_49 (fun r_7 v_7 f_7 g_7 H locs hq_7 hP _ hS => ?_)
        obtain ⟨rfl, rfl, rfl, rfl⟩ := hq_7
        show W p l e (gRm 2 43) s m args below meth c _ _ 0 0 Q (F0 m 52 ls [.int (iI (-1))])
        have hP : gWd D (mdT k ad) (va_up (va_up v 0 (2 : Int)) 1 0) f g H := ⟨hP.1, (gR_up (V := mdV) (F := mdF) (gR_up (V := mdV) (F := mdF) ⟨hok.1, hok.2⟩ 0 (hP.2.1 0)) 1 (hP.2.1 1))⟩
        exact g_iret hQ C hr hlocks hP hS dX11_told_52 ⟨(-1), (2 : Int), rfl, rfl, rfl, rfl, (by first | omega | ((repeat' split) <;> omega)), (by first | omega | ((repeat' split) <;> omega)), (by first | omega | ((repeat' split) <;> omega))⟩
      · refine lv_iload_n hx hb dX11_told_42 rfl (lv_at hl 3 rfl) ?_
        refine lv_iconst (v := iI 4) hx hb dX11_told_43 rfl ?_
        refine gi_cle (tgt := 53) hx hb dX11_told_44 (by decide) (by omega) (by decide) (fun c_8 => ?_) (fun c_8 => ?_)
        · refine lv_iload_n hx hb dX11_told_53 rfl (lv_at hl 2 rfl) ?_
          refine lv_iconst (v := iI (-1)) hx hb dX11_told_54 rfl ?_
          refine gi_cne (tgt := 120) hx hb dX11_told_55 (by decide) (by omega) (by decide) (fun c_9 => ?_) (fun c_9 => ?_)
          · refine lv_iload_n hx hb dX11_told_120 rfl (lv_at hl 1 rfl) ?_
            refine lv_iload_n hx hb dX11_told_121 rfl (lv_at hl 2 rfl) ?_
            refine g_cs (As := [.int (iI a1), .int (iI a2)]) (rest := []) (n := 2) C hml (m_X11_at l D k A ad hD (va_up (va_up v 0 0) 1 0) f g a1 a2 (by omega) (by omega) (show 0 ≤ a1 ∧ a1 ≤ 3 from by omega) (show 0 ≤ a2 ∧ a2 ≤ 4 from by omega)) mM_X11_335 mS_X11_at mN_X11 mC_X11_at (by decide +kernel) hP hS (fun _ h => h) ⟨Nat.le_of_ble_eq_true rfl, Nat.le_of_ble_eq_true rfl⟩ ⟨Nat.zero_le _, Nat.zero_le _⟩ hl.1 rfl rfl (Nat.le_of_ble_eq_true rfl) dX11_told_122 (fun r_10 v_10 f_10 g_10 H locs hq_10 hP _ hS => ?_)
            obtain ⟨z_10, rfl, rfl, rfl, rfl, p0_10⟩ := hq_10
            show W p l e (gRm 2 43) s m args below meth c _ _ 0 0 Q (F0 m 125 ls [.int (iI z_10)])
            replace p0_10 : z_10 = (5 * a1 + a2) := p0_10
            have hz_10 : inR z_10 := (by first | omega | (rw [p0_10]; split <;> omega))
            have hat := p0_10
            refine lv_istore (lv' := [(4, .int (iI z_10)), (0, .ref (ad 0)), (1, .int (iI a1)), (2, .int (iI a2)), (3, .int (iI a3))]) hx hb dX11_told_125 hl (by decide) rfl (fun ls hl => ?_)
            refine lv_iload_n hx hb dX11_told_127 rfl (lv_at hl 4 rfl) ?_
            refine gi_zne (tgt := 141) hx hb dX11_told_128 (by decide) (by omega) (fun c_11 => ?_) (fun c_11 => ?_)
            · refine lv_iload_n hx hb dX11_told_141 rfl (lv_at hl 4 rfl) ?_
              refine lv_iconst (v := iI 4) hx hb dX11_told_142 rfl ?_
              refine gi_cne (tgt := 156) hx hb dX11_told_143 (by decide) (by omega) (by decide) (fun c_12 => ?_) (fun c_12 => ?_)
              · refine lv_aload_n hx hb dX11_told_156 rfl (lv_at hl 1 rfl) ?_
                refine mdG_zones C hP mF_X11_76 dX11_told_157 ?_
                refine lv_iconst (v := iI 3) hx hb dX11_told_160 rfl ?_
                refine lv_iload hx hb dX11_told_161 (lv_at hl 0 rfl) ?_
                refine gi_mul (z := (3 * z_10)) hx hb dX11_told_163 rfl ?_
                refine lv_iload_n hx hb dX11_told_164 rfl (lv_at hl 4 rfl) ?_
                refine gi_add (z := ((3 * z_10) + a3)) hx hb dX11_told_165 rfl ?_
                refine lv_iconst (v := iI 1) hx hb dX11_told_166 rfl ?_
                refine gi_sub (z := (((3 * z_10) + a3) - 1)) hx hb dX11_told_167 rfl ?_
                refine mdL_zones C hP (by omega) (by omega) dX11_told_168 ?_
                have r_13 : 0 ≤ (f 19 (((3 * z_10) + a3) - 1)) ∧ (f 19 (((3 * z_10) + a3) - 1)) ≤ 60 := hP.2.2 19 (((3 * z_10) + a3) - 1)
                have hld : (f 19 (((3 * z_10) + a3) - 1)) = (f 19) ((a1 * 5 + a2) * 3 + (a3 - 1)) := by rw [show (((3 * z_10) + a3) - 1) = (a1 * 5 + a2) * 3 + (a3 - 1) by omega]
                exact g_iret hQ C hr hlocks hP hS dX11_told_169 ⟨(f 19 (((3 * z_10) + a3) - 1)), 0, rfl, rfl, rfl, rfl, (by first | omega | ((repeat' split) <;> omega)), (by first | omega | ((repeat' split) <;> omega)), (by first | omega | ((repeat' split) <;> omega))⟩
              · refine lv_aload_n hx hb dX11_told_146 rfl (lv_at hl 1 rfl) ?_
                refine mdG_begun C hP mF_X11_79 dX11_told_147 ?_
                refine lv_iload hx hb dX11_told_150 (lv_at hl 0 rfl) ?_
                refine mdL_begun C hP (by omega) (by omega) dX11_told_152 ?_
                have r_15 : 0 ≤ (f 20 z_10) ∧ (f 20 z_10) ≤ 300 := hP.2.2 20 z_10
                have hld : (f 20 z_10) = (f 20) (a1 * 5 + a2) := by rw [show z_10 = (a1 * 5 + a2) by omega]
                refine lv_goto (tgt := 169) hx hb dX11_told_153 (by decide) ?_
                exact g_iret hQ C hr hlocks hP hS dX11_told_169 ⟨(f 20 z_10), 0, rfl, rfl, rfl, rfl, (by first | omega | ((repeat' split) <;> omega)), (by first | omega | ((repeat' split) <;> omega)), (by first | omega | ((repeat' split) <;> omega))⟩
            · refine lv_aload_n hx hb dX11_told_131 rfl (lv_at hl 1 rfl) ?_
              refine mdG_holds C hP mF_X11_73 dX11_told_132 ?_
              refine lv_iload hx hb dX11_told_135 (lv_at hl 0 rfl) ?_
              refine mdL_holds C hP (by omega) (by omega) dX11_told_137 ?_
              have r_17 : 0 ≤ (f 18 z_10) ∧ (f 18 z_10) ≤ 60 := hP.2.2 18 z_10
              have hld : (f 18 z_10) = (f 18) (a1 * 5 + a2) := by rw [show z_10 = (a1 * 5 + a2) by omega]
              refine lv_goto (tgt := 169) hx hb dX11_told_138 (by decide) ?_
              exact g_iret hQ C hr hlocks hP hS dX11_told_169 ⟨(f 18 z_10), 0, rfl, rfl, rfl, rfl, (by first | omega | ((repeat' split) <;> omega)), (by first | omega | ((repeat' split) <;> omega)), (by first | omega | ((repeat' split) <;> omega))⟩
          · refine lv_iload_n hx hb dX11_told_58 rfl (lv_at hl 3 rfl) ?_
            refine gi_zne (tgt := 71) hx hb dX11_told_59 (by decide) (by omega) (fun c_19 => ?_) (fun c_19 => ?_)
            · refine lv_iload_n hx hb dX11_told_71 rfl (lv_at hl 3 rfl) ?_
              refine lv_iconst (v := iI 1) hx hb dX11_told_72 rfl ?_
              refine gi_cne (tgt := 85) hx hb dX11_told_73 (by decide) (by omega) (by decide) (fun c_20 => ?_) (fun c_20 => ?_)
              · refine lv_iload_n hx hb dX11_told_85 rfl (lv_at hl 3 rfl) ?_
                refine lv_iconst (v := iI 2) hx hb dX11_told_86 rfl ?_
                refine gi_cne (tgt := 99) hx hb dX11_told_87 (by decide) (by omega) (by decide) (fun c_21 => ?_) (fun c_21 => ?_)
                · refine lv_iload_n hx hb dX11_told_99 rfl (lv_at hl 3 rfl) ?_
                  refine lv_iconst (v := iI 3) hx hb dX11_told_100 rfl ?_
                  refine gi_cne (tgt := 113) hx hb dX11_told_101 (by decide) (by omega) (by decide) (fun c_22 => ?_) (fun c_22 => ?_)
                  · refine lv_aload_n hx hb dX11_told_113 rfl (lv_at hl 0 rfl) ?_
                    refine mdG_orderMany C hP mF_X11_91 dX11_told_114 ?_
                    refine lv_iload_n hx hb dX11_told_117 rfl (lv_at hl 1 rfl) ?_
                    refine mdL_orderMany C hP (by omega) (by omega) dX11_told_118 ?_
                    have r_23 : 0 ≤ (f 23 a1) ∧ (f 23 a1) ≤ 16 := hP.2.2 23 a1
                    exact g_iret hQ C hr hlocks hP hS dX11_told_119 ⟨(f 23 a1), 0, rfl, rfl, rfl, rfl, (by first | omega | ((repeat' split) <;> omega)), (by first | omega | ((repeat' split) <;> omega)), (by first | omega | ((repeat' split) <;> omega))⟩
                  · refine lv_aload_n hx hb dX11_told_104 rfl (lv_at hl 0 rfl) ?_
                    refine mdG_rest C hP mF_X11_30 dX11_told_105 ?_
                    refine lv_iload_n hx hb dX11_told_108 rfl (lv_at hl 1 rfl) ?_
                    refine mdL_rest C hP (by omega) (by omega) dX11_told_109 ?_
                    have r_24 : 0 ≤ (f 4 a1) ∧ (f 4 a1) ≤ 999 := hP.2.2 4 a1
                    refine lv_goto (tgt := 119) hx hb dX11_told_110 (by decide) ?_
                    exact g_iret hQ C hr hlocks hP hS dX11_told_119 ⟨(f 4 a1), 0, rfl, rfl, rfl, rfl, (by first | omega | ((repeat' split) <;> omega)), (by first | omega | ((repeat' split) <;> omega)), (by first | omega | ((repeat' split) <;> omega))⟩
                · refine lv_aload_n hx hb dX11_told_90 rfl (lv_at hl 0 rfl) ?_
                  refine mdG_seconds C hP mF_X11_27 dX11_told_91 ?_
                  refine lv_iload_n hx hb dX11_told_94 rfl (lv_at hl 1 rfl) ?_
                  refine mdL_seconds C hP (by omega) (by omega) dX11_told_95 ?_
                  have r_25 : 0 ≤ (f 3 a1) ∧ (f 3 a1) ≤ 999 := hP.2.2 3 a1
                  refine lv_goto (tgt := 119) hx hb dX11_told_96 (by decide) ?_
                  exact g_iret hQ C hr hlocks hP hS dX11_told_119 ⟨(f 3 a1), 0, rfl, rfl, rfl, rfl, (by first | omega | ((repeat' split) <;> omega)), (by first | omega | ((repeat' split) <;> omega)), (by first | omega | ((repeat' split) <;> omega))⟩
              · refine lv_aload_n hx hb dX11_told_76 rfl (lv_at hl 0 rfl) ?_
                refine mdG_tries C hP mF_X11_24 dX11_told_77 ?_
                refine lv_iload_n hx hb dX11_told_80 rfl (lv_at hl 1 rfl) ?_
                refine mdL_tries C hP (by omega) (by omega) dX11_told_81 ?_
                have r_26 : 0 ≤ (f 2 a1) ∧ (f 2 a1) ≤ 9 := hP.2.2 2 a1
                refine lv_goto (tgt := 119) hx hb dX11_told_82 (by decide) ?_
                exact g_iret hQ C hr hlocks hP hS dX11_told_119 ⟨(f 2 a1), 0, rfl, rfl, rfl, rfl, (by first | omega | ((repeat' split) <;> omega)), (by first | omega | ((repeat' split) <;> omega)), (by first | omega | ((repeat' split) <;> omega))⟩
            · refine lv_aload_n hx hb dX11_told_62 rfl (lv_at hl 0 rfl) ?_
              refine mdG_routes C hP mF_X11_20 dX11_told_63 ?_
              refine lv_iload_n hx hb dX11_told_66 rfl (lv_at hl 1 rfl) ?_
              refine mdL_routes C hP (by omega) (by omega) dX11_told_67 ?_
              have r_27 : 0 ≤ (f 1 a1) ∧ (f 1 a1) ≤ 5 := hP.2.2 1 a1
              refine lv_goto (tgt := 119) hx hb dX11_told_68 (by decide) ?_
              exact g_iret hQ C hr hlocks hP hS dX11_told_119 ⟨(f 1 a1), 0, rfl, rfl, rfl, rfl, (by first | omega | ((repeat' split) <;> omega)), (by first | omega | ((repeat' split) <;> omega)), (by first | omega | ((repeat' split) <;> omega))⟩
        · refine lv_aload_n hx hb dX11_told_47 rfl (lv_at hl 0 rfl) ?_
          refine lv_iconst (v := iI 2) hx hb dX11_told_48 rfl ?_
          refine g_cv (As := [.int (iI 2)]) (rest := []) (n := 1) C hml (m_X11_refuse l D k A ad hD (va_up (va_up v 0 0) 1 0) f g 2 (by decide) (show 0 ≤ (2 : Int) ∧ (2 : Int) ≤ 10 from by omega)) mM_X11_295 mI_X11_refuse mE_X11_refuse mN_X11 mC_X11_refuse (by decide +kernel) 0 (ci := 11) rfl rfl hP hS (fun _ h => h) ⟨Nat.le_of_ble_eq_true rfl, Nat.le_of_ble_eq_true rfl⟩ ⟨Nat.zero_le _, Nat.zero_le _⟩ hl.1 rfl rfl (Nat.le_of_ble_eq_true rfl) dX11_told_49 (fun r_28 v_28 f_28 g_28 H locs hq_28 hP _ hS => ?_)
          obtain ⟨rfl, rfl, rfl, rfl⟩ := hq_28
          show W p l e (gRm 2 43) s m args below meth c _ _ 0 0 Q (F0 m 52 ls [.int (iI (-1))])
          have hP : gWd D (mdT k ad) (va_up (va_up v 0 (2 : Int)) 1 0) f g H := ⟨hP.1, (gR_up (V := mdV) (F := mdF) (gR_up (V := mdV) (F := mdF) ⟨hok.1, hok.2⟩ 0 (hP.2.1 0)) 1 (hP.2.1 1))⟩
          exact g_iret hQ C hr hlocks hP hS dX11_told_52 ⟨(-1), (2 : Int), rfl, rfl, rfl, rfl, (by first | omega | ((repeat' split) <;> omega)), (by first | omega | ((repeat' split) <;> omega)), (by first | omega | ((repeat' split) <;> omega))⟩
    · refine lv_aload_n hx hb dX11_told_23 rfl (lv_at hl 0 rfl) ?_
      refine lv_iload_n hx hb dX11_told_24 rfl (lv_at hl 1 rfl) ?_
      refine lv_iload_n hx hb dX11_told_25 rfl (lv_at hl 2 rfl) ?_
      refine g_cv (As := [.int (iI a1), .int (iI a2)]) (rest := []) (n := 2) C hml (m_X11_isRoute l D k A ad hD (va_up (va_up v 0 0) 1 0) f g a1 a2 (by omega) (by omega)) mM_X11_328 mI_X11_isRoute mE_X11_isRoute mN_X11 mC_X11_isRoute (by decide +kernel) 0 (ci := 11) rfl rfl hP hS (fun _ h => h) ⟨Nat.le_of_ble_eq_true rfl, Nat.le_of_ble_eq_true rfl⟩ ⟨Nat.zero_le _, Nat.zero_le _⟩ hl.1 rfl rfl (Nat.le_of_ble_eq_true rfl) dX11_told_26 (fun r_29 v_29 f_29 g_29 H locs hq_29 hP _ hS => ?_)
      obtain ⟨z_29, rfl, rfl, rfl, rfl, p0_29, p1_29⟩ := hq_29
      show W p l e (gRm 2 43) s m args below meth c _ _ 0 0 Q (F0 m 29 ls [.int (iI z_29)])
      replace p0_29 : z_29 = (if (0 ≤ a1 ∧ a1 < (v 12)) ∧ 0 ≤ a2 ∧ a2 < (f 1) a1 then 1 else 0) := p0_29
      have w_29 := gif (P := (0 ≤ a1 ∧ a1 < (v 12)) ∧ 0 ≤ a2 ∧ a2 < (f 1) a1) p0_29
      clear p0_29
      replace p1_29 : z_29 = 1 → a2 ≤ 4 ∧ a1 ≤ 3 := p1_29
      have hz_29 : inR z_29 := (by first | omega | (rw [p0_29]; split <;> omega))
      refine gi_zne (tgt := 38) hx hb dX11_told_29 (by decide) (by omega) (fun c_30 => ?_) (fun c_30 => ?_)
      · have vz_29 := gif1 w_29 c_30
        have voz_29 := gif1o w_29 c_30
        clear w_29
        refine lv_iload_n hx hb dX11_told_38 rfl (lv_at hl 3 rfl) ?_
        refine gi_zlt (tgt := 47) hx hb dX11_told_39 (by decide) (by omega) (fun c_31 => ?_) (fun c_31 => ?_)
        · refine lv_aload_n hx hb dX11_told_47 rfl (lv_at hl 0 rfl) ?_
          refine lv_iconst (v := iI 2) hx hb dX11_told_48 rfl ?_
          refine g_cv (As := [.int (iI 2)]) (rest := []) (n := 1) C hml (m_X11_refuse l D k A ad hD (va_up (va_up v 0 0) 1 0) f g 2 (by decide) (show 0 ≤ (2 : Int) ∧ (2 : Int) ≤ 10 from by omega)) mM_X11_295 mI_X11_refuse mE_X11_refuse mN_X11 mC_X11_refuse (by decide +kernel) 0 (ci := 11) rfl rfl hP hS (fun _ h => h) ⟨Nat.le_of_ble_eq_true rfl, Nat.le_of_ble_eq_true rfl⟩ ⟨Nat.zero_le _, Nat.zero_le _⟩ hl.1 rfl rfl (Nat.le_of_ble_eq_true rfl) dX11_told_49 (fun r_32 v_32 f_32 g_32 H locs hq_32 hP _ hS => ?_)
          obtain ⟨rfl, rfl, rfl, rfl⟩ := hq_32
          show W p l e (gRm 2 43) s m args below meth c _ _ 0 0 Q (F0 m 52 ls [.int (iI (-1))])
          have hP : gWd D (mdT k ad) (va_up (va_up v 0 (2 : Int)) 1 0) f g H := ⟨hP.1, (gR_up (V := mdV) (F := mdF) (gR_up (V := mdV) (F := mdF) ⟨hok.1, hok.2⟩ 0 (hP.2.1 0)) 1 (hP.2.1 1))⟩
          exact g_iret hQ C hr hlocks hP hS dX11_told_52 ⟨(-1), (2 : Int), rfl, rfl, rfl, rfl, (by first | omega | ((repeat' split) <;> omega)), (by first | omega | ((repeat' split) <;> omega)), (by first | omega | ((repeat' split) <;> omega))⟩
        · refine lv_iload_n hx hb dX11_told_42 rfl (lv_at hl 3 rfl) ?_
          refine lv_iconst (v := iI 4) hx hb dX11_told_43 rfl ?_
          refine gi_cle (tgt := 53) hx hb dX11_told_44 (by decide) (by omega) (by decide) (fun c_33 => ?_) (fun c_33 => ?_)
          · refine lv_iload_n hx hb dX11_told_53 rfl (lv_at hl 2 rfl) ?_
            refine lv_iconst (v := iI (-1)) hx hb dX11_told_54 rfl ?_
            refine gi_cne (tgt := 120) hx hb dX11_told_55 (by decide) (by omega) (by decide) (fun c_34 => ?_) (fun c_34 => ?_)
            · refine lv_iload_n hx hb dX11_told_120 rfl (lv_at hl 1 rfl) ?_
              refine lv_iload_n hx hb dX11_told_121 rfl (lv_at hl 2 rfl) ?_
              refine g_cs (As := [.int (iI a1), .int (iI a2)]) (rest := []) (n := 2) C hml (m_X11_at l D k A ad hD (va_up (va_up v 0 0) 1 0) f g a1 a2 (by omega) (by omega) (show 0 ≤ a1 ∧ a1 ≤ 3 from by omega) (show 0 ≤ a2 ∧ a2 ≤ 4 from by omega)) mM_X11_335 mS_X11_at mN_X11 mC_X11_at (by decide +kernel) hP hS (fun _ h => h) ⟨Nat.le_of_ble_eq_true rfl, Nat.le_of_ble_eq_true rfl⟩ ⟨Nat.zero_le _, Nat.zero_le _⟩ hl.1 rfl rfl (Nat.le_of_ble_eq_true rfl) dX11_told_122 (fun r_35 v_35 f_35 g_35 H locs hq_35 hP _ hS => ?_)
              obtain ⟨z_35, rfl, rfl, rfl, rfl, p0_35⟩ := hq_35
              show W p l e (gRm 2 43) s m args below meth c _ _ 0 0 Q (F0 m 125 ls [.int (iI z_35)])
              replace p0_35 : z_35 = (5 * a1 + a2) := p0_35
              have hz_35 : inR z_35 := (by first | omega | (rw [p0_35]; split <;> omega))
              have hat := p0_35
              refine lv_istore (lv' := [(4, .int (iI z_35)), (0, .ref (ad 0)), (1, .int (iI a1)), (2, .int (iI a2)), (3, .int (iI a3))]) hx hb dX11_told_125 hl (by decide) rfl (fun ls hl => ?_)
              refine lv_iload_n hx hb dX11_told_127 rfl (lv_at hl 4 rfl) ?_
              refine gi_zne (tgt := 141) hx hb dX11_told_128 (by decide) (by omega) (fun c_36 => ?_) (fun c_36 => ?_)
              · refine lv_iload_n hx hb dX11_told_141 rfl (lv_at hl 4 rfl) ?_
                refine lv_iconst (v := iI 4) hx hb dX11_told_142 rfl ?_
                refine gi_cne (tgt := 156) hx hb dX11_told_143 (by decide) (by omega) (by decide) (fun c_37 => ?_) (fun c_37 => ?_)
                · refine lv_aload_n hx hb dX11_told_156 rfl (lv_at hl 1 rfl) ?_
                  refine mdG_zones C hP mF_X11_76 dX11_told_157 ?_
                  refine lv_iconst (v := iI 3) hx hb dX11_told_160 rfl ?_
                  refine lv_iload hx hb dX11_told_161 (lv_at hl 0 rfl) ?_
                  refine gi_mul (z := (3 * z_35)) hx hb dX11_told_163 rfl ?_
                  refine lv_iload_n hx hb dX11_told_164 rfl (lv_at hl 4 rfl) ?_
                  refine gi_add (z := ((3 * z_35) + a3)) hx hb dX11_told_165 rfl ?_
                  refine lv_iconst (v := iI 1) hx hb dX11_told_166 rfl ?_
                  refine gi_sub (z := (((3 * z_35) + a3) - 1)) hx hb dX11_told_167 rfl ?_
                  refine mdL_zones C hP (by omega) (by omega) dX11_told_168 ?_
                  have r_38 : 0 ≤ (f 19 (((3 * z_35) + a3) - 1)) ∧ (f 19 (((3 * z_35) + a3) - 1)) ≤ 60 := hP.2.2 19 (((3 * z_35) + a3) - 1)
                  have hld : (f 19 (((3 * z_35) + a3) - 1)) = (f 19) ((a1 * 5 + a2) * 3 + (a3 - 1)) := by rw [show (((3 * z_35) + a3) - 1) = (a1 * 5 + a2) * 3 + (a3 - 1) by omega]
                  exact g_iret hQ C hr hlocks hP hS dX11_told_169 ⟨(f 19 (((3 * z_35) + a3) - 1)), 0, rfl, rfl, rfl, rfl, (by first | omega | ((repeat' split) <;> omega)), (by first | omega | ((repeat' split) <;> omega)), (by first | omega | ((repeat' split) <;> omega))⟩
                · refine lv_aload_n hx hb dX11_told_146 rfl (lv_at hl 1 rfl) ?_
                  refine mdG_begun C hP mF_X11_79 dX11_told_147 ?_
                  refine lv_iload hx hb dX11_told_150 (lv_at hl 0 rfl) ?_
                  refine mdL_begun C hP (by omega) (by omega) dX11_told_152 ?_
                  have r_40 : 0 ≤ (f 20 z_35) ∧ (f 20 z_35) ≤ 300 := hP.2.2 20 z_35
                  have hld : (f 20 z_35) = (f 20) (a1 * 5 + a2) := by rw [show z_35 = (a1 * 5 + a2) by omega]
                  refine lv_goto (tgt := 169) hx hb dX11_told_153 (by decide) ?_
                  exact g_iret hQ C hr hlocks hP hS dX11_told_169 ⟨(f 20 z_35), 0, rfl, rfl, rfl, rfl, (by first | omega | ((repeat' split) <;> omega)), (by first | omega | ((repeat' split) <;> omega)), (by first | omega | ((repeat' split) <;> omega))⟩
              · refine lv_aload_n hx hb dX11_told_131 rfl (lv_at hl 1 rfl) ?_
                refine mdG_holds C hP mF_X11_73 dX11_told_132 ?_
                refine lv_iload hx hb dX11_told_135 (lv_at hl 0 rfl) ?_
                refine mdL_holds C hP (by omega) (by omega) dX11_told_137 ?_
                have r_42 : 0 ≤ (f 18 z_35) ∧ (f 18 z_35) ≤ 60 := hP.2.2 18 z_35
                have hld : (f 18 z_35) = (f 18) (a1 * 5 + a2) := by rw [show z_35 = (a1 * 5 + a2) by omega]
                refine lv_goto (tgt := 169) hx hb dX11_told_138 (by decide) ?_
                exact g_iret hQ C hr hlocks hP hS dX11_told_169 ⟨(f 18 z_35), 0, rfl, rfl, rfl, rfl, (by first | omega | ((repeat' split) <;> omega)), (by first | omega | ((repeat' split) <;> omega)), (by first | omega | ((repeat' split) <;> omega))⟩
            · refine lv_iload_n hx hb dX11_told_58 rfl (lv_at hl 3 rfl) ?_
              refine gi_zne (tgt := 71) hx hb dX11_told_59 (by decide) (by omega) (fun c_44 => ?_) (fun c_44 => ?_)
              · refine lv_iload_n hx hb dX11_told_71 rfl (lv_at hl 3 rfl) ?_
                refine lv_iconst (v := iI 1) hx hb dX11_told_72 rfl ?_
                refine gi_cne (tgt := 85) hx hb dX11_told_73 (by decide) (by omega) (by decide) (fun c_45 => ?_) (fun c_45 => ?_)
                · refine lv_iload_n hx hb dX11_told_85 rfl (lv_at hl 3 rfl) ?_
                  refine lv_iconst (v := iI 2) hx hb dX11_told_86 rfl ?_
                  refine gi_cne (tgt := 99) hx hb dX11_told_87 (by decide) (by omega) (by decide) (fun c_46 => ?_) (fun c_46 => ?_)
                  · refine lv_iload_n hx hb dX11_told_99 rfl (lv_at hl 3 rfl) ?_
                    refine lv_iconst (v := iI 3) hx hb dX11_told_100 rfl ?_
                    refine gi_cne (tgt := 113) hx hb dX11_told_101 (by decide) (by omega) (by decide) (fun c_47 => ?_) (fun c_47 => ?_)
                    · refine lv_aload_n hx hb dX11_told_113 rfl (lv_at hl 0 rfl) ?_
                      refine mdG_orderMany C hP mF_X11_91 dX11_told_114 ?_
                      refine lv_iload_n hx hb dX11_told_117 rfl (lv_at hl 1 rfl) ?_
                      refine mdL_orderMany C hP (by omega) (by omega) dX11_told_118 ?_
                      have r_48 : 0 ≤ (f 23 a1) ∧ (f 23 a1) ≤ 16 := hP.2.2 23 a1
                      exact g_iret hQ C hr hlocks hP hS dX11_told_119 ⟨(f 23 a1), 0, rfl, rfl, rfl, rfl, (by first | omega | ((repeat' split) <;> omega)), (by first | omega | ((repeat' split) <;> omega)), (by first | omega | ((repeat' split) <;> omega))⟩
                    · refine lv_aload_n hx hb dX11_told_104 rfl (lv_at hl 0 rfl) ?_
                      refine mdG_rest C hP mF_X11_30 dX11_told_105 ?_
                      refine lv_iload_n hx hb dX11_told_108 rfl (lv_at hl 1 rfl) ?_
                      refine mdL_rest C hP (by omega) (by omega) dX11_told_109 ?_
                      have r_49 : 0 ≤ (f 4 a1) ∧ (f 4 a1) ≤ 999 := hP.2.2 4 a1
                      refine lv_goto (tgt := 119) hx hb dX11_told_110 (by decide) ?_
                      exact g_iret hQ C hr hlocks hP hS dX11_told_119 ⟨(f 4 a1), 0, rfl, rfl, rfl, rfl, (by first | omega | ((repeat' split) <;> omega)), (by first | omega | ((repeat' split) <;> omega)), (by first | omega | ((repeat' split) <;> omega))⟩
                  · refine lv_aload_n hx hb dX11_told_90 rfl (lv_at hl 0 rfl) ?_
                    refine mdG_seconds C hP mF_X11_27 dX11_told_91 ?_
                    refine lv_iload_n hx hb dX11_told_94 rfl (lv_at hl 1 rfl) ?_
                    refine mdL_seconds C hP (by omega) (by omega) dX11_told_95 ?_
                    have r_50 : 0 ≤ (f 3 a1) ∧ (f 3 a1) ≤ 999 := hP.2.2 3 a1
                    refine lv_goto (tgt := 119) hx hb dX11_told_96 (by decide) ?_
                    exact g_iret hQ C hr hlocks hP hS dX11_told_119 ⟨(f 3 a1), 0, rfl, rfl, rfl, rfl, (by first | omega | ((repeat' split) <;> omega)), (by first | omega | ((repeat' split) <;> omega)), (by first | omega | ((repeat' split) <;> omega))⟩
                · refine lv_aload_n hx hb dX11_told_76 rfl (lv_at hl 0 rfl) ?_
                  refine mdG_tries C hP mF_X11_24 dX11_told_77 ?_
                  refine lv_iload_n hx hb dX11_told_80 rfl (lv_at hl 1 rfl) ?_
                  refine mdL_tries C hP (by omega) (by omega) dX11_told_81 ?_
                  have r_51 : 0 ≤ (f 2 a1) ∧ (f 2 a1) ≤ 9 := hP.2.2 2 a1
                  refine lv_goto (tgt := 119) hx hb dX11_told_82 (by decide) ?_
                  exact g_iret hQ C hr hlocks hP hS dX11_told_119 ⟨(f 2 a1), 0, rfl, rfl, rfl, rfl, (by first | omega | ((repeat' split) <;> omega)), (by first | omega | ((repeat' split) <;> omega)), (by first | omega | ((repeat' split) <;> omega))⟩
              · refine lv_aload_n hx hb dX11_told_62 rfl (lv_at hl 0 rfl) ?_
                refine mdG_routes C hP mF_X11_20 dX11_told_63 ?_
                refine lv_iload_n hx hb dX11_told_66 rfl (lv_at hl 1 rfl) ?_
                refine mdL_routes C hP (by omega) (by omega) dX11_told_67 ?_
                have r_52 : 0 ≤ (f 1 a1) ∧ (f 1 a1) ≤ 5 := hP.2.2 1 a1
                refine lv_goto (tgt := 119) hx hb dX11_told_68 (by decide) ?_
                exact g_iret hQ C hr hlocks hP hS dX11_told_119 ⟨(f 1 a1), 0, rfl, rfl, rfl, rfl, (by first | omega | ((repeat' split) <;> omega)), (by first | omega | ((repeat' split) <;> omega)), (by first | omega | ((repeat' split) <;> omega))⟩
          · refine lv_aload_n hx hb dX11_told_47 rfl (lv_at hl 0 rfl) ?_
            refine lv_iconst (v := iI 2) hx hb dX11_told_48 rfl ?_
            refine g_cv (As := [.int (iI 2)]) (rest := []) (n := 1) C hml (m_X11_refuse l D k A ad hD (va_up (va_up v 0 0) 1 0) f g 2 (by decide) (show 0 ≤ (2 : Int) ∧ (2 : Int) ≤ 10 from by omega)) mM_X11_295 mI_X11_refuse mE_X11_refuse mN_X11 mC_X11_refuse (by decide +kernel) 0 (ci := 11) rfl rfl hP hS (fun _ h => h) ⟨Nat.le_of_ble_eq_true rfl, Nat.le_of_ble_eq_true rfl⟩ ⟨Nat.zero_le _, Nat.zero_le _⟩ hl.1 rfl rfl (Nat.le_of_ble_eq_true rfl) dX11_told_49 (fun r_53 v_53 f_53 g_53 H locs hq_53 hP _ hS => ?_)
            obtain ⟨rfl, rfl, rfl, rfl⟩ := hq_53
            show W p l e (gRm 2 43) s m args below meth c _ _ 0 0 Q (F0 m 52 ls [.int (iI (-1))])
            have hP : gWd D (mdT k ad) (va_up (va_up v 0 (2 : Int)) 1 0) f g H := ⟨hP.1, (gR_up (V := mdV) (F := mdF) (gR_up (V := mdV) (F := mdF) ⟨hok.1, hok.2⟩ 0 (hP.2.1 0)) 1 (hP.2.1 1))⟩
            exact g_iret hQ C hr hlocks hP hS dX11_told_52 ⟨(-1), (2 : Int), rfl, rfl, rfl, rfl, (by first | omega | ((repeat' split) <;> omega)), (by first | omega | ((repeat' split) <;> omega)), (by first | omega | ((repeat' split) <;> omega))⟩
      · have vz_29 := gif0 w_29 c_30
        clear w_29
        refine lv_aload_n hx hb dX11_told_32 rfl (lv_at hl 0 rfl) ?_
        refine lv_iconst (v := iI 1) hx hb dX11_told_33 rfl ?_
        refine g_cv (As := [.int (iI 1)]) (rest := []) (n := 1) C hml (m_X11_refuse l D k A ad hD (va_up (va_up v 0 0) 1 0) f g 1 (by decide) (show 0 ≤ (1 : Int) ∧ (1 : Int) ≤ 10 from by omega)) mM_X11_295 mI_X11_refuse mE_X11_refuse mN_X11 mC_X11_refuse (by decide +kernel) 0 (ci := 11) rfl rfl hP hS (fun _ h => h) ⟨Nat.le_of_ble_eq_true rfl, Nat.le_of_ble_eq_true rfl⟩ ⟨Nat.zero_le _, Nat.zero_le _⟩ hl.1 rfl rfl (Nat.le_of_ble_eq_true rfl) dX11_told_34 (fun r_54 v_54 f_54 g_54 H locs hq_54 hP _ hS => ?_)
        obtain ⟨rfl, rfl, rfl, rfl⟩ := hq_54
        show W p l e (gRm 2 43) s m args below meth c _ _ 0 0 Q (F0 m 37 ls [.int (iI (-1))])
        have hP : gWd D (mdT k ad) (va_up (va_up v 0 (1 : Int)) 1 0) f g H := ⟨hP.1, (gR_up (V := mdV) (F := mdF) (gR_up (V := mdV) (F := mdF) ⟨hok.1, hok.2⟩ 0 (hP.2.1 0)) 1 (hP.2.1 1))⟩
        exact g_iret hQ C hr hlocks hP hS dX11_told_37 ⟨(-1), (1 : Int), rfl, rfl, rfl, rfl, (by first | omega | ((repeat' split) <;> omega)), (by first | omega | ((repeat' split) <;> omega)), (by first | omega | ((repeat' split) <;> omega))⟩

set_option maxHeartbeats 4000000 in
set_option maxRecDepth 100000 in
theorem y_begin (l : Launch) (D : va_G) (k : Nat → ClassId) (A : Nat → Prop) (ad : Nat → Nat) (hD : mdD A k ad) (v : gV) (f g : gF) (a1 : Int) (a2 : Int) (a3 : Int) (on : Int → Int) (h_a1 : inR a1) (h_a2 : inR a2) (h_a3 : inR a3) (hbg : ∀ k, 0 ≤ k → k < 20 → (f 20) k ≤ (v 25)) (hO : OI (v 25) (f 24) (f 30) on) (hti : TI (v 25) (v 24) (f 27) (f 28) (f 30)) (hwi : ∀ c, 0 ≤ c → c < (v 22) → WI (v 24) (f 35) (f 36) (f 34) c) : GM l D k A (mdT k ad) yX11_begin cX11_begin 8 (some .int) 2 56 [.ref (ad 0), .int (iI a1), .int (iI a2), .int (iI a3)] v f g (fun r v1 f1 g1 => ∃ (z : Int) (w0 : Int), r = some (.int (iI z)) ∧ (va_up (va_up (va_up (va_up v 0 w0) 1 0) 24 (if w0 = 1 ∨ w0 = 2 ∨ w0 = 9 then (v 24) else a3)) 25 (if w0 = 0 then (v 25) + 1 else (v 25))) = v1 ∧ (va_up (va_up (va_up (va_up (va_up (va_up (va_up (va_up f 20 (if w0 = 0 then u1 (f 20) ((v 23) * 5 + a2) ((f 20) ((v 23) * 5 + a2) + 1) else (f 20))) 24 (if w0 = 0 then u1 (f 24) (v 25) a1 else (f 24))) 25 (if w0 = 0 then u1 (f 25) (v 25) (v 23) else (f 25))) 26 (if w0 = 0 then u1 (f 26) (v 25) a2 else (f 26))) 27 (if w0 = 0 then u1 (f 27) (v 25) a3 else (f 27))) 28 (if w0 = 1 ∨ w0 = 2 ∨ w0 = 9 then (f 28) else if w0 = 0 then u1 (ovE (v 25) a3 (f 30) (f 27) (fun k => (f 3) ((f 25) k)) (f 28)) (v 25) (-1) else (ovE (v 25) a3 (f 30) (f 27) (fun k => (f 3) ((f 25) k)) (f 28)))) 29 (if w0 = 0 then u1 (f 29) (v 25) 0 else (f 29))) 30 (if w0 = 1 ∨ w0 = 2 ∨ w0 = 9 then (f 30) else if w0 = 0 then u1 (ovH (v 25) a3 (f 30) (f 27) (fun k => (f 3) ((f 25) k))) (v 25) 0 else (ovH (v 25) a3 (f 30) (f 27) (fun k => (f 3) ((f 25) k))))) = f1 ∧ g = g1 ∧ (z = (if w0 = 0 then (v 25) else (-1))) ∧ (w0 = (if ¬ ((0 ≤ a1 ∧ a1 < (v 22)) ∧ ((0 ≤ (v 23) ∧ (v 23) < (v 12)) ∧ 0 ≤ a2 ∧ a2 < (f 1) (v 23))) then 1 else if (if a3 < 0 ∨ 1000000 < a3 then (2 : Int) else if a3 < (v 24) then 9 else 0) ≠ 0 then (if a3 < 0 ∨ 1000000 < a3 then (2 : Int) else if a3 < (v 24) then 9 else 0) else (if (f 21) (16 * (v 23) + a1) = 0 then 4 else if (ovO a3 (f 27) (fun k => (f 3) ((f 25) k)) on) a1 ≠ 0 then 5 else if 1 ≤ cn (pTo (f 24) (f 25) (f 26) (ovH (v 25) a3 (f 30) (f 27) (fun k => (f 3) ((f 25) k))) a1 (v 23) a2) (v 25).toNat ∨ (f 2) (v 23) ≤ cn (pDo (f 24) (f 25) (f 26) (ovH (v 25) a3 (f 30) (f 27) (fun k => (f 3) ((f 25) k))) a1 (v 23) a2) (v 25).toNat then 6 else if 300 ≤ (v 25) then 3 else if 1 ≤ cn (pSe (f 24) (f 25) (f 26) (f 27) (ovE (v 25) a3 (f 30) (f 27) (fun k => (f 3) ((f 25) k)) (f 28)) (f 35) (f 36) (f 34) a3 a1 (v 23) a2) (v 25).toNat then 7 else if a3 < rsF (mxE (f 24) (f 25) (ovE (v 25) a3 (f 30) (f 27) (fun k => (f 3) ((f 25) k)) (f 28)) a1 (v 23) (v 25).toNat) ((f 4) (v 23)) then 8 else 0))) ∧ (∀ k, 0 ≤ k → k < 20 → (if w0 = 0 then u1 (f 20) ((v 23) * 5 + a2) ((f 20) ((v 23) * 5 + a2) + 1) else (f 20)) k ≤ (if w0 = 0 then (v 25) + 1 else (v 25)))) := by
  refine GM.of (by decide) (Nat.le_of_ble_eq_true rfl) ?_
  intro p e s m args below meth c Q ls hQ C hml hr hlocks hP hl
  have hx := C.1
  have hb := C.2.1
  have hok := hP.2
  have hS : va_S A s.heap s.heap [] := va_S.rf
  have hl : lv_has ls 8 [(0, .ref (ad 0)), (1, .int (iI a1)), (2, .int (iI a2)), (3, .int (iI a3))] := hl
  have hP : gWd D (mdT k ad) (va_up (va_up (va_up (va_up v 0 (v 0)) 1 (v 1)) 24 (v 24)) 25 (v 25)) (va_up (va_up (va_up (va_up (va_up (va_up (va_up (va_up f 20 (f 20)) 24 (f 24)) 25 (f 25)) 26 (f 26)) 27 (f 27)) 28 (f 28)) 29 (f 29)) 30 (f 30)) g s.heap := by rw [va_id, va_id, va_id, va_id, va_id, va_id, va_id, va_id, va_id, va_id, va_id, va_id]; exact hP
  have hwr : ∀ k, 0 ≤ (f 24) k ∧ (f 24) k ≤ 15 := fun k => hok.2 24 k
  have r_1 : 0 ≤ (v 25) ∧ (v 25) ≤ 300 := hok.1 25
  have r_2 : (-1) ≤ (v 23) ∧ (v 23) ≤ 3 := hok.1 23
  have r_3 : 0 ≤ (v 22) ∧ (v 22) ≤ 16 := hok.1 22
  have r_4 : 0 ≤ (v 12) ∧ (v 12) ≤ 4 := hok.1 12
  refine lv_aload_n hx hb dX11_begin_0 rfl (lv_at hl 0 rfl) ?_
  refine lv_iconst (v := iI 0) hx hb dX11_begin_1 rfl ?_
  refine mdP_thrown (v1 := (va_up (va_up (va_up (va_up v 0 (v 0)) 1 0) 24 (v 24)) 25 (v 25))) C hP hD hS mF_X11_146 (by decide) rfl (Or.inr (gF_up (V := mdV) (F := mdF) (gF_up (V := mdV) (F := mdF) (gF_up (V := mdV) (F := mdF) (gF_up (V := mdV) (F := mdF) (gF_up (V := mdV) (F := mdF) (gF_up (V := mdV) (F := mdF) (gF_up (V := mdV) (F := mdF) (gF_up (V := mdV) (F := mdF) (gR_up (V := mdV) (F := mdF) (gR_up (V := mdV) (F := mdF) (gR_up (V := mdV) (F := mdF) (gR_up (V := mdV) (F := mdF) ⟨hok.1, hok.2⟩ 0 (hP.2.1 0)) 1 (show 0 ≤ 0 ∧ 0 ≤ 0 from by decide)) 24 (hP.2.1 24)) 25 (hP.2.1 25)) 20 (hP.2.2 20)) 24 (hP.2.2 24)) 25 (hP.2.2 25)) 26 (hP.2.2 26)) 27 (hP.2.2 27)) 28 (hP.2.2 28)) 29 (hP.2.2 29)) 30 (hP.2.2 30))) dX11_begin_2 (fun H locs hP hS => ?_)
  refine lv_aload_n hx hb dX11_begin_5 rfl (lv_at hl 0 rfl) ?_
  refine lv_iconst (v := iI 0) hx hb dX11_begin_6 rfl ?_
  refine mdP_status (v1 := (va_up (va_up (va_up (va_up v 0 0) 1 0) 24 (v 24)) 25 (v 25))) C hP hD hS mF_X11_149 (by decide) rfl (Or.inr (gF_up (V := mdV) (F := mdF) (gF_up (V := mdV) (F := mdF) (gF_up (V := mdV) (F := mdF) (gF_up (V := mdV) (F := mdF) (gF_up (V := mdV) (F := mdF) (gF_up (V := mdV) (F := mdF) (gF_up (V := mdV) (F := mdF) (gF_up (V := mdV) (F := mdF) (gR_up (V := mdV) (F := mdF) (gR_up (V := mdV) (F := mdF) (gR_up (V := mdV) (F := mdF) (gR_up (V := mdV) (F := mdF) ⟨hok.1, hok.2⟩ 0 (show 0 ≤ 0 ∧ 0 ≤ 10 from by decide)) 1 (hP.2.1 1)) 24 (hP.2.1 24)) 25 (hP.2.1 25)) 20 (hP.2.2 20)) 24 (hP.2.2 24)) 25 (hP.2.2 25)) 26 (hP.2.2 26)) 27 (hP.2.2 27)) 28 (hP.2.2 28)) 29 (hP.2.2 29)) 30 (hP.2.2 30))) dX11_begin_7 (fun H locs hP hS => ?_)
  refine lv_aload_n hx hb dX11_begin_10 rfl (lv_at hl 0 rfl) ?_
  refine lv_iload_n hx hb dX11_begin_11 rfl (lv_at hl 1 rfl) ?_
  refine g_cv (As := [.int (iI a1)]) (rest := []) (n := 1) C hml (m_X11_isClimber l D k A ad hD (va_up (va_up (va_up (va_up v 0 0) 1 0) 24 (v 24)) 25 (v 25)) (va_up (va_up (va_up (va_up (va_up (va_up (va_up (va_up f 20 (f 20)) 24 (f 24)) 25 (f 25)) 26 (f 26)) 27 (f 27)) 28 (f 28)) 29 (f 29)) 30 (f 30)) g a1 (by omega)) mM_X11_349 mI_X11_isClimber mE_X11_isClimber mN_X11 mC_X11_isClimber (by decide +kernel) 0 (ci := 11) rfl rfl hP hS (fun _ h => h) ⟨Nat.le_of_ble_eq_true rfl, Nat.le_of_ble_eq_true rfl⟩ ⟨Nat.zero_le _, Nat.zero_le _⟩ hl.1 rfl rfl (Nat.le_of_ble_eq_true rfl) dX11_begin_12 (fun r_5 v_5 f_5 g_5 H locs hq_5 hP _ hS => ?_)
  obtain ⟨z_5, rfl, rfl, rfl, rfl, p0_5, p1_5⟩ := hq_5
  show W p l e (gRm 2 56) s m args below meth c _ _ 0 0 Q (F0 m 15 ls [.int (iI z_5)])
  replace p0_5 : z_5 = (if 0 ≤ a1 ∧ a1 < (v 22) then 1 else 0) := p0_5
  have w_5 := gif (P := 0 ≤ a1 ∧ a1 < (v 22)) p0_5
  clear p0_5
  replace p1_5 : z_5 = 1 → 0 ≤ a1 ∧ a1 ≤ 15 := p1_5
  have hz_5 : inR z_5 := (by first | omega | (rw [p0_5]; split <;> omega))
  refine gi_zeq (tgt := 37) hx hb dX11_begin_15 (by decide) (by omega) (fun c_6 => ?_) (fun c_6 => ?_)
  · have vz_5 := gif0 w_5 c_6
    clear w_5
    refine lv_aload_n hx hb dX11_begin_37 rfl (lv_at hl 0 rfl) ?_
    refine lv_iconst (v := iI 1) hx hb dX11_begin_38 rfl ?_
    refine g_cv (As := [.int (iI 1)]) (rest := []) (n := 1) C hml (m_X11_refuse l D k A ad hD (va_up (va_up (va_up (va_up v 0 0) 1 0) 24 (v 24)) 25 (v 25)) (va_up (va_up (va_up (va_up (va_up (va_up (va_up (va_up f 20 (f 20)) 24 (f 24)) 25 (f 25)) 26 (f 26)) 27 (f 27)) 28 (f 28)) 29 (f 29)) 30 (f 30)) g 1 (by decide) (show 0 ≤ (1 : Int) ∧ (1 : Int) ≤ 10 from by omega)) mM_X11_295 mI_X11_refuse mE_X11_refuse mN_X11 mC_X11_refuse (by decide +kernel) 0 (ci := 11) rfl rfl hP hS (fun _ h => h) ⟨Nat.le_of_ble_eq_true rfl, Nat.le_of_ble_eq_true rfl⟩ ⟨Nat.zero_le _, Nat.zero_le _⟩ hl.1 rfl rfl (Nat.le_of_ble_eq_true rfl) dX11_begin_39 (fun r_7 v_7 f_7 g_7 H locs hq_7 hP _ hS => ?_)
    obtain ⟨rfl, rfl, rfl, rfl⟩ := hq_7
    show W p l e (gRm 2 56) s m args below meth c _ _ 0 0 Q (F0 m 42 ls [.int (iI (-1))])
    have hP : gWd D (mdT k ad) (va_up (va_up (va_up (va_up v 0 (1 : Int)) 1 0) 24 (v 24)) 25 (v 25)) (va_up (va_up (va_up (va_up (va_up (va_up (va_up (va_up f 20 (f 20)) 24 (f 24)) 25 (f 25)) 26 (f 26)) 27 (f 27)) 28 (f 28)) 29 (f 29)) 30 (f 30)) g H := ⟨hP.1, (gF_up (V := mdV) (F := mdF) (gF_up (V := mdV) (F := mdF) (gF_up (V := mdV) (F := mdF) (gF_up (V := mdV) (F := mdF) (gF_up (V := mdV) (F := mdF) (gF_up (V := mdV) (F := mdF) (gF_up (V := mdV) (F := mdF) (gF_up (V := mdV) (F := mdF) (gR_up (V := mdV) (F := mdF) (gR_up (V := mdV) (F := mdF) (gR_up (V := mdV) (F := mdF) (gR_up (V := mdV) (F := mdF) ⟨hok.1, hok.2⟩ 0 (hP.2.1 0)) 1 (hP.2.1 1)) 24 (hP.2.1 24)) 25 (hP.2.1 25)) 20 (hP.2.2 20)) 24 (hP.2.2 24)) 25 (hP.2.2 25)) 26 (hP.2.2 26)) 27 (hP.2.2 27)) 28 (hP.2.2 28)) 29 (hP.2.2 29)) 30 (hP.2.2 30))⟩
    exact g_iret hQ C hr hlocks hP hS dX11_begin_42 ⟨(-1), (1 : Int), rfl, (by rw [show ((if (1 : Int) = 1 ∨ (1 : Int) = 2 ∨ (1 : Int) = 9 then (v 24) else a3) : Int) = (v 24) from by first | rfl | omega | ((repeat' split) <;> omega), show ((if (1 : Int) = 0 then (v 25) + 1 else (v 25)) : Int) = (v 25) from by first | rfl | omega | ((repeat' split) <;> omega)]), (by rw [show ((if (1 : Int) = 0 then u1 (f 20) ((v 23) * 5 + a2) ((f 20) ((v 23) * 5 + a2) + 1) else (f 20)) : Int → Int) = (f 20) from by first | rfl | (rw [if_neg (by omega)]) | (rw [if_pos rfl, hat2]), show ((if (1 : Int) = 0 then u1 (f 24) (v 25) a1 else (f 24)) : Int → Int) = (f 24) from by first | rfl | (rw [if_pos (by omega)]; done) | (rw [if_neg (by omega)]; done) | (rw [if_neg (by omega), if_pos (by omega)]; done) | (rw [if_neg (by omega), if_neg (by omega)]; done), show ((if (1 : Int) = 0 then u1 (f 25) (v 25) (v 23) else (f 25)) : Int → Int) = (f 25) from by first | rfl | (rw [if_pos (by omega)]; done) | (rw [if_neg (by omega)]; done) | (rw [if_neg (by omega), if_pos (by omega)]; done) | (rw [if_neg (by omega), if_neg (by omega)]; done), show ((if (1 : Int) = 0 then u1 (f 26) (v 25) a2 else (f 26)) : Int → Int) = (f 26) from by first | rfl | (rw [if_pos (by omega)]; done) | (rw [if_neg (by omega)]; done) | (rw [if_neg (by omega), if_pos (by omega)]; done) | (rw [if_neg (by omega), if_neg (by omega)]; done), show ((if (1 : Int) = 0 then u1 (f 27) (v 25) a3 else (f 27)) : Int → Int) = (f 27) from by first | rfl | (rw [if_pos (by omega)]; done) | (rw [if_neg (by omega)]; done) | (rw [if_neg (by omega), if_pos (by omega)]; done) | (rw [if_neg (by omega), if_neg (by omega)]; done), show ((if (1 : Int) = 1 ∨ (1 : Int) = 2 ∨ (1 : Int) = 9 then (f 28) else if (1 : Int) = 0 then u1 (ovE (v 25) a3 (f 30) (f 27) (fun k => (f 3) ((f 25) k)) (f 28)) (v 25) (-1) else (ovE (v 25) a3 (f 30) (f 27) (fun k => (f 3) ((f 25) k)) (f 28))) : Int → Int) = (f 28) from by first | rfl | (rw [if_pos (by omega)]; done) | (rw [if_neg (by omega)]; done) | (rw [if_neg (by omega), if_pos (by omega)]; done) | (rw [if_neg (by omega), if_neg (by omega)]; done), show ((if (1 : Int) = 0 then u1 (f 29) (v 25) 0 else (f 29)) : Int → Int) = (f 29) from by first | rfl | (rw [if_pos (by omega)]; done) | (rw [if_neg (by omega)]; done) | (rw [if_neg (by omega), if_pos (by omega)]; done) | (rw [if_neg (by omega), if_neg (by omega)]; done), show ((if (1 : Int) = 1 ∨ (1 : Int) = 2 ∨ (1 : Int) = 9 then (f 30) else if (1 : Int) = 0 then u1 (ovH (v 25) a3 (f 30) (f 27) (fun k => (f 3) ((f 25) k))) (v 25) 0 else (ovH (v 25) a3 (f 30) (f 27) (fun k => (f 3) ((f 25) k)))) : Int → Int) = (f 30) from by first | rfl | (rw [if_pos (by omega)]; done) | (rw [if_neg (by omega)]; done) | (rw [if_neg (by omega), if_pos (by omega)]; done) | (rw [if_neg (by omega), if_neg (by omega)]; done)]), rfl, (by first | omega | ((repeat' split) <;> omega)), (by first | (rw [if_pos (by omega)]) | (rw [if_neg (by omega), if_pos (by omega)]; exact hpz) | (rw [if_neg (by omega), if_neg (by omega)]; first | rw [if_pos (by omega)] | rw [if_neg (by omega), if_pos (by omega)] | rw [if_neg (by omega), if_neg (by omega), if_pos (by omega)] | rw [if_neg (by omega), if_neg (by omega), if_neg (by omega), if_pos (by omega)] | rw [if_neg (by omega), if_neg (by omega), if_neg (by omega), if_neg (by omega), if_pos (by omega)] | rw [if_neg (by omega), if_neg (by omega), if_neg (by omega), if_neg (by omega), if_neg (by omega), ← hro, if_pos (by omega)] | rw [if_neg (by omega), if_neg (by omega), if_neg (by omega), if_neg (by omega), if_neg (by omega), ← hro, if_neg (by omega)])), (by first | exact hbg | (rw [if_neg (by omega), if_neg (by omega)]; exact hbg) | exact cntUp hbg (hbg _ (by omega) (by omega)))⟩
  · have vz_5 := gif1 w_5 c_6
    have voz_5 := gif1o w_5 c_6
    clear w_5
    refine lv_aload_n hx hb dX11_begin_18 rfl (lv_at hl 0 rfl) ?_
    refine mdG_open C hP mF_X11_82 dX11_begin_19 ?_
    show W p l e (gRm 2 56) s m args below meth c _ _ 0 0 Q (F0 m 22 ls [.int (iI (v 23))])
    refine gi_zlt (tgt := 37) hx hb dX11_begin_22 (by decide) (by omega) (fun c_8 => ?_) (fun c_8 => ?_)
    · refine lv_aload_n hx hb dX11_begin_37 rfl (lv_at hl 0 rfl) ?_
      refine lv_iconst (v := iI 1) hx hb dX11_begin_38 rfl ?_
      refine g_cv (As := [.int (iI 1)]) (rest := []) (n := 1) C hml (m_X11_refuse l D k A ad hD (va_up (va_up (va_up (va_up v 0 0) 1 0) 24 (v 24)) 25 (v 25)) (va_up (va_up (va_up (va_up (va_up (va_up (va_up (va_up f 20 (f 20)) 24 (f 24)) 25 (f 25)) 26 (f 26)) 27 (f 27)) 28 (f 28)) 29 (f 29)) 30 (f 30)) g 1 (by decide) (show 0 ≤ (1 : Int) ∧ (1 : Int) ≤ 10 from by omega)) mM_X11_295 mI_X11_refuse mE_X11_refuse mN_X11 mC_X11_refuse (by decide +kernel) 0 (ci := 11) rfl rfl hP hS (fun _ h => h) ⟨Nat.le_of_ble_eq_true rfl, Nat.le_of_ble_eq_true rfl⟩ ⟨Nat.zero_le _, Nat.zero_le _⟩ hl.1 rfl rfl (Nat.le_of_ble_eq_true rfl) dX11_begin_39 (fun r_9 v_9 f_9 g_9 H locs hq_9 hP _ hS => ?_)
      obtain ⟨rfl, rfl, rfl, rfl⟩ := hq_9
      show W p l e (gRm 2 56) s m args below meth c _ _ 0 0 Q (F0 m 42 ls [.int (iI (-1))])
      have hP : gWd D (mdT k ad) (va_up (va_up (va_up (va_up v 0 (1 : Int)) 1 0) 24 (v 24)) 25 (v 25)) (va_up (va_up (va_up (va_up (va_up (va_up (va_up (va_up f 20 (f 20)) 24 (f 24)) 25 (f 25)) 26 (f 26)) 27 (f 27)) 28 (f 28)) 29 (f 29)) 30 (f 30)) g H := ⟨hP.1, (gF_up (V := mdV) (F := mdF) (gF_up (V := mdV) (F := mdF) (gF_up (V := mdV) (F := mdF) (gF_up (V := mdV) (F := mdF) (gF_up (V := mdV) (F := mdF) (gF_up (V := mdV) (F := mdF) (gF_up (V := mdV) (F := mdF) (gF_up (V := mdV) (F := mdF) (gR_up (V := mdV) (F := mdF) (gR_up (V := mdV) (F := mdF) (gR_up (V := mdV) (F := mdF) (gR_up (V := mdV) (F := mdF) ⟨hok.1, hok.2⟩ 0 (hP.2.1 0)) 1 (hP.2.1 1)) 24 (hP.2.1 24)) 25 (hP.2.1 25)) 20 (hP.2.2 20)) 24 (hP.2.2 24)) 25 (hP.2.2 25)) 26 (hP.2.2 26)) 27 (hP.2.2 27)) 28 (hP.2.2 28)) 29 (hP.2.2 29)) 30 (hP.2.2 30))⟩
      exact g_iret hQ C hr hlocks hP hS dX11_begin_42 ⟨(-1), (1 : Int), rfl, (by rw [show ((if (1 : Int) = 1 ∨ (1 : Int) = 2 ∨ (1 : Int) = 9 then (v 24) else a3) : Int) = (v 24) from by first | rfl | omega | ((repeat' split) <;> omega), show ((if (1 : Int) = 0 then (v 25) + 1 else (v 25)) : Int) = (v 25) from by first | rfl | omega | ((repeat' split) <;> omega)]), (by rw [show ((if (1 : Int) = 0 then u1 (f 20) ((v 23) * 5 + a2) ((f 20) ((v 23) * 5 + a2) + 1) else (f 20)) : Int → Int) = (f 20) from by first | rfl | (rw [if_neg (by omega)]) | (rw [if_pos rfl, hat2]), show ((if (1 : Int) = 0 then u1 (f 24) (v 25) a1 else (f 24)) : Int → Int) = (f 24) from by first | rfl | (rw [if_pos (by omega)]; done) | (rw [if_neg (by omega)]; done) | (rw [if_neg (by omega), if_pos (by omega)]; done) | (rw [if_neg (by omega), if_neg (by omega)]; done), show ((if (1 : Int) = 0 then u1 (f 25) (v 25) (v 23) else (f 25)) : Int → Int) = (f 25) from by first | rfl | (rw [if_pos (by omega)]; done) | (rw [if_neg (by omega)]; done) | (rw [if_neg (by omega), if_pos (by omega)]; done) | (rw [if_neg (by omega), if_neg (by omega)]; done), show ((if (1 : Int) = 0 then u1 (f 26) (v 25) a2 else (f 26)) : Int → Int) = (f 26) from by first | rfl | (rw [if_pos (by omega)]; done) | (rw [if_neg (by omega)]; done) | (rw [if_neg (by omega), if_pos (by omega)]; done) | (rw [if_neg (by omega), if_neg (by omega)]; done), show ((if (1 : Int) = 0 then u1 (f 27) (v 25) a3 else (f 27)) : Int → Int) = (f 27) from by first | rfl | (rw [if_pos (by omega)]; done) | (rw [if_neg (by omega)]; done) | (rw [if_neg (by omega), if_pos (by omega)]; done) | (rw [if_neg (by omega), if_neg (by omega)]; done), show ((if (1 : Int) = 1 ∨ (1 : Int) = 2 ∨ (1 : Int) = 9 then (f 28) else if (1 : Int) = 0 then u1 (ovE (v 25) a3 (f 30) (f 27) (fun k => (f 3) ((f 25) k)) (f 28)) (v 25) (-1) else (ovE (v 25) a3 (f 30) (f 27) (fun k => (f 3) ((f 25) k)) (f 28))) : Int → Int) = (f 28) from by first | rfl | (rw [if_pos (by omega)]; done) | (rw [if_neg (by omega)]; done) | (rw [if_neg (by omega), if_pos (by omega)]; done) | (rw [if_neg (by omega), if_neg (by omega)]; done), show ((if (1 : Int) = 0 then u1 (f 29) (v 25) 0 else (f 29)) : Int → Int) = (f 29) from by first | rfl | (rw [if_pos (by omega)]; done) | (rw [if_neg (by omega)]; done) | (rw [if_neg (by omega), if_pos (by omega)]; done) | (rw [if_neg (by omega), if_neg (by omega)]; done), show ((if (1 : Int) = 1 ∨ (1 : Int) = 2 ∨ (1 : Int) = 9 then (f 30) else if (1 : Int) = 0 then u1 (ovH (v 25) a3 (f 30) (f 27) (fun k => (f 3) ((f 25) k))) (v 25) 0 else (ovH (v 25) a3 (f 30) (f 27) (fun k => (f 3) ((f 25) k)))) : Int → Int) = (f 30) from by first | rfl | (rw [if_pos (by omega)]; done) | (rw [if_neg (by omega)]; done) | (rw [if_neg (by omega), if_pos (by omega)]; done) | (rw [if_neg (by omega), if_neg (by omega)]; done)]), rfl, (by first | omega | ((repeat' split) <;> omega)), (by first | (rw [if_pos (by omega)]) | (rw [if_neg (by omega), if_pos (by omega)]; exact hpz) | (rw [if_neg (by omega), if_neg (by omega)]; first | rw [if_pos (by omega)] | rw [if_neg (by omega), if_pos (by omega)] | rw [if_neg (by omega), if_neg (by omega), if_pos (by omega)] | rw [if_neg (by omega), if_neg (by omega), if_neg (by omega), if_pos (by omega)] | rw [if_neg (by omega), if_neg (by omega), if_neg (by omega), if_neg (by omega), if_pos (by omega)] | rw [if_neg (by omega), if_neg (by omega), if_neg (by omega), if_neg (by omega), if_neg (by omega), ← hro, if_pos (by omega)] | rw [if_neg (by omega), if_neg (by omega), if_neg (by omega), if_neg (by omega), if_neg (by omega), ← hro, if_neg (by omega)])), (by first | exact hbg | (rw [if_neg (by omega), if_neg (by omega)]; exact hbg) | exact cntUp hbg (hbg _ (by omega) (by omega)))⟩
    · refine lv_aload_n hx hb dX11_begin_25 rfl (lv_at hl 0 rfl) ?_
      refine lv_aload_n hx hb dX11_begin_26 rfl (lv_at hl 0 rfl) ?_
      refine mdG_open C hP mF_X11_82 dX11_begin_27 ?_
      show W p l e (gRm 2 56) s m args below meth c _ _ 0 0 Q (F0 m 30 ls [.int (iI (v 23)), .ref (ad 0)])
      refine lv_iload_n hx hb dX11_begin_30 rfl (lv_at hl 2 rfl) ?_
      refine g_cv (As := [.int (iI (v 23)), .int (iI a2)]) (rest := []) (n := 2) C hml (m_X11_isRoute l D k A ad hD (va_up (va_up (va_up (va_up v 0 0) 1 0) 24 (v 24)) 25 (v 25)) (va_up (va_up (va_up (va_up (va_up (va_up (va_up (va_up f 20 (f 20)) 24 (f 24)) 25 (f 25)) 26 (f 26)) 27 (f 27)) 28 (f 28)) 29 (f 29)) 30 (f 30)) g (v 23) a2 (by omega) (by omega)) mM_X11_328 mI_X11_isRoute mE_X11_isRoute mN_X11 mC_X11_isRoute (by decide +kernel) 0 (ci := 11) rfl rfl hP hS (fun _ h => h) ⟨Nat.le_of_ble_eq_true rfl, Nat.le_of_ble_eq_true rfl⟩ ⟨Nat.zero_le _, Nat.zero_le _⟩ hl.1 rfl rfl (Nat.le_of_ble_eq_true rfl) dX11_begin_31 (fun r_10 v_10 f_10 g_10 H locs hq_10 hP _ hS => ?_)
      obtain ⟨z_10, rfl, rfl, rfl, rfl, p0_10, p1_10⟩ := hq_10
      show W p l e (gRm 2 56) s m args below meth c _ _ 0 0 Q (F0 m 34 ls [.int (iI z_10)])
      replace p0_10 : z_10 = (if (0 ≤ (v 23) ∧ (v 23) < (v 12)) ∧ 0 ≤ a2 ∧ a2 < (f 1) (v 23) then 1 else 0) := p0_10
      have w_10 := gif (P := (0 ≤ (v 23) ∧ (v 23) < (v 12)) ∧ 0 ≤ a2 ∧ a2 < (f 1) (v 23)) p0_10
      clear p0_10
      replace p1_10 : z_10 = 1 → a2 ≤ 4 ∧ (v 23) ≤ 3 := p1_10
      have hz_10 : inR z_10 := (by first | omega | (rw [p0_10]; split <;> omega))
      refine gi_zne (tgt := 43) hx hb dX11_begin_34 (by decide) (by omega) (fun c_11 => ?_) (fun c_11 => ?_)
      · have vz_10 := gif1 w_10 c_11
        have voz_10 := gif1o w_10 c_11
        clear w_10
        refine lv_aload_n hx hb dX11_begin_43 rfl (lv_at hl 0 rfl) ?_
        refine lv_iload_n hx hb dX11_begin_44 rfl (lv_at hl 3 rfl) ?_
        refine g_cv (As := [.int (iI a3)]) (rest := []) (n := 1) C hml (y_clocked l D k A ad hD (va_up (va_up (va_up (va_up v 0 0) 1 0) 24 (v 24)) 25 (v 25)) (va_up (va_up (va_up (va_up (va_up (va_up (va_up (va_up f 20 (f 20)) 24 (f 24)) 25 (f 25)) 26 (f 26)) 27 (f 27)) 28 (f 28)) 29 (f 29)) 30 (f 30)) g a3 (by omega)) mM_X11_352 mI_X11_clocked mE_X11_clocked mN_X11 mC_X11_clocked (by decide +kernel) 0 (ci := 11) rfl rfl hP hS (fun _ h => h) ⟨Nat.le_of_ble_eq_true rfl, Nat.le_of_ble_eq_true rfl⟩ ⟨Nat.zero_le _, Nat.zero_le _⟩ hl.1 rfl rfl (Nat.le_of_ble_eq_true rfl) dX11_begin_45 (fun r_12 v_12 f_12 g_12 H locs hq_12 hP _ hS => ?_)
        obtain ⟨z_12, rfl, rfl, rfl, rfl, p0_12⟩ := hq_12
        show W p l e (gRm 2 56) s m args below meth c _ _ 0 0 Q (F0 m 48 ls [.int (iI z_12)])
        have hP : gWd D (mdT k ad) (va_up (va_up (va_up (va_up v 0 0) 1 0) 24 (if z_12 = 0 then a3 else (v 24))) 25 (v 25)) (va_up (va_up (va_up (va_up (va_up (va_up (va_up (va_up f 20 (f 20)) 24 (f 24)) 25 (f 25)) 26 (f 26)) 27 (f 27)) 28 (if z_12 = 0 then (ovE (v 25) a3 (f 30) (f 27) (fun k => (f 3) ((f 25) k)) (f 28)) else (f 28))) 29 (f 29)) 30 (if z_12 = 0 then (ovH (v 25) a3 (f 30) (f 27) (fun k => (f 3) ((f 25) k))) else (f 30))) g H := ⟨hP.1, (gF_up (V := mdV) (F := mdF) (gF_up (V := mdV) (F := mdF) (gF_up (V := mdV) (F := mdF) (gF_up (V := mdV) (F := mdF) (gF_up (V := mdV) (F := mdF) (gF_up (V := mdV) (F := mdF) (gF_up (V := mdV) (F := mdF) (gF_up (V := mdV) (F := mdF) (gR_up (V := mdV) (F := mdF) (gR_up (V := mdV) (F := mdF) (gR_up (V := mdV) (F := mdF) (gR_up (V := mdV) (F := mdF) ⟨hok.1, hok.2⟩ 0 (hP.2.1 0)) 1 (hP.2.1 1)) 24 (hP.2.1 24)) 25 (hP.2.1 25)) 20 (hP.2.2 20)) 24 (hP.2.2 24)) 25 (hP.2.2 25)) 26 (hP.2.2 26)) 27 (hP.2.2 27)) 28 (hP.2.2 28)) 29 (hP.2.2 29)) 30 (hP.2.2 30))⟩
        replace p0_12 : z_12 = (if a3 < 0 ∨ 1000000 < a3 then (2 : Int) else if a3 < (v 24) then 9 else 0) := p0_12
        have hz_12 : inR z_12 := (by first | omega | (rw [p0_12]; split <;> omega))
        have hpz := p0_12
        clear p0_12
        rcases (show z_12 = 0 ∨ z_12 ≠ 0 by omega) with hzp | hzp
        · replace hP : gWd D (mdT k ad) (va_up (va_up (va_up (va_up v 0 0) 1 0) 24 a3) 25 (v 25)) (va_up (va_up (va_up (va_up (va_up (va_up (va_up (va_up f 20 (f 20)) 24 (f 24)) 25 (f 25)) 26 (f 26)) 27 (f 27)) 28 (ovE (v 25) a3 (f 30) (f 27) (fun k => (f 3) ((f 25) k)) (f 28))) 29 (f 29)) 30 (ovH (v 25) a3 (f 30) (f 27) (fun k => (f 3) ((f 25) k)))) g H := by have h9 := hP; simp only [if_pos hzp] at h9; exact h9
          have hO2 : OI (v 25) (f 24) (ovH (v 25) a3 (f 30) (f 27) (fun k => (f 3) ((f 25) k))) (ovO a3 (f 27) (fun k => (f 3) ((f 25) k)) on) := OI_ov hO hwr
          have hti2 : TI (v 25) a3 (f 27) (ovE (v 25) a3 (f 30) (f 27) (fun k => (f 3) ((f 25) k)) (f 28)) (ovH (v 25) a3 (f 30) (f 27) (fun k => (f 3) ((f 25) k))) := TI_ov hti (by omega) (fun k => (hok.2 27 k).1) (fun k => (hok.2 3 _).1)
          refine lv_istore (lv' := [(4, .int (iI z_12)), (0, .ref (ad 0)), (1, .int (iI a1)), (2, .int (iI a2)), (3, .int (iI a3))]) hx hb dX11_begin_48 hl (by decide) rfl (fun ls hl => ?_)
          refine lv_iload hx hb dX11_begin_50 (lv_at hl 0 rfl) ?_
          refine gi_zle (tgt := 62) hx hb dX11_begin_52 (by decide) (by omega) (fun c_13 => ?_) (fun c_13 => ?_)
          · refine lv_aload_n hx hb dX11_begin_62 rfl (lv_at hl 1 rfl) ?_
            refine mdG_isIn C hP mF_X11_85 dX11_begin_63 ?_
            refine lv_bipush (v := iI 16) hx hb dX11_begin_66 (by decide) ?_
            refine lv_aload_n hx hb dX11_begin_68 rfl (lv_at hl 1 rfl) ?_
            refine mdG_open C hP mF_X11_82 dX11_begin_69 ?_
            show W p l e (gRm 2 56) s m args below meth c _ _ 0 0 Q (F0 m 72 ls [.int (iI (v 23)), .int (iI 16), .ref (ad 22)])
            refine gi_mul (z := (16 * (v 23))) hx hb dX11_begin_72 rfl ?_
            refine lv_iload_n hx hb dX11_begin_73 rfl (lv_at hl 2 rfl) ?_
            refine gi_add (z := ((16 * (v 23)) + a1)) hx hb dX11_begin_74 rfl ?_
            refine mdL_isIn C hP (by omega) (by omega) dX11_begin_75 ?_
            show W p l e (gRm 2 56) s m args below meth c _ _ 0 0 Q (F0 m 76 ls [.int (iI (f 21 ((16 * (v 23)) + a1)))])
            have r_14 : 0 ≤ (f 21 ((16 * (v 23)) + a1)) ∧ (f 21 ((16 * (v 23)) + a1)) ≤ 1 := hP.2.2 21 ((16 * (v 23)) + a1)
            refine gi_zne (tgt := 85) hx hb dX11_begin_76 (by decide) (by omega) (fun c_15 => ?_) (fun c_15 => ?_)
            · refine lv_aload_n hx hb dX11_begin_85 rfl (lv_at hl 1 rfl) ?_
              refine lv_iload_n hx hb dX11_begin_86 rfl (lv_at hl 2 rfl) ?_
              refine g_cv (As := [.int (iI a1)]) (rest := []) (n := 1) C hml (y_openTry l D k A ad hD (va_up (va_up (va_up (va_up v 0 0) 1 0) 24 a3) 25 (v 25)) (va_up (va_up (va_up (va_up (va_up (va_up (va_up (va_up f 20 (f 20)) 24 (f 24)) 25 (f 25)) 26 (f 26)) 27 (f 27)) 28 (ovE (v 25) a3 (f 30) (f 27) (fun k => (f 3) ((f 25) k)) (f 28))) 29 (f 29)) 30 (ovH (v 25) a3 (f 30) (f 27) (fun k => (f 3) ((f 25) k)))) g a1 (ovO a3 (f 27) (fun k => (f 3) ((f 25) k)) on) (by omega) (show OI (v 25) (f 24) (ovH (v 25) a3 (f 30) (f 27) (fun k => (f 3) ((f 25) k))) (ovO a3 (f 27) (fun k => (f 3) ((f 25) k)) on) from hO2) (show 0 ≤ a1 ∧ a1 ≤ 15 from by omega)) mM_X11_355 mI_X11_openTry mE_X11_openTry mN_X11 mC_X11_openTry (by decide +kernel) 0 (ci := 11) rfl rfl hP hS (fun _ h => h) ⟨Nat.le_of_ble_eq_true rfl, Nat.le_of_ble_eq_true rfl⟩ ⟨Nat.zero_le _, Nat.zero_le _⟩ hl.1 rfl rfl (Nat.le_of_ble_eq_true rfl) dX11_begin_87 (fun r_16 v_16 f_16 g_16 H locs hq_16 hP _ hS => ?_)
              obtain ⟨z_16, rfl, rfl, rfl, rfl, p0_16, p1_16⟩ := hq_16
              show W p l e (gRm 2 56) s m args below meth c _ _ 0 0 Q (F0 m 90 ls [.int (iI z_16)])
              replace p0_16 : z_16 = ((ovO a3 (f 27) (fun k => (f 3) ((f 25) k)) on) a1 - 1) := p0_16
              replace p1_16 : (-1) ≤ z_16 ∧ z_16 ≤ 299 := p1_16
              have hz_16 : inR z_16 := (by first | omega | (rw [p0_16]; split <;> omega))
              refine gi_zlt (tgt := 99) hx hb dX11_begin_90 (by decide) (by omega) (fun c_17 => ?_) (fun c_17 => ?_)
              · refine lv_iconst (v := iI 0) hx hb dX11_begin_99 rfl ?_
                refine lv_istore (lv' := [(5, .int (iI 0)), (4, .int (iI z_12)), (0, .ref (ad 0)), (1, .int (iI a1)), (2, .int (iI a2)), (3, .int (iI a3))]) hx hb dX11_begin_100 hl (by decide) rfl (fun ls hl => ?_)
                refine lv_iconst (v := iI 0) hx hb dX11_begin_102 rfl ?_
                refine lv_istore (lv' := [(6, .int (iI 0)), (5, .int (iI 0)), (4, .int (iI z_12)), (0, .ref (ad 0)), (1, .int (iI a1)), (2, .int (iI a2)), (3, .int (iI a3))]) hx hb dX11_begin_103 hl (by decide) rfl (fun ls hl => ?_)
                refine lv_iconst (v := iI 0) hx hb dX11_begin_105 rfl ?_
                refine lv_istore (lv' := [(7, .int (iI 0)), (6, .int (iI 0)), (5, .int (iI 0)), (4, .int (iI z_12)), (0, .ref (ad 0)), (1, .int (iI a1)), (2, .int (iI a2)), (3, .int (iI a3))]) hx hb dX11_begin_106 hl (by decide) rfl (fun ls hl => ?_)
                have L_18 : ∀ (n : Nat) (x5 : Int) (x6 : Int) (x7 : Int) (H : Heap) (locs : List Loc) (ls : Array Slot), 300 - x7 < (n : Int) → (0 ≤ x7 ∧ x7 ≤ (v 25)) → (0 ≤ x5 ∧ x5 ≤ x7) → (0 ≤ x6 ∧ x6 ≤ 1) → (x5 = cn (pDo (f 24) (f 25) (f 26) (ovH (v 25) a3 (f 30) (f 27) (fun k => (f 3) ((f 25) k))) a1 (v 23) a2) x7.toNat) → (0 ≤ cn (pTo (f 24) (f 25) (f 26) (ovH (v 25) a3 (f 30) (f 27) (fun k => (f 3) ((f 25) k))) a1 (v 23) a2) x7.toNat) → (x6 = 0 → cn (pTo (f 24) (f 25) (f 26) (ovH (v 25) a3 (f 30) (f 27) (fun k => (f 3) ((f 25) k))) a1 (v 23) a2) x7.toNat = 0) → (x6 = 1 → 1 ≤ cn (pTo (f 24) (f 25) (f 26) (ovH (v 25) a3 (f 30) (f 27) (fun k => (f 3) ((f 25) k))) a1 (v 23) a2) x7.toNat) → gWd D (mdT k ad) (va_up (va_up (va_up (va_up v 0 0) 1 0) 24 a3) 25 (v 25)) (va_up (va_up (va_up (va_up (va_up (va_up (va_up (va_up f 20 (f 20)) 24 (f 24)) 25 (f 25)) 26 (f 26)) 27 (f 27)) 28 (ovE (v 25) a3 (f 30) (f 27) (fun k => (f 3) ((f 25) k)) (f 28))) 29 (f 29)) 30 (ovH (v 25) a3 (f 30) (f 27) (fun k => (f 3) ((f 25) k)))) g H → va_S A s.heap H locs → lv_has ls 8 [(0, .ref (ad 0)), (1, .int (iI a1)), (2, .int (iI a2)), (3, .int (iI a3)), (4, .int (iI z_12)), (5, .int (iI x5)), (6, .int (iI x6)), (7, .int (iI x7))] → W p l e (gRm 2 56) s m args below meth c H locs 0 0 Q (F0 m 108 ls []) := by
                  intro n
                  induction n with
                  | zero =>
                    intro x5 x6 x7 H locs ls hn_18 i18_0 i18_1 i18_2 i18_3 i18_4 i18_5 i18_6 hP hS hl
                    exfalso; omega
                  | succ n ih_108 =>
                    intro x5 x6 x7 H locs ls hn_18 i18_0 i18_1 i18_2 i18_3 i18_4 i18_5 i18_6 hP hS hl
                    refine lv_iload hx hb dX11_begin_108 (lv_at hl 7 rfl) ?_
                    refine lv_aload_n hx hb dX11_begin_110 rfl (lv_at hl 0 rfl) ?_
                    refine mdG_tried C hP mF_X11_319 dX11_begin_111 ?_
                    show W p l e (gRm 2 56) s m args below meth c _ _ 0 0 Q (F0 m 114 ls [.int (iI (v 25)), .int (iI x7)])
                    refine gi_cge (tgt := 199) hx hb dX11_begin_114 (by decide) (by omega) (by omega) (fun c_19 => ?_) (fun c_19 => ?_)
                    · have hcP : cn (pTo (f 24) (f 25) (f 26) (ovH (v 25) a3 (f 30) (f 27) (fun k => (f 3) ((f 25) k))) a1 (v 23) a2) (v 25).toNat = cn (pTo (f 24) (f 25) (f 26) (ovH (v 25) a3 (f 30) (f 27) (fun k => (f 3) ((f 25) k))) a1 (v 23) a2) x7.toNat := by rw [show (v 25) = x7 by omega]
                      have hcD : cn (pDo (f 24) (f 25) (f 26) (ovH (v 25) a3 (f 30) (f 27) (fun k => (f 3) ((f 25) k))) a1 (v 23) a2) (v 25).toNat = cn (pDo (f 24) (f 25) (f 26) (ovH (v 25) a3 (f 30) (f 27) (fun k => (f 3) ((f 25) k))) a1 (v 23) a2) x7.toNat := by rw [show (v 25) = x7 by omega]
                      refine lv_iload hx hb dX11_begin_199 (lv_at hl 6 rfl) ?_
                      refine gi_zne (tgt := 218) hx hb dX11_begin_201 (by decide) (by omega) (fun c_20 => ?_) (fun c_20 => ?_)
                      · refine lv_aload_n hx hb dX11_begin_218 rfl (lv_at hl 0 rfl) ?_
                        refine lv_bipush (v := iI 6) hx hb dX11_begin_219 (by decide) ?_
                        refine g_cv (As := [.int (iI 6)]) (rest := []) (n := 1) C hml (m_X11_refuse l D k A ad hD (va_up (va_up (va_up (va_up v 0 0) 1 0) 24 a3) 25 (v 25)) (va_up (va_up (va_up (va_up (va_up (va_up (va_up (va_up f 20 (f 20)) 24 (f 24)) 25 (f 25)) 26 (f 26)) 27 (f 27)) 28 (ovE (v 25) a3 (f 30) (f 27) (fun k => (f 3) ((f 25) k)) (f 28))) 29 (f 29)) 30 (ovH (v 25) a3 (f 30) (f 27) (fun k => (f 3) ((f 25) k)))) g 6 (by decide) (show 0 ≤ (6 : Int) ∧ (6 : Int) ≤ 10 from by omega)) mM_X11_295 mI_X11_refuse mE_X11_refuse mN_X11 mC_X11_refuse (by decide +kernel) 0 (ci := 11) rfl rfl hP hS (fun _ h => h) ⟨Nat.le_of_ble_eq_true rfl, Nat.le_of_ble_eq_true rfl⟩ ⟨Nat.zero_le _, Nat.zero_le _⟩ hl.1 rfl rfl (Nat.le_of_ble_eq_true rfl) dX11_begin_221 (fun r_21 v_21 f_21 g_21 H locs hq_21 hP _ hS => ?_)
                        obtain ⟨rfl, rfl, rfl, rfl⟩ := hq_21
                        show W p l e (gRm 2 56) s m args below meth c _ _ 0 0 Q (F0 m 224 ls [.int (iI (-1))])
                        have hP : gWd D (mdT k ad) (va_up (va_up (va_up (va_up v 0 (6 : Int)) 1 0) 24 a3) 25 (v 25)) (va_up (va_up (va_up (va_up (va_up (va_up (va_up (va_up f 20 (f 20)) 24 (f 24)) 25 (f 25)) 26 (f 26)) 27 (f 27)) 28 (ovE (v 25) a3 (f 30) (f 27) (fun k => (f 3) ((f 25) k)) (f 28))) 29 (f 29)) 30 (ovH (v 25) a3 (f 30) (f 27) (fun k => (f 3) ((f 25) k)))) g H := ⟨hP.1, (gF_up (V := mdV) (F := mdF) (gF_up (V := mdV) (F := mdF) (gF_up (V := mdV) (F := mdF) (gF_up (V := mdV) (F := mdF) (gF_up (V := mdV) (F := mdF) (gF_up (V := mdV) (F := mdF) (gF_up (V := mdV) (F := mdF) (gF_up (V := mdV) (F := mdF) (gR_up (V := mdV) (F := mdF) (gR_up (V := mdV) (F := mdF) (gR_up (V := mdV) (F := mdF) (gR_up (V := mdV) (F := mdF) ⟨hok.1, hok.2⟩ 0 (hP.2.1 0)) 1 (hP.2.1 1)) 24 (hP.2.1 24)) 25 (hP.2.1 25)) 20 (hP.2.2 20)) 24 (hP.2.2 24)) 25 (hP.2.2 25)) 26 (hP.2.2 26)) 27 (hP.2.2 27)) 28 (hP.2.2 28)) 29 (hP.2.2 29)) 30 (hP.2.2 30))⟩
                        exact g_iret hQ C hr hlocks hP hS dX11_begin_224 ⟨(-1), (6 : Int), rfl, (by rw [show ((if (6 : Int) = 1 ∨ (6 : Int) = 2 ∨ (6 : Int) = 9 then (v 24) else a3) : Int) = a3 from by first | rfl | omega | ((repeat' split) <;> omega), show ((if (6 : Int) = 0 then (v 25) + 1 else (v 25)) : Int) = (v 25) from by first | rfl | omega | ((repeat' split) <;> omega)]), (by rw [show ((if (6 : Int) = 0 then u1 (f 20) ((v 23) * 5 + a2) ((f 20) ((v 23) * 5 + a2) + 1) else (f 20)) : Int → Int) = (f 20) from by first | rfl | (rw [if_neg (by omega)]) | (rw [if_pos rfl, hat2]), show ((if (6 : Int) = 0 then u1 (f 24) (v 25) a1 else (f 24)) : Int → Int) = (f 24) from by first | rfl | (rw [if_pos (by omega)]; done) | (rw [if_neg (by omega)]; done) | (rw [if_neg (by omega), if_pos (by omega)]; done) | (rw [if_neg (by omega), if_neg (by omega)]; done), show ((if (6 : Int) = 0 then u1 (f 25) (v 25) (v 23) else (f 25)) : Int → Int) = (f 25) from by first | rfl | (rw [if_pos (by omega)]; done) | (rw [if_neg (by omega)]; done) | (rw [if_neg (by omega), if_pos (by omega)]; done) | (rw [if_neg (by omega), if_neg (by omega)]; done), show ((if (6 : Int) = 0 then u1 (f 26) (v 25) a2 else (f 26)) : Int → Int) = (f 26) from by first | rfl | (rw [if_pos (by omega)]; done) | (rw [if_neg (by omega)]; done) | (rw [if_neg (by omega), if_pos (by omega)]; done) | (rw [if_neg (by omega), if_neg (by omega)]; done), show ((if (6 : Int) = 0 then u1 (f 27) (v 25) a3 else (f 27)) : Int → Int) = (f 27) from by first | rfl | (rw [if_pos (by omega)]; done) | (rw [if_neg (by omega)]; done) | (rw [if_neg (by omega), if_pos (by omega)]; done) | (rw [if_neg (by omega), if_neg (by omega)]; done), show ((if (6 : Int) = 1 ∨ (6 : Int) = 2 ∨ (6 : Int) = 9 then (f 28) else if (6 : Int) = 0 then u1 (ovE (v 25) a3 (f 30) (f 27) (fun k => (f 3) ((f 25) k)) (f 28)) (v 25) (-1) else (ovE (v 25) a3 (f 30) (f 27) (fun k => (f 3) ((f 25) k)) (f 28))) : Int → Int) = (ovE (v 25) a3 (f 30) (f 27) (fun k => (f 3) ((f 25) k)) (f 28)) from by first | rfl | (rw [if_pos (by omega)]; done) | (rw [if_neg (by omega)]; done) | (rw [if_neg (by omega), if_pos (by omega)]; done) | (rw [if_neg (by omega), if_neg (by omega)]; done), show ((if (6 : Int) = 0 then u1 (f 29) (v 25) 0 else (f 29)) : Int → Int) = (f 29) from by first | rfl | (rw [if_pos (by omega)]; done) | (rw [if_neg (by omega)]; done) | (rw [if_neg (by omega), if_pos (by omega)]; done) | (rw [if_neg (by omega), if_neg (by omega)]; done), show ((if (6 : Int) = 1 ∨ (6 : Int) = 2 ∨ (6 : Int) = 9 then (f 30) else if (6 : Int) = 0 then u1 (ovH (v 25) a3 (f 30) (f 27) (fun k => (f 3) ((f 25) k))) (v 25) 0 else (ovH (v 25) a3 (f 30) (f 27) (fun k => (f 3) ((f 25) k)))) : Int → Int) = (ovH (v 25) a3 (f 30) (f 27) (fun k => (f 3) ((f 25) k))) from by first | rfl | (rw [if_pos (by omega)]; done) | (rw [if_neg (by omega)]; done) | (rw [if_neg (by omega), if_pos (by omega)]; done) | (rw [if_neg (by omega), if_neg (by omega)]; done)]), rfl, (by first | omega | ((repeat' split) <;> omega)), (by first | (rw [if_pos (by omega)]) | (rw [if_neg (by omega), if_pos (by omega)]; exact hpz) | (rw [if_neg (by omega), if_neg (by omega)]; first | rw [if_pos (by omega)] | rw [if_neg (by omega), if_pos (by omega)] | rw [if_neg (by omega), if_neg (by omega), if_pos (by omega)] | rw [if_neg (by omega), if_neg (by omega), if_neg (by omega), if_pos (by omega)] | rw [if_neg (by omega), if_neg (by omega), if_neg (by omega), if_neg (by omega), if_pos (by omega)] | rw [if_neg (by omega), if_neg (by omega), if_neg (by omega), if_neg (by omega), if_neg (by omega), ← hro, if_pos (by omega)] | rw [if_neg (by omega), if_neg (by omega), if_neg (by omega), if_neg (by omega), if_neg (by omega), ← hro, if_neg (by omega)])), (by first | exact hbg | (rw [if_neg (by omega), if_neg (by omega)]; exact hbg) | exact cntUp hbg (hbg _ (by omega) (by omega)))⟩
                      · refine lv_iload hx hb dX11_begin_204 (lv_at hl 5 rfl) ?_
                        refine lv_aload_n hx hb dX11_begin_206 rfl (lv_at hl 0 rfl) ?_
                        refine mdG_tries C hP mF_X11_24 dX11_begin_207 ?_
                        refine lv_aload_n hx hb dX11_begin_210 rfl (lv_at hl 0 rfl) ?_
                        refine mdG_open C hP mF_X11_82 dX11_begin_211 ?_
                        show W p l e (gRm 2 56) s m args below meth c _ _ 0 0 Q (F0 m 214 ls [.int (iI (v 23)), .ref (ad 3), .int (iI x5)])
                        refine mdL_tries C hP (by omega) (by omega) dX11_begin_214 ?_
                        show W p l e (gRm 2 56) s m args below meth c _ _ 0 0 Q (F0 m 215 ls [.int (iI (f 2 (v 23))), .int (iI x5)])
                        have r_22 : 0 ≤ (f 2 (v 23)) ∧ (f 2 (v 23)) ≤ 9 := hP.2.2 2 (v 23)
                        refine gi_clt (tgt := 225) hx hb dX11_begin_215 (by decide) (by omega) (by omega) (fun c_23 => ?_) (fun c_23 => ?_)
                        · refine lv_aload_n hx hb dX11_begin_225 rfl (lv_at hl 0 rfl) ?_
                          refine mdG_tried C hP mF_X11_319 dX11_begin_226 ?_
                          show W p l e (gRm 2 56) s m args below meth c _ _ 0 0 Q (F0 m 229 ls [.int (iI (v 25))])
                          refine lv_sipush (v := iI 300) hx hb dX11_begin_229 (by decide) ?_
                          refine gi_cne (tgt := 241) hx hb dX11_begin_232 (by decide) (by omega) (by decide) (fun c_24 => ?_) (fun c_24 => ?_)
                          · refine lv_aload_n hx hb dX11_begin_241 rfl (lv_at hl 0 rfl) ?_
                            refine lv_iload_n hx hb dX11_begin_242 rfl (lv_at hl 1 rfl) ?_
                            refine lv_iload_n hx hb dX11_begin_243 rfl (lv_at hl 2 rfl) ?_
                            refine g_cv (As := [.int (iI a1), .int (iI a2)]) (rest := []) (n := 2) C hml (y_hasSeen l D k A ad hD (va_up (va_up (va_up (va_up v 0 0) 1 0) 24 a3) 25 (v 25)) (va_up (va_up (va_up (va_up (va_up (va_up (va_up (va_up f 20 (f 20)) 24 (f 24)) 25 (f 25)) 26 (f 26)) 27 (f 27)) 28 (ovE (v 25) a3 (f 30) (f 27) (fun k => (f 3) ((f 25) k)) (f 28))) 29 (f 29)) 30 (ovH (v 25) a3 (f 30) (f 27) (fun k => (f 3) ((f 25) k)))) g a1 a2 (by omega) (by omega) (show 0 ≤ a1 ∧ a1 ≤ 15 from by omega) (show TI (v 25) a3 (f 27) (ovE (v 25) a3 (f 30) (f 27) (fun k => (f 3) ((f 25) k)) (f 28)) (ovH (v 25) a3 (f 30) (f 27) (fun k => (f 3) ((f 25) k))) from hti2) (show WI a3 (f 35) (f 36) (f 34) a1 from WI_mono (hwi a1 (by omega) (by omega)) (by omega))) mM_X11_358 mI_X11_hasSeen mE_X11_hasSeen mN_X11 mC_X11_hasSeen (by decide +kernel) 0 (ci := 11) rfl rfl hP hS (fun _ h => h) ⟨Nat.le_of_ble_eq_true rfl, Nat.le_of_ble_eq_true rfl⟩ ⟨Nat.zero_le _, Nat.zero_le _⟩ hl.1 rfl rfl (Nat.le_of_ble_eq_true rfl) dX11_begin_244 (fun r_25 v_25 f_25 g_25 H locs hq_25 hP _ hS => ?_)
                            obtain ⟨z_25, rfl, rfl, rfl, rfl, p0_25⟩ := hq_25
                            show W p l e (gRm 2 56) s m args below meth c _ _ 0 0 Q (F0 m 247 ls [.int (iI z_25)])
                            replace p0_25 : z_25 = (if 1 ≤ cn (pSe (f 24) (f 25) (f 26) (f 27) (ovE (v 25) a3 (f 30) (f 27) (fun k => (f 3) ((f 25) k)) (f 28)) (f 35) (f 36) (f 34) a3 a1 (v 23) a2) (v 25).toNat then 1 else 0) := p0_25
                            have w_25 := gif (P := 1 ≤ cn (pSe (f 24) (f 25) (f 26) (f 27) (ovE (v 25) a3 (f 30) (f 27) (fun k => (f 3) ((f 25) k)) (f 28)) (f 35) (f 36) (f 34) a3 a1 (v 23) a2) (v 25).toNat) p0_25
                            clear p0_25
                            have hz_25 : inR z_25 := (by first | omega | (rw [p0_25]; split <;> omega))
                            refine gi_zeq (tgt := 257) hx hb dX11_begin_247 (by decide) (by omega) (fun c_26 => ?_) (fun c_26 => ?_)
                            · have vz_25 := gif0 w_25 c_26
                              clear w_25
                              refine lv_iload_n hx hb dX11_begin_257 rfl (lv_at hl 3 rfl) ?_
                              refine lv_aload_n hx hb dX11_begin_258 rfl (lv_at hl 0 rfl) ?_
                              refine lv_iload_n hx hb dX11_begin_259 rfl (lv_at hl 1 rfl) ?_
                              refine g_cv (As := [.int (iI a1)]) (rest := [.int (iI a3)]) (n := 1) C hml (y_readyAt l D k A ad hD (va_up (va_up (va_up (va_up v 0 0) 1 0) 24 a3) 25 (v 25)) (va_up (va_up (va_up (va_up (va_up (va_up (va_up (va_up f 20 (f 20)) 24 (f 24)) 25 (f 25)) 26 (f 26)) 27 (f 27)) 28 (ovE (v 25) a3 (f 30) (f 27) (fun k => (f 3) ((f 25) k)) (f 28))) 29 (f 29)) 30 (ovH (v 25) a3 (f 30) (f 27) (fun k => (f 3) ((f 25) k)))) g a1 (by omega) (show TI (v 25) a3 (f 27) (ovE (v 25) a3 (f 30) (f 27) (fun k => (f 3) ((f 25) k)) (f 28)) (ovH (v 25) a3 (f 30) (f 27) (fun k => (f 3) ((f 25) k))) from hti2)) mM_X11_361 mI_X11_readyAt mE_X11_readyAt mN_X11 mC_X11_readyAt (by decide +kernel) 0 (ci := 11) rfl rfl hP hS (fun _ h => h) ⟨Nat.le_of_ble_eq_true rfl, Nat.le_of_ble_eq_true rfl⟩ ⟨Nat.zero_le _, Nat.zero_le _⟩ hl.1 rfl rfl (Nat.le_of_ble_eq_true rfl) dX11_begin_260 (fun r_27 v_27 f_27 g_27 H locs hq_27 hP _ hS => ?_)
                              obtain ⟨z_27, rfl, rfl, rfl, rfl, p0_27, p1_27⟩ := hq_27
                              show W p l e (gRm 2 56) s m args below meth c _ _ 0 0 Q (F0 m 263 ls [.int (iI z_27), .int (iI a3)])
                              replace p0_27 : z_27 = (rsF (mxE (f 24) (f 25) (ovE (v 25) a3 (f 30) (f 27) (fun k => (f 3) ((f 25) k)) (f 28)) a1 (v 23) (v 25).toNat) ((f 4) (v 23))) := p0_27
                              replace p1_27 : 0 ≤ z_27 ∧ z_27 ≤ 1001998 := p1_27
                              have hz_27 : inR z_27 := (by first | omega | (rw [p0_27]; split <;> omega))
                              have hro := p0_27
                              clear p0_27
                              refine gi_cge (tgt := 273) hx hb dX11_begin_263 (by decide) (by omega) (by omega) (fun c_28 => ?_) (fun c_28 => ?_)
                              · refine lv_aload_n hx hb dX11_begin_273 rfl (lv_at hl 0 rfl) ?_
                                refine mdG_who C hP mF_X11_94 dX11_begin_274 ?_
                                refine lv_aload_n hx hb dX11_begin_277 rfl (lv_at hl 0 rfl) ?_
                                refine mdG_tried C hP mF_X11_319 dX11_begin_278 ?_
                                show W p l e (gRm 2 56) s m args below meth c _ _ 0 0 Q (F0 m 281 ls [.int (iI (v 25)), .ref (ad 25)])
                                refine lv_iload_n hx hb dX11_begin_281 rfl (lv_at hl 1 rfl) ?_
                                refine mdS_who (f1 := (va_up (va_up (va_up (va_up (va_up (va_up (va_up (va_up f 20 (f 20)) 24 (u1 (f 24) (v 25) a1)) 25 (f 25)) 26 (f 26)) 27 (f 27)) 28 (ovE (v 25) a3 (f 30) (f 27) (fun k => (f 3) ((f 25) k)) (f 28))) 29 (f 29)) 30 (ovH (v 25) a3 (f 30) (f 27) (fun k => (f 3) ((f 25) k))))) C hP hD hS (by omega) (by omega) (by omega) rfl (Or.inr (gF_up (V := mdV) (F := mdF) (gF_up (V := mdV) (F := mdF) (gF_up (V := mdV) (F := mdF) (gF_up (V := mdV) (F := mdF) (gF_up (V := mdV) (F := mdF) (gF_up (V := mdV) (F := mdF) (gF_up (V := mdV) (F := mdF) (gF_up (V := mdV) (F := mdF) (gR_up (V := mdV) (F := mdF) (gR_up (V := mdV) (F := mdF) (gR_up (V := mdV) (F := mdF) (gR_up (V := mdV) (F := mdF) ⟨hok.1, hok.2⟩ 0 (hP.2.1 0)) 1 (hP.2.1 1)) 24 (hP.2.1 24)) 25 (hP.2.1 25)) 20 (hP.2.2 20)) 24 (u1_rng (hP.2.2 24) (show 0 ≤ a1 ∧ a1 ≤ 15 from (by omega)))) 25 (hP.2.2 25)) 26 (hP.2.2 26)) 27 (hP.2.2 27)) 28 (hP.2.2 28)) 29 (hP.2.2 29)) 30 (hP.2.2 30))) dX11_begin_282 (fun H locs hP hS => ?_)
                                refine lv_aload_n hx hb dX11_begin_283 rfl (lv_at hl 0 rfl) ?_
                                refine mdG_where C hP mF_X11_97 dX11_begin_284 ?_
                                refine lv_aload_n hx hb dX11_begin_287 rfl (lv_at hl 0 rfl) ?_
                                refine mdG_tried C hP mF_X11_319 dX11_begin_288 ?_
                                show W p l e (gRm 2 56) s m args below meth c _ _ 0 0 Q (F0 m 291 ls [.int (iI (v 25)), .ref (ad 26)])
                                refine lv_aload_n hx hb dX11_begin_291 rfl (lv_at hl 0 rfl) ?_
                                refine mdG_open C hP mF_X11_82 dX11_begin_292 ?_
                                show W p l e (gRm 2 56) s m args below meth c _ _ 0 0 Q (F0 m 295 ls [.int (iI (v 23)), .int (iI (v 25)), .ref (ad 26)])
                                refine mdS_where (f1 := (va_up (va_up (va_up (va_up (va_up (va_up (va_up (va_up f 20 (f 20)) 24 (u1 (f 24) (v 25) a1)) 25 (u1 (f 25) (v 25) (v 23))) 26 (f 26)) 27 (f 27)) 28 (ovE (v 25) a3 (f 30) (f 27) (fun k => (f 3) ((f 25) k)) (f 28))) 29 (f 29)) 30 (ovH (v 25) a3 (f 30) (f 27) (fun k => (f 3) ((f 25) k))))) C hP hD hS (by omega) (by omega) (by omega) rfl (Or.inr (gF_up (V := mdV) (F := mdF) (gF_up (V := mdV) (F := mdF) (gF_up (V := mdV) (F := mdF) (gF_up (V := mdV) (F := mdF) (gF_up (V := mdV) (F := mdF) (gF_up (V := mdV) (F := mdF) (gF_up (V := mdV) (F := mdF) (gF_up (V := mdV) (F := mdF) (gR_up (V := mdV) (F := mdF) (gR_up (V := mdV) (F := mdF) (gR_up (V := mdV) (F := mdF) (gR_up (V := mdV) (F := mdF) ⟨hok.1, hok.2⟩ 0 (hP.2.1 0)) 1 (hP.2.1 1)) 24 (hP.2.1 24)) 25 (hP.2.1 25)) 20 (hP.2.2 20)) 24 (hP.2.2 24)) 25 (u1_rng (hP.2.2 25) (show 0 ≤ (v 23) ∧ (v 23) ≤ 3 from (by omega)))) 26 (hP.2.2 26)) 27 (hP.2.2 27)) 28 (hP.2.2 28)) 29 (hP.2.2 29)) 30 (hP.2.2 30))) dX11_begin_295 (fun H locs hP hS => ?_)
                                refine lv_aload_n hx hb dX11_begin_296 rfl (lv_at hl 0 rfl) ?_
                                refine mdG_which C hP mF_X11_100 dX11_begin_297 ?_
                                refine lv_aload_n hx hb dX11_begin_300 rfl (lv_at hl 0 rfl) ?_
                                refine mdG_tried C hP mF_X11_319 dX11_begin_301 ?_
                                show W p l e (gRm 2 56) s m args below meth c _ _ 0 0 Q (F0 m 304 ls [.int (iI (v 25)), .ref (ad 27)])
                                refine lv_iload_n hx hb dX11_begin_304 rfl (lv_at hl 2 rfl) ?_
                                refine mdS_which (f1 := (va_up (va_up (va_up (va_up (va_up (va_up (va_up (va_up f 20 (f 20)) 24 (u1 (f 24) (v 25) a1)) 25 (u1 (f 25) (v 25) (v 23))) 26 (u1 (f 26) (v 25) a2)) 27 (f 27)) 28 (ovE (v 25) a3 (f 30) (f 27) (fun k => (f 3) ((f 25) k)) (f 28))) 29 (f 29)) 30 (ovH (v 25) a3 (f 30) (f 27) (fun k => (f 3) ((f 25) k))))) C hP hD hS (by omega) (by omega) (by omega) rfl (Or.inr (gF_up (V := mdV) (F := mdF) (gF_up (V := mdV) (F := mdF) (gF_up (V := mdV) (F := mdF) (gF_up (V := mdV) (F := mdF) (gF_up (V := mdV) (F := mdF) (gF_up (V := mdV) (F := mdF) (gF_up (V := mdV) (F := mdF) (gF_up (V := mdV) (F := mdF) (gR_up (V := mdV) (F := mdF) (gR_up (V := mdV) (F := mdF) (gR_up (V := mdV) (F := mdF) (gR_up (V := mdV) (F := mdF) ⟨hok.1, hok.2⟩ 0 (hP.2.1 0)) 1 (hP.2.1 1)) 24 (hP.2.1 24)) 25 (hP.2.1 25)) 20 (hP.2.2 20)) 24 (hP.2.2 24)) 25 (hP.2.2 25)) 26 (u1_rng (hP.2.2 26) (show 0 ≤ a2 ∧ a2 ≤ 4 from (by omega)))) 27 (hP.2.2 27)) 28 (hP.2.2 28)) 29 (hP.2.2 29)) 30 (hP.2.2 30))) dX11_begin_305 (fun H locs hP hS => ?_)
                                refine lv_aload_n hx hb dX11_begin_306 rfl (lv_at hl 0 rfl) ?_
                                refine mdG_from C hP mF_X11_103 dX11_begin_307 ?_
                                refine lv_aload_n hx hb dX11_begin_310 rfl (lv_at hl 0 rfl) ?_
                                refine mdG_tried C hP mF_X11_319 dX11_begin_311 ?_
                                show W p l e (gRm 2 56) s m args below meth c _ _ 0 0 Q (F0 m 314 ls [.int (iI (v 25)), .ref (ad 28)])
                                refine lv_iload_n hx hb dX11_begin_314 rfl (lv_at hl 3 rfl) ?_
                                refine mdS_from (f1 := (va_up (va_up (va_up (va_up (va_up (va_up (va_up (va_up f 20 (f 20)) 24 (u1 (f 24) (v 25) a1)) 25 (u1 (f 25) (v 25) (v 23))) 26 (u1 (f 26) (v 25) a2)) 27 (u1 (f 27) (v 25) a3)) 28 (ovE (v 25) a3 (f 30) (f 27) (fun k => (f 3) ((f 25) k)) (f 28))) 29 (f 29)) 30 (ovH (v 25) a3 (f 30) (f 27) (fun k => (f 3) ((f 25) k))))) C hP hD hS (by omega) (by omega) (by omega) rfl (Or.inr (gF_up (V := mdV) (F := mdF) (gF_up (V := mdV) (F := mdF) (gF_up (V := mdV) (F := mdF) (gF_up (V := mdV) (F := mdF) (gF_up (V := mdV) (F := mdF) (gF_up (V := mdV) (F := mdF) (gF_up (V := mdV) (F := mdF) (gF_up (V := mdV) (F := mdF) (gR_up (V := mdV) (F := mdF) (gR_up (V := mdV) (F := mdF) (gR_up (V := mdV) (F := mdF) (gR_up (V := mdV) (F := mdF) ⟨hok.1, hok.2⟩ 0 (hP.2.1 0)) 1 (hP.2.1 1)) 24 (hP.2.1 24)) 25 (hP.2.1 25)) 20 (hP.2.2 20)) 24 (hP.2.2 24)) 25 (hP.2.2 25)) 26 (hP.2.2 26)) 27 (u1_rng (hP.2.2 27) (show 0 ≤ a3 ∧ a3 ≤ 1000000 from (by omega)))) 28 (hP.2.2 28)) 29 (hP.2.2 29)) 30 (hP.2.2 30))) dX11_begin_315 (fun H locs hP hS => ?_)
                                refine lv_aload_n hx hb dX11_begin_316 rfl (lv_at hl 0 rfl) ?_
                                refine mdG_to C hP mF_X11_106 dX11_begin_317 ?_
                                refine lv_aload_n hx hb dX11_begin_320 rfl (lv_at hl 0 rfl) ?_
                                refine mdG_tried C hP mF_X11_319 dX11_begin_321 ?_
                                show W p l e (gRm 2 56) s m args below meth c _ _ 0 0 Q (F0 m 324 ls [.int (iI (v 25)), .ref (ad 29)])
                                refine lv_iconst (v := iI (-1)) hx hb dX11_begin_324 rfl ?_
                                refine mdS_to (f1 := (va_up (va_up (va_up (va_up (va_up (va_up (va_up (va_up f 20 (f 20)) 24 (u1 (f 24) (v 25) a1)) 25 (u1 (f 25) (v 25) (v 23))) 26 (u1 (f 26) (v 25) a2)) 27 (u1 (f 27) (v 25) a3)) 28 (u1 (ovE (v 25) a3 (f 30) (f 27) (fun k => (f 3) ((f 25) k)) (f 28)) (v 25) (-1))) 29 (f 29)) 30 (ovH (v 25) a3 (f 30) (f 27) (fun k => (f 3) ((f 25) k))))) C hP hD hS (by omega) (by omega) (by decide) rfl (Or.inr (gF_up (V := mdV) (F := mdF) (gF_up (V := mdV) (F := mdF) (gF_up (V := mdV) (F := mdF) (gF_up (V := mdV) (F := mdF) (gF_up (V := mdV) (F := mdF) (gF_up (V := mdV) (F := mdF) (gF_up (V := mdV) (F := mdF) (gF_up (V := mdV) (F := mdF) (gR_up (V := mdV) (F := mdF) (gR_up (V := mdV) (F := mdF) (gR_up (V := mdV) (F := mdF) (gR_up (V := mdV) (F := mdF) ⟨hok.1, hok.2⟩ 0 (hP.2.1 0)) 1 (hP.2.1 1)) 24 (hP.2.1 24)) 25 (hP.2.1 25)) 20 (hP.2.2 20)) 24 (hP.2.2 24)) 25 (hP.2.2 25)) 26 (hP.2.2 26)) 27 (hP.2.2 27)) 28 (u1_rng (hP.2.2 28) (show (-1) ≤ (-1) ∧ (-1) ≤ 1000999 from (by decide)))) 29 (hP.2.2 29)) 30 (hP.2.2 30))) dX11_begin_325 (fun H locs hP hS => ?_)
                                refine lv_aload_n hx hb dX11_begin_326 rfl (lv_at hl 0 rfl) ?_
                                refine mdG_hold C hP mF_X11_109 dX11_begin_327 ?_
                                refine lv_aload_n hx hb dX11_begin_330 rfl (lv_at hl 0 rfl) ?_
                                refine mdG_tried C hP mF_X11_319 dX11_begin_331 ?_
                                show W p l e (gRm 2 56) s m args below meth c _ _ 0 0 Q (F0 m 334 ls [.int (iI (v 25)), .ref (ad 30)])
                                refine lv_iconst (v := iI 0) hx hb dX11_begin_334 rfl ?_
                                refine mdS_hold (f1 := (va_up (va_up (va_up (va_up (va_up (va_up (va_up (va_up f 20 (f 20)) 24 (u1 (f 24) (v 25) a1)) 25 (u1 (f 25) (v 25) (v 23))) 26 (u1 (f 26) (v 25) a2)) 27 (u1 (f 27) (v 25) a3)) 28 (u1 (ovE (v 25) a3 (f 30) (f 27) (fun k => (f 3) ((f 25) k)) (f 28)) (v 25) (-1))) 29 (u1 (f 29) (v 25) 0)) 30 (ovH (v 25) a3 (f 30) (f 27) (fun k => (f 3) ((f 25) k))))) C hP hD hS (by omega) (by omega) (by decide) rfl (Or.inr (gF_up (V := mdV) (F := mdF) (gF_up (V := mdV) (F := mdF) (gF_up (V := mdV) (F := mdF) (gF_up (V := mdV) (F := mdF) (gF_up (V := mdV) (F := mdF) (gF_up (V := mdV) (F := mdF) (gF_up (V := mdV) (F := mdF) (gF_up (V := mdV) (F := mdF) (gR_up (V := mdV) (F := mdF) (gR_up (V := mdV) (F := mdF) (gR_up (V := mdV) (F := mdF) (gR_up (V := mdV) (F := mdF) ⟨hok.1, hok.2⟩ 0 (hP.2.1 0)) 1 (hP.2.1 1)) 24 (hP.2.1 24)) 25 (hP.2.1 25)) 20 (hP.2.2 20)) 24 (hP.2.2 24)) 25 (hP.2.2 25)) 26 (hP.2.2 26)) 27 (hP.2.2 27)) 28 (hP.2.2 28)) 29 (u1_rng (hP.2.2 29) (show 0 ≤ 0 ∧ 0 ≤ 60 from (by decide)))) 30 (hP.2.2 30))) dX11_begin_335 (fun H locs hP hS => ?_)
                                refine lv_aload_n hx hb dX11_begin_336 rfl (lv_at hl 0 rfl) ?_
                                refine mdG_how C hP mF_X11_112 dX11_begin_337 ?_
                                refine lv_aload_n hx hb dX11_begin_340 rfl (lv_at hl 0 rfl) ?_
                                refine mdG_tried C hP mF_X11_319 dX11_begin_341 ?_
                                show W p l e (gRm 2 56) s m args below meth c _ _ 0 0 Q (F0 m 344 ls [.int (iI (v 25)), .ref (ad 31)])
                                refine lv_iconst (v := iI 0) hx hb dX11_begin_344 rfl ?_
                                refine mdS_how (f1 := (va_up (va_up (va_up (va_up (va_up (va_up (va_up (va_up f 20 (f 20)) 24 (u1 (f 24) (v 25) a1)) 25 (u1 (f 25) (v 25) (v 23))) 26 (u1 (f 26) (v 25) a2)) 27 (u1 (f 27) (v 25) a3)) 28 (u1 (ovE (v 25) a3 (f 30) (f 27) (fun k => (f 3) ((f 25) k)) (f 28)) (v 25) (-1))) 29 (u1 (f 29) (v 25) 0)) 30 (u1 (ovH (v 25) a3 (f 30) (f 27) (fun k => (f 3) ((f 25) k))) (v 25) 0))) C hP hD hS (by omega) (by omega) (by decide) rfl (Or.inr (gF_up (V := mdV) (F := mdF) (gF_up (V := mdV) (F := mdF) (gF_up (V := mdV) (F := mdF) (gF_up (V := mdV) (F := mdF) (gF_up (V := mdV) (F := mdF) (gF_up (V := mdV) (F := mdF) (gF_up (V := mdV) (F := mdF) (gF_up (V := mdV) (F := mdF) (gR_up (V := mdV) (F := mdF) (gR_up (V := mdV) (F := mdF) (gR_up (V := mdV) (F := mdF) (gR_up (V := mdV) (F := mdF) ⟨hok.1, hok.2⟩ 0 (hP.2.1 0)) 1 (hP.2.1 1)) 24 (hP.2.1 24)) 25 (hP.2.1 25)) 20 (hP.2.2 20)) 24 (hP.2.2 24)) 25 (hP.2.2 25)) 26 (hP.2.2 26)) 27 (hP.2.2 27)) 28 (hP.2.2 28)) 29 (hP.2.2 29)) 30 (u1_rng (hP.2.2 30) (show 0 ≤ 0 ∧ 0 ≤ 4 from (by decide))))) dX11_begin_345 (fun H locs hP hS => ?_)
                                refine lv_aload_n hx hb dX11_begin_346 rfl (lv_at hl 0 rfl) ?_
                                refine mdG_begun C hP mF_X11_79 dX11_begin_347 ?_
                                refine lv_aload_n hx hb dX11_begin_350 rfl (lv_at hl 0 rfl) ?_
                                refine mdG_open C hP mF_X11_82 dX11_begin_351 ?_
                                show W p l e (gRm 2 56) s m args below meth c _ _ 0 0 Q (F0 m 354 ls [.int (iI (v 23)), .ref (ad 21)])
                                refine lv_iload_n hx hb dX11_begin_354 rfl (lv_at hl 2 rfl) ?_
                                refine g_cs (As := [.int (iI (v 23)), .int (iI a2)]) (rest := [.ref (ad 21)]) (n := 2) C hml (m_X11_at l D k A ad hD (va_up (va_up (va_up (va_up v 0 0) 1 0) 24 a3) 25 (v 25)) (va_up (va_up (va_up (va_up (va_up (va_up (va_up (va_up f 20 (f 20)) 24 (u1 (f 24) (v 25) a1)) 25 (u1 (f 25) (v 25) (v 23))) 26 (u1 (f 26) (v 25) a2)) 27 (u1 (f 27) (v 25) a3)) 28 (u1 (ovE (v 25) a3 (f 30) (f 27) (fun k => (f 3) ((f 25) k)) (f 28)) (v 25) (-1))) 29 (u1 (f 29) (v 25) 0)) 30 (u1 (ovH (v 25) a3 (f 30) (f 27) (fun k => (f 3) ((f 25) k))) (v 25) 0)) g (v 23) a2 (by omega) (by omega) (show 0 ≤ (v 23) ∧ (v 23) ≤ 3 from by omega) (show 0 ≤ a2 ∧ a2 ≤ 4 from by omega)) mM_X11_335 mS_X11_at mN_X11 mC_X11_at (by decide +kernel) hP hS (fun _ h => h) ⟨Nat.le_of_ble_eq_true rfl, Nat.le_of_ble_eq_true rfl⟩ ⟨Nat.zero_le _, Nat.zero_le _⟩ hl.1 rfl rfl (Nat.le_of_ble_eq_true rfl) dX11_begin_355 (fun r_29 v_29 f_29 g_29 H locs hq_29 hP _ hS => ?_)
                                obtain ⟨z_29, rfl, rfl, rfl, rfl, p0_29⟩ := hq_29
                                show W p l e (gRm 2 56) s m args below meth c _ _ 0 0 Q (F0 m 358 ls [.int (iI z_29), .ref (ad 21)])
                                replace p0_29 : z_29 = (5 * (v 23) + a2) := p0_29
                                have hz_29 : inR z_29 := (by first | omega | (rw [p0_29]; split <;> omega))
                                have hat2 : (v 23) * 5 + a2 = z_29 := by omega
                                refine lv_dup2_11 hx hb dX11_begin_358 rfl rfl ?_
                                refine mdL_begun C hP (by omega) (by omega) dX11_begin_359 ?_
                                show W p l e (gRm 2 56) s m args below meth c _ _ 0 0 Q (F0 m 360 ls [.int (iI (f 20 z_29)), .int (iI z_29), .ref (ad 21)])
                                have r_30 : 0 ≤ (f 20 z_29) ∧ (f 20 z_29) ≤ 300 := hP.2.2 20 z_29
                                have q_31 := hbg z_29 (by omega) (by omega)
                                refine lv_iconst (v := iI 1) hx hb dX11_begin_360 rfl ?_
                                refine gi_add (z := ((f 20 z_29) + 1)) hx hb dX11_begin_361 rfl ?_
                                refine mdS_begun (f1 := (va_up (va_up (va_up (va_up (va_up (va_up (va_up (va_up f 20 (u1 (f 20) z_29 ((f 20 z_29) + 1))) 24 (u1 (f 24) (v 25) a1)) 25 (u1 (f 25) (v 25) (v 23))) 26 (u1 (f 26) (v 25) a2)) 27 (u1 (f 27) (v 25) a3)) 28 (u1 (ovE (v 25) a3 (f 30) (f 27) (fun k => (f 3) ((f 25) k)) (f 28)) (v 25) (-1))) 29 (u1 (f 29) (v 25) 0)) 30 (u1 (ovH (v 25) a3 (f 30) (f 27) (fun k => (f 3) ((f 25) k))) (v 25) 0))) C hP hD hS (by omega) (by omega) (by omega) rfl (Or.inr (gF_up (V := mdV) (F := mdF) (gF_up (V := mdV) (F := mdF) (gF_up (V := mdV) (F := mdF) (gF_up (V := mdV) (F := mdF) (gF_up (V := mdV) (F := mdF) (gF_up (V := mdV) (F := mdF) (gF_up (V := mdV) (F := mdF) (gF_up (V := mdV) (F := mdF) (gR_up (V := mdV) (F := mdF) (gR_up (V := mdV) (F := mdF) (gR_up (V := mdV) (F := mdF) (gR_up (V := mdV) (F := mdF) ⟨hok.1, hok.2⟩ 0 (hP.2.1 0)) 1 (hP.2.1 1)) 24 (hP.2.1 24)) 25 (hP.2.1 25)) 20 (u1_rng (hP.2.2 20) (show 0 ≤ ((f 20 z_29) + 1) ∧ ((f 20 z_29) + 1) ≤ 300 from (by omega)))) 24 (hP.2.2 24)) 25 (hP.2.2 25)) 26 (hP.2.2 26)) 27 (hP.2.2 27)) 28 (hP.2.2 28)) 29 (hP.2.2 29)) 30 (hP.2.2 30))) dX11_begin_362 (fun H locs hP hS => ?_)
                                refine lv_aload_n hx hb dX11_begin_363 rfl (lv_at hl 0 rfl) ?_
                                refine lv_dup hx hb dX11_begin_364 rfl ?_
                                refine mdG_tried C hP mF_X11_319 dX11_begin_365 ?_
                                show W p l e (gRm 2 56) s m args below meth c _ _ 0 0 Q (F0 m 368 ls [.int (iI (v 25)), .ref (ad 0)])
                                refine lv_iconst (v := iI 1) hx hb dX11_begin_368 rfl ?_
                                refine gi_add (z := ((v 25) + 1)) hx hb dX11_begin_369 rfl ?_
                                refine mdP_tried (v1 := (va_up (va_up (va_up (va_up v 0 0) 1 0) 24 a3) 25 ((v 25) + 1))) C hP hD hS mF_X11_319 (by omega) rfl (Or.inr (gF_up (V := mdV) (F := mdF) (gF_up (V := mdV) (F := mdF) (gF_up (V := mdV) (F := mdF) (gF_up (V := mdV) (F := mdF) (gF_up (V := mdV) (F := mdF) (gF_up (V := mdV) (F := mdF) (gF_up (V := mdV) (F := mdF) (gF_up (V := mdV) (F := mdF) (gR_up (V := mdV) (F := mdF) (gR_up (V := mdV) (F := mdF) (gR_up (V := mdV) (F := mdF) (gR_up (V := mdV) (F := mdF) ⟨hok.1, hok.2⟩ 0 (hP.2.1 0)) 1 (hP.2.1 1)) 24 (hP.2.1 24)) 25 (show 0 ≤ ((v 25) + 1) ∧ ((v 25) + 1) ≤ 300 from by omega)) 20 (hP.2.2 20)) 24 (hP.2.2 24)) 25 (hP.2.2 25)) 26 (hP.2.2 26)) 27 (hP.2.2 27)) 28 (hP.2.2 28)) 29 (hP.2.2 29)) 30 (hP.2.2 30))) dX11_begin_370 (fun H locs hP hS => ?_)
                                refine lv_aload_n hx hb dX11_begin_373 rfl (lv_at hl 0 rfl) ?_
                                refine mdG_tried C hP mF_X11_319 dX11_begin_374 ?_
                                show W p l e (gRm 2 56) s m args below meth c _ _ 0 0 Q (F0 m 377 ls [.int (iI ((v 25) + 1))])
                                have r_32 : 0 ≤ ((v 25) + 1) ∧ ((v 25) + 1) ≤ 300 := hP.2.1 25
                                refine lv_iconst (v := iI 1) hx hb dX11_begin_377 rfl ?_
                                refine gi_sub (z := (((v 25) + 1) - 1)) hx hb dX11_begin_378 rfl ?_
                                exact g_iret hQ C hr hlocks hP hS dX11_begin_379 ⟨(((v 25) + 1) - 1), 0, rfl, (by rw [show ((if (0 : Int) = 1 ∨ (0 : Int) = 2 ∨ (0 : Int) = 9 then (v 24) else a3) : Int) = a3 from by first | rfl | omega | ((repeat' split) <;> omega), show ((if (0 : Int) = 0 then (v 25) + 1 else (v 25)) : Int) = ((v 25) + 1) from by first | rfl | omega | ((repeat' split) <;> omega)]), (by rw [show ((if (0 : Int) = 0 then u1 (f 20) ((v 23) * 5 + a2) ((f 20) ((v 23) * 5 + a2) + 1) else (f 20)) : Int → Int) = (u1 (f 20) z_29 ((f 20 z_29) + 1)) from by first | rfl | (rw [if_neg (by omega)]) | (rw [if_pos rfl, hat2]), show ((if (0 : Int) = 0 then u1 (f 24) (v 25) a1 else (f 24)) : Int → Int) = (u1 (f 24) (v 25) a1) from by first | rfl | (rw [if_pos (by omega)]; done) | (rw [if_neg (by omega)]; done) | (rw [if_neg (by omega), if_pos (by omega)]; done) | (rw [if_neg (by omega), if_neg (by omega)]; done), show ((if (0 : Int) = 0 then u1 (f 25) (v 25) (v 23) else (f 25)) : Int → Int) = (u1 (f 25) (v 25) (v 23)) from by first | rfl | (rw [if_pos (by omega)]; done) | (rw [if_neg (by omega)]; done) | (rw [if_neg (by omega), if_pos (by omega)]; done) | (rw [if_neg (by omega), if_neg (by omega)]; done), show ((if (0 : Int) = 0 then u1 (f 26) (v 25) a2 else (f 26)) : Int → Int) = (u1 (f 26) (v 25) a2) from by first | rfl | (rw [if_pos (by omega)]; done) | (rw [if_neg (by omega)]; done) | (rw [if_neg (by omega), if_pos (by omega)]; done) | (rw [if_neg (by omega), if_neg (by omega)]; done), show ((if (0 : Int) = 0 then u1 (f 27) (v 25) a3 else (f 27)) : Int → Int) = (u1 (f 27) (v 25) a3) from by first | rfl | (rw [if_pos (by omega)]; done) | (rw [if_neg (by omega)]; done) | (rw [if_neg (by omega), if_pos (by omega)]; done) | (rw [if_neg (by omega), if_neg (by omega)]; done), show ((if (0 : Int) = 1 ∨ (0 : Int) = 2 ∨ (0 : Int) = 9 then (f 28) else if (0 : Int) = 0 then u1 (ovE (v 25) a3 (f 30) (f 27) (fun k => (f 3) ((f 25) k)) (f 28)) (v 25) (-1) else (ovE (v 25) a3 (f 30) (f 27) (fun k => (f 3) ((f 25) k)) (f 28))) : Int → Int) = (u1 (ovE (v 25) a3 (f 30) (f 27) (fun k => (f 3) ((f 25) k)) (f 28)) (v 25) (-1)) from by first | rfl | (rw [if_pos (by omega)]; done) | (rw [if_neg (by omega)]; done) | (rw [if_neg (by omega), if_pos (by omega)]; done) | (rw [if_neg (by omega), if_neg (by omega)]; done), show ((if (0 : Int) = 0 then u1 (f 29) (v 25) 0 else (f 29)) : Int → Int) = (u1 (f 29) (v 25) 0) from by first | rfl | (rw [if_pos (by omega)]; done) | (rw [if_neg (by omega)]; done) | (rw [if_neg (by omega), if_pos (by omega)]; done) | (rw [if_neg (by omega), if_neg (by omega)]; done), show ((if (0 : Int) = 1 ∨ (0 : Int) = 2 ∨ (0 : Int) = 9 then (f 30) else if (0 : Int) = 0 then u1 (ovH (v 25) a3 (f 30) (f 27) (fun k => (f 3) ((f 25) k))) (v 25) 0 else (ovH (v 25) a3 (f 30) (f 27) (fun k => (f 3) ((f 25) k)))) : Int → Int) = (u1 (ovH (v 25) a3 (f 30) (f 27) (fun k => (f 3) ((f 25) k))) (v 25) 0) from by first | rfl | (rw [if_pos (by omega)]; done) | (rw [if_neg (by omega)]; done) | (rw [if_neg (by omega), if_pos (by omega)]; done) | (rw [if_neg (by omega), if_neg (by omega)]; done)]), rfl, (by first | omega | ((repeat' split) <;> omega)), (by first | (rw [if_pos (by omega)]) | (rw [if_neg (by omega), if_pos (by omega)]; exact hpz) | (rw [if_neg (by omega), if_neg (by omega)]; first | rw [if_pos (by omega)] | rw [if_neg (by omega), if_pos (by omega)] | rw [if_neg (by omega), if_neg (by omega), if_pos (by omega)] | rw [if_neg (by omega), if_neg (by omega), if_neg (by omega), if_pos (by omega)] | rw [if_neg (by omega), if_neg (by omega), if_neg (by omega), if_neg (by omega), if_pos (by omega)] | rw [if_neg (by omega), if_neg (by omega), if_neg (by omega), if_neg (by omega), if_neg (by omega), ← hro, if_pos (by omega)] | rw [if_neg (by omega), if_neg (by omega), if_neg (by omega), if_neg (by omega), if_neg (by omega), ← hro, if_neg (by omega)])), (by first | exact hbg | (rw [if_neg (by omega), if_neg (by omega)]; exact hbg) | exact cntUp hbg (hbg _ (by omega) (by omega)))⟩
                              · refine lv_aload_n hx hb dX11_begin_266 rfl (lv_at hl 0 rfl) ?_
                                refine lv_bipush (v := iI 8) hx hb dX11_begin_267 (by decide) ?_
                                refine g_cv (As := [.int (iI 8)]) (rest := []) (n := 1) C hml (m_X11_refuse l D k A ad hD (va_up (va_up (va_up (va_up v 0 0) 1 0) 24 a3) 25 (v 25)) (va_up (va_up (va_up (va_up (va_up (va_up (va_up (va_up f 20 (f 20)) 24 (f 24)) 25 (f 25)) 26 (f 26)) 27 (f 27)) 28 (ovE (v 25) a3 (f 30) (f 27) (fun k => (f 3) ((f 25) k)) (f 28))) 29 (f 29)) 30 (ovH (v 25) a3 (f 30) (f 27) (fun k => (f 3) ((f 25) k)))) g 8 (by decide) (show 0 ≤ (8 : Int) ∧ (8 : Int) ≤ 10 from by omega)) mM_X11_295 mI_X11_refuse mE_X11_refuse mN_X11 mC_X11_refuse (by decide +kernel) 0 (ci := 11) rfl rfl hP hS (fun _ h => h) ⟨Nat.le_of_ble_eq_true rfl, Nat.le_of_ble_eq_true rfl⟩ ⟨Nat.zero_le _, Nat.zero_le _⟩ hl.1 rfl rfl (Nat.le_of_ble_eq_true rfl) dX11_begin_269 (fun r_33 v_33 f_33 g_33 H locs hq_33 hP _ hS => ?_)
                                obtain ⟨rfl, rfl, rfl, rfl⟩ := hq_33
                                show W p l e (gRm 2 56) s m args below meth c _ _ 0 0 Q (F0 m 272 ls [.int (iI (-1))])
                                have hP : gWd D (mdT k ad) (va_up (va_up (va_up (va_up v 0 (8 : Int)) 1 0) 24 a3) 25 (v 25)) (va_up (va_up (va_up (va_up (va_up (va_up (va_up (va_up f 20 (f 20)) 24 (f 24)) 25 (f 25)) 26 (f 26)) 27 (f 27)) 28 (ovE (v 25) a3 (f 30) (f 27) (fun k => (f 3) ((f 25) k)) (f 28))) 29 (f 29)) 30 (ovH (v 25) a3 (f 30) (f 27) (fun k => (f 3) ((f 25) k)))) g H := ⟨hP.1, (gF_up (V := mdV) (F := mdF) (gF_up (V := mdV) (F := mdF) (gF_up (V := mdV) (F := mdF) (gF_up (V := mdV) (F := mdF) (gF_up (V := mdV) (F := mdF) (gF_up (V := mdV) (F := mdF) (gF_up (V := mdV) (F := mdF) (gF_up (V := mdV) (F := mdF) (gR_up (V := mdV) (F := mdF) (gR_up (V := mdV) (F := mdF) (gR_up (V := mdV) (F := mdF) (gR_up (V := mdV) (F := mdF) ⟨hok.1, hok.2⟩ 0 (hP.2.1 0)) 1 (hP.2.1 1)) 24 (hP.2.1 24)) 25 (hP.2.1 25)) 20 (hP.2.2 20)) 24 (hP.2.2 24)) 25 (hP.2.2 25)) 26 (hP.2.2 26)) 27 (hP.2.2 27)) 28 (hP.2.2 28)) 29 (hP.2.2 29)) 30 (hP.2.2 30))⟩
                                exact g_iret hQ C hr hlocks hP hS dX11_begin_272 ⟨(-1), (8 : Int), rfl, (by rw [show ((if (8 : Int) = 1 ∨ (8 : Int) = 2 ∨ (8 : Int) = 9 then (v 24) else a3) : Int) = a3 from by first | rfl | omega | ((repeat' split) <;> omega), show ((if (8 : Int) = 0 then (v 25) + 1 else (v 25)) : Int) = (v 25) from by first | rfl | omega | ((repeat' split) <;> omega)]), (by rw [show ((if (8 : Int) = 0 then u1 (f 20) ((v 23) * 5 + a2) ((f 20) ((v 23) * 5 + a2) + 1) else (f 20)) : Int → Int) = (f 20) from by first | rfl | (rw [if_neg (by omega)]) | (rw [if_pos rfl, hat2]), show ((if (8 : Int) = 0 then u1 (f 24) (v 25) a1 else (f 24)) : Int → Int) = (f 24) from by first | rfl | (rw [if_pos (by omega)]; done) | (rw [if_neg (by omega)]; done) | (rw [if_neg (by omega), if_pos (by omega)]; done) | (rw [if_neg (by omega), if_neg (by omega)]; done), show ((if (8 : Int) = 0 then u1 (f 25) (v 25) (v 23) else (f 25)) : Int → Int) = (f 25) from by first | rfl | (rw [if_pos (by omega)]; done) | (rw [if_neg (by omega)]; done) | (rw [if_neg (by omega), if_pos (by omega)]; done) | (rw [if_neg (by omega), if_neg (by omega)]; done), show ((if (8 : Int) = 0 then u1 (f 26) (v 25) a2 else (f 26)) : Int → Int) = (f 26) from by first | rfl | (rw [if_pos (by omega)]; done) | (rw [if_neg (by omega)]; done) | (rw [if_neg (by omega), if_pos (by omega)]; done) | (rw [if_neg (by omega), if_neg (by omega)]; done), show ((if (8 : Int) = 0 then u1 (f 27) (v 25) a3 else (f 27)) : Int → Int) = (f 27) from by first | rfl | (rw [if_pos (by omega)]; done) | (rw [if_neg (by omega)]; done) | (rw [if_neg (by omega), if_pos (by omega)]; done) | (rw [if_neg (by omega), if_neg (by omega)]; done), show ((if (8 : Int) = 1 ∨ (8 : Int) = 2 ∨ (8 : Int) = 9 then (f 28) else if (8 : Int) = 0 then u1 (ovE (v 25) a3 (f 30) (f 27) (fun k => (f 3) ((f 25) k)) (f 28)) (v 25) (-1) else (ovE (v 25) a3 (f 30) (f 27) (fun k => (f 3) ((f 25) k)) (f 28))) : Int → Int) = (ovE (v 25) a3 (f 30) (f 27) (fun k => (f 3) ((f 25) k)) (f 28)) from by first | rfl | (rw [if_pos (by omega)]; done) | (rw [if_neg (by omega)]; done) | (rw [if_neg (by omega), if_pos (by omega)]; done) | (rw [if_neg (by omega), if_neg (by omega)]; done), show ((if (8 : Int) = 0 then u1 (f 29) (v 25) 0 else (f 29)) : Int → Int) = (f 29) from by first | rfl | (rw [if_pos (by omega)]; done) | (rw [if_neg (by omega)]; done) | (rw [if_neg (by omega), if_pos (by omega)]; done) | (rw [if_neg (by omega), if_neg (by omega)]; done), show ((if (8 : Int) = 1 ∨ (8 : Int) = 2 ∨ (8 : Int) = 9 then (f 30) else if (8 : Int) = 0 then u1 (ovH (v 25) a3 (f 30) (f 27) (fun k => (f 3) ((f 25) k))) (v 25) 0 else (ovH (v 25) a3 (f 30) (f 27) (fun k => (f 3) ((f 25) k)))) : Int → Int) = (ovH (v 25) a3 (f 30) (f 27) (fun k => (f 3) ((f 25) k))) from by first | rfl | (rw [if_pos (by omega)]; done) | (rw [if_neg (by omega)]; done) | (rw [if_neg (by omega), if_pos (by omega)]; done) | (rw [if_neg (by omega), if_neg (by omega)]; done)]), rfl, (by first | omega | ((repeat' split) <;> omega)), (by first | (rw [if_pos (by omega)]) | (rw [if_neg (by omega), if_pos (by omega)]; exact hpz) | (rw [if_neg (by omega), if_neg (by omega)]; first | rw [if_pos (by omega)] | rw [if_neg (by omega), if_pos (by omega)] | rw [if_neg (by omega), if_neg (by omega), if_pos (by omega)] | rw [if_neg (by omega), if_neg (by omega), if_neg (by omega), if_pos (by omega)] | rw [if_neg (by omega), if_neg (by omega), if_neg (by omega), if_neg (by omega), if_pos (by omega)] | rw [if_neg (by omega), if_neg (by omega), if_neg (by omega), if_neg (by omega), if_neg (by omega), ← hro, if_pos (by omega)] | rw [if_neg (by omega), if_neg (by omega), if_neg (by omega), if_neg (by omega), if_neg (by omega), ← hro, if_neg (by omega)])), (by first | exact hbg | (rw [if_neg (by omega), if_neg (by omega)]; exact hbg) | exact cntUp hbg (hbg _ (by omega) (by omega)))⟩
                            · have vz_25 := gif1 w_25 c_26
                              have voz_25 := gif1o w_25 c_26
                              clear w_25
                              refine lv_aload_n hx hb dX11_begin_250 rfl (lv_at hl 0 rfl) ?_
                              refine lv_bipush (v := iI 7) hx hb dX11_begin_251 (by decide) ?_
                              refine g_cv (As := [.int (iI 7)]) (rest := []) (n := 1) C hml (m_X11_refuse l D k A ad hD (va_up (va_up (va_up (va_up v 0 0) 1 0) 24 a3) 25 (v 25)) (va_up (va_up (va_up (va_up (va_up (va_up (va_up (va_up f 20 (f 20)) 24 (f 24)) 25 (f 25)) 26 (f 26)) 27 (f 27)) 28 (ovE (v 25) a3 (f 30) (f 27) (fun k => (f 3) ((f 25) k)) (f 28))) 29 (f 29)) 30 (ovH (v 25) a3 (f 30) (f 27) (fun k => (f 3) ((f 25) k)))) g 7 (by decide) (show 0 ≤ (7 : Int) ∧ (7 : Int) ≤ 10 from by omega)) mM_X11_295 mI_X11_refuse mE_X11_refuse mN_X11 mC_X11_refuse (by decide +kernel) 0 (ci := 11) rfl rfl hP hS (fun _ h => h) ⟨Nat.le_of_ble_eq_true rfl, Nat.le_of_ble_eq_true rfl⟩ ⟨Nat.zero_le _, Nat.zero_le _⟩ hl.1 rfl rfl (Nat.le_of_ble_eq_true rfl) dX11_begin_253 (fun r_34 v_34 f_34 g_34 H locs hq_34 hP _ hS => ?_)
                              obtain ⟨rfl, rfl, rfl, rfl⟩ := hq_34
                              show W p l e (gRm 2 56) s m args below meth c _ _ 0 0 Q (F0 m 256 ls [.int (iI (-1))])
                              have hP : gWd D (mdT k ad) (va_up (va_up (va_up (va_up v 0 (7 : Int)) 1 0) 24 a3) 25 (v 25)) (va_up (va_up (va_up (va_up (va_up (va_up (va_up (va_up f 20 (f 20)) 24 (f 24)) 25 (f 25)) 26 (f 26)) 27 (f 27)) 28 (ovE (v 25) a3 (f 30) (f 27) (fun k => (f 3) ((f 25) k)) (f 28))) 29 (f 29)) 30 (ovH (v 25) a3 (f 30) (f 27) (fun k => (f 3) ((f 25) k)))) g H := ⟨hP.1, (gF_up (V := mdV) (F := mdF) (gF_up (V := mdV) (F := mdF) (gF_up (V := mdV) (F := mdF) (gF_up (V := mdV) (F := mdF) (gF_up (V := mdV) (F := mdF) (gF_up (V := mdV) (F := mdF) (gF_up (V := mdV) (F := mdF) (gF_up (V := mdV) (F := mdF) (gR_up (V := mdV) (F := mdF) (gR_up (V := mdV) (F := mdF) (gR_up (V := mdV) (F := mdF) (gR_up (V := mdV) (F := mdF) ⟨hok.1, hok.2⟩ 0 (hP.2.1 0)) 1 (hP.2.1 1)) 24 (hP.2.1 24)) 25 (hP.2.1 25)) 20 (hP.2.2 20)) 24 (hP.2.2 24)) 25 (hP.2.2 25)) 26 (hP.2.2 26)) 27 (hP.2.2 27)) 28 (hP.2.2 28)) 29 (hP.2.2 29)) 30 (hP.2.2 30))⟩
                              exact g_iret hQ C hr hlocks hP hS dX11_begin_256 ⟨(-1), (7 : Int), rfl, (by rw [show ((if (7 : Int) = 1 ∨ (7 : Int) = 2 ∨ (7 : Int) = 9 then (v 24) else a3) : Int) = a3 from by first | rfl | omega | ((repeat' split) <;> omega), show ((if (7 : Int) = 0 then (v 25) + 1 else (v 25)) : Int) = (v 25) from by first | rfl | omega | ((repeat' split) <;> omega)]), (by rw [show ((if (7 : Int) = 0 then u1 (f 20) ((v 23) * 5 + a2) ((f 20) ((v 23) * 5 + a2) + 1) else (f 20)) : Int → Int) = (f 20) from by first | rfl | (rw [if_neg (by omega)]) | (rw [if_pos rfl, hat2]), show ((if (7 : Int) = 0 then u1 (f 24) (v 25) a1 else (f 24)) : Int → Int) = (f 24) from by first | rfl | (rw [if_pos (by omega)]; done) | (rw [if_neg (by omega)]; done) | (rw [if_neg (by omega), if_pos (by omega)]; done) | (rw [if_neg (by omega), if_neg (by omega)]; done), show ((if (7 : Int) = 0 then u1 (f 25) (v 25) (v 23) else (f 25)) : Int → Int) = (f 25) from by first | rfl | (rw [if_pos (by omega)]; done) | (rw [if_neg (by omega)]; done) | (rw [if_neg (by omega), if_pos (by omega)]; done) | (rw [if_neg (by omega), if_neg (by omega)]; done), show ((if (7 : Int) = 0 then u1 (f 26) (v 25) a2 else (f 26)) : Int → Int) = (f 26) from by first | rfl | (rw [if_pos (by omega)]; done) | (rw [if_neg (by omega)]; done) | (rw [if_neg (by omega), if_pos (by omega)]; done) | (rw [if_neg (by omega), if_neg (by omega)]; done), show ((if (7 : Int) = 0 then u1 (f 27) (v 25) a3 else (f 27)) : Int → Int) = (f 27) from by first | rfl | (rw [if_pos (by omega)]; done) | (rw [if_neg (by omega)]; done) | (rw [if_neg (by omega), if_pos (by omega)]; done) | (rw [if_neg (by omega), if_neg (by omega)]; done), show ((if (7 : Int) = 1 ∨ (7 : Int) = 2 ∨ (7 : Int) = 9 then (f 28) else if (7 : Int) = 0 then u1 (ovE (v 25) a3 (f 30) (f 27) (fun k => (f 3) ((f 25) k)) (f 28)) (v 25) (-1) else (ovE (v 25) a3 (f 30) (f 27) (fun k => (f 3) ((f 25) k)) (f 28))) : Int → Int) = (ovE (v 25) a3 (f 30) (f 27) (fun k => (f 3) ((f 25) k)) (f 28)) from by first | rfl | (rw [if_pos (by omega)]; done) | (rw [if_neg (by omega)]; done) | (rw [if_neg (by omega), if_pos (by omega)]; done) | (rw [if_neg (by omega), if_neg (by omega)]; done), show ((if (7 : Int) = 0 then u1 (f 29) (v 25) 0 else (f 29)) : Int → Int) = (f 29) from by first | rfl | (rw [if_pos (by omega)]; done) | (rw [if_neg (by omega)]; done) | (rw [if_neg (by omega), if_pos (by omega)]; done) | (rw [if_neg (by omega), if_neg (by omega)]; done), show ((if (7 : Int) = 1 ∨ (7 : Int) = 2 ∨ (7 : Int) = 9 then (f 30) else if (7 : Int) = 0 then u1 (ovH (v 25) a3 (f 30) (f 27) (fun k => (f 3) ((f 25) k))) (v 25) 0 else (ovH (v 25) a3 (f 30) (f 27) (fun k => (f 3) ((f 25) k)))) : Int → Int) = (ovH (v 25) a3 (f 30) (f 27) (fun k => (f 3) ((f 25) k))) from by first | rfl | (rw [if_pos (by omega)]; done) | (rw [if_neg (by omega)]; done) | (rw [if_neg (by omega), if_pos (by omega)]; done) | (rw [if_neg (by omega), if_neg (by omega)]; done)]), rfl, (by first | omega | ((repeat' split) <;> omega)), (by first | (rw [if_pos (by omega)]) | (rw [if_neg (by omega), if_pos (by omega)]; exact hpz) | (rw [if_neg (by omega), if_neg (by omega)]; first | rw [if_pos (by omega)] | rw [if_neg (by omega), if_pos (by omega)] | rw [if_neg (by omega), if_neg (by omega), if_pos (by omega)] | rw [if_neg (by omega), if_neg (by omega), if_neg (by omega), if_pos (by omega)] | rw [if_neg (by omega), if_neg (by omega), if_neg (by omega), if_neg (by omega), if_pos (by omega)] | rw [if_neg (by omega), if_neg (by omega), if_neg (by omega), if_neg (by omega), if_neg (by omega), ← hro, if_pos (by omega)] | rw [if_neg (by omega), if_neg (by omega), if_neg (by omega), if_neg (by omega), if_neg (by omega), ← hro, if_neg (by omega)])), (by first | exact hbg | (rw [if_neg (by omega), if_neg (by omega)]; exact hbg) | exact cntUp hbg (hbg _ (by omega) (by omega)))⟩
                          · refine lv_aload_n hx hb dX11_begin_235 rfl (lv_at hl 0 rfl) ?_
                            refine lv_iconst (v := iI 3) hx hb dX11_begin_236 rfl ?_
                            refine g_cv (As := [.int (iI 3)]) (rest := []) (n := 1) C hml (m_X11_refuse l D k A ad hD (va_up (va_up (va_up (va_up v 0 0) 1 0) 24 a3) 25 (v 25)) (va_up (va_up (va_up (va_up (va_up (va_up (va_up (va_up f 20 (f 20)) 24 (f 24)) 25 (f 25)) 26 (f 26)) 27 (f 27)) 28 (ovE (v 25) a3 (f 30) (f 27) (fun k => (f 3) ((f 25) k)) (f 28))) 29 (f 29)) 30 (ovH (v 25) a3 (f 30) (f 27) (fun k => (f 3) ((f 25) k)))) g 3 (by decide) (show 0 ≤ (3 : Int) ∧ (3 : Int) ≤ 10 from by omega)) mM_X11_295 mI_X11_refuse mE_X11_refuse mN_X11 mC_X11_refuse (by decide +kernel) 0 (ci := 11) rfl rfl hP hS (fun _ h => h) ⟨Nat.le_of_ble_eq_true rfl, Nat.le_of_ble_eq_true rfl⟩ ⟨Nat.zero_le _, Nat.zero_le _⟩ hl.1 rfl rfl (Nat.le_of_ble_eq_true rfl) dX11_begin_237 (fun r_35 v_35 f_35 g_35 H locs hq_35 hP _ hS => ?_)
                            obtain ⟨rfl, rfl, rfl, rfl⟩ := hq_35
                            show W p l e (gRm 2 56) s m args below meth c _ _ 0 0 Q (F0 m 240 ls [.int (iI (-1))])
                            have hP : gWd D (mdT k ad) (va_up (va_up (va_up (va_up v 0 (3 : Int)) 1 0) 24 a3) 25 (v 25)) (va_up (va_up (va_up (va_up (va_up (va_up (va_up (va_up f 20 (f 20)) 24 (f 24)) 25 (f 25)) 26 (f 26)) 27 (f 27)) 28 (ovE (v 25) a3 (f 30) (f 27) (fun k => (f 3) ((f 25) k)) (f 28))) 29 (f 29)) 30 (ovH (v 25) a3 (f 30) (f 27) (fun k => (f 3) ((f 25) k)))) g H := ⟨hP.1, (gF_up (V := mdV) (F := mdF) (gF_up (V := mdV) (F := mdF) (gF_up (V := mdV) (F := mdF) (gF_up (V := mdV) (F := mdF) (gF_up (V := mdV) (F := mdF) (gF_up (V := mdV) (F := mdF) (gF_up (V := mdV) (F := mdF) (gF_up (V := mdV) (F := mdF) (gR_up (V := mdV) (F := mdF) (gR_up (V := mdV) (F := mdF) (gR_up (V := mdV) (F := mdF) (gR_up (V := mdV) (F := mdF) ⟨hok.1, hok.2⟩ 0 (hP.2.1 0)) 1 (hP.2.1 1)) 24 (hP.2.1 24)) 25 (hP.2.1 25)) 20 (hP.2.2 20)) 24 (hP.2.2 24)) 25 (hP.2.2 25)) 26 (hP.2.2 26)) 27 (hP.2.2 27)) 28 (hP.2.2 28)) 29 (hP.2.2 29)) 30 (hP.2.2 30))⟩
                            exact g_iret hQ C hr hlocks hP hS dX11_begin_240 ⟨(-1), (3 : Int), rfl, (by rw [show ((if (3 : Int) = 1 ∨ (3 : Int) = 2 ∨ (3 : Int) = 9 then (v 24) else a3) : Int) = a3 from by first | rfl | omega | ((repeat' split) <;> omega), show ((if (3 : Int) = 0 then (v 25) + 1 else (v 25)) : Int) = (v 25) from by first | rfl | omega | ((repeat' split) <;> omega)]), (by rw [show ((if (3 : Int) = 0 then u1 (f 20) ((v 23) * 5 + a2) ((f 20) ((v 23) * 5 + a2) + 1) else (f 20)) : Int → Int) = (f 20) from by first | rfl | (rw [if_neg (by omega)]) | (rw [if_pos rfl, hat2]), show ((if (3 : Int) = 0 then u1 (f 24) (v 25) a1 else (f 24)) : Int → Int) = (f 24) from by first | rfl | (rw [if_pos (by omega)]; done) | (rw [if_neg (by omega)]; done) | (rw [if_neg (by omega), if_pos (by omega)]; done) | (rw [if_neg (by omega), if_neg (by omega)]; done), show ((if (3 : Int) = 0 then u1 (f 25) (v 25) (v 23) else (f 25)) : Int → Int) = (f 25) from by first | rfl | (rw [if_pos (by omega)]; done) | (rw [if_neg (by omega)]; done) | (rw [if_neg (by omega), if_pos (by omega)]; done) | (rw [if_neg (by omega), if_neg (by omega)]; done), show ((if (3 : Int) = 0 then u1 (f 26) (v 25) a2 else (f 26)) : Int → Int) = (f 26) from by first | rfl | (rw [if_pos (by omega)]; done) | (rw [if_neg (by omega)]; done) | (rw [if_neg (by omega), if_pos (by omega)]; done) | (rw [if_neg (by omega), if_neg (by omega)]; done), show ((if (3 : Int) = 0 then u1 (f 27) (v 25) a3 else (f 27)) : Int → Int) = (f 27) from by first | rfl | (rw [if_pos (by omega)]; done) | (rw [if_neg (by omega)]; done) | (rw [if_neg (by omega), if_pos (by omega)]; done) | (rw [if_neg (by omega), if_neg (by omega)]; done), show ((if (3 : Int) = 1 ∨ (3 : Int) = 2 ∨ (3 : Int) = 9 then (f 28) else if (3 : Int) = 0 then u1 (ovE (v 25) a3 (f 30) (f 27) (fun k => (f 3) ((f 25) k)) (f 28)) (v 25) (-1) else (ovE (v 25) a3 (f 30) (f 27) (fun k => (f 3) ((f 25) k)) (f 28))) : Int → Int) = (ovE (v 25) a3 (f 30) (f 27) (fun k => (f 3) ((f 25) k)) (f 28)) from by first | rfl | (rw [if_pos (by omega)]; done) | (rw [if_neg (by omega)]; done) | (rw [if_neg (by omega), if_pos (by omega)]; done) | (rw [if_neg (by omega), if_neg (by omega)]; done), show ((if (3 : Int) = 0 then u1 (f 29) (v 25) 0 else (f 29)) : Int → Int) = (f 29) from by first | rfl | (rw [if_pos (by omega)]; done) | (rw [if_neg (by omega)]; done) | (rw [if_neg (by omega), if_pos (by omega)]; done) | (rw [if_neg (by omega), if_neg (by omega)]; done), show ((if (3 : Int) = 1 ∨ (3 : Int) = 2 ∨ (3 : Int) = 9 then (f 30) else if (3 : Int) = 0 then u1 (ovH (v 25) a3 (f 30) (f 27) (fun k => (f 3) ((f 25) k))) (v 25) 0 else (ovH (v 25) a3 (f 30) (f 27) (fun k => (f 3) ((f 25) k)))) : Int → Int) = (ovH (v 25) a3 (f 30) (f 27) (fun k => (f 3) ((f 25) k))) from by first | rfl | (rw [if_pos (by omega)]; done) | (rw [if_neg (by omega)]; done) | (rw [if_neg (by omega), if_pos (by omega)]; done) | (rw [if_neg (by omega), if_neg (by omega)]; done)]), rfl, (by first | omega | ((repeat' split) <;> omega)), (by first | (rw [if_pos (by omega)]) | (rw [if_neg (by omega), if_pos (by omega)]; exact hpz) | (rw [if_neg (by omega), if_neg (by omega)]; first | rw [if_pos (by omega)] | rw [if_neg (by omega), if_pos (by omega)] | rw [if_neg (by omega), if_neg (by omega), if_pos (by omega)] | rw [if_neg (by omega), if_neg (by omega), if_neg (by omega), if_pos (by omega)] | rw [if_neg (by omega), if_neg (by omega), if_neg (by omega), if_neg (by omega), if_pos (by omega)] | rw [if_neg (by omega), if_neg (by omega), if_neg (by omega), if_neg (by omega), if_neg (by omega), ← hro, if_pos (by omega)] | rw [if_neg (by omega), if_neg (by omega), if_neg (by omega), if_neg (by omega), if_neg (by omega), ← hro, if_neg (by omega)])), (by first | exact hbg | (rw [if_neg (by omega), if_neg (by omega)]; exact hbg) | exact cntUp hbg (hbg _ (by omega) (by omega)))⟩
                        · refine lv_aload_n hx hb dX11_begin_218 rfl (lv_at hl 0 rfl) ?_
                          refine lv_bipush (v := iI 6) hx hb dX11_begin_219 (by decide) ?_
                          refine g_cv (As := [.int (iI 6)]) (rest := []) (n := 1) C hml (m_X11_refuse l D k A ad hD (va_up (va_up (va_up (va_up v 0 0) 1 0) 24 a3) 25 (v 25)) (va_up (va_up (va_up (va_up (va_up (va_up (va_up (va_up f 20 (f 20)) 24 (f 24)) 25 (f 25)) 26 (f 26)) 27 (f 27)) 28 (ovE (v 25) a3 (f 30) (f 27) (fun k => (f 3) ((f 25) k)) (f 28))) 29 (f 29)) 30 (ovH (v 25) a3 (f 30) (f 27) (fun k => (f 3) ((f 25) k)))) g 6 (by decide) (show 0 ≤ (6 : Int) ∧ (6 : Int) ≤ 10 from by omega)) mM_X11_295 mI_X11_refuse mE_X11_refuse mN_X11 mC_X11_refuse (by decide +kernel) 0 (ci := 11) rfl rfl hP hS (fun _ h => h) ⟨Nat.le_of_ble_eq_true rfl, Nat.le_of_ble_eq_true rfl⟩ ⟨Nat.zero_le _, Nat.zero_le _⟩ hl.1 rfl rfl (Nat.le_of_ble_eq_true rfl) dX11_begin_221 (fun r_36 v_36 f_36 g_36 H locs hq_36 hP _ hS => ?_)
                          obtain ⟨rfl, rfl, rfl, rfl⟩ := hq_36
                          show W p l e (gRm 2 56) s m args below meth c _ _ 0 0 Q (F0 m 224 ls [.int (iI (-1))])
                          have hP : gWd D (mdT k ad) (va_up (va_up (va_up (va_up v 0 (6 : Int)) 1 0) 24 a3) 25 (v 25)) (va_up (va_up (va_up (va_up (va_up (va_up (va_up (va_up f 20 (f 20)) 24 (f 24)) 25 (f 25)) 26 (f 26)) 27 (f 27)) 28 (ovE (v 25) a3 (f 30) (f 27) (fun k => (f 3) ((f 25) k)) (f 28))) 29 (f 29)) 30 (ovH (v 25) a3 (f 30) (f 27) (fun k => (f 3) ((f 25) k)))) g H := ⟨hP.1, (gF_up (V := mdV) (F := mdF) (gF_up (V := mdV) (F := mdF) (gF_up (V := mdV) (F := mdF) (gF_up (V := mdV) (F := mdF) (gF_up (V := mdV) (F := mdF) (gF_up (V := mdV) (F := mdF) (gF_up (V := mdV) (F := mdF) (gF_up (V := mdV) (F := mdF) (gR_up (V := mdV) (F := mdF) (gR_up (V := mdV) (F := mdF) (gR_up (V := mdV) (F := mdF) (gR_up (V := mdV) (F := mdF) ⟨hok.1, hok.2⟩ 0 (hP.2.1 0)) 1 (hP.2.1 1)) 24 (hP.2.1 24)) 25 (hP.2.1 25)) 20 (hP.2.2 20)) 24 (hP.2.2 24)) 25 (hP.2.2 25)) 26 (hP.2.2 26)) 27 (hP.2.2 27)) 28 (hP.2.2 28)) 29 (hP.2.2 29)) 30 (hP.2.2 30))⟩
                          exact g_iret hQ C hr hlocks hP hS dX11_begin_224 ⟨(-1), (6 : Int), rfl, (by rw [show ((if (6 : Int) = 1 ∨ (6 : Int) = 2 ∨ (6 : Int) = 9 then (v 24) else a3) : Int) = a3 from by first | rfl | omega | ((repeat' split) <;> omega), show ((if (6 : Int) = 0 then (v 25) + 1 else (v 25)) : Int) = (v 25) from by first | rfl | omega | ((repeat' split) <;> omega)]), (by rw [show ((if (6 : Int) = 0 then u1 (f 20) ((v 23) * 5 + a2) ((f 20) ((v 23) * 5 + a2) + 1) else (f 20)) : Int → Int) = (f 20) from by first | rfl | (rw [if_neg (by omega)]) | (rw [if_pos rfl, hat2]), show ((if (6 : Int) = 0 then u1 (f 24) (v 25) a1 else (f 24)) : Int → Int) = (f 24) from by first | rfl | (rw [if_pos (by omega)]; done) | (rw [if_neg (by omega)]; done) | (rw [if_neg (by omega), if_pos (by omega)]; done) | (rw [if_neg (by omega), if_neg (by omega)]; done), show ((if (6 : Int) = 0 then u1 (f 25) (v 25) (v 23) else (f 25)) : Int → Int) = (f 25) from by first | rfl | (rw [if_pos (by omega)]; done) | (rw [if_neg (by omega)]; done) | (rw [if_neg (by omega), if_pos (by omega)]; done) | (rw [if_neg (by omega), if_neg (by omega)]; done), show ((if (6 : Int) = 0 then u1 (f 26) (v 25) a2 else (f 26)) : Int → Int) = (f 26) from by first | rfl | (rw [if_pos (by omega)]; done) | (rw [if_neg (by omega)]; done) | (rw [if_neg (by omega), if_pos (by omega)]; done) | (rw [if_neg (by omega), if_neg (by omega)]; done), show ((if (6 : Int) = 0 then u1 (f 27) (v 25) a3 else (f 27)) : Int → Int) = (f 27) from by first | rfl | (rw [if_pos (by omega)]; done) | (rw [if_neg (by omega)]; done) | (rw [if_neg (by omega), if_pos (by omega)]; done) | (rw [if_neg (by omega), if_neg (by omega)]; done), show ((if (6 : Int) = 1 ∨ (6 : Int) = 2 ∨ (6 : Int) = 9 then (f 28) else if (6 : Int) = 0 then u1 (ovE (v 25) a3 (f 30) (f 27) (fun k => (f 3) ((f 25) k)) (f 28)) (v 25) (-1) else (ovE (v 25) a3 (f 30) (f 27) (fun k => (f 3) ((f 25) k)) (f 28))) : Int → Int) = (ovE (v 25) a3 (f 30) (f 27) (fun k => (f 3) ((f 25) k)) (f 28)) from by first | rfl | (rw [if_pos (by omega)]; done) | (rw [if_neg (by omega)]; done) | (rw [if_neg (by omega), if_pos (by omega)]; done) | (rw [if_neg (by omega), if_neg (by omega)]; done), show ((if (6 : Int) = 0 then u1 (f 29) (v 25) 0 else (f 29)) : Int → Int) = (f 29) from by first | rfl | (rw [if_pos (by omega)]; done) | (rw [if_neg (by omega)]; done) | (rw [if_neg (by omega), if_pos (by omega)]; done) | (rw [if_neg (by omega), if_neg (by omega)]; done), show ((if (6 : Int) = 1 ∨ (6 : Int) = 2 ∨ (6 : Int) = 9 then (f 30) else if (6 : Int) = 0 then u1 (ovH (v 25) a3 (f 30) (f 27) (fun k => (f 3) ((f 25) k))) (v 25) 0 else (ovH (v 25) a3 (f 30) (f 27) (fun k => (f 3) ((f 25) k)))) : Int → Int) = (ovH (v 25) a3 (f 30) (f 27) (fun k => (f 3) ((f 25) k))) from by first | rfl | (rw [if_pos (by omega)]; done) | (rw [if_neg (by omega)]; done) | (rw [if_neg (by omega), if_pos (by omega)]; done) | (rw [if_neg (by omega), if_neg (by omega)]; done)]), rfl, (by first | omega | ((repeat' split) <;> omega)), (by first | (rw [if_pos (by omega)]) | (rw [if_neg (by omega), if_pos (by omega)]; exact hpz) | (rw [if_neg (by omega), if_neg (by omega)]; first | rw [if_pos (by omega)] | rw [if_neg (by omega), if_pos (by omega)] | rw [if_neg (by omega), if_neg (by omega), if_pos (by omega)] | rw [if_neg (by omega), if_neg (by omega), if_neg (by omega), if_pos (by omega)] | rw [if_neg (by omega), if_neg (by omega), if_neg (by omega), if_neg (by omega), if_pos (by omega)] | rw [if_neg (by omega), if_neg (by omega), if_neg (by omega), if_neg (by omega), if_neg (by omega), ← hro, if_pos (by omega)] | rw [if_neg (by omega), if_neg (by omega), if_neg (by omega), if_neg (by omega), if_neg (by omega), ← hro, if_neg (by omega)])), (by first | exact hbg | (rw [if_neg (by omega), if_neg (by omega)]; exact hbg) | exact cntUp hbg (hbg _ (by omega) (by omega)))⟩
                    · refine lv_aload_n hx hb dX11_begin_117 rfl (lv_at hl 0 rfl) ?_
                      refine mdG_who C hP mF_X11_94 dX11_begin_118 ?_
                      refine lv_iload hx hb dX11_begin_121 (lv_at hl 7 rfl) ?_
                      refine mdL_who C hP (by omega) (by omega) dX11_begin_123 ?_
                      show W p l e (gRm 2 56) s m args below meth c _ _ 0 0 Q (F0 m 124 ls [.int (iI (f 24 x7))])
                      have r_37 : 0 ≤ (f 24 x7) ∧ (f 24 x7) ≤ 15 := hP.2.2 24 x7
                      refine lv_iload_n hx hb dX11_begin_124 rfl (lv_at hl 1 rfl) ?_
                      refine gi_cne (tgt := 193) hx hb dX11_begin_125 (by decide) (by omega) (by omega) (fun c_38 => ?_) (fun c_38 => ?_)
                      · refine lv_iinc (v := iI (x7 + 1)) (lv' := [(7, .int (iI (x7 + 1))), (0, .ref (ad 0)), (1, .int (iI a1)), (2, .int (iI a2)), (3, .int (iI a3)), (4, .int (iI z_12)), (5, .int (iI x5)), (6, .int (iI x6))]) hx hb dX11_begin_193 hl (k := 7) rfl (by show iI _ + iI 1 = _; rw [iI_add]) (by decide) rfl (fun ls hl => ?_)
                        refine lv_goto (tgt := 108) hx hb dX11_begin_196 (by decide) ?_
                        exact ih_108 x5 x6 (x7 + 1) _ _ _ (by omega) (by omega) (by omega) (by omega) (by first | (rw [cn_y (p := (pDo (f 24) (f 25) (f 26) (ovH (v 25) a3 (f 30) (f 27) (fun k => (f 3) ((f 25) k))) a1 (v 23) a2)) (by omega) (decide_eq_true (by omega))]; omega) | (rw [cn_n (p := (pDo (f 24) (f 25) (f 26) (ovH (v 25) a3 (f 30) (f 27) (fun k => (f 3) ((f 25) k))) a1 (v 23) a2)) (by omega) (decide_eq_false (by omega))]; omega)) (cn_r (by omega)).1 (fun h => by first | (exfalso; omega) | (rw [cn_n (p := (pTo (f 24) (f 25) (f 26) (ovH (v 25) a3 (f 30) (f 27) (fun k => (f 3) ((f 25) k))) a1 (v 23) a2)) (by omega) (decide_eq_false (by omega))]; omega)) (fun h => by have h9 := cn_mono (p := (pTo (f 24) (f 25) (f 26) (ovH (v 25) a3 (f 30) (f 27) (fun k => (f 3) ((f 25) k))) a1 (v 23) a2)) (x := x7) (by omega); first | omega | (rw [cn_y (p := (pTo (f 24) (f 25) (f 26) (ovH (v 25) a3 (f 30) (f 27) (fun k => (f 3) ((f 25) k))) a1 (v 23) a2)) (by omega) (decide_eq_true (by omega))]; omega)) hP hS (lv_sub hl [1, 2, 3, 4, 5, 6, 7, 0] rfl)
                      · refine lv_aload_n hx hb dX11_begin_128 rfl (lv_at hl 0 rfl) ?_
                        refine mdG_where C hP mF_X11_97 dX11_begin_129 ?_
                        refine lv_iload hx hb dX11_begin_132 (lv_at hl 7 rfl) ?_
                        refine mdL_where C hP (by omega) (by omega) dX11_begin_134 ?_
                        show W p l e (gRm 2 56) s m args below meth c _ _ 0 0 Q (F0 m 135 ls [.int (iI (f 25 x7))])
                        have r_39 : 0 ≤ (f 25 x7) ∧ (f 25 x7) ≤ 3 := hP.2.2 25 x7
                        refine lv_aload_n hx hb dX11_begin_135 rfl (lv_at hl 0 rfl) ?_
                        refine mdG_open C hP mF_X11_82 dX11_begin_136 ?_
                        show W p l e (gRm 2 56) s m args below meth c _ _ 0 0 Q (F0 m 139 ls [.int (iI (v 23)), .int (iI (f 25 x7))])
                        refine gi_cne (tgt := 193) hx hb dX11_begin_139 (by decide) (by omega) (by omega) (fun c_40 => ?_) (fun c_40 => ?_)
                        · refine lv_iinc (v := iI (x7 + 1)) (lv' := [(7, .int (iI (x7 + 1))), (0, .ref (ad 0)), (1, .int (iI a1)), (2, .int (iI a2)), (3, .int (iI a3)), (4, .int (iI z_12)), (5, .int (iI x5)), (6, .int (iI x6))]) hx hb dX11_begin_193 hl (k := 7) rfl (by show iI _ + iI 1 = _; rw [iI_add]) (by decide) rfl (fun ls hl => ?_)
                          refine lv_goto (tgt := 108) hx hb dX11_begin_196 (by decide) ?_
                          exact ih_108 x5 x6 (x7 + 1) _ _ _ (by omega) (by omega) (by omega) (by omega) (by first | (rw [cn_y (p := (pDo (f 24) (f 25) (f 26) (ovH (v 25) a3 (f 30) (f 27) (fun k => (f 3) ((f 25) k))) a1 (v 23) a2)) (by omega) (decide_eq_true (by omega))]; omega) | (rw [cn_n (p := (pDo (f 24) (f 25) (f 26) (ovH (v 25) a3 (f 30) (f 27) (fun k => (f 3) ((f 25) k))) a1 (v 23) a2)) (by omega) (decide_eq_false (by omega))]; omega)) (cn_r (by omega)).1 (fun h => by first | (exfalso; omega) | (rw [cn_n (p := (pTo (f 24) (f 25) (f 26) (ovH (v 25) a3 (f 30) (f 27) (fun k => (f 3) ((f 25) k))) a1 (v 23) a2)) (by omega) (decide_eq_false (by omega))]; omega)) (fun h => by have h9 := cn_mono (p := (pTo (f 24) (f 25) (f 26) (ovH (v 25) a3 (f 30) (f 27) (fun k => (f 3) ((f 25) k))) a1 (v 23) a2)) (x := x7) (by omega); first | omega | (rw [cn_y (p := (pTo (f 24) (f 25) (f 26) (ovH (v 25) a3 (f 30) (f 27) (fun k => (f 3) ((f 25) k))) a1 (v 23) a2)) (by omega) (decide_eq_true (by omega))]; omega)) hP hS (lv_sub hl [1, 2, 3, 4, 5, 6, 7, 0] rfl)
                        · refine lv_aload_n hx hb dX11_begin_142 rfl (lv_at hl 0 rfl) ?_
                          refine mdG_which C hP mF_X11_100 dX11_begin_143 ?_
                          refine lv_iload hx hb dX11_begin_146 (lv_at hl 7 rfl) ?_
                          refine mdL_which C hP (by omega) (by omega) dX11_begin_148 ?_
                          show W p l e (gRm 2 56) s m args below meth c _ _ 0 0 Q (F0 m 149 ls [.int (iI (f 26 x7))])
                          have r_41 : 0 ≤ (f 26 x7) ∧ (f 26 x7) ≤ 4 := hP.2.2 26 x7
                          refine lv_iload_n hx hb dX11_begin_149 rfl (lv_at hl 2 rfl) ?_
                          refine gi_cne (tgt := 193) hx hb dX11_begin_150 (by decide) (by omega) (by omega) (fun c_42 => ?_) (fun c_42 => ?_)
                          · refine lv_iinc (v := iI (x7 + 1)) (lv' := [(7, .int (iI (x7 + 1))), (0, .ref (ad 0)), (1, .int (iI a1)), (2, .int (iI a2)), (3, .int (iI a3)), (4, .int (iI z_12)), (5, .int (iI x5)), (6, .int (iI x6))]) hx hb dX11_begin_193 hl (k := 7) rfl (by show iI _ + iI 1 = _; rw [iI_add]) (by decide) rfl (fun ls hl => ?_)
                            refine lv_goto (tgt := 108) hx hb dX11_begin_196 (by decide) ?_
                            exact ih_108 x5 x6 (x7 + 1) _ _ _ (by omega) (by omega) (by omega) (by omega) (by first | (rw [cn_y (p := (pDo (f 24) (f 25) (f 26) (ovH (v 25) a3 (f 30) (f 27) (fun k => (f 3) ((f 25) k))) a1 (v 23) a2)) (by omega) (decide_eq_true (by omega))]; omega) | (rw [cn_n (p := (pDo (f 24) (f 25) (f 26) (ovH (v 25) a3 (f 30) (f 27) (fun k => (f 3) ((f 25) k))) a1 (v 23) a2)) (by omega) (decide_eq_false (by omega))]; omega)) (cn_r (by omega)).1 (fun h => by first | (exfalso; omega) | (rw [cn_n (p := (pTo (f 24) (f 25) (f 26) (ovH (v 25) a3 (f 30) (f 27) (fun k => (f 3) ((f 25) k))) a1 (v 23) a2)) (by omega) (decide_eq_false (by omega))]; omega)) (fun h => by have h9 := cn_mono (p := (pTo (f 24) (f 25) (f 26) (ovH (v 25) a3 (f 30) (f 27) (fun k => (f 3) ((f 25) k))) a1 (v 23) a2)) (x := x7) (by omega); first | omega | (rw [cn_y (p := (pTo (f 24) (f 25) (f 26) (ovH (v 25) a3 (f 30) (f 27) (fun k => (f 3) ((f 25) k))) a1 (v 23) a2)) (by omega) (decide_eq_true (by omega))]; omega)) hP hS (lv_sub hl [1, 2, 3, 4, 5, 6, 7, 0] rfl)
                          · refine lv_aload_n hx hb dX11_begin_153 rfl (lv_at hl 0 rfl) ?_
                            refine mdG_how C hP mF_X11_112 dX11_begin_154 ?_
                            refine lv_iload hx hb dX11_begin_157 (lv_at hl 7 rfl) ?_
                            refine mdL_how C hP (by omega) (by omega) dX11_begin_159 ?_
                            show W p l e (gRm 2 56) s m args below meth c _ _ 0 0 Q (F0 m 160 ls [.int (iI ((ovH (v 25) a3 (f 30) (f 27) (fun k => (f 3) ((f 25) k))) x7))])
                            have r_43 : 0 ≤ ((ovH (v 25) a3 (f 30) (f 27) (fun k => (f 3) ((f 25) k))) x7) ∧ ((ovH (v 25) a3 (f 30) (f 27) (fun k => (f 3) ((f 25) k))) x7) ≤ 4 := hP.2.2 30 x7
                            refine lv_iconst (v := iI 4) hx hb dX11_begin_160 rfl ?_
                            refine gi_cne (tgt := 167) hx hb dX11_begin_161 (by decide) (by omega) (by decide) (fun c_44 => ?_) (fun c_44 => ?_)
                            · refine lv_iinc (v := iI (x5 + 1)) (lv' := [(5, .int (iI (x5 + 1))), (0, .ref (ad 0)), (1, .int (iI a1)), (2, .int (iI a2)), (3, .int (iI a3)), (4, .int (iI z_12)), (6, .int (iI x6)), (7, .int (iI x7))]) hx hb dX11_begin_167 hl (k := 5) rfl (by show iI _ + iI 1 = _; rw [iI_add]) (by decide) rfl (fun ls hl => ?_)
                              refine lv_iload hx hb dX11_begin_170 (lv_at hl 6 rfl) ?_
                              refine gi_zne (tgt := 186) hx hb dX11_begin_172 (by decide) (by omega) (fun c_45 => ?_) (fun c_45 => ?_)
                              · refine lv_iconst (v := iI 1) hx hb dX11_begin_186 rfl ?_
                                refine lv_goto (tgt := 191) hx hb dX11_begin_187 (by decide) ?_
                                refine lv_istore (lv' := [(6, .int (iI 1)), (5, .int (iI (x5 + 1))), (0, .ref (ad 0)), (1, .int (iI a1)), (2, .int (iI a2)), (3, .int (iI a3)), (4, .int (iI z_12)), (7, .int (iI x7))]) hx hb dX11_begin_191 hl (by decide) rfl (fun ls hl => ?_)
                                refine lv_iinc (v := iI (x7 + 1)) (lv' := [(7, .int (iI (x7 + 1))), (6, .int (iI 1)), (5, .int (iI (x5 + 1))), (0, .ref (ad 0)), (1, .int (iI a1)), (2, .int (iI a2)), (3, .int (iI a3)), (4, .int (iI z_12))]) hx hb dX11_begin_193 hl (k := 7) rfl (by show iI _ + iI 1 = _; rw [iI_add]) (by decide) rfl (fun ls hl => ?_)
                                refine lv_goto (tgt := 108) hx hb dX11_begin_196 (by decide) ?_
                                exact ih_108 (x5 + 1) 1 (x7 + 1) _ _ _ (by omega) (by omega) (by omega) (by omega) (by first | (rw [cn_y (p := (pDo (f 24) (f 25) (f 26) (ovH (v 25) a3 (f 30) (f 27) (fun k => (f 3) ((f 25) k))) a1 (v 23) a2)) (by omega) (decide_eq_true (by omega))]; omega) | (rw [cn_n (p := (pDo (f 24) (f 25) (f 26) (ovH (v 25) a3 (f 30) (f 27) (fun k => (f 3) ((f 25) k))) a1 (v 23) a2)) (by omega) (decide_eq_false (by omega))]; omega)) (cn_r (by omega)).1 (fun h => by first | (exfalso; omega) | (rw [cn_n (p := (pTo (f 24) (f 25) (f 26) (ovH (v 25) a3 (f 30) (f 27) (fun k => (f 3) ((f 25) k))) a1 (v 23) a2)) (by omega) (decide_eq_false (by omega))]; omega)) (fun h => by have h9 := cn_mono (p := (pTo (f 24) (f 25) (f 26) (ovH (v 25) a3 (f 30) (f 27) (fun k => (f 3) ((f 25) k))) a1 (v 23) a2)) (x := x7) (by omega); first | omega | (rw [cn_y (p := (pTo (f 24) (f 25) (f 26) (ovH (v 25) a3 (f 30) (f 27) (fun k => (f 3) ((f 25) k))) a1 (v 23) a2)) (by omega) (decide_eq_true (by omega))]; omega)) hP hS (lv_sub hl [3, 4, 5, 6, 7, 2, 1, 0] rfl)
                              · refine lv_aload_n hx hb dX11_begin_175 rfl (lv_at hl 1 rfl) ?_
                                refine mdG_how C hP mF_X11_112 dX11_begin_176 ?_
                                refine lv_iload hx hb dX11_begin_179 (lv_at hl 7 rfl) ?_
                                refine mdL_how C hP (by omega) (by omega) dX11_begin_181 ?_
                                show W p l e (gRm 2 56) s m args below meth c _ _ 0 0 Q (F0 m 182 ls [.int (iI ((ovH (v 25) a3 (f 30) (f 27) (fun k => (f 3) ((f 25) k))) x7))])
                                refine lv_iconst (v := iI 1) hx hb dX11_begin_182 rfl ?_
                                refine gi_cne (tgt := 190) hx hb dX11_begin_183 (by decide) (by omega) (by decide) (fun c_46 => ?_) (fun c_46 => ?_)
                                · refine lv_iconst (v := iI 0) hx hb dX11_begin_190 rfl ?_
                                  refine lv_istore (lv' := [(6, .int (iI 0)), (5, .int (iI (x5 + 1))), (0, .ref (ad 0)), (1, .int (iI a1)), (2, .int (iI a2)), (3, .int (iI a3)), (4, .int (iI z_12)), (7, .int (iI x7))]) hx hb dX11_begin_191 hl (by decide) rfl (fun ls hl => ?_)
                                  refine lv_iinc (v := iI (x7 + 1)) (lv' := [(7, .int (iI (x7 + 1))), (6, .int (iI 0)), (5, .int (iI (x5 + 1))), (0, .ref (ad 0)), (1, .int (iI a1)), (2, .int (iI a2)), (3, .int (iI a3)), (4, .int (iI z_12))]) hx hb dX11_begin_193 hl (k := 7) rfl (by show iI _ + iI 1 = _; rw [iI_add]) (by decide) rfl (fun ls hl => ?_)
                                  refine lv_goto (tgt := 108) hx hb dX11_begin_196 (by decide) ?_
                                  exact ih_108 (x5 + 1) 0 (x7 + 1) _ _ _ (by omega) (by omega) (by omega) (by omega) (by first | (rw [cn_y (p := (pDo (f 24) (f 25) (f 26) (ovH (v 25) a3 (f 30) (f 27) (fun k => (f 3) ((f 25) k))) a1 (v 23) a2)) (by omega) (decide_eq_true (by omega))]; omega) | (rw [cn_n (p := (pDo (f 24) (f 25) (f 26) (ovH (v 25) a3 (f 30) (f 27) (fun k => (f 3) ((f 25) k))) a1 (v 23) a2)) (by omega) (decide_eq_false (by omega))]; omega)) (cn_r (by omega)).1 (fun h => by first | (exfalso; omega) | (rw [cn_n (p := (pTo (f 24) (f 25) (f 26) (ovH (v 25) a3 (f 30) (f 27) (fun k => (f 3) ((f 25) k))) a1 (v 23) a2)) (by omega) (decide_eq_false (by omega))]; omega)) (fun h => by have h9 := cn_mono (p := (pTo (f 24) (f 25) (f 26) (ovH (v 25) a3 (f 30) (f 27) (fun k => (f 3) ((f 25) k))) a1 (v 23) a2)) (x := x7) (by omega); first | omega | (rw [cn_y (p := (pTo (f 24) (f 25) (f 26) (ovH (v 25) a3 (f 30) (f 27) (fun k => (f 3) ((f 25) k))) a1 (v 23) a2)) (by omega) (decide_eq_true (by omega))]; omega)) hP hS (lv_sub hl [3, 4, 5, 6, 7, 2, 1, 0] rfl)
                                · refine lv_iconst (v := iI 1) hx hb dX11_begin_186 rfl ?_
                                  refine lv_goto (tgt := 191) hx hb dX11_begin_187 (by decide) ?_
                                  refine lv_istore (lv' := [(6, .int (iI 1)), (5, .int (iI (x5 + 1))), (0, .ref (ad 0)), (1, .int (iI a1)), (2, .int (iI a2)), (3, .int (iI a3)), (4, .int (iI z_12)), (7, .int (iI x7))]) hx hb dX11_begin_191 hl (by decide) rfl (fun ls hl => ?_)
                                  refine lv_iinc (v := iI (x7 + 1)) (lv' := [(7, .int (iI (x7 + 1))), (6, .int (iI 1)), (5, .int (iI (x5 + 1))), (0, .ref (ad 0)), (1, .int (iI a1)), (2, .int (iI a2)), (3, .int (iI a3)), (4, .int (iI z_12))]) hx hb dX11_begin_193 hl (k := 7) rfl (by show iI _ + iI 1 = _; rw [iI_add]) (by decide) rfl (fun ls hl => ?_)
                                  refine lv_goto (tgt := 108) hx hb dX11_begin_196 (by decide) ?_
                                  exact ih_108 (x5 + 1) 1 (x7 + 1) _ _ _ (by omega) (by omega) (by omega) (by omega) (by first | (rw [cn_y (p := (pDo (f 24) (f 25) (f 26) (ovH (v 25) a3 (f 30) (f 27) (fun k => (f 3) ((f 25) k))) a1 (v 23) a2)) (by omega) (decide_eq_true (by omega))]; omega) | (rw [cn_n (p := (pDo (f 24) (f 25) (f 26) (ovH (v 25) a3 (f 30) (f 27) (fun k => (f 3) ((f 25) k))) a1 (v 23) a2)) (by omega) (decide_eq_false (by omega))]; omega)) (cn_r (by omega)).1 (fun h => by first | (exfalso; omega) | (rw [cn_n (p := (pTo (f 24) (f 25) (f 26) (ovH (v 25) a3 (f 30) (f 27) (fun k => (f 3) ((f 25) k))) a1 (v 23) a2)) (by omega) (decide_eq_false (by omega))]; omega)) (fun h => by have h9 := cn_mono (p := (pTo (f 24) (f 25) (f 26) (ovH (v 25) a3 (f 30) (f 27) (fun k => (f 3) ((f 25) k))) a1 (v 23) a2)) (x := x7) (by omega); first | omega | (rw [cn_y (p := (pTo (f 24) (f 25) (f 26) (ovH (v 25) a3 (f 30) (f 27) (fun k => (f 3) ((f 25) k))) a1 (v 23) a2)) (by omega) (decide_eq_true (by omega))]; omega)) hP hS (lv_sub hl [3, 4, 5, 6, 7, 2, 1, 0] rfl)
                            · refine lv_goto (tgt := 193) hx hb dX11_begin_164 (by decide) ?_
                              refine lv_iinc (v := iI (x7 + 1)) (lv' := [(7, .int (iI (x7 + 1))), (0, .ref (ad 0)), (1, .int (iI a1)), (2, .int (iI a2)), (3, .int (iI a3)), (4, .int (iI z_12)), (5, .int (iI x5)), (6, .int (iI x6))]) hx hb dX11_begin_193 hl (k := 7) rfl (by show iI _ + iI 1 = _; rw [iI_add]) (by decide) rfl (fun ls hl => ?_)
                              refine lv_goto (tgt := 108) hx hb dX11_begin_196 (by decide) ?_
                              exact ih_108 x5 x6 (x7 + 1) _ _ _ (by omega) (by omega) (by omega) (by omega) (by first | (rw [cn_y (p := (pDo (f 24) (f 25) (f 26) (ovH (v 25) a3 (f 30) (f 27) (fun k => (f 3) ((f 25) k))) a1 (v 23) a2)) (by omega) (decide_eq_true (by omega))]; omega) | (rw [cn_n (p := (pDo (f 24) (f 25) (f 26) (ovH (v 25) a3 (f 30) (f 27) (fun k => (f 3) ((f 25) k))) a1 (v 23) a2)) (by omega) (decide_eq_false (by omega))]; omega)) (cn_r (by omega)).1 (fun h => by first | (exfalso; omega) | (rw [cn_n (p := (pTo (f 24) (f 25) (f 26) (ovH (v 25) a3 (f 30) (f 27) (fun k => (f 3) ((f 25) k))) a1 (v 23) a2)) (by omega) (decide_eq_false (by omega))]; omega)) (fun h => by have h9 := cn_mono (p := (pTo (f 24) (f 25) (f 26) (ovH (v 25) a3 (f 30) (f 27) (fun k => (f 3) ((f 25) k))) a1 (v 23) a2)) (x := x7) (by omega); first | omega | (rw [cn_y (p := (pTo (f 24) (f 25) (f 26) (ovH (v 25) a3 (f 30) (f 27) (fun k => (f 3) ((f 25) k))) a1 (v 23) a2)) (by omega) (decide_eq_true (by omega))]; omega)) hP hS (lv_sub hl [1, 2, 3, 4, 5, 6, 7, 0] rfl)
                exact L_18 301 0 0 0 _ _ _ (by omega) (by omega) (by omega) (by omega) rfl (Int.le_refl 0) (fun _ => rfl) (fun h => by omega) hP hS (lv_sub hl [4, 5, 6, 7, 3, 2, 1, 0] rfl)
              · refine lv_aload_n hx hb dX11_begin_93 rfl (lv_at hl 1 rfl) ?_
                refine lv_iconst (v := iI 5) hx hb dX11_begin_94 rfl ?_
                refine g_cv (As := [.int (iI 5)]) (rest := []) (n := 1) C hml (m_X11_refuse l D k A ad hD (va_up (va_up (va_up (va_up v 0 0) 1 0) 24 a3) 25 (v 25)) (va_up (va_up (va_up (va_up (va_up (va_up (va_up (va_up f 20 (f 20)) 24 (f 24)) 25 (f 25)) 26 (f 26)) 27 (f 27)) 28 (ovE (v 25) a3 (f 30) (f 27) (fun k => (f 3) ((f 25) k)) (f 28))) 29 (f 29)) 30 (ovH (v 25) a3 (f 30) (f 27) (fun k => (f 3) ((f 25) k)))) g 5 (by decide) (show 0 ≤ (5 : Int) ∧ (5 : Int) ≤ 10 from by omega)) mM_X11_295 mI_X11_refuse mE_X11_refuse mN_X11 mC_X11_refuse (by decide +kernel) 0 (ci := 11) rfl rfl hP hS (fun _ h => h) ⟨Nat.le_of_ble_eq_true rfl, Nat.le_of_ble_eq_true rfl⟩ ⟨Nat.zero_le _, Nat.zero_le _⟩ hl.1 rfl rfl (Nat.le_of_ble_eq_true rfl) dX11_begin_95 (fun r_47 v_47 f_47 g_47 H locs hq_47 hP _ hS => ?_)
                obtain ⟨rfl, rfl, rfl, rfl⟩ := hq_47
                show W p l e (gRm 2 56) s m args below meth c _ _ 0 0 Q (F0 m 98 ls [.int (iI (-1))])
                have hP : gWd D (mdT k ad) (va_up (va_up (va_up (va_up v 0 (5 : Int)) 1 0) 24 a3) 25 (v 25)) (va_up (va_up (va_up (va_up (va_up (va_up (va_up (va_up f 20 (f 20)) 24 (f 24)) 25 (f 25)) 26 (f 26)) 27 (f 27)) 28 (ovE (v 25) a3 (f 30) (f 27) (fun k => (f 3) ((f 25) k)) (f 28))) 29 (f 29)) 30 (ovH (v 25) a3 (f 30) (f 27) (fun k => (f 3) ((f 25) k)))) g H := ⟨hP.1, (gF_up (V := mdV) (F := mdF) (gF_up (V := mdV) (F := mdF) (gF_up (V := mdV) (F := mdF) (gF_up (V := mdV) (F := mdF) (gF_up (V := mdV) (F := mdF) (gF_up (V := mdV) (F := mdF) (gF_up (V := mdV) (F := mdF) (gF_up (V := mdV) (F := mdF) (gR_up (V := mdV) (F := mdF) (gR_up (V := mdV) (F := mdF) (gR_up (V := mdV) (F := mdF) (gR_up (V := mdV) (F := mdF) ⟨hok.1, hok.2⟩ 0 (hP.2.1 0)) 1 (hP.2.1 1)) 24 (hP.2.1 24)) 25 (hP.2.1 25)) 20 (hP.2.2 20)) 24 (hP.2.2 24)) 25 (hP.2.2 25)) 26 (hP.2.2 26)) 27 (hP.2.2 27)) 28 (hP.2.2 28)) 29 (hP.2.2 29)) 30 (hP.2.2 30))⟩
                exact g_iret hQ C hr hlocks hP hS dX11_begin_98 ⟨(-1), (5 : Int), rfl, (by rw [show ((if (5 : Int) = 1 ∨ (5 : Int) = 2 ∨ (5 : Int) = 9 then (v 24) else a3) : Int) = a3 from by first | rfl | omega | ((repeat' split) <;> omega), show ((if (5 : Int) = 0 then (v 25) + 1 else (v 25)) : Int) = (v 25) from by first | rfl | omega | ((repeat' split) <;> omega)]), (by rw [show ((if (5 : Int) = 0 then u1 (f 20) ((v 23) * 5 + a2) ((f 20) ((v 23) * 5 + a2) + 1) else (f 20)) : Int → Int) = (f 20) from by first | rfl | (rw [if_neg (by omega)]) | (rw [if_pos rfl, hat2]), show ((if (5 : Int) = 0 then u1 (f 24) (v 25) a1 else (f 24)) : Int → Int) = (f 24) from by first | rfl | (rw [if_pos (by omega)]; done) | (rw [if_neg (by omega)]; done) | (rw [if_neg (by omega), if_pos (by omega)]; done) | (rw [if_neg (by omega), if_neg (by omega)]; done), show ((if (5 : Int) = 0 then u1 (f 25) (v 25) (v 23) else (f 25)) : Int → Int) = (f 25) from by first | rfl | (rw [if_pos (by omega)]; done) | (rw [if_neg (by omega)]; done) | (rw [if_neg (by omega), if_pos (by omega)]; done) | (rw [if_neg (by omega), if_neg (by omega)]; done), show ((if (5 : Int) = 0 then u1 (f 26) (v 25) a2 else (f 26)) : Int → Int) = (f 26) from by first | rfl | (rw [if_pos (by omega)]; done) | (rw [if_neg (by omega)]; done) | (rw [if_neg (by omega), if_pos (by omega)]; done) | (rw [if_neg (by omega), if_neg (by omega)]; done), show ((if (5 : Int) = 0 then u1 (f 27) (v 25) a3 else (f 27)) : Int → Int) = (f 27) from by first | rfl | (rw [if_pos (by omega)]; done) | (rw [if_neg (by omega)]; done) | (rw [if_neg (by omega), if_pos (by omega)]; done) | (rw [if_neg (by omega), if_neg (by omega)]; done), show ((if (5 : Int) = 1 ∨ (5 : Int) = 2 ∨ (5 : Int) = 9 then (f 28) else if (5 : Int) = 0 then u1 (ovE (v 25) a3 (f 30) (f 27) (fun k => (f 3) ((f 25) k)) (f 28)) (v 25) (-1) else (ovE (v 25) a3 (f 30) (f 27) (fun k => (f 3) ((f 25) k)) (f 28))) : Int → Int) = (ovE (v 25) a3 (f 30) (f 27) (fun k => (f 3) ((f 25) k)) (f 28)) from by first | rfl | (rw [if_pos (by omega)]; done) | (rw [if_neg (by omega)]; done) | (rw [if_neg (by omega), if_pos (by omega)]; done) | (rw [if_neg (by omega), if_neg (by omega)]; done), show ((if (5 : Int) = 0 then u1 (f 29) (v 25) 0 else (f 29)) : Int → Int) = (f 29) from by first | rfl | (rw [if_pos (by omega)]; done) | (rw [if_neg (by omega)]; done) | (rw [if_neg (by omega), if_pos (by omega)]; done) | (rw [if_neg (by omega), if_neg (by omega)]; done), show ((if (5 : Int) = 1 ∨ (5 : Int) = 2 ∨ (5 : Int) = 9 then (f 30) else if (5 : Int) = 0 then u1 (ovH (v 25) a3 (f 30) (f 27) (fun k => (f 3) ((f 25) k))) (v 25) 0 else (ovH (v 25) a3 (f 30) (f 27) (fun k => (f 3) ((f 25) k)))) : Int → Int) = (ovH (v 25) a3 (f 30) (f 27) (fun k => (f 3) ((f 25) k))) from by first | rfl | (rw [if_pos (by omega)]; done) | (rw [if_neg (by omega)]; done) | (rw [if_neg (by omega), if_pos (by omega)]; done) | (rw [if_neg (by omega), if_neg (by omega)]; done)]), rfl, (by first | omega | ((repeat' split) <;> omega)), (by first | (rw [if_pos (by omega)]) | (rw [if_neg (by omega), if_pos (by omega)]; exact hpz) | (rw [if_neg (by omega), if_neg (by omega)]; first | rw [if_pos (by omega)] | rw [if_neg (by omega), if_pos (by omega)] | rw [if_neg (by omega), if_neg (by omega), if_pos (by omega)] | rw [if_neg (by omega), if_neg (by omega), if_neg (by omega), if_pos (by omega)] | rw [if_neg (by omega), if_neg (by omega), if_neg (by omega), if_neg (by omega), if_pos (by omega)] | rw [if_neg (by omega), if_neg (by omega), if_neg (by omega), if_neg (by omega), if_neg (by omega), ← hro, if_pos (by omega)] | rw [if_neg (by omega), if_neg (by omega), if_neg (by omega), if_neg (by omega), if_neg (by omega), ← hro, if_neg (by omega)])), (by first | exact hbg | (rw [if_neg (by omega), if_neg (by omega)]; exact hbg) | exact cntUp hbg (hbg _ (by omega) (by omega)))⟩
            · refine lv_aload_n hx hb dX11_begin_79 rfl (lv_at hl 1 rfl) ?_
              refine lv_iconst (v := iI 4) hx hb dX11_begin_80 rfl ?_
              refine g_cv (As := [.int (iI 4)]) (rest := []) (n := 1) C hml (m_X11_refuse l D k A ad hD (va_up (va_up (va_up (va_up v 0 0) 1 0) 24 a3) 25 (v 25)) (va_up (va_up (va_up (va_up (va_up (va_up (va_up (va_up f 20 (f 20)) 24 (f 24)) 25 (f 25)) 26 (f 26)) 27 (f 27)) 28 (ovE (v 25) a3 (f 30) (f 27) (fun k => (f 3) ((f 25) k)) (f 28))) 29 (f 29)) 30 (ovH (v 25) a3 (f 30) (f 27) (fun k => (f 3) ((f 25) k)))) g 4 (by decide) (show 0 ≤ (4 : Int) ∧ (4 : Int) ≤ 10 from by omega)) mM_X11_295 mI_X11_refuse mE_X11_refuse mN_X11 mC_X11_refuse (by decide +kernel) 0 (ci := 11) rfl rfl hP hS (fun _ h => h) ⟨Nat.le_of_ble_eq_true rfl, Nat.le_of_ble_eq_true rfl⟩ ⟨Nat.zero_le _, Nat.zero_le _⟩ hl.1 rfl rfl (Nat.le_of_ble_eq_true rfl) dX11_begin_81 (fun r_48 v_48 f_48 g_48 H locs hq_48 hP _ hS => ?_)
              obtain ⟨rfl, rfl, rfl, rfl⟩ := hq_48
              show W p l e (gRm 2 56) s m args below meth c _ _ 0 0 Q (F0 m 84 ls [.int (iI (-1))])
              have hP : gWd D (mdT k ad) (va_up (va_up (va_up (va_up v 0 (4 : Int)) 1 0) 24 a3) 25 (v 25)) (va_up (va_up (va_up (va_up (va_up (va_up (va_up (va_up f 20 (f 20)) 24 (f 24)) 25 (f 25)) 26 (f 26)) 27 (f 27)) 28 (ovE (v 25) a3 (f 30) (f 27) (fun k => (f 3) ((f 25) k)) (f 28))) 29 (f 29)) 30 (ovH (v 25) a3 (f 30) (f 27) (fun k => (f 3) ((f 25) k)))) g H := ⟨hP.1, (gF_up (V := mdV) (F := mdF) (gF_up (V := mdV) (F := mdF) (gF_up (V := mdV) (F := mdF) (gF_up (V := mdV) (F := mdF) (gF_up (V := mdV) (F := mdF) (gF_up (V := mdV) (F := mdF) (gF_up (V := mdV) (F := mdF) (gF_up (V := mdV) (F := mdF) (gR_up (V := mdV) (F := mdF) (gR_up (V := mdV) (F := mdF) (gR_up (V := mdV) (F := mdF) (gR_up (V := mdV) (F := mdF) ⟨hok.1, hok.2⟩ 0 (hP.2.1 0)) 1 (hP.2.1 1)) 24 (hP.2.1 24)) 25 (hP.2.1 25)) 20 (hP.2.2 20)) 24 (hP.2.2 24)) 25 (hP.2.2 25)) 26 (hP.2.2 26)) 27 (hP.2.2 27)) 28 (hP.2.2 28)) 29 (hP.2.2 29)) 30 (hP.2.2 30))⟩
              exact g_iret hQ C hr hlocks hP hS dX11_begin_84 ⟨(-1), (4 : Int), rfl, (by rw [show ((if (4 : Int) = 1 ∨ (4 : Int) = 2 ∨ (4 : Int) = 9 then (v 24) else a3) : Int) = a3 from by first | rfl | omega | ((repeat' split) <;> omega), show ((if (4 : Int) = 0 then (v 25) + 1 else (v 25)) : Int) = (v 25) from by first | rfl | omega | ((repeat' split) <;> omega)]), (by rw [show ((if (4 : Int) = 0 then u1 (f 20) ((v 23) * 5 + a2) ((f 20) ((v 23) * 5 + a2) + 1) else (f 20)) : Int → Int) = (f 20) from by first | rfl | (rw [if_neg (by omega)]) | (rw [if_pos rfl, hat2]), show ((if (4 : Int) = 0 then u1 (f 24) (v 25) a1 else (f 24)) : Int → Int) = (f 24) from by first | rfl | (rw [if_pos (by omega)]; done) | (rw [if_neg (by omega)]; done) | (rw [if_neg (by omega), if_pos (by omega)]; done) | (rw [if_neg (by omega), if_neg (by omega)]; done), show ((if (4 : Int) = 0 then u1 (f 25) (v 25) (v 23) else (f 25)) : Int → Int) = (f 25) from by first | rfl | (rw [if_pos (by omega)]; done) | (rw [if_neg (by omega)]; done) | (rw [if_neg (by omega), if_pos (by omega)]; done) | (rw [if_neg (by omega), if_neg (by omega)]; done), show ((if (4 : Int) = 0 then u1 (f 26) (v 25) a2 else (f 26)) : Int → Int) = (f 26) from by first | rfl | (rw [if_pos (by omega)]; done) | (rw [if_neg (by omega)]; done) | (rw [if_neg (by omega), if_pos (by omega)]; done) | (rw [if_neg (by omega), if_neg (by omega)]; done), show ((if (4 : Int) = 0 then u1 (f 27) (v 25) a3 else (f 27)) : Int → Int) = (f 27) from by first | rfl | (rw [if_pos (by omega)]; done) | (rw [if_neg (by omega)]; done) | (rw [if_neg (by omega), if_pos (by omega)]; done) | (rw [if_neg (by omega), if_neg (by omega)]; done), show ((if (4 : Int) = 1 ∨ (4 : Int) = 2 ∨ (4 : Int) = 9 then (f 28) else if (4 : Int) = 0 then u1 (ovE (v 25) a3 (f 30) (f 27) (fun k => (f 3) ((f 25) k)) (f 28)) (v 25) (-1) else (ovE (v 25) a3 (f 30) (f 27) (fun k => (f 3) ((f 25) k)) (f 28))) : Int → Int) = (ovE (v 25) a3 (f 30) (f 27) (fun k => (f 3) ((f 25) k)) (f 28)) from by first | rfl | (rw [if_pos (by omega)]; done) | (rw [if_neg (by omega)]; done) | (rw [if_neg (by omega), if_pos (by omega)]; done) | (rw [if_neg (by omega), if_neg (by omega)]; done), show ((if (4 : Int) = 0 then u1 (f 29) (v 25) 0 else (f 29)) : Int → Int) = (f 29) from by first | rfl | (rw [if_pos (by omega)]; done) | (rw [if_neg (by omega)]; done) | (rw [if_neg (by omega), if_pos (by omega)]; done) | (rw [if_neg (by omega), if_neg (by omega)]; done), show ((if (4 : Int) = 1 ∨ (4 : Int) = 2 ∨ (4 : Int) = 9 then (f 30) else if (4 : Int) = 0 then u1 (ovH (v 25) a3 (f 30) (f 27) (fun k => (f 3) ((f 25) k))) (v 25) 0 else (ovH (v 25) a3 (f 30) (f 27) (fun k => (f 3) ((f 25) k)))) : Int → Int) = (ovH (v 25) a3 (f 30) (f 27) (fun k => (f 3) ((f 25) k))) from by first | rfl | (rw [if_pos (by omega)]; done) | (rw [if_neg (by omega)]; done) | (rw [if_neg (by omega), if_pos (by omega)]; done) | (rw [if_neg (by omega), if_neg (by omega)]; done)]), rfl, (by first | omega | ((repeat' split) <;> omega)), (by first | (rw [if_pos (by omega)]) | (rw [if_neg (by omega), if_pos (by omega)]; exact hpz) | (rw [if_neg (by omega), if_neg (by omega)]; first | rw [if_pos (by omega)] | rw [if_neg (by omega), if_pos (by omega)] | rw [if_neg (by omega), if_neg (by omega), if_pos (by omega)] | rw [if_neg (by omega), if_neg (by omega), if_neg (by omega), if_pos (by omega)] | rw [if_neg (by omega), if_neg (by omega), if_neg (by omega), if_neg (by omega), if_pos (by omega)] | rw [if_neg (by omega), if_neg (by omega), if_neg (by omega), if_neg (by omega), if_neg (by omega), ← hro, if_pos (by omega)] | rw [if_neg (by omega), if_neg (by omega), if_neg (by omega), if_neg (by omega), if_neg (by omega), ← hro, if_neg (by omega)])), (by first | exact hbg | (rw [if_neg (by omega), if_neg (by omega)]; exact hbg) | exact cntUp hbg (hbg _ (by omega) (by omega)))⟩
          · exfalso; omega
        · replace hP : gWd D (mdT k ad) (va_up (va_up (va_up (va_up v 0 0) 1 0) 24 (v 24)) 25 (v 25)) (va_up (va_up (va_up (va_up (va_up (va_up (va_up (va_up f 20 (f 20)) 24 (f 24)) 25 (f 25)) 26 (f 26)) 27 (f 27)) 28 (f 28)) 29 (f 29)) 30 (f 30)) g H := by have h9 := hP; simp only [if_neg hzp] at h9; exact h9
          refine lv_istore (lv' := [(4, .int (iI z_12)), (0, .ref (ad 0)), (1, .int (iI a1)), (2, .int (iI a2)), (3, .int (iI a3))]) hx hb dX11_begin_48 hl (by decide) rfl (fun ls hl => ?_)
          refine lv_iload hx hb dX11_begin_50 (lv_at hl 0 rfl) ?_
          refine gi_zle (tgt := 62) hx hb dX11_begin_52 (by decide) (by omega) (fun c_49 => ?_) (fun c_49 => ?_)
          · exfalso; omega
          · refine lv_aload_n hx hb dX11_begin_55 rfl (lv_at hl 1 rfl) ?_
            refine lv_iload hx hb dX11_begin_56 (lv_at hl 0 rfl) ?_
            refine g_cv (As := [.int (iI z_12)]) (rest := []) (n := 1) C hml (m_X11_refuse l D k A ad hD (va_up (va_up (va_up (va_up v 0 0) 1 0) 24 (v 24)) 25 (v 25)) (va_up (va_up (va_up (va_up (va_up (va_up (va_up (va_up f 20 (f 20)) 24 (f 24)) 25 (f 25)) 26 (f 26)) 27 (f 27)) 28 (f 28)) 29 (f 29)) 30 (f 30)) g z_12 (by omega) (show 0 ≤ z_12 ∧ z_12 ≤ 10 from by omega)) mM_X11_295 mI_X11_refuse mE_X11_refuse mN_X11 mC_X11_refuse (by decide +kernel) 0 (ci := 11) rfl rfl hP hS (fun _ h => h) ⟨Nat.le_of_ble_eq_true rfl, Nat.le_of_ble_eq_true rfl⟩ ⟨Nat.zero_le _, Nat.zero_le _⟩ hl.1 rfl rfl (Nat.le_of_ble_eq_true rfl) dX11_begin_58 (fun r_50 v_50 f_50 g_50 H locs hq_50 hP _ hS => ?_)
            obtain ⟨rfl, rfl, rfl, rfl⟩ := hq_50
            show W p l e (gRm 2 56) s m args below meth c _ _ 0 0 Q (F0 m 61 ls [.int (iI (-1))])
            have hP : gWd D (mdT k ad) (va_up (va_up (va_up (va_up v 0 z_12) 1 0) 24 (v 24)) 25 (v 25)) (va_up (va_up (va_up (va_up (va_up (va_up (va_up (va_up f 20 (f 20)) 24 (f 24)) 25 (f 25)) 26 (f 26)) 27 (f 27)) 28 (f 28)) 29 (f 29)) 30 (f 30)) g H := ⟨hP.1, (gF_up (V := mdV) (F := mdF) (gF_up (V := mdV) (F := mdF) (gF_up (V := mdV) (F := mdF) (gF_up (V := mdV) (F := mdF) (gF_up (V := mdV) (F := mdF) (gF_up (V := mdV) (F := mdF) (gF_up (V := mdV) (F := mdF) (gF_up (V := mdV) (F := mdF) (gR_up (V := mdV) (F := mdF) (gR_up (V := mdV) (F := mdF) (gR_up (V := mdV) (F := mdF) (gR_up (V := mdV) (F := mdF) ⟨hok.1, hok.2⟩ 0 (hP.2.1 0)) 1 (hP.2.1 1)) 24 (hP.2.1 24)) 25 (hP.2.1 25)) 20 (hP.2.2 20)) 24 (hP.2.2 24)) 25 (hP.2.2 25)) 26 (hP.2.2 26)) 27 (hP.2.2 27)) 28 (hP.2.2 28)) 29 (hP.2.2 29)) 30 (hP.2.2 30))⟩
            exact g_iret hQ C hr hlocks hP hS dX11_begin_61 ⟨(-1), z_12, rfl, (by rw [show ((if z_12 = 1 ∨ z_12 = 2 ∨ z_12 = 9 then (v 24) else a3) : Int) = (v 24) from by first | rfl | omega | ((repeat' split) <;> omega), show ((if z_12 = 0 then (v 25) + 1 else (v 25)) : Int) = (v 25) from by first | rfl | omega | ((repeat' split) <;> omega)]), (by rw [show ((if z_12 = 0 then u1 (f 20) ((v 23) * 5 + a2) ((f 20) ((v 23) * 5 + a2) + 1) else (f 20)) : Int → Int) = (f 20) from by first | rfl | (rw [if_neg (by omega)]) | (rw [if_pos rfl, hat2]), show ((if z_12 = 0 then u1 (f 24) (v 25) a1 else (f 24)) : Int → Int) = (f 24) from by first | rfl | (rw [if_pos (by omega)]; done) | (rw [if_neg (by omega)]; done) | (rw [if_neg (by omega), if_pos (by omega)]; done) | (rw [if_neg (by omega), if_neg (by omega)]; done), show ((if z_12 = 0 then u1 (f 25) (v 25) (v 23) else (f 25)) : Int → Int) = (f 25) from by first | rfl | (rw [if_pos (by omega)]; done) | (rw [if_neg (by omega)]; done) | (rw [if_neg (by omega), if_pos (by omega)]; done) | (rw [if_neg (by omega), if_neg (by omega)]; done), show ((if z_12 = 0 then u1 (f 26) (v 25) a2 else (f 26)) : Int → Int) = (f 26) from by first | rfl | (rw [if_pos (by omega)]; done) | (rw [if_neg (by omega)]; done) | (rw [if_neg (by omega), if_pos (by omega)]; done) | (rw [if_neg (by omega), if_neg (by omega)]; done), show ((if z_12 = 0 then u1 (f 27) (v 25) a3 else (f 27)) : Int → Int) = (f 27) from by first | rfl | (rw [if_pos (by omega)]; done) | (rw [if_neg (by omega)]; done) | (rw [if_neg (by omega), if_pos (by omega)]; done) | (rw [if_neg (by omega), if_neg (by omega)]; done), show ((if z_12 = 1 ∨ z_12 = 2 ∨ z_12 = 9 then (f 28) else if z_12 = 0 then u1 (ovE (v 25) a3 (f 30) (f 27) (fun k => (f 3) ((f 25) k)) (f 28)) (v 25) (-1) else (ovE (v 25) a3 (f 30) (f 27) (fun k => (f 3) ((f 25) k)) (f 28))) : Int → Int) = (f 28) from by first | rfl | (rw [if_pos (by omega)]; done) | (rw [if_neg (by omega)]; done) | (rw [if_neg (by omega), if_pos (by omega)]; done) | (rw [if_neg (by omega), if_neg (by omega)]; done), show ((if z_12 = 0 then u1 (f 29) (v 25) 0 else (f 29)) : Int → Int) = (f 29) from by first | rfl | (rw [if_pos (by omega)]; done) | (rw [if_neg (by omega)]; done) | (rw [if_neg (by omega), if_pos (by omega)]; done) | (rw [if_neg (by omega), if_neg (by omega)]; done), show ((if z_12 = 1 ∨ z_12 = 2 ∨ z_12 = 9 then (f 30) else if z_12 = 0 then u1 (ovH (v 25) a3 (f 30) (f 27) (fun k => (f 3) ((f 25) k))) (v 25) 0 else (ovH (v 25) a3 (f 30) (f 27) (fun k => (f 3) ((f 25) k)))) : Int → Int) = (f 30) from by first | rfl | (rw [if_pos (by omega)]; done) | (rw [if_neg (by omega)]; done) | (rw [if_neg (by omega), if_pos (by omega)]; done) | (rw [if_neg (by omega), if_neg (by omega)]; done)]), rfl, (by first | omega | ((repeat' split) <;> omega)), (by first | (rw [if_pos (by omega)]) | (rw [if_neg (by omega), if_pos (by omega)]; exact hpz) | (rw [if_neg (by omega), if_neg (by omega)]; first | rw [if_pos (by omega)] | rw [if_neg (by omega), if_pos (by omega)] | rw [if_neg (by omega), if_neg (by omega), if_pos (by omega)] | rw [if_neg (by omega), if_neg (by omega), if_neg (by omega), if_pos (by omega)] | rw [if_neg (by omega), if_neg (by omega), if_neg (by omega), if_neg (by omega), if_pos (by omega)] | rw [if_neg (by omega), if_neg (by omega), if_neg (by omega), if_neg (by omega), if_neg (by omega), ← hro, if_pos (by omega)] | rw [if_neg (by omega), if_neg (by omega), if_neg (by omega), if_neg (by omega), if_neg (by omega), ← hro, if_neg (by omega)])), (by first | exact hbg | (rw [if_neg (by omega), if_neg (by omega)]; exact hbg) | exact cntUp hbg (hbg _ (by omega) (by omega)))⟩
      · have vz_10 := gif0 w_10 c_11
        clear w_10
        refine lv_aload_n hx hb dX11_begin_37 rfl (lv_at hl 0 rfl) ?_
        refine lv_iconst (v := iI 1) hx hb dX11_begin_38 rfl ?_
        refine g_cv (As := [.int (iI 1)]) (rest := []) (n := 1) C hml (m_X11_refuse l D k A ad hD (va_up (va_up (va_up (va_up v 0 0) 1 0) 24 (v 24)) 25 (v 25)) (va_up (va_up (va_up (va_up (va_up (va_up (va_up (va_up f 20 (f 20)) 24 (f 24)) 25 (f 25)) 26 (f 26)) 27 (f 27)) 28 (f 28)) 29 (f 29)) 30 (f 30)) g 1 (by decide) (show 0 ≤ (1 : Int) ∧ (1 : Int) ≤ 10 from by omega)) mM_X11_295 mI_X11_refuse mE_X11_refuse mN_X11 mC_X11_refuse (by decide +kernel) 0 (ci := 11) rfl rfl hP hS (fun _ h => h) ⟨Nat.le_of_ble_eq_true rfl, Nat.le_of_ble_eq_true rfl⟩ ⟨Nat.zero_le _, Nat.zero_le _⟩ hl.1 rfl rfl (Nat.le_of_ble_eq_true rfl) dX11_begin_39 (fun r_51 v_51 f_51 g_51 H locs hq_51 hP _ hS => ?_)
        obtain ⟨rfl, rfl, rfl, rfl⟩ := hq_51
        show W p l e (gRm 2 56) s m args below meth c _ _ 0 0 Q (F0 m 42 ls [.int (iI (-1))])
        have hP : gWd D (mdT k ad) (va_up (va_up (va_up (va_up v 0 (1 : Int)) 1 0) 24 (v 24)) 25 (v 25)) (va_up (va_up (va_up (va_up (va_up (va_up (va_up (va_up f 20 (f 20)) 24 (f 24)) 25 (f 25)) 26 (f 26)) 27 (f 27)) 28 (f 28)) 29 (f 29)) 30 (f 30)) g H := ⟨hP.1, (gF_up (V := mdV) (F := mdF) (gF_up (V := mdV) (F := mdF) (gF_up (V := mdV) (F := mdF) (gF_up (V := mdV) (F := mdF) (gF_up (V := mdV) (F := mdF) (gF_up (V := mdV) (F := mdF) (gF_up (V := mdV) (F := mdF) (gF_up (V := mdV) (F := mdF) (gR_up (V := mdV) (F := mdF) (gR_up (V := mdV) (F := mdF) (gR_up (V := mdV) (F := mdF) (gR_up (V := mdV) (F := mdF) ⟨hok.1, hok.2⟩ 0 (hP.2.1 0)) 1 (hP.2.1 1)) 24 (hP.2.1 24)) 25 (hP.2.1 25)) 20 (hP.2.2 20)) 24 (hP.2.2 24)) 25 (hP.2.2 25)) 26 (hP.2.2 26)) 27 (hP.2.2 27)) 28 (hP.2.2 28)) 29 (hP.2.2 29)) 30 (hP.2.2 30))⟩
        exact g_iret hQ C hr hlocks hP hS dX11_begin_42 ⟨(-1), (1 : Int), rfl, (by rw [show ((if (1 : Int) = 1 ∨ (1 : Int) = 2 ∨ (1 : Int) = 9 then (v 24) else a3) : Int) = (v 24) from by first | rfl | omega | ((repeat' split) <;> omega), show ((if (1 : Int) = 0 then (v 25) + 1 else (v 25)) : Int) = (v 25) from by first | rfl | omega | ((repeat' split) <;> omega)]), (by rw [show ((if (1 : Int) = 0 then u1 (f 20) ((v 23) * 5 + a2) ((f 20) ((v 23) * 5 + a2) + 1) else (f 20)) : Int → Int) = (f 20) from by first | rfl | (rw [if_neg (by omega)]) | (rw [if_pos rfl, hat2]), show ((if (1 : Int) = 0 then u1 (f 24) (v 25) a1 else (f 24)) : Int → Int) = (f 24) from by first | rfl | (rw [if_pos (by omega)]; done) | (rw [if_neg (by omega)]; done) | (rw [if_neg (by omega), if_pos (by omega)]; done) | (rw [if_neg (by omega), if_neg (by omega)]; done), show ((if (1 : Int) = 0 then u1 (f 25) (v 25) (v 23) else (f 25)) : Int → Int) = (f 25) from by first | rfl | (rw [if_pos (by omega)]; done) | (rw [if_neg (by omega)]; done) | (rw [if_neg (by omega), if_pos (by omega)]; done) | (rw [if_neg (by omega), if_neg (by omega)]; done), show ((if (1 : Int) = 0 then u1 (f 26) (v 25) a2 else (f 26)) : Int → Int) = (f 26) from by first | rfl | (rw [if_pos (by omega)]; done) | (rw [if_neg (by omega)]; done) | (rw [if_neg (by omega), if_pos (by omega)]; done) | (rw [if_neg (by omega), if_neg (by omega)]; done), show ((if (1 : Int) = 0 then u1 (f 27) (v 25) a3 else (f 27)) : Int → Int) = (f 27) from by first | rfl | (rw [if_pos (by omega)]; done) | (rw [if_neg (by omega)]; done) | (rw [if_neg (by omega), if_pos (by omega)]; done) | (rw [if_neg (by omega), if_neg (by omega)]; done), show ((if (1 : Int) = 1 ∨ (1 : Int) = 2 ∨ (1 : Int) = 9 then (f 28) else if (1 : Int) = 0 then u1 (ovE (v 25) a3 (f 30) (f 27) (fun k => (f 3) ((f 25) k)) (f 28)) (v 25) (-1) else (ovE (v 25) a3 (f 30) (f 27) (fun k => (f 3) ((f 25) k)) (f 28))) : Int → Int) = (f 28) from by first | rfl | (rw [if_pos (by omega)]; done) | (rw [if_neg (by omega)]; done) | (rw [if_neg (by omega), if_pos (by omega)]; done) | (rw [if_neg (by omega), if_neg (by omega)]; done), show ((if (1 : Int) = 0 then u1 (f 29) (v 25) 0 else (f 29)) : Int → Int) = (f 29) from by first | rfl | (rw [if_pos (by omega)]; done) | (rw [if_neg (by omega)]; done) | (rw [if_neg (by omega), if_pos (by omega)]; done) | (rw [if_neg (by omega), if_neg (by omega)]; done), show ((if (1 : Int) = 1 ∨ (1 : Int) = 2 ∨ (1 : Int) = 9 then (f 30) else if (1 : Int) = 0 then u1 (ovH (v 25) a3 (f 30) (f 27) (fun k => (f 3) ((f 25) k))) (v 25) 0 else (ovH (v 25) a3 (f 30) (f 27) (fun k => (f 3) ((f 25) k)))) : Int → Int) = (f 30) from by first | rfl | (rw [if_pos (by omega)]; done) | (rw [if_neg (by omega)]; done) | (rw [if_neg (by omega), if_pos (by omega)]; done) | (rw [if_neg (by omega), if_neg (by omega)]; done)]), rfl, (by first | omega | ((repeat' split) <;> omega)), (by first | (rw [if_pos (by omega)]) | (rw [if_neg (by omega), if_pos (by omega)]; exact hpz) | (rw [if_neg (by omega), if_neg (by omega)]; first | rw [if_pos (by omega)] | rw [if_neg (by omega), if_pos (by omega)] | rw [if_neg (by omega), if_neg (by omega), if_pos (by omega)] | rw [if_neg (by omega), if_neg (by omega), if_neg (by omega), if_pos (by omega)] | rw [if_neg (by omega), if_neg (by omega), if_neg (by omega), if_neg (by omega), if_pos (by omega)] | rw [if_neg (by omega), if_neg (by omega), if_neg (by omega), if_neg (by omega), if_neg (by omega), ← hro, if_pos (by omega)] | rw [if_neg (by omega), if_neg (by omega), if_neg (by omega), if_neg (by omega), if_neg (by omega), ← hro, if_neg (by omega)])), (by first | exact hbg | (rw [if_neg (by omega), if_neg (by omega)]; exact hbg) | exact cntUp hbg (hbg _ (by omega) (by omega)))⟩
end
