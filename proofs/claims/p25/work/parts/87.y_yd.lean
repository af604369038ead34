section
theorem dG_dX11_holdOf_0 : (decode cX11_holdOf 0 = .ok (.iconst (-1), 1)) ∧ (decode cX11_holdOf 1 = .ok (.istore_n 3, 1)) ∧ (decode cX11_holdOf 2 = .ok (.iconst 0, 1)) ∧ (decode cX11_holdOf 3 = .ok (.istore 4, 2)) ∧ (decode cX11_holdOf 5 = .ok (.iload 4, 2)) ∧ (decode cX11_holdOf 7 = .ok (.aload_n 0, 1)) ∧ (decode cX11_holdOf 8 = .ok (.getfield 322, 3)) ∧ (decode cX11_holdOf 11 = .ok (.if_icmp .ge 54, 3)) ∧ (decode cX11_holdOf 14 = .ok (.aload_n 0, 1)) ∧ (decode cX11_holdOf 15 = .ok (.getfield 115, 3)) ∧ (decode cX11_holdOf 18 = .ok (.iload 4, 2)) ∧ (decode cX11_holdOf 20 = .ok (.iaload, 1)) := by decide +kernel
theorem dX11_holdOf_0 : decode cX11_holdOf 0 = .ok (.iconst (-1), 1) := dG_dX11_holdOf_0.1
theorem dX11_holdOf_1 : decode cX11_holdOf 1 = .ok (.istore_n 3, 1) := dG_dX11_holdOf_0.2.1
theorem dX11_holdOf_2 : decode cX11_holdOf 2 = .ok (.iconst 0, 1) := dG_dX11_holdOf_0.2.2.1
theorem dX11_holdOf_3 : decode cX11_holdOf 3 = .ok (.istore 4, 2) := dG_dX11_holdOf_0.2.2.2.1
theorem dX11_holdOf_5 : decode cX11_holdOf 5 = .ok (.iload 4, 2) := dG_dX11_holdOf_0.2.2.2.2.1
theorem dX11_holdOf_7 : decode cX11_holdOf 7 = .ok (.aload_n 0, 1) := dG_dX11_holdOf_0.2.2.2.2.2.1
theorem dX11_holdOf_8 : decode cX11_holdOf 8 = .ok (.getfield 322, 3) := dG_dX11_holdOf_0.2.2.2.2.2.2.1
theorem dX11_holdOf_11 : decode cX11_holdOf 11 = .ok (.if_icmp .ge 54, 3) := dG_dX11_holdOf_0.2.2.2.2.2.2.2.1
theorem dX11_holdOf_14 : decode cX11_holdOf 14 = .ok (.aload_n 0, 1) := dG_dX11_holdOf_0.2.2.2.2.2.2.2.2.1
theorem dX11_holdOf_15 : decode cX11_holdOf 15 = .ok (.getfield 115, 3) := dG_dX11_holdOf_0.2.2.2.2.2.2.2.2.2.1
theorem dX11_holdOf_18 : decode cX11_holdOf 18 = .ok (.iload 4, 2) := dG_dX11_holdOf_0.2.2.2.2.2.2.2.2.2.2.1
theorem dX11_holdOf_20 : decode cX11_holdOf 20 = .ok (.iaload, 1) := dG_dX11_holdOf_0.2.2.2.2.2.2.2.2.2.2.2
theorem dG_dX11_holdOf_21 : (decode cX11_holdOf 21 = .ok (.iload_n 1, 1)) ∧ (decode cX11_holdOf 22 = .ok (.if_icmp .ne 37, 3)) ∧ (decode cX11_holdOf 25 = .ok (.aload_n 0, 1)) ∧ (decode cX11_holdOf 26 = .ok (.getfield 121, 3)) ∧ (decode cX11_holdOf 29 = .ok (.iload 4, 2)) ∧ (decode cX11_holdOf 31 = .ok (.iaload, 1)) ∧ (decode cX11_holdOf 32 = .ok (.iload_n 2, 1)) ∧ (decode cX11_holdOf 33 = .ok (.if_icmp .gt 26, 3)) ∧ (decode cX11_holdOf 36 = .ok (.iload_n 3, 1)) ∧ (decode cX11_holdOf 37 = .ok (.ifCond .lt 19, 3)) ∧ (decode cX11_holdOf 40 = .ok (.aload_n 0, 1)) ∧ (decode cX11_holdOf 41 = .ok (.getfield 121, 3)) := by decide +kernel
theorem dX11_holdOf_21 : decode cX11_holdOf 21 = .ok (.iload_n 1, 1) := dG_dX11_holdOf_21.1
theorem dX11_holdOf_22 : decode cX11_holdOf 22 = .ok (.if_icmp .ne 37, 3) := dG_dX11_holdOf_21.2.1
theorem dX11_holdOf_25 : decode cX11_holdOf 25 = .ok (.aload_n 0, 1) := dG_dX11_holdOf_21.2.2.1
theorem dX11_holdOf_26 : decode cX11_holdOf 26 = .ok (.getfield 121, 3) := dG_dX11_holdOf_21.2.2.2.1
theorem dX11_holdOf_29 : decode cX11_holdOf 29 = .ok (.iload 4, 2) := dG_dX11_holdOf_21.2.2.2.2.1
theorem dX11_holdOf_31 : decode cX11_holdOf 31 = .ok (.iaload, 1) := dG_dX11_holdOf_21.2.2.2.2.2.1
theorem dX11_holdOf_32 : decode cX11_holdOf 32 = .ok (.iload_n 2, 1) := dG_dX11_holdOf_21.2.2.2.2.2.2.1
theorem dX11_holdOf_33 : decode cX11_holdOf 33 = .ok (.if_icmp .gt 26, 3) := dG_dX11_holdOf_21.2.2.2.2.2.2.2.1
theorem dX11_holdOf_36 : decode cX11_holdOf 36 = .ok (.iload_n 3, 1) := dG_dX11_holdOf_21.2.2.2.2.2.2.2.2.1
theorem dX11_holdOf_37 : decode cX11_holdOf 37 = .ok (.ifCond .lt 19, 3) := dG_dX11_holdOf_21.2.2.2.2.2.2.2.2.2.1
theorem dX11_holdOf_40 : decode cX11_holdOf 40 = .ok (.aload_n 0, 1) := dG_dX11_holdOf_21.2.2.2.2.2.2.2.2.2.2.1
theorem dX11_holdOf_41 : decode cX11_holdOf 41 = .ok (.getfield 121, 3) := dG_dX11_holdOf_21.2.2.2.2.2.2.2.2.2.2.2
theorem dG_dX11_holdOf_44 : (decode cX11_holdOf 44 = .ok (.iload 4, 2)) ∧ (decode cX11_holdOf 46 = .ok (.iaload, 1)) ∧ (decode cX11_holdOf 47 = .ok (.aload_n 0, 1)) ∧ (decode cX11_holdOf 48 = .ok (.getfield 121, 3)) ∧ (decode cX11_holdOf 51 = .ok (.iload_n 3, 1)) ∧ (decode cX11_holdOf 52 = .ok (.iaload, 1)) ∧ (decode cX11_holdOf 53 = .ok (.if_icmp .lt 6, 3)) ∧ (decode cX11_holdOf 56 = .ok (.iload 4, 2)) ∧ (decode cX11_holdOf 58 = .ok (.istore_n 3, 1)) ∧ (decode cX11_holdOf 59 = .ok (.iinc 4 1, 3)) ∧ (decode cX11_holdOf 62 = .ok (.goto (-57), 3)) ∧ (decode cX11_holdOf 65 = .ok (.iload_n 3, 1)) := by decide +kernel
theorem dX11_holdOf_44 : decode cX11_holdOf 44 = .ok (.iload 4, 2) := dG_dX11_holdOf_44.1
theorem dX11_holdOf_46 : decode cX11_holdOf 46 = .ok (.iaload, 1) := dG_dX11_holdOf_44.2.1
theorem dX11_holdOf_47 : decode cX11_holdOf 47 = .ok (.aload_n 0, 1) := dG_dX11_holdOf_44.2.2.1
theorem dX11_holdOf_48 : decode cX11_holdOf 48 = .ok (.getfield 121, 3) := dG_dX11_holdOf_44.2.2.2.1
theorem dX11_holdOf_51 : decode cX11_holdOf 51 = .ok (.iload_n 3, 1) := dG_dX11_holdOf_44.2.2.2.2.1
theorem dX11_holdOf_52 : decode cX11_holdOf 52 = .ok (.iaload, 1) := dG_dX11_holdOf_44.2.2.2.2.2.1
theorem dX11_holdOf_53 : decode cX11_holdOf 53 = .ok (.if_icmp .lt 6, 3) := dG_dX11_holdOf_44.2.2.2.2.2.2.1
theorem dX11_holdOf_56 : decode cX11_holdOf 56 = .ok (.iload 4, 2) := dG_dX11_holdOf_44.2.2.2.2.2.2.2.1
theorem dX11_holdOf_58 : decode cX11_holdOf 58 = .ok (.istore_n 3, 1) := dG_dX11_holdOf_44.2.2.2.2.2.2.2.2.1
theorem dX11_holdOf_59 : decode cX11_holdOf 59 = .ok (.iinc 4 1, 3) := dG_dX11_holdOf_44.2.2.2.2.2.2.2.2.2.1
theorem dX11_holdOf_62 : decode cX11_holdOf 62 = .ok (.goto (-57), 3) := dG_dX11_holdOf_44.2.2.2.2.2.2.2.2.2.2.1
theorem dX11_holdOf_65 : decode cX11_holdOf 65 = .ok (.iload_n 3, 1) := dG_dX11_holdOf_44.2.2.2.2.2.2.2.2.2.2.2
theorem dG_dX11_holdOf_66 : (decode cX11_holdOf 66 = .ok (.ifCond .ge 12, 3)) ∧ (decode cX11_holdOf 69 = .ok (.aload_n 0, 1)) ∧ (decode cX11_holdOf 70 = .ok (.getfield 109, 3)) ∧ (decode cX11_holdOf 73 = .ok (.iload_n 1, 1)) ∧ (decode cX11_holdOf 74 = .ok (.iaload, 1)) ∧ (decode cX11_holdOf 75 = .ok (.goto 9, 3)) ∧ (decode cX11_holdOf 78 = .ok (.aload_n 0, 1)) ∧ (decode cX11_holdOf 79 = .ok (.getfield 118, 3)) ∧ (decode cX11_holdOf 82 = .ok (.iload_n 3, 1)) ∧ (decode cX11_holdOf 83 = .ok (.iaload, 1)) ∧ (decode cX11_holdOf 84 = .ok (.ireturn, 1)) ∧ (decode cX11_factsOf 0 = .ok (.iconst (-1), 1)) := by decide +kernel
theorem dX11_holdOf_66 : decode cX11_holdOf 66 = .ok (.ifCond .ge 12, 3) := dG_dX11_holdOf_66.1
theorem dX11_holdOf_69 : decode cX11_holdOf 69 = .ok (.aload_n 0, 1) := dG_dX11_holdOf_66.2.1
theorem dX11_holdOf_70 : decode cX11_holdOf 70 = .ok (.getfield 109, 3) := dG_dX11_holdOf_66.2.2.1
theorem dX11_holdOf_73 : decode cX11_holdOf 73 = .ok (.iload_n 1, 1) := dG_dX11_holdOf_66.2.2.2.1
theorem dX11_holdOf_74 : decode cX11_holdOf 74 = .ok (.iaload, 1) := dG_dX11_holdOf_66.2.2.2.2.1
theorem dX11_holdOf_75 : decode cX11_holdOf 75 = .ok (.goto 9, 3) := dG_dX11_holdOf_66.2.2.2.2.2.1
theorem dX11_holdOf_78 : decode cX11_holdOf 78 = .ok (.aload_n 0, 1) := dG_dX11_holdOf_66.2.2.2.2.2.2.1
theorem dX11_holdOf_79 : decode cX11_holdOf 79 = .ok (.getfield 118, 3) := dG_dX11_holdOf_66.2.2.2.2.2.2.2.1
theorem dX11_holdOf_82 : decode cX11_holdOf 82 = .ok (.iload_n 3, 1) := dG_dX11_holdOf_66.2.2.2.2.2.2.2.2.1
theorem dX11_holdOf_83 : decode cX11_holdOf 83 = .ok (.iaload, 1) := dG_dX11_holdOf_66.2.2.2.2.2.2.2.2.2.1
theorem dX11_holdOf_84 : decode cX11_holdOf 84 = .ok (.ireturn, 1) := dG_dX11_holdOf_66.2.2.2.2.2.2.2.2.2.2.1
theorem dX11_factsOf_0 : decode cX11_factsOf 0 = .ok (.iconst (-1), 1) := dG_dX11_holdOf_66.2.2.2.2.2.2.2.2.2.2.2
theorem dG_dX11_factsOf_1 : (decode cX11_factsOf 1 = .ok (.istore 5, 2)) ∧ (decode cX11_factsOf 3 = .ok (.iconst (-1), 1)) ∧ (decode cX11_factsOf 4 = .ok (.istore 6, 2)) ∧ (decode cX11_factsOf 6 = .ok (.iconst 0, 1)) ∧ (decode cX11_factsOf 7 = .ok (.istore 7, 2)) ∧ (decode cX11_factsOf 9 = .ok (.iconst 0, 1)) ∧ (decode cX11_factsOf 10 = .ok (.istore 8, 2)) ∧ (decode cX11_factsOf 12 = .ok (.iconst 0, 1)) ∧ (decode cX11_factsOf 13 = .ok (.istore 9, 2)) ∧ (decode cX11_factsOf 15 = .ok (.iload 9, 2)) ∧ (decode cX11_factsOf 17 = .ok (.aload_n 0, 1)) ∧ (decode cX11_factsOf 18 = .ok (.getfield 319, 3)) := by decide +kernel
theorem dX11_factsOf_1 : decode cX11_factsOf 1 = .ok (.istore 5, 2) := dG_dX11_factsOf_1.1
theorem dX11_factsOf_3 : decode cX11_factsOf 3 = .ok (.iconst (-1), 1) := dG_dX11_factsOf_1.2.1
theorem dX11_factsOf_4 : decode cX11_factsOf 4 = .ok (.istore 6, 2) := dG_dX11_factsOf_1.2.2.1
theorem dX11_factsOf_6 : decode cX11_factsOf 6 = .ok (.iconst 0, 1) := dG_dX11_factsOf_1.2.2.2.1
theorem dX11_factsOf_7 : decode cX11_factsOf 7 = .ok (.istore 7, 2) := dG_dX11_factsOf_1.2.2.2.2.1
theorem dX11_factsOf_9 : decode cX11_factsOf 9 = .ok (.iconst 0, 1) := dG_dX11_factsOf_1.2.2.2.2.2.1
theorem dX11_factsOf_10 : decode cX11_factsOf 10 = .ok (.istore 8, 2) := dG_dX11_factsOf_1.2.2.2.2.2.2.1
theorem dX11_factsOf_12 : decode cX11_factsOf 12 = .ok (.iconst 0, 1) := dG_dX11_factsOf_1.2.2.2.2.2.2.2.1
theorem dX11_factsOf_13 : decode cX11_factsOf 13 = .ok (.istore 9, 2) := dG_dX11_factsOf_1.2.2.2.2.2.2.2.2.1
theorem dX11_factsOf_15 : decode cX11_factsOf 15 = .ok (.iload 9, 2) := dG_dX11_factsOf_1.2.2.2.2.2.2.2.2.2.1
theorem dX11_factsOf_17 : decode cX11_factsOf 17 = .ok (.aload_n 0, 1) := dG_dX11_factsOf_1.2.2.2.2.2.2.2.2.2.2.1
theorem dX11_factsOf_18 : decode cX11_factsOf 18 = .ok (.getfield 319, 3) := dG_dX11_factsOf_1.2.2.2.2.2.2.2.2.2.2.2
theorem dG_dX11_factsOf_21 : (decode cX11_factsOf 21 = .ok (.if_icmp .ge 91, 3)) ∧ (decode cX11_factsOf 24 = .ok (.aload_n 0, 1)) ∧ (decode cX11_factsOf 25 = .ok (.getfield 94, 3)) ∧ (decode cX11_factsOf 28 = .ok (.iload 9, 2)) ∧ (decode cX11_factsOf 30 = .ok (.iaload, 1)) ∧ (decode cX11_factsOf 31 = .ok (.iload_n 3, 1)) ∧ (decode cX11_factsOf 32 = .ok (.if_icmp .ne 74, 3)) ∧ (decode cX11_factsOf 35 = .ok (.aload_n 0, 1)) ∧ (decode cX11_factsOf 36 = .ok (.getfield 97, 3)) ∧ (decode cX11_factsOf 39 = .ok (.iload 9, 2)) ∧ (decode cX11_factsOf 41 = .ok (.iaload, 1)) ∧ (decode cX11_factsOf 42 = .ok (.iload_n 1, 1)) := by decide +kernel
theorem dX11_factsOf_21 : decode cX11_factsOf 21 = .ok (.if_icmp .ge 91, 3) := dG_dX11_factsOf_21.1
theorem dX11_factsOf_24 : decode cX11_factsOf 24 = .ok (.aload_n 0, 1) := dG_dX11_factsOf_21.2.1
theorem dX11_factsOf_25 : decode cX11_factsOf 25 = .ok (.getfield 94, 3) := dG_dX11_factsOf_21.2.2.1
theorem dX11_factsOf_28 : decode cX11_factsOf 28 = .ok (.iload 9, 2) := dG_dX11_factsOf_21.2.2.2.1
theorem dX11_factsOf_30 : decode cX11_factsOf 30 = .ok (.iaload, 1) := dG_dX11_factsOf_21.2.2.2.2.1
theorem dX11_factsOf_31 : decode cX11_factsOf 31 = .ok (.iload_n 3, 1) := dG_dX11_factsOf_21.2.2.2.2.2.1
theorem dX11_factsOf_32 : decode cX11_factsOf 32 = .ok (.if_icmp .ne 74, 3) := dG_dX11_factsOf_21.2.2.2.2.2.2.1
theorem dX11_factsOf_35 : decode cX11_factsOf 35 = .ok (.aload_n 0, 1) := dG_dX11_factsOf_21.2.2.2.2.2.2.2.1
theorem dX11_factsOf_36 : decode cX11_factsOf 36 = .ok (.getfield 97, 3) := dG_dX11_factsOf_21.2.2.2.2.2.2.2.2.1
theorem dX11_factsOf_39 : decode cX11_factsOf 39 = .ok (.iload 9, 2) := dG_dX11_factsOf_21.2.2.2.2.2.2.2.2.2.1
theorem dX11_factsOf_41 : decode cX11_factsOf 41 = .ok (.iaload, 1) := dG_dX11_factsOf_21.2.2.2.2.2.2.2.2.2.2.1
theorem dX11_factsOf_42 : decode cX11_factsOf 42 = .ok (.iload_n 1, 1) := dG_dX11_factsOf_21.2.2.2.2.2.2.2.2.2.2.2
theorem dG_dX11_factsOf_43 : (decode cX11_factsOf 43 = .ok (.if_icmp .ne 63, 3)) ∧ (decode cX11_factsOf 46 = .ok (.aload_n 0, 1)) ∧ (decode cX11_factsOf 47 = .ok (.getfield 100, 3)) ∧ (decode cX11_factsOf 50 = .ok (.iload 9, 2)) ∧ (decode cX11_factsOf 52 = .ok (.iaload, 1)) ∧ (decode cX11_factsOf 53 = .ok (.iload_n 2, 1)) ∧ (decode cX11_factsOf 54 = .ok (.if_icmp .ne 52, 3)) ∧ (decode cX11_factsOf 57 = .ok (.aload_n 0, 1)) ∧ (decode cX11_factsOf 58 = .ok (.getfield 112, 3)) ∧ (decode cX11_factsOf 61 = .ok (.iload 9, 2)) ∧ (decode cX11_factsOf 63 = .ok (.iaload, 1)) ∧ (decode cX11_factsOf 64 = .ok (.iconst 4, 1)) := by decide +kernel
theorem dX11_factsOf_43 : decode cX11_factsOf 43 = .ok (.if_icmp .ne 63, 3) := dG_dX11_factsOf_43.1
theorem dX11_factsOf_46 : decode cX11_factsOf 46 = .ok (.aload_n 0, 1) := dG_dX11_factsOf_43.2.1
theorem dX11_factsOf_47 : decode cX11_factsOf 47 = .ok (.getfield 100, 3) := dG_dX11_factsOf_43.2.2.1
theorem dX11_factsOf_50 : decode cX11_factsOf 50 = .ok (.iload 9, 2) := dG_dX11_factsOf_43.2.2.2.1
theorem dX11_factsOf_52 : decode cX11_factsOf 52 = .ok (.iaload, 1) := dG_dX11_factsOf_43.2.2.2.2.1
theorem dX11_factsOf_53 : decode cX11_factsOf 53 = .ok (.iload_n 2, 1) := dG_dX11_factsOf_43.2.2.2.2.2.1
theorem dX11_factsOf_54 : decode cX11_factsOf 54 = .ok (.if_icmp .ne 52, 3) := dG_dX11_factsOf_43.2.2.2.2.2.2.1
theorem dX11_factsOf_57 : decode cX11_factsOf 57 = .ok (.aload_n 0, 1) := dG_dX11_factsOf_43.2.2.2.2.2.2.2.1
theorem dX11_factsOf_58 : decode cX11_factsOf 58 = .ok (.getfield 112, 3) := dG_dX11_factsOf_43.2.2.2.2.2.2.2.2.1
theorem dX11_factsOf_61 : decode cX11_factsOf 61 = .ok (.iload 9, 2) := dG_dX11_factsOf_43.2.2.2.2.2.2.2.2.2.1
theorem dX11_factsOf_63 : decode cX11_factsOf 63 = .ok (.iaload, 1) := dG_dX11_factsOf_43.2.2.2.2.2.2.2.2.2.2.1
theorem dX11_factsOf_64 : decode cX11_factsOf 64 = .ok (.iconst 4, 1) := dG_dX11_factsOf_43.2.2.2.2.2.2.2.2.2.2.2
theorem dG_dX11_factsOf_65 : (decode cX11_factsOf 65 = .ok (.if_icmp .ne 6, 3)) ∧ (decode cX11_factsOf 68 = .ok (.goto 38, 3)) ∧ (decode cX11_factsOf 71 = .ok (.iinc 7 1, 3)) ∧ (decode cX11_factsOf 74 = .ok (.aload_n 0, 1)) ∧ (decode cX11_factsOf 75 = .ok (.iload 9, 2)) ∧ (decode cX11_factsOf 77 = .ok (.iload 4, 2)) ∧ (decode cX11_factsOf 79 = .ok (.invokevirtual 367, 3)) ∧ (decode cX11_factsOf 82 = .ok (.istore 10, 2)) ∧ (decode cX11_factsOf 84 = .ok (.iload 10, 2)) ∧ (decode cX11_factsOf 86 = .ok (.iload 5, 2)) ∧ (decode cX11_factsOf 88 = .ok (.if_icmp .gt 6, 3)) ∧ (decode cX11_factsOf 91 = .ok (.goto 15, 3)) := by decide +kernel
theorem dX11_factsOf_65 : decode cX11_factsOf 65 = .ok (.if_icmp .ne 6, 3) := dG_dX11_factsOf_65.1
theorem dX11_factsOf_68 : decode cX11_factsOf 68 = .ok (.goto 38, 3) := dG_dX11_factsOf_65.2.1
theorem dX11_factsOf_71 : decode cX11_factsOf 71 = .ok (.iinc 7 1, 3) := dG_dX11_factsOf_65.2.2.1
theorem dX11_factsOf_74 : decode cX11_factsOf 74 = .ok (.aload_n 0, 1) := dG_dX11_factsOf_65.2.2.2.1
theorem dX11_factsOf_75 : decode cX11_factsOf 75 = .ok (.iload 9, 2) := dG_dX11_factsOf_65.2.2.2.2.1
theorem dX11_factsOf_77 : decode cX11_factsOf 77 = .ok (.iload 4, 2) := dG_dX11_factsOf_65.2.2.2.2.2.1
theorem dX11_factsOf_79 : decode cX11_factsOf 79 = .ok (.invokevirtual 367, 3) := dG_dX11_factsOf_65.2.2.2.2.2.2.1
theorem dX11_factsOf_82 : decode cX11_factsOf 82 = .ok (.istore 10, 2) := dG_dX11_factsOf_65.2.2.2.2.2.2.2.1
theorem dX11_factsOf_84 : decode cX11_factsOf 84 = .ok (.iload 10, 2) := dG_dX11_factsOf_65.2.2.2.2.2.2.2.2.1
theorem dX11_factsOf_86 : decode cX11_factsOf 86 = .ok (.iload 5, 2) := dG_dX11_factsOf_65.2.2.2.2.2.2.2.2.2.1
theorem dX11_factsOf_88 : decode cX11_factsOf 88 = .ok (.if_icmp .gt 6, 3) := dG_dX11_factsOf_65.2.2.2.2.2.2.2.2.2.2.1
theorem dX11_factsOf_91 : decode cX11_factsOf 91 = .ok (.goto 15, 3) := dG_dX11_factsOf_65.2.2.2.2.2.2.2.2.2.2.2
theorem dG_dX11_factsOf_94 : (decode cX11_factsOf 94 = .ok (.iload 10, 2)) ∧ (decode cX11_factsOf 96 = .ok (.istore 5, 2)) ∧ (decode cX11_factsOf 98 = .ok (.iload 9, 2)) ∧ (decode cX11_factsOf 100 = .ok (.istore 6, 2)) ∧ (decode cX11_factsOf 102 = .ok (.iload 7, 2)) ∧ (decode cX11_factsOf 104 = .ok (.istore 8, 2)) ∧ (decode cX11_factsOf 106 = .ok (.iinc 9 1, 3)) ∧ (decode cX11_factsOf 109 = .ok (.goto (-94), 3)) ∧ (decode cX11_factsOf 112 = .ok (.iconst 0, 1)) ∧ (decode cX11_factsOf 113 = .ok (.istore 9, 2)) ∧ (decode cX11_factsOf 115 = .ok (.iload 9, 2)) ∧ (decode cX11_factsOf 117 = .ok (.bipush 6, 2)) := by decide +kernel
theorem dX11_factsOf_94 : decode cX11_factsOf 94 = .ok (.iload 10, 2) := dG_dX11_factsOf_94.1
theorem dX11_factsOf_96 : decode cX11_factsOf 96 = .ok (.istore 5, 2) := dG_dX11_factsOf_94.2.1
theorem dX11_factsOf_98 : decode cX11_factsOf 98 = .ok (.iload 9, 2) := dG_dX11_factsOf_94.2.2.1
theorem dX11_factsOf_100 : decode cX11_factsOf 100 = .ok (.istore 6, 2) := dG_dX11_factsOf_94.2.2.2.1
theorem dX11_factsOf_102 : decode cX11_factsOf 102 = .ok (.iload 7, 2) := dG_dX11_factsOf_94.2.2.2.2.1
theorem dX11_factsOf_104 : decode cX11_factsOf 104 = .ok (.istore 8, 2) := dG_dX11_factsOf_94.2.2.2.2.2.1
theorem dX11_factsOf_106 : decode cX11_factsOf 106 = .ok (.iinc 9 1, 3) := dG_dX11_factsOf_94.2.2.2.2.2.2.1
theorem dX11_factsOf_109 : decode cX11_factsOf 109 = .ok (.goto (-94), 3) := dG_dX11_factsOf_94.2.2.2.2.2.2.2.1
theorem dX11_factsOf_112 : decode cX11_factsOf 112 = .ok (.iconst 0, 1) := dG_dX11_factsOf_94.2.2.2.2.2.2.2.2.1
theorem dX11_factsOf_113 : decode cX11_factsOf 113 = .ok (.istore 9, 2) := dG_dX11_factsOf_94.2.2.2.2.2.2.2.2.2.1
theorem dX11_factsOf_115 : decode cX11_factsOf 115 = .ok (.iload 9, 2) := dG_dX11_factsOf_94.2.2.2.2.2.2.2.2.2.2.1
theorem dX11_factsOf_117 : decode cX11_factsOf 117 = .ok (.bipush 6, 2) := dG_dX11_factsOf_94.2.2.2.2.2.2.2.2.2.2.2
theorem dG_dX11_factsOf_119 : (decode cX11_factsOf 119 = .ok (.if_icmp .ge 17, 3)) ∧ (decode cX11_factsOf 122 = .ok (.aload_n 0, 1)) ∧ (decode cX11_factsOf 123 = .ok (.getfield 133, 3)) ∧ (decode cX11_factsOf 126 = .ok (.iload 9, 2)) ∧ (decode cX11_factsOf 128 = .ok (.iconst 0, 1)) ∧ (decode cX11_factsOf 129 = .ok (.iastore, 1)) ∧ (decode cX11_factsOf 130 = .ok (.iinc 9 1, 3)) ∧ (decode cX11_factsOf 133 = .ok (.goto (-18), 3)) ∧ (decode cX11_factsOf 136 = .ok (.iload 6, 2)) ∧ (decode cX11_factsOf 138 = .ok (.ifCond .ge 4, 3)) ∧ (decode cX11_factsOf 141 = .ok (.return_, 1)) ∧ (decode cX11_factsOf 142 = .ok (.iload_n 1, 1)) := by decide +kernel
theorem dX11_factsOf_119 : decode cX11_factsOf 119 = .ok (.if_icmp .ge 17, 3) := dG_dX11_factsOf_119.1
theorem dX11_factsOf_122 : decode cX11_factsOf 122 = .ok (.aload_n 0, 1) := dG_dX11_factsOf_119.2.1
theorem dX11_factsOf_123 : decode cX11_factsOf 123 = .ok (.getfield 133, 3) := dG_dX11_factsOf_119.2.2.1
theorem dX11_factsOf_126 : decode cX11_factsOf 126 = .ok (.iload 9, 2) := dG_dX11_factsOf_119.2.2.2.1
theorem dX11_factsOf_128 : decode cX11_factsOf 128 = .ok (.iconst 0, 1) := dG_dX11_factsOf_119.2.2.2.2.1
theorem dX11_factsOf_129 : decode cX11_factsOf 129 = .ok (.iastore, 1) := dG_dX11_factsOf_119.2.2.2.2.2.1
theorem dX11_factsOf_130 : decode cX11_factsOf 130 = .ok (.iinc 9 1, 3) := dG_dX11_factsOf_119.2.2.2.2.2.2.1
theorem dX11_factsOf_133 : decode cX11_factsOf 133 = .ok (.goto (-18), 3) := dG_dX11_factsOf_119.2.2.2.2.2.2.2.1
theorem dX11_factsOf_136 : decode cX11_factsOf 136 = .ok (.iload 6, 2) := dG_dX11_factsOf_119.2.2.2.2.2.2.2.2.1
theorem dX11_factsOf_138 : decode cX11_factsOf 138 = .ok (.ifCond .ge 4, 3) := dG_dX11_factsOf_119.2.2.2.2.2.2.2.2.2.1
theorem dX11_factsOf_141 : decode cX11_factsOf 141 = .ok (.return_, 1) := dG_dX11_factsOf_119.2.2.2.2.2.2.2.2.2.2.1
theorem dX11_factsOf_142 : decode cX11_factsOf 142 = .ok (.iload_n 1, 1) := dG_dX11_factsOf_119.2.2.2.2.2.2.2.2.2.2.2
theorem dG_dX11_factsOf_143 : (decode cX11_factsOf 143 = .ok (.iload_n 2, 1)) ∧ (decode cX11_factsOf 144 = .ok (.invokestatic 335, 3)) ∧ (decode cX11_factsOf 147 = .ok (.istore 9, 2)) ∧ (decode cX11_factsOf 149 = .ok (.aload_n 0, 1)) ∧ (decode cX11_factsOf 150 = .ok (.getfield 133, 3)) ∧ (decode cX11_factsOf 153 = .ok (.iconst 0, 1)) ∧ (decode cX11_factsOf 154 = .ok (.iload 5, 2)) ∧ (decode cX11_factsOf 156 = .ok (.aload_n 0, 1)) ∧ (decode cX11_factsOf 157 = .ok (.getfield 73, 3)) ∧ (decode cX11_factsOf 160 = .ok (.iload 9, 2)) ∧ (decode cX11_factsOf 162 = .ok (.iaload, 1)) ∧ (decode cX11_factsOf 163 = .ok (.if_icmp .ne 7, 3)) := by decide +kernel
theorem dX11_factsOf_143 : decode cX11_factsOf 143 = .ok (.iload_n 2, 1) := dG_dX11_factsOf_143.1
theorem dX11_factsOf_144 : decode cX11_factsOf 144 = .ok (.invokestatic 335, 3) := dG_dX11_factsOf_143.2.1
theorem dX11_factsOf_147 : decode cX11_factsOf 147 = .ok (.istore 9, 2) := dG_dX11_factsOf_143.2.2.1
theorem dX11_factsOf_149 : decode cX11_factsOf 149 = .ok (.aload_n 0, 1) := dG_dX11_factsOf_143.2.2.2.1
theorem dX11_factsOf_150 : decode cX11_factsOf 150 = .ok (.getfield 133, 3) := dG_dX11_factsOf_143.2.2.2.2.1
theorem dX11_factsOf_153 : decode cX11_factsOf 153 = .ok (.iconst 0, 1) := dG_dX11_factsOf_143.2.2.2.2.2.1
theorem dX11_factsOf_154 : decode cX11_factsOf 154 = .ok (.iload 5, 2) := dG_dX11_factsOf_143.2.2.2.2.2.2.1
theorem dX11_factsOf_156 : decode cX11_factsOf 156 = .ok (.aload_n 0, 1) := dG_dX11_factsOf_143.2.2.2.2.2.2.2.1
theorem dX11_factsOf_157 : decode cX11_factsOf 157 = .ok (.getfield 73, 3) := dG_dX11_factsOf_143.2.2.2.2.2.2.2.2.1
theorem dX11_factsOf_160 : decode cX11_factsOf 160 = .ok (.iload 9, 2) := dG_dX11_factsOf_143.2.2.2.2.2.2.2.2.2.1
theorem dX11_factsOf_162 : decode cX11_factsOf 162 = .ok (.iaload, 1) := dG_dX11_factsOf_143.2.2.2.2.2.2.2.2.2.2.1
theorem dX11_factsOf_163 : decode cX11_factsOf 163 = .ok (.if_icmp .ne 7, 3) := dG_dX11_factsOf_143.2.2.2.2.2.2.2.2.2.2.2
theorem dG_dX11_factsOf_166 : (decode cX11_factsOf 166 = .ok (.iconst 1, 1)) ∧ (decode cX11_factsOf 167 = .ok (.goto 4, 3)) ∧ (decode cX11_factsOf 170 = .ok (.iconst 0, 1)) ∧ (decode cX11_factsOf 171 = .ok (.iastore, 1)) ∧ (decode cX11_factsOf 172 = .ok (.iconst 0, 1)) ∧ (decode cX11_factsOf 173 = .ok (.istore 10, 2)) ∧ (decode cX11_factsOf 175 = .ok (.iload 10, 2)) ∧ (decode cX11_factsOf 177 = .ok (.iconst 3, 1)) ∧ (decode cX11_factsOf 178 = .ok (.if_icmp .ge 55, 3)) ∧ (decode cX11_factsOf 181 = .ok (.aload_n 0, 1)) ∧ (decode cX11_factsOf 182 = .ok (.getfield 133, 3)) ∧ (decode cX11_factsOf 185 = .ok (.iconst 1, 1)) := by decide +kernel
theorem dX11_factsOf_166 : decode cX11_factsOf 166 = .ok (.iconst 1, 1) := dG_dX11_factsOf_166.1
theorem dX11_factsOf_167 : decode cX11_factsOf 167 = .ok (.goto 4, 3) := dG_dX11_factsOf_166.2.1
theorem dX11_factsOf_170 : decode cX11_factsOf 170 = .ok (.iconst 0, 1) := dG_dX11_factsOf_166.2.2.1
theorem dX11_factsOf_171 : decode cX11_factsOf 171 = .ok (.iastore, 1) := dG_dX11_factsOf_166.2.2.2.1
theorem dX11_factsOf_172 : decode cX11_factsOf 172 = .ok (.iconst 0, 1) := dG_dX11_factsOf_166.2.2.2.2.1
theorem dX11_factsOf_173 : decode cX11_factsOf 173 = .ok (.istore 10, 2) := dG_dX11_factsOf_166.2.2.2.2.2.1
theorem dX11_factsOf_175 : decode cX11_factsOf 175 = .ok (.iload 10, 2) := dG_dX11_factsOf_166.2.2.2.2.2.2.1
theorem dX11_factsOf_177 : decode cX11_factsOf 177 = .ok (.iconst 3, 1) := dG_dX11_factsOf_166.2.2.2.2.2.2.2.1
theorem dX11_factsOf_178 : decode cX11_factsOf 178 = .ok (.if_icmp .ge 55, 3) := dG_dX11_factsOf_166.2.2.2.2.2.2.2.2.1
theorem dX11_factsOf_181 : decode cX11_factsOf 181 = .ok (.aload_n 0, 1) := dG_dX11_factsOf_166.2.2.2.2.2.2.2.2.2.1
theorem dX11_factsOf_182 : decode cX11_factsOf 182 = .ok (.getfield 133, 3) := dG_dX11_factsOf_166.2.2.2.2.2.2.2.2.2.2.1
theorem dX11_factsOf_185 : decode cX11_factsOf 185 = .ok (.iconst 1, 1) := dG_dX11_factsOf_166.2.2.2.2.2.2.2.2.2.2.2
theorem dG_dX11_factsOf_186 : (decode cX11_factsOf 186 = .ok (.dup2, 1)) ∧ (decode cX11_factsOf 187 = .ok (.iaload, 1)) ∧ (decode cX11_factsOf 188 = .ok (.aload_n 0, 1)) ∧ (decode cX11_factsOf 189 = .ok (.getfield 76, 3)) ∧ (decode cX11_factsOf 192 = .ok (.iconst 3, 1)) ∧ (decode cX11_factsOf 193 = .ok (.iload 9, 2)) ∧ (decode cX11_factsOf 195 = .ok (.imul, 1)) ∧ (decode cX11_factsOf 196 = .ok (.iload 10, 2)) ∧ (decode cX11_factsOf 198 = .ok (.iadd, 1)) ∧ (decode cX11_factsOf 199 = .ok (.iaload, 1)) ∧ (decode cX11_factsOf 200 = .ok (.ifCond .le 24, 3)) ∧ (decode cX11_factsOf 203 = .ok (.aload_n 0, 1)) := by decide +kernel
theorem dX11_factsOf_186 : decode cX11_factsOf 186 = .ok (.dup2, 1) := dG_dX11_factsOf_186.1
theorem dX11_factsOf_187 : decode cX11_factsOf 187 = .ok (.iaload, 1) := dG_dX11_factsOf_186.2.1
theorem dX11_factsOf_188 : decode cX11_factsOf 188 = .ok (.aload_n 0, 1) := dG_dX11_factsOf_186.2.2.1
theorem dX11_factsOf_189 : decode cX11_factsOf 189 = .ok (.getfield 76, 3) := dG_dX11_factsOf_186.2.2.2.1
theorem dX11_factsOf_192 : decode cX11_factsOf 192 = .ok (.iconst 3, 1) := dG_dX11_factsOf_186.2.2.2.2.1
theorem dX11_factsOf_193 : decode cX11_factsOf 193 = .ok (.iload 9, 2) := dG_dX11_factsOf_186.2.2.2.2.2.1
theorem dX11_factsOf_195 : decode cX11_factsOf 195 = .ok (.imul, 1) := dG_dX11_factsOf_186.2.2.2.2.2.2.1
theorem dX11_factsOf_196 : decode cX11_factsOf 196 = .ok (.iload 10, 2) := dG_dX11_factsOf_186.2.2.2.2.2.2.2.1
theorem dX11_factsOf_198 : decode cX11_factsOf 198 = .ok (.iadd, 1) := dG_dX11_factsOf_186.2.2.2.2.2.2.2.2.1
theorem dX11_factsOf_199 : decode cX11_factsOf 199 = .ok (.iaload, 1) := dG_dX11_factsOf_186.2.2.2.2.2.2.2.2.2.1
theorem dX11_factsOf_200 : decode cX11_factsOf 200 = .ok (.ifCond .le 24, 3) := dG_dX11_factsOf_186.2.2.2.2.2.2.2.2.2.2.1
theorem dX11_factsOf_203 : decode cX11_factsOf 203 = .ok (.aload_n 0, 1) := dG_dX11_factsOf_186.2.2.2.2.2.2.2.2.2.2.2
theorem dG_dX11_factsOf_204 : (decode cX11_factsOf 204 = .ok (.getfield 76, 3)) ∧ (decode cX11_factsOf 207 = .ok (.iconst 3, 1)) ∧ (decode cX11_factsOf 208 = .ok (.iload 9, 2)) ∧ (decode cX11_factsOf 210 = .ok (.imul, 1)) ∧ (decode cX11_factsOf 211 = .ok (.iload 10, 2)) ∧ (decode cX11_factsOf 213 = .ok (.iadd, 1)) ∧ (decode cX11_factsOf 214 = .ok (.iaload, 1)) ∧ (decode cX11_factsOf 215 = .ok (.iload 5, 2)) ∧ (decode cX11_factsOf 217 = .ok (.if_icmp .gt 7, 3)) ∧ (decode cX11_factsOf 220 = .ok (.iconst 1, 1)) ∧ (decode cX11_factsOf 221 = .ok (.goto 4, 3)) ∧ (decode cX11_factsOf 224 = .ok (.iconst 0, 1)) := by decide +kernel
theorem dX11_factsOf_204 : decode cX11_factsOf 204 = .ok (.getfield 76, 3) := dG_dX11_factsOf_204.1
theorem dX11_factsOf_207 : decode cX11_factsOf 207 = .ok (.iconst 3, 1) := dG_dX11_factsOf_204.2.1
theorem dX11_factsOf_208 : decode cX11_factsOf 208 = .ok (.iload 9, 2) := dG_dX11_factsOf_204.2.2.1
theorem dX11_factsOf_210 : decode cX11_factsOf 210 = .ok (.imul, 1) := dG_dX11_factsOf_204.2.2.2.1
theorem dX11_factsOf_211 : decode cX11_factsOf 211 = .ok (.iload 10, 2) := dG_dX11_factsOf_204.2.2.2.2.1
theorem dX11_factsOf_213 : decode cX11_factsOf 213 = .ok (.iadd, 1) := dG_dX11_factsOf_204.2.2.2.2.2.1
theorem dX11_factsOf_214 : decode cX11_factsOf 214 = .ok (.iaload, 1) := dG_dX11_factsOf_204.2.2.2.2.2.2.1
theorem dX11_factsOf_215 : decode cX11_factsOf 215 = .ok (.iload 5, 2) := dG_dX11_factsOf_204.2.2.2.2.2.2.2.1
theorem dX11_factsOf_217 : decode cX11_factsOf 217 = .ok (.if_icmp .gt 7, 3) := dG_dX11_factsOf_204.2.2.2.2.2.2.2.2.1
theorem dX11_factsOf_220 : decode cX11_factsOf 220 = .ok (.iconst 1, 1) := dG_dX11_factsOf_204.2.2.2.2.2.2.2.2.2.1
theorem dX11_factsOf_221 : decode cX11_factsOf 221 = .ok (.goto 4, 3) := dG_dX11_factsOf_204.2.2.2.2.2.2.2.2.2.2.1
theorem dX11_factsOf_224 : decode cX11_factsOf 224 = .ok (.iconst 0, 1) := dG_dX11_factsOf_204.2.2.2.2.2.2.2.2.2.2.2
theorem dG_dX11_factsOf_225 : (decode cX11_factsOf 225 = .ok (.iadd, 1)) ∧ (decode cX11_factsOf 226 = .ok (.iastore, 1)) ∧ (decode cX11_factsOf 227 = .ok (.iinc 10 1, 3)) ∧ (decode cX11_factsOf 230 = .ok (.goto (-55), 3)) ∧ (decode cX11_factsOf 233 = .ok (.aload_n 0, 1)) ∧ (decode cX11_factsOf 234 = .ok (.getfield 133, 3)) ∧ (decode cX11_factsOf 237 = .ok (.iconst 2, 1)) ∧ (decode cX11_factsOf 238 = .ok (.iload 5, 2)) ∧ (decode cX11_factsOf 240 = .ok (.iastore, 1)) ∧ (decode cX11_factsOf 241 = .ok (.aload_n 0, 1)) ∧ (decode cX11_factsOf 242 = .ok (.getfield 133, 3)) ∧ (decode cX11_factsOf 245 = .ok (.iconst 3, 1)) := by decide +kernel
theorem dX11_factsOf_225 : decode cX11_factsOf 225 = .ok (.iadd, 1) := dG_dX11_factsOf_225.1
theorem dX11_factsOf_226 : decode cX11_factsOf 226 = .ok (.iastore, 1) := dG_dX11_factsOf_225.2.1
theorem dX11_factsOf_227 : decode cX11_factsOf 227 = .ok (.iinc 10 1, 3) := dG_dX11_factsOf_225.2.2.1
theorem dX11_factsOf_230 : decode cX11_factsOf 230 = .ok (.goto (-55), 3) := dG_dX11_factsOf_225.2.2.2.1
theorem dX11_factsOf_233 : decode cX11_factsOf 233 = .ok (.aload_n 0, 1) := dG_dX11_factsOf_225.2.2.2.2.1
theorem dX11_factsOf_234 : decode cX11_factsOf 234 = .ok (.getfield 133, 3) := dG_dX11_factsOf_225.2.2.2.2.2.1
theorem dX11_factsOf_237 : decode cX11_factsOf 237 = .ok (.iconst 2, 1) := dG_dX11_factsOf_225.2.2.2.2.2.2.1
theorem dX11_factsOf_238 : decode cX11_factsOf 238 = .ok (.iload 5, 2) := dG_dX11_factsOf_225.2.2.2.2.2.2.2.1
theorem dX11_factsOf_240 : decode cX11_factsOf 240 = .ok (.iastore, 1) := dG_dX11_factsOf_225.2.2.2.2.2.2.2.2.1
theorem dX11_factsOf_241 : decode cX11_factsOf 241 = .ok (.aload_n 0, 1) := dG_dX11_factsOf_225.2.2.2.2.2.2.2.2.2.1
theorem dX11_factsOf_242 : decode cX11_factsOf 242 = .ok (.getfield 133, 3) := dG_dX11_factsOf_225.2.2.2.2.2.2.2.2.2.2.1
theorem dX11_factsOf_245 : decode cX11_factsOf 245 = .ok (.iconst 3, 1) := dG_dX11_factsOf_225.2.2.2.2.2.2.2.2.2.2.2
theorem dG_dX11_factsOf_246 : (decode cX11_factsOf 246 = .ok (.iload 8, 2)) ∧ (decode cX11_factsOf 248 = .ok (.iastore, 1)) ∧ (decode cX11_factsOf 249 = .ok (.aload_n 0, 1)) ∧ (decode cX11_factsOf 250 = .ok (.getfield 133, 3)) ∧ (decode cX11_factsOf 253 = .ok (.iconst 4, 1)) ∧ (decode cX11_factsOf 254 = .ok (.aload_n 0, 1)) ∧ (decode cX11_factsOf 255 = .ok (.getfield 112, 3)) ∧ (decode cX11_factsOf 258 = .ok (.iload 6, 2)) ∧ (decode cX11_factsOf 260 = .ok (.iaload, 1)) ∧ (decode cX11_factsOf 261 = .ok (.ifCond .ne 7, 3)) ∧ (decode cX11_factsOf 264 = .ok (.iconst 0, 1)) ∧ (decode cX11_factsOf 265 = .ok (.goto 18, 3)) := by decide +kernel
theorem dX11_factsOf_246 : decode cX11_factsOf 246 = .ok (.iload 8, 2) := dG_dX11_factsOf_246.1
theorem dX11_factsOf_248 : decode cX11_factsOf 248 = .ok (.iastore, 1) := dG_dX11_factsOf_246.2.1
theorem dX11_factsOf_249 : decode cX11_factsOf 249 = .ok (.aload_n 0, 1) := dG_dX11_factsOf_246.2.2.1
theorem dX11_factsOf_250 : decode cX11_factsOf 250 = .ok (.getfield 133, 3) := dG_dX11_factsOf_246.2.2.2.1
theorem dX11_factsOf_253 : decode cX11_factsOf 253 = .ok (.iconst 4, 1) := dG_dX11_factsOf_246.2.2.2.2.1
theorem dX11_factsOf_254 : decode cX11_factsOf 254 = .ok (.aload_n 0, 1) := dG_dX11_factsOf_246.2.2.2.2.2.1
theorem dX11_factsOf_255 : decode cX11_factsOf 255 = .ok (.getfield 112, 3) := dG_dX11_factsOf_246.2.2.2.2.2.2.1
theorem dX11_factsOf_258 : decode cX11_factsOf 258 = .ok (.iload 6, 2) := dG_dX11_factsOf_246.2.2.2.2.2.2.2.1
theorem dX11_factsOf_260 : decode cX11_factsOf 260 = .ok (.iaload, 1) := dG_dX11_factsOf_246.2.2.2.2.2.2.2.2.1
theorem dX11_factsOf_261 : decode cX11_factsOf 261 = .ok (.ifCond .ne 7, 3) := dG_dX11_factsOf_246.2.2.2.2.2.2.2.2.2.1
theorem dX11_factsOf_264 : decode cX11_factsOf 264 = .ok (.iconst 0, 1) := dG_dX11_factsOf_246.2.2.2.2.2.2.2.2.2.2.1
theorem dX11_factsOf_265 : decode cX11_factsOf 265 = .ok (.goto 18, 3) := dG_dX11_factsOf_246.2.2.2.2.2.2.2.2.2.2.2
theorem dG_dX11_factsOf_268 : (decode cX11_factsOf 268 = .ok (.aload_n 0, 1)) ∧ (decode cX11_factsOf 269 = .ok (.getfield 106, 3)) ∧ (decode cX11_factsOf 272 = .ok (.iload 6, 2)) ∧ (decode cX11_factsOf 274 = .ok (.iaload, 1)) ∧ (decode cX11_factsOf 275 = .ok (.aload_n 0, 1)) ∧ (decode cX11_factsOf 276 = .ok (.getfield 103, 3)) ∧ (decode cX11_factsOf 279 = .ok (.iload 6, 2)) ∧ (decode cX11_factsOf 281 = .ok (.iaload, 1)) ∧ (decode cX11_factsOf 282 = .ok (.isub, 1)) ∧ (decode cX11_factsOf 283 = .ok (.iastore, 1)) ∧ (decode cX11_factsOf 284 = .ok (.aload_n 0, 1)) ∧ (decode cX11_factsOf 285 = .ok (.getfield 133, 3)) := by decide +kernel
theorem dX11_factsOf_268 : decode cX11_factsOf 268 = .ok (.aload_n 0, 1) := dG_dX11_factsOf_268.1
theorem dX11_factsOf_269 : decode cX11_factsOf 269 = .ok (.getfield 106, 3) := dG_dX11_factsOf_268.2.1
theorem dX11_factsOf_272 : decode cX11_factsOf 272 = .ok (.iload 6, 2) := dG_dX11_factsOf_268.2.2.1
theorem dX11_factsOf_274 : decode cX11_factsOf 274 = .ok (.iaload, 1) := dG_dX11_factsOf_268.2.2.2.1
theorem dX11_factsOf_275 : decode cX11_factsOf 275 = .ok (.aload_n 0, 1) := dG_dX11_factsOf_268.2.2.2.2.1
theorem dX11_factsOf_276 : decode cX11_factsOf 276 = .ok (.getfield 103, 3) := dG_dX11_factsOf_268.2.2.2.2.2.1
theorem dX11_factsOf_279 : decode cX11_factsOf 279 = .ok (.iload 6, 2) := dG_dX11_factsOf_268.2.2.2.2.2.2.1
theorem dX11_factsOf_281 : decode cX11_factsOf 281 = .ok (.iaload, 1) := dG_dX11_factsOf_268.2.2.2.2.2.2.2.1
theorem dX11_factsOf_282 : decode cX11_factsOf 282 = .ok (.isub, 1) := dG_dX11_factsOf_268.2.2.2.2.2.2.2.2.1
theorem dX11_factsOf_283 : decode cX11_factsOf 283 = .ok (.iastore, 1) := dG_dX11_factsOf_268.2.2.2.2.2.2.2.2.2.1
theorem dX11_factsOf_284 : decode cX11_factsOf 284 = .ok (.aload_n 0, 1) := dG_dX11_factsOf_268.2.2.2.2.2.2.2.2.2.2.1
theorem dX11_factsOf_285 : decode cX11_factsOf 285 = .ok (.getfield 133, 3) := dG_dX11_factsOf_268.2.2.2.2.2.2.2.2.2.2.2
theorem dG_dX11_factsOf_288 : (decode cX11_factsOf 288 = .ok (.iconst 5, 1)) ∧ (decode cX11_factsOf 289 = .ok (.aload_n 0, 1)) ∧ (decode cX11_factsOf 290 = .ok (.getfield 133, 3)) ∧ (decode cX11_factsOf 293 = .ok (.iconst 0, 1)) ∧ (decode cX11_factsOf 294 = .ok (.iaload, 1)) ∧ (decode cX11_factsOf 295 = .ok (.iconst 1, 1)) ∧ (decode cX11_factsOf 296 = .ok (.if_icmp .ne 13, 3)) ∧ (decode cX11_factsOf 299 = .ok (.iload 8, 2)) ∧ (decode cX11_factsOf 301 = .ok (.iconst 1, 1)) ∧ (decode cX11_factsOf 302 = .ok (.if_icmp .ne 7, 3)) ∧ (decode cX11_factsOf 305 = .ok (.iconst 1, 1)) ∧ (decode cX11_factsOf 306 = .ok (.goto 4, 3)) := by decide +kernel
theorem dX11_factsOf_288 : decode cX11_factsOf 288 = .ok (.iconst 5, 1) := dG_dX11_factsOf_288.1
theorem dX11_factsOf_289 : decode cX11_factsOf 289 = .ok (.aload_n 0, 1) := dG_dX11_factsOf_288.2.1
theorem dX11_factsOf_290 : decode cX11_factsOf 290 = .ok (.getfield 133, 3) := dG_dX11_factsOf_288.2.2.1
theorem dX11_factsOf_293 : decode cX11_factsOf 293 = .ok (.iconst 0, 1) := dG_dX11_factsOf_288.2.2.2.1
theorem dX11_factsOf_294 : decode cX11_factsOf 294 = .ok (.iaload, 1) := dG_dX11_factsOf_288.2.2.2.2.1
theorem dX11_factsOf_295 : decode cX11_factsOf 295 = .ok (.iconst 1, 1) := dG_dX11_factsOf_288.2.2.2.2.2.1
theorem dX11_factsOf_296 : decode cX11_factsOf 296 = .ok (.if_icmp .ne 13, 3) := dG_dX11_factsOf_288.2.2.2.2.2.2.1
theorem dX11_factsOf_299 : decode cX11_factsOf 299 = .ok (.iload 8, 2) := dG_dX11_factsOf_288.2.2.2.2.2.2.2.1
theorem dX11_factsOf_301 : decode cX11_factsOf 301 = .ok (.iconst 1, 1) := dG_dX11_factsOf_288.2.2.2.2.2.2.2.2.1
theorem dX11_factsOf_302 : decode cX11_factsOf 302 = .ok (.if_icmp .ne 7, 3) := dG_dX11_factsOf_288.2.2.2.2.2.2.2.2.2.1
theorem dX11_factsOf_305 : decode cX11_factsOf 305 = .ok (.iconst 1, 1) := dG_dX11_factsOf_288.2.2.2.2.2.2.2.2.2.2.1
theorem dX11_factsOf_306 : decode cX11_factsOf 306 = .ok (.goto 4, 3) := dG_dX11_factsOf_288.2.2.2.2.2.2.2.2.2.2.2
theorem dG_dX11_factsOf_309 : (decode cX11_factsOf 309 = .ok (.iconst 0, 1)) ∧ (decode cX11_factsOf 310 = .ok (.iastore, 1)) ∧ (decode cX11_factsOf 311 = .ok (.return_, 1)) ∧ (decode cX11_cut 0 = .ok (.ldc2_w 370, 3)) ∧ (decode cX11_cut 3 = .ok (.ldc2_w 372, 3)) ∧ (decode cX11_cut 6 = .ok (.lload_n 0, 1)) ∧ (decode cX11_cut 7 = .ok (.invokestatic 374, 3)) ∧ (decode cX11_cut 10 = .ok (.invokestatic 377, 3)) ∧ (decode cX11_cut 13 = .ok (.lreturn, 1)) ∧ (decode cX11_pointsOf 0 = .ok (.aload_n 0, 1)) ∧ (decode cX11_pointsOf 1 = .ok (.iload_n 1, 1)) ∧ (decode cX11_pointsOf 2 = .ok (.iload_n 2, 1)) := by decide +kernel
theorem dX11_factsOf_309 : decode cX11_factsOf 309 = .ok (.iconst 0, 1) := dG_dX11_factsOf_309.1
theorem dX11_factsOf_310 : decode cX11_factsOf 310 = .ok (.iastore, 1) := dG_dX11_factsOf_309.2.1
theorem dX11_factsOf_311 : decode cX11_factsOf 311 = .ok (.return_, 1) := dG_dX11_factsOf_309.2.2.1
theorem dX11_cut_0 : decode cX11_cut 0 = .ok (.ldc2_w 370, 3) := dG_dX11_factsOf_309.2.2.2.1
theorem dX11_cut_3 : decode cX11_cut 3 = .ok (.ldc2_w 372, 3) := dG_dX11_factsOf_309.2.2.2.2.1
theorem dX11_cut_6 : decode cX11_cut 6 = .ok (.lload_n 0, 1) := dG_dX11_factsOf_309.2.2.2.2.2.1
theorem dX11_cut_7 : decode cX11_cut 7 = .ok (.invokestatic 374, 3) := dG_dX11_factsOf_309.2.2.2.2.2.2.1
theorem dX11_cut_10 : decode cX11_cut 10 = .ok (.invokestatic 377, 3) := dG_dX11_factsOf_309.2.2.2.2.2.2.2.1
theorem dX11_cut_13 : decode cX11_cut 13 = .ok (.lreturn, 1) := dG_dX11_factsOf_309.2.2.2.2.2.2.2.2.1
theorem dX11_pointsOf_0 : decode cX11_pointsOf 0 = .ok (.aload_n 0, 1) := dG_dX11_factsOf_309.2.2.2.2.2.2.2.2.2.1
theorem dX11_pointsOf_1 : decode cX11_pointsOf 1 = .ok (.iload_n 1, 1) := dG_dX11_factsOf_309.2.2.2.2.2.2.2.2.2.2.1
theorem dX11_pointsOf_2 : decode cX11_pointsOf 2 = .ok (.iload_n 2, 1) := dG_dX11_factsOf_309.2.2.2.2.2.2.2.2.2.2.2
theorem dG_dX11_pointsOf_3 : (decode cX11_pointsOf 3 = .ok (.iload_n 3, 1)) ∧ (decode cX11_pointsOf 4 = .ok (.iload 4, 2)) ∧ (decode cX11_pointsOf 6 = .ok (.invokevirtual 379, 3)) ∧ (decode cX11_pointsOf 9 = .ok (.iconst 0, 1)) ∧ (decode cX11_pointsOf 10 = .ok (.istore 5, 2)) ∧ (decode cX11_pointsOf 12 = .ok (.iconst 0, 1)) ∧ (decode cX11_pointsOf 13 = .ok (.istore 6, 2)) ∧ (decode cX11_pointsOf 15 = .ok (.iload 6, 2)) ∧ (decode cX11_pointsOf 17 = .ok (.aload_n 0, 1)) ∧ (decode cX11_pointsOf 18 = .ok (.getfield 304, 3)) ∧ (decode cX11_pointsOf 21 = .ok (.if_icmp .ge 200, 3)) ∧ (decode cX11_pointsOf 24 = .ok (.aload_n 0, 1)) := by decide +kernel
theorem dX11_pointsOf_3 : decode cX11_pointsOf 3 = .ok (.iload_n 3, 1) := dG_dX11_pointsOf_3.1
theorem dX11_pointsOf_4 : decode cX11_pointsOf 4 = .ok (.iload 4, 2) := dG_dX11_pointsOf_3.2.1
theorem dX11_pointsOf_6 : decode cX11_pointsOf 6 = .ok (.invokevirtual 379, 3) := dG_dX11_pointsOf_3.2.2.1
theorem dX11_pointsOf_9 : decode cX11_pointsOf 9 = .ok (.iconst 0, 1) := dG_dX11_pointsOf_3.2.2.2.1
theorem dX11_pointsOf_10 : decode cX11_pointsOf 10 = .ok (.istore 5, 2) := dG_dX11_pointsOf_3.2.2.2.2.1
theorem dX11_pointsOf_12 : decode cX11_pointsOf 12 = .ok (.iconst 0, 1) := dG_dX11_pointsOf_3.2.2.2.2.2.1
theorem dX11_pointsOf_13 : decode cX11_pointsOf 13 = .ok (.istore 6, 2) := dG_dX11_pointsOf_3.2.2.2.2.2.2.1
theorem dX11_pointsOf_15 : decode cX11_pointsOf 15 = .ok (.iload 6, 2) := dG_dX11_pointsOf_3.2.2.2.2.2.2.2.1
theorem dX11_pointsOf_17 : decode cX11_pointsOf 17 = .ok (.aload_n 0, 1) := dG_dX11_pointsOf_3.2.2.2.2.2.2.2.2.1
theorem dX11_pointsOf_18 : decode cX11_pointsOf 18 = .ok (.getfield 304, 3) := dG_dX11_pointsOf_3.2.2.2.2.2.2.2.2.2.1
theorem dX11_pointsOf_21 : decode cX11_pointsOf 21 = .ok (.if_icmp .ge 200, 3) := dG_dX11_pointsOf_3.2.2.2.2.2.2.2.2.2.2.1
theorem dX11_pointsOf_24 : decode cX11_pointsOf 24 = .ok (.aload_n 0, 1) := dG_dX11_pointsOf_3.2.2.2.2.2.2.2.2.2.2.2
theorem dG_dX11_pointsOf_25 : (decode cX11_pointsOf 25 = .ok (.getfield 45, 3)) ∧ (decode cX11_pointsOf 28 = .ok (.iload 6, 2)) ∧ (decode cX11_pointsOf 30 = .ok (.iaload, 1)) ∧ (decode cX11_pointsOf 31 = .ok (.bipush 7, 2)) ∧ (decode cX11_pointsOf 33 = .ok (.if_icmp .ge 52, 3)) ∧ (decode cX11_pointsOf 36 = .ok (.aload_n 0, 1)) ∧ (decode cX11_pointsOf 37 = .ok (.getfield 136, 3)) ∧ (decode cX11_pointsOf 40 = .ok (.iload 5, 2)) ∧ (decode cX11_pointsOf 42 = .ok (.aload_n 0, 1)) ∧ (decode cX11_pointsOf 43 = .ok (.getfield 45, 3)) ∧ (decode cX11_pointsOf 46 = .ok (.iload 6, 2)) ∧ (decode cX11_pointsOf 48 = .ok (.iaload, 1)) := by decide +kernel
theorem dX11_pointsOf_25 : decode cX11_pointsOf 25 = .ok (.getfield 45, 3) := dG_dX11_pointsOf_25.1
theorem dX11_pointsOf_28 : decode cX11_pointsOf 28 = .ok (.iload 6, 2) := dG_dX11_pointsOf_25.2.1
theorem dX11_pointsOf_30 : decode cX11_pointsOf 30 = .ok (.iaload, 1) := dG_dX11_pointsOf_25.2.2.1
theorem dX11_pointsOf_31 : decode cX11_pointsOf 31 = .ok (.bipush 7, 2) := dG_dX11_pointsOf_25.2.2.2.1
theorem dX11_pointsOf_33 : decode cX11_pointsOf 33 = .ok (.if_icmp .ge 52, 3) := dG_dX11_pointsOf_25.2.2.2.2.1
theorem dX11_pointsOf_36 : decode cX11_pointsOf 36 = .ok (.aload_n 0, 1) := dG_dX11_pointsOf_25.2.2.2.2.2.1
theorem dX11_pointsOf_37 : decode cX11_pointsOf 37 = .ok (.getfield 136, 3) := dG_dX11_pointsOf_25.2.2.2.2.2.2.1
theorem dX11_pointsOf_40 : decode cX11_pointsOf 40 = .ok (.iload 5, 2) := dG_dX11_pointsOf_25.2.2.2.2.2.2.2.1
theorem dX11_pointsOf_42 : decode cX11_pointsOf 42 = .ok (.aload_n 0, 1) := dG_dX11_pointsOf_25.2.2.2.2.2.2.2.2.1
theorem dX11_pointsOf_43 : decode cX11_pointsOf 43 = .ok (.getfield 45, 3) := dG_dX11_pointsOf_25.2.2.2.2.2.2.2.2.2.1
theorem dX11_pointsOf_46 : decode cX11_pointsOf 46 = .ok (.iload 6, 2) := dG_dX11_pointsOf_25.2.2.2.2.2.2.2.2.2.2.1
theorem dX11_pointsOf_48 : decode cX11_pointsOf 48 = .ok (.iaload, 1) := dG_dX11_pointsOf_25.2.2.2.2.2.2.2.2.2.2.2
theorem dG_dX11_pointsOf_49 : (decode cX11_pointsOf 49 = .ok (.ifCond .ne 14, 3)) ∧ (decode cX11_pointsOf 52 = .ok (.aload_n 0, 1)) ∧ (decode cX11_pointsOf 53 = .ok (.getfield 48, 3)) ∧ (decode cX11_pointsOf 56 = .ok (.iload 6, 2)) ∧ (decode cX11_pointsOf 58 = .ok (.iaload, 1)) ∧ (decode cX11_pointsOf 59 = .ok (.i2l, 1)) ∧ (decode cX11_pointsOf 60 = .ok (.goto 18, 3)) ∧ (decode cX11_pointsOf 63 = .ok (.aload_n 0, 1)) ∧ (decode cX11_pointsOf 64 = .ok (.getfield 133, 3)) ∧ (decode cX11_pointsOf 67 = .ok (.aload_n 0, 1)) ∧ (decode cX11_pointsOf 68 = .ok (.getfield 45, 3)) ∧ (decode cX11_pointsOf 71 = .ok (.iload 6, 2)) := by decide +kernel
theorem dX11_pointsOf_49 : decode cX11_pointsOf 49 = .ok (.ifCond .ne 14, 3) := dG_dX11_pointsOf_49.1
theorem dX11_pointsOf_52 : decode cX11_pointsOf 52 = .ok (.aload_n 0, 1) := dG_dX11_pointsOf_49.2.1
theorem dX11_pointsOf_53 : decode cX11_pointsOf 53 = .ok (.getfield 48, 3) := dG_dX11_pointsOf_49.2.2.1
theorem dX11_pointsOf_56 : decode cX11_pointsOf 56 = .ok (.iload 6, 2) := dG_dX11_pointsOf_49.2.2.2.1
theorem dX11_pointsOf_58 : decode cX11_pointsOf 58 = .ok (.iaload, 1) := dG_dX11_pointsOf_49.2.2.2.2.1
theorem dX11_pointsOf_59 : decode cX11_pointsOf 59 = .ok (.i2l, 1) := dG_dX11_pointsOf_49.2.2.2.2.2.1
theorem dX11_pointsOf_60 : decode cX11_pointsOf 60 = .ok (.goto 18, 3) := dG_dX11_pointsOf_49.2.2.2.2.2.2.1
theorem dX11_pointsOf_63 : decode cX11_pointsOf 63 = .ok (.aload_n 0, 1) := dG_dX11_pointsOf_49.2.2.2.2.2.2.2.1
theorem dX11_pointsOf_64 : decode cX11_pointsOf 64 = .ok (.getfield 133, 3) := dG_dX11_pointsOf_49.2.2.2.2.2.2.2.2.1
theorem dX11_pointsOf_67 : decode cX11_pointsOf 67 = .ok (.aload_n 0, 1) := dG_dX11_pointsOf_49.2.2.2.2.2.2.2.2.2.1
theorem dX11_pointsOf_68 : decode cX11_pointsOf 68 = .ok (.getfield 45, 3) := dG_dX11_pointsOf_49.2.2.2.2.2.2.2.2.2.2.1
theorem dX11_pointsOf_71 : decode cX11_pointsOf 71 = .ok (.iload 6, 2) := dG_dX11_pointsOf_49.2.2.2.2.2.2.2.2.2.2.2
theorem dG_dX11_pointsOf_73 : (decode cX11_pointsOf 73 = .ok (.iaload, 1)) ∧ (decode cX11_pointsOf 74 = .ok (.iconst 1, 1)) ∧ (decode cX11_pointsOf 75 = .ok (.isub, 1)) ∧ (decode cX11_pointsOf 76 = .ok (.iaload, 1)) ∧ (decode cX11_pointsOf 77 = .ok (.i2l, 1)) ∧ (decode cX11_pointsOf 78 = .ok (.lastore, 1)) ∧ (decode cX11_pointsOf 79 = .ok (.iinc 5 1, 3)) ∧ (decode cX11_pointsOf 82 = .ok (.goto 133, 3)) ∧ (decode cX11_pointsOf 85 = .ok (.aload_n 0, 1)) ∧ (decode cX11_pointsOf 86 = .ok (.getfield 45, 3)) ∧ (decode cX11_pointsOf 89 = .ok (.iload 6, 2)) ∧ (decode cX11_pointsOf 91 = .ok (.iaload, 1)) := by decide +kernel
theorem dX11_pointsOf_73 : decode cX11_pointsOf 73 = .ok (.iaload, 1) := dG_dX11_pointsOf_73.1
theorem dX11_pointsOf_74 : decode cX11_pointsOf 74 = .ok (.iconst 1, 1) := dG_dX11_pointsOf_73.2.1
theorem dX11_pointsOf_75 : decode cX11_pointsOf 75 = .ok (.isub, 1) := dG_dX11_pointsOf_73.2.2.1
theorem dX11_pointsOf_76 : decode cX11_pointsOf 76 = .ok (.iaload, 1) := dG_dX11_pointsOf_73.2.2.2.1
theorem dX11_pointsOf_77 : decode cX11_pointsOf 77 = .ok (.i2l, 1) := dG_dX11_pointsOf_73.2.2.2.2.1
theorem dX11_pointsOf_78 : decode cX11_pointsOf 78 = .ok (.lastore, 1) := dG_dX11_pointsOf_73.2.2.2.2.2.1
theorem dX11_pointsOf_79 : decode cX11_pointsOf 79 = .ok (.iinc 5 1, 3) := dG_dX11_pointsOf_73.2.2.2.2.2.2.1
theorem dX11_pointsOf_82 : decode cX11_pointsOf 82 = .ok (.goto 133, 3) := dG_dX11_pointsOf_73.2.2.2.2.2.2.2.1
theorem dX11_pointsOf_85 : decode cX11_pointsOf 85 = .ok (.aload_n 0, 1) := dG_dX11_pointsOf_73.2.2.2.2.2.2.2.2.1
theorem dX11_pointsOf_86 : decode cX11_pointsOf 86 = .ok (.getfield 45, 3) := dG_dX11_pointsOf_73.2.2.2.2.2.2.2.2.2.1
theorem dX11_pointsOf_89 : decode cX11_pointsOf 89 = .ok (.iload 6, 2) := dG_dX11_pointsOf_73.2.2.2.2.2.2.2.2.2.2.1
theorem dX11_pointsOf_91 : decode cX11_pointsOf 91 = .ok (.iaload, 1) := dG_dX11_pointsOf_73.2.2.2.2.2.2.2.2.2.2.2
theorem dG_dX11_pointsOf_92 : (decode cX11_pointsOf 92 = .ok (.bipush 10, 2)) ∧ (decode cX11_pointsOf 94 = .ok (.if_icmp .ne 25, 3)) ∧ (decode cX11_pointsOf 97 = .ok (.aload_n 0, 1)) ∧ (decode cX11_pointsOf 98 = .ok (.getfield 136, 3)) ∧ (decode cX11_pointsOf 101 = .ok (.iload 5, 2)) ∧ (decode cX11_pointsOf 103 = .ok (.iconst 1, 1)) ∧ (decode cX11_pointsOf 104 = .ok (.isub, 1)) ∧ (decode cX11_pointsOf 105 = .ok (.aload_n 0, 1)) ∧ (decode cX11_pointsOf 106 = .ok (.getfield 136, 3)) ∧ (decode cX11_pointsOf 109 = .ok (.iload 5, 2)) ∧ (decode cX11_pointsOf 111 = .ok (.iconst 1, 1)) ∧ (decode cX11_pointsOf 112 = .ok (.isub, 1)) := by decide +kernel
theorem dX11_pointsOf_92 : decode cX11_pointsOf 92 = .ok (.bipush 10, 2) := dG_dX11_pointsOf_92.1
theorem dX11_pointsOf_94 : decode cX11_pointsOf 94 = .ok (.if_icmp .ne 25, 3) := dG_dX11_pointsOf_92.2.1
theorem dX11_pointsOf_97 : decode cX11_pointsOf 97 = .ok (.aload_n 0, 1) := dG_dX11_pointsOf_92.2.2.1
theorem dX11_pointsOf_98 : decode cX11_pointsOf 98 = .ok (.getfield 136, 3) := dG_dX11_pointsOf_92.2.2.2.1
theorem dX11_pointsOf_101 : decode cX11_pointsOf 101 = .ok (.iload 5, 2) := dG_dX11_pointsOf_92.2.2.2.2.1
theorem dX11_pointsOf_103 : decode cX11_pointsOf 103 = .ok (.iconst 1, 1) := dG_dX11_pointsOf_92.2.2.2.2.2.1
theorem dX11_pointsOf_104 : decode cX11_pointsOf 104 = .ok (.isub, 1) := dG_dX11_pointsOf_92.2.2.2.2.2.2.1
theorem dX11_pointsOf_105 : decode cX11_pointsOf 105 = .ok (.aload_n 0, 1) := dG_dX11_pointsOf_92.2.2.2.2.2.2.2.1
theorem dX11_pointsOf_106 : decode cX11_pointsOf 106 = .ok (.getfield 136, 3) := dG_dX11_pointsOf_92.2.2.2.2.2.2.2.2.1
theorem dX11_pointsOf_109 : decode cX11_pointsOf 109 = .ok (.iload 5, 2) := dG_dX11_pointsOf_92.2.2.2.2.2.2.2.2.2.1
theorem dX11_pointsOf_111 : decode cX11_pointsOf 111 = .ok (.iconst 1, 1) := dG_dX11_pointsOf_92.2.2.2.2.2.2.2.2.2.2.1
theorem dX11_pointsOf_112 : decode cX11_pointsOf 112 = .ok (.isub, 1) := dG_dX11_pointsOf_92.2.2.2.2.2.2.2.2.2.2.2
theorem dG_dX11_pointsOf_113 : (decode cX11_pointsOf 113 = .ok (.laload, 1)) ∧ (decode cX11_pointsOf 114 = .ok (.lneg, 1)) ∧ (decode cX11_pointsOf 115 = .ok (.lastore, 1)) ∧ (decode cX11_pointsOf 116 = .ok (.goto 99, 3)) ∧ (decode cX11_pointsOf 119 = .ok (.iinc 5 (-1), 3)) ∧ (decode cX11_pointsOf 122 = .ok (.aload_n 0, 1)) ∧ (decode cX11_pointsOf 123 = .ok (.getfield 136, 3)) ∧ (decode cX11_pointsOf 126 = .ok (.iload 5, 2)) ∧ (decode cX11_pointsOf 128 = .ok (.iconst 1, 1)) ∧ (decode cX11_pointsOf 129 = .ok (.isub, 1)) ∧ (decode cX11_pointsOf 130 = .ok (.aload_n 0, 1)) ∧ (decode cX11_pointsOf 131 = .ok (.getfield 45, 3)) := by decide +kernel
theorem dX11_pointsOf_113 : decode cX11_pointsOf 113 = .ok (.laload, 1) := dG_dX11_pointsOf_113.1
theorem dX11_pointsOf_114 : decode cX11_pointsOf 114 = .ok (.lneg, 1) := dG_dX11_pointsOf_113.2.1
theorem dX11_pointsOf_115 : decode cX11_pointsOf 115 = .ok (.lastore, 1) := dG_dX11_pointsOf_113.2.2.1
theorem dX11_pointsOf_116 : decode cX11_pointsOf 116 = .ok (.goto 99, 3) := dG_dX11_pointsOf_113.2.2.2.1
theorem dX11_pointsOf_119 : decode cX11_pointsOf 119 = .ok (.iinc 5 (-1), 3) := dG_dX11_pointsOf_113.2.2.2.2.1
theorem dX11_pointsOf_122 : decode cX11_pointsOf 122 = .ok (.aload_n 0, 1) := dG_dX11_pointsOf_113.2.2.2.2.2.1
theorem dX11_pointsOf_123 : decode cX11_pointsOf 123 = .ok (.getfield 136, 3) := dG_dX11_pointsOf_113.2.2.2.2.2.2.1
theorem dX11_pointsOf_126 : decode cX11_pointsOf 126 = .ok (.iload 5, 2) := dG_dX11_pointsOf_113.2.2.2.2.2.2.2.1
theorem dX11_pointsOf_128 : decode cX11_pointsOf 128 = .ok (.iconst 1, 1) := dG_dX11_pointsOf_113.2.2.2.2.2.2.2.2.1
theorem dX11_pointsOf_129 : decode cX11_pointsOf 129 = .ok (.isub, 1) := dG_dX11_pointsOf_113.2.2.2.2.2.2.2.2.2.1
theorem dX11_pointsOf_130 : decode cX11_pointsOf 130 = .ok (.aload_n 0, 1) := dG_dX11_pointsOf_113.2.2.2.2.2.2.2.2.2.2.1
theorem dX11_pointsOf_131 : decode cX11_pointsOf 131 = .ok (.getfield 45, 3) := dG_dX11_pointsOf_113.2.2.2.2.2.2.2.2.2.2.2
theorem dG_dX11_pointsOf_134 : (decode cX11_pointsOf 134 = .ok (.iload 6, 2)) ∧ (decode cX11_pointsOf 136 = .ok (.iaload, 1)) ∧ (decode cX11_pointsOf 137 = .ok (.bipush 7, 2)) ∧ (decode cX11_pointsOf 139 = .ok (.if_icmp .ne 23, 3)) ∧ (decode cX11_pointsOf 142 = .ok (.aload_n 0, 1)) ∧ (decode cX11_pointsOf 143 = .ok (.getfield 136, 3)) ∧ (decode cX11_pointsOf 146 = .ok (.iload 5, 2)) ∧ (decode cX11_pointsOf 148 = .ok (.iconst 1, 1)) ∧ (decode cX11_pointsOf 149 = .ok (.isub, 1)) ∧ (decode cX11_pointsOf 150 = .ok (.laload, 1)) ∧ (decode cX11_pointsOf 151 = .ok (.aload_n 0, 1)) ∧ (decode cX11_pointsOf 152 = .ok (.getfield 136, 3)) := by decide +kernel
theorem dX11_pointsOf_134 : decode cX11_pointsOf 134 = .ok (.iload 6, 2) := dG_dX11_pointsOf_134.1
theorem dX11_pointsOf_136 : decode cX11_pointsOf 136 = .ok (.iaload, 1) := dG_dX11_pointsOf_134.2.1
theorem dX11_pointsOf_137 : decode cX11_pointsOf 137 = .ok (.bipush 7, 2) := dG_dX11_pointsOf_134.2.2.1
theorem dX11_pointsOf_139 : decode cX11_pointsOf 139 = .ok (.if_icmp .ne 23, 3) := dG_dX11_pointsOf_134.2.2.2.1
theorem dX11_pointsOf_142 : decode cX11_pointsOf 142 = .ok (.aload_n 0, 1) := dG_dX11_pointsOf_134.2.2.2.2.1
theorem dX11_pointsOf_143 : decode cX11_pointsOf 143 = .ok (.getfield 136, 3) := dG_dX11_pointsOf_134.2.2.2.2.2.1
theorem dX11_pointsOf_146 : decode cX11_pointsOf 146 = .ok (.iload 5, 2) := dG_dX11_pointsOf_134.2.2.2.2.2.2.1
theorem dX11_pointsOf_148 : decode cX11_pointsOf 148 = .ok (.iconst 1, 1) := dG_dX11_pointsOf_134.2.2.2.2.2.2.2.1
theorem dX11_pointsOf_149 : decode cX11_pointsOf 149 = .ok (.isub, 1) := dG_dX11_pointsOf_134.2.2.2.2.2.2.2.2.1
theorem dX11_pointsOf_150 : decode cX11_pointsOf 150 = .ok (.laload, 1) := dG_dX11_pointsOf_134.2.2.2.2.2.2.2.2.2.1
theorem dX11_pointsOf_151 : decode cX11_pointsOf 151 = .ok (.aload_n 0, 1) := dG_dX11_pointsOf_134.2.2.2.2.2.2.2.2.2.2.1
theorem dX11_pointsOf_152 : decode cX11_pointsOf 152 = .ok (.getfield 136, 3) := dG_dX11_pointsOf_134.2.2.2.2.2.2.2.2.2.2.2
theorem dG_dX11_pointsOf_155 : (decode cX11_pointsOf 155 = .ok (.iload 5, 2)) ∧ (decode cX11_pointsOf 157 = .ok (.laload, 1)) ∧ (decode cX11_pointsOf 158 = .ok (.ladd, 1)) ∧ (decode cX11_pointsOf 159 = .ok (.goto 52, 3)) ∧ (decode cX11_pointsOf 162 = .ok (.aload_n 0, 1)) ∧ (decode cX11_pointsOf 163 = .ok (.getfield 45, 3)) ∧ (decode cX11_pointsOf 166 = .ok (.iload 6, 2)) ∧ (decode cX11_pointsOf 168 = .ok (.iaload, 1)) ∧ (decode cX11_pointsOf 169 = .ok (.bipush 8, 2)) ∧ (decode cX11_pointsOf 171 = .ok (.if_icmp .ne 23, 3)) ∧ (decode cX11_pointsOf 174 = .ok (.aload_n 0, 1)) ∧ (decode cX11_pointsOf 175 = .ok (.getfield 136, 3)) := by decide +kernel
theorem dX11_pointsOf_155 : decode cX11_pointsOf 155 = .ok (.iload 5, 2) := dG_dX11_pointsOf_155.1
theorem dX11_pointsOf_157 : decode cX11_pointsOf 157 = .ok (.laload, 1) := dG_dX11_pointsOf_155.2.1
theorem dX11_pointsOf_158 : decode cX11_pointsOf 158 = .ok (.ladd, 1) := dG_dX11_pointsOf_155.2.2.1
theorem dX11_pointsOf_159 : decode cX11_pointsOf 159 = .ok (.goto 52, 3) := dG_dX11_pointsOf_155.2.2.2.1
theorem dX11_pointsOf_162 : decode cX11_pointsOf 162 = .ok (.aload_n 0, 1) := dG_dX11_pointsOf_155.2.2.2.2.1
theorem dX11_pointsOf_163 : decode cX11_pointsOf 163 = .ok (.getfield 45, 3) := dG_dX11_pointsOf_155.2.2.2.2.2.1
theorem dX11_pointsOf_166 : decode cX11_pointsOf 166 = .ok (.iload 6, 2) := dG_dX11_pointsOf_155.2.2.2.2.2.2.1
theorem dX11_pointsOf_168 : decode cX11_pointsOf 168 = .ok (.iaload, 1) := dG_dX11_pointsOf_155.2.2.2.2.2.2.2.1
theorem dX11_pointsOf_169 : decode cX11_pointsOf 169 = .ok (.bipush 8, 2) := dG_dX11_pointsOf_155.2.2.2.2.2.2.2.2.1
theorem dX11_pointsOf_171 : decode cX11_pointsOf 171 = .ok (.if_icmp .ne 23, 3) := dG_dX11_pointsOf_155.2.2.2.2.2.2.2.2.2.1
theorem dX11_pointsOf_174 : decode cX11_pointsOf 174 = .ok (.aload_n 0, 1) := dG_dX11_pointsOf_155.2.2.2.2.2.2.2.2.2.2.1
theorem dX11_pointsOf_175 : decode cX11_pointsOf 175 = .ok (.getfield 136, 3) := dG_dX11_pointsOf_155.2.2.2.2.2.2.2.2.2.2.2
theorem dG_dX11_pointsOf_178 : (decode cX11_pointsOf 178 = .ok (.iload 5, 2)) ∧ (decode cX11_pointsOf 180 = .ok (.iconst 1, 1)) ∧ (decode cX11_pointsOf 181 = .ok (.isub, 1)) ∧ (decode cX11_pointsOf 182 = .ok (.laload, 1)) ∧ (decode cX11_pointsOf 183 = .ok (.aload_n 0, 1)) ∧ (decode cX11_pointsOf 184 = .ok (.getfield 136, 3)) ∧ (decode cX11_pointsOf 187 = .ok (.iload 5, 2)) ∧ (decode cX11_pointsOf 189 = .ok (.laload, 1)) ∧ (decode cX11_pointsOf 190 = .ok (.lsub, 1)) ∧ (decode cX11_pointsOf 191 = .ok (.goto 20, 3)) ∧ (decode cX11_pointsOf 194 = .ok (.aload_n 0, 1)) ∧ (decode cX11_pointsOf 195 = .ok (.getfield 136, 3)) := by decide +kernel
theorem dX11_pointsOf_178 : decode cX11_pointsOf 178 = .ok (.iload 5, 2) := dG_dX11_pointsOf_178.1
theorem dX11_pointsOf_180 : decode cX11_pointsOf 180 = .ok (.iconst 1, 1) := dG_dX11_pointsOf_178.2.1
theorem dX11_pointsOf_181 : decode cX11_pointsOf 181 = .ok (.isub, 1) := dG_dX11_pointsOf_178.2.2.1
theorem dX11_pointsOf_182 : decode cX11_pointsOf 182 = .ok (.laload, 1) := dG_dX11_pointsOf_178.2.2.2.1
theorem dX11_pointsOf_183 : decode cX11_pointsOf 183 = .ok (.aload_n 0, 1) := dG_dX11_pointsOf_178.2.2.2.2.1
theorem dX11_pointsOf_184 : decode cX11_pointsOf 184 = .ok (.getfield 136, 3) := dG_dX11_pointsOf_178.2.2.2.2.2.1
theorem dX11_pointsOf_187 : decode cX11_pointsOf 187 = .ok (.iload 5, 2) := dG_dX11_pointsOf_178.2.2.2.2.2.2.1
theorem dX11_pointsOf_189 : decode cX11_pointsOf 189 = .ok (.laload, 1) := dG_dX11_pointsOf_178.2.2.2.2.2.2.2.1
theorem dX11_pointsOf_190 : decode cX11_pointsOf 190 = .ok (.lsub, 1) := dG_dX11_pointsOf_178.2.2.2.2.2.2.2.2.1
theorem dX11_pointsOf_191 : decode cX11_pointsOf 191 = .ok (.goto 20, 3) := dG_dX11_pointsOf_178.2.2.2.2.2.2.2.2.2.1
theorem dX11_pointsOf_194 : decode cX11_pointsOf 194 = .ok (.aload_n 0, 1) := dG_dX11_pointsOf_178.2.2.2.2.2.2.2.2.2.2.1
theorem dX11_pointsOf_195 : decode cX11_pointsOf 195 = .ok (.getfield 136, 3) := dG_dX11_pointsOf_178.2.2.2.2.2.2.2.2.2.2.2
theorem dG_dX11_pointsOf_198 : (decode cX11_pointsOf 198 = .ok (.iload 5, 2)) ∧ (decode cX11_pointsOf 200 = .ok (.iconst 1, 1)) ∧ (decode cX11_pointsOf 201 = .ok (.isub, 1)) ∧ (decode cX11_pointsOf 202 = .ok (.laload, 1)) ∧ (decode cX11_pointsOf 203 = .ok (.aload_n 0, 1)) ∧ (decode cX11_pointsOf 204 = .ok (.getfield 136, 3)) ∧ (decode cX11_pointsOf 207 = .ok (.iload 5, 2)) ∧ (decode cX11_pointsOf 209 = .ok (.laload, 1)) ∧ (decode cX11_pointsOf 210 = .ok (.lmul, 1)) ∧ (decode cX11_pointsOf 211 = .ok (.invokestatic 383, 3)) ∧ (decode cX11_pointsOf 214 = .ok (.lastore, 1)) ∧ (decode cX11_pointsOf 215 = .ok (.iinc 6 1, 3)) := by decide +kernel
theorem dX11_pointsOf_198 : decode cX11_pointsOf 198 = .ok (.iload 5, 2) := dG_dX11_pointsOf_198.1
theorem dX11_pointsOf_200 : decode cX11_pointsOf 200 = .ok (.iconst 1, 1) := dG_dX11_pointsOf_198.2.1
theorem dX11_pointsOf_201 : decode cX11_pointsOf 201 = .ok (.isub, 1) := dG_dX11_pointsOf_198.2.2.1
theorem dX11_pointsOf_202 : decode cX11_pointsOf 202 = .ok (.laload, 1) := dG_dX11_pointsOf_198.2.2.2.1
theorem dX11_pointsOf_203 : decode cX11_pointsOf 203 = .ok (.aload_n 0, 1) := dG_dX11_pointsOf_198.2.2.2.2.1
theorem dX11_pointsOf_204 : decode cX11_pointsOf 204 = .ok (.getfield 136, 3) := dG_dX11_pointsOf_198.2.2.2.2.2.1
theorem dX11_pointsOf_207 : decode cX11_pointsOf 207 = .ok (.iload 5, 2) := dG_dX11_pointsOf_198.2.2.2.2.2.2.1
theorem dX11_pointsOf_209 : decode cX11_pointsOf 209 = .ok (.laload, 1) := dG_dX11_pointsOf_198.2.2.2.2.2.2.2.1
theorem dX11_pointsOf_210 : decode cX11_pointsOf 210 = .ok (.lmul, 1) := dG_dX11_pointsOf_198.2.2.2.2.2.2.2.2.1
theorem dX11_pointsOf_211 : decode cX11_pointsOf 211 = .ok (.invokestatic 383, 3) := dG_dX11_pointsOf_198.2.2.2.2.2.2.2.2.2.1
theorem dX11_pointsOf_214 : decode cX11_pointsOf 214 = .ok (.lastore, 1) := dG_dX11_pointsOf_198.2.2.2.2.2.2.2.2.2.2.1
theorem dX11_pointsOf_215 : decode cX11_pointsOf 215 = .ok (.iinc 6 1, 3) := dG_dX11_pointsOf_198.2.2.2.2.2.2.2.2.2.2.2
theorem dG_dX11_pointsOf_218 : (decode cX11_pointsOf 218 = .ok (.goto (-203), 3)) ∧ (decode cX11_pointsOf 221 = .ok (.aload_n 0, 1)) ∧ (decode cX11_pointsOf 222 = .ok (.getfield 136, 3)) ∧ (decode cX11_pointsOf 225 = .ok (.iconst 0, 1)) ∧ (decode cX11_pointsOf 226 = .ok (.laload, 1)) ∧ (decode cX11_pointsOf 227 = .ok (.l2i, 1)) ∧ (decode cX11_pointsOf 228 = .ok (.ireturn, 1)) ∧ (decode cX11_of 0 = .ok (.aload_n 0, 1)) ∧ (decode cX11_of 1 = .ok (.iconst 0, 1)) ∧ (decode cX11_of 2 = .ok (.putfield 146, 3)) ∧ (decode cX11_of 5 = .ok (.aload_n 0, 1)) ∧ (decode cX11_of 6 = .ok (.iconst 0, 1)) := by decide +kernel
theorem dX11_pointsOf_218 : decode cX11_pointsOf 218 = .ok (.goto (-203), 3) := dG_dX11_pointsOf_218.1
theorem dX11_pointsOf_221 : decode cX11_pointsOf 221 = .ok (.aload_n 0, 1) := dG_dX11_pointsOf_218.2.1
theorem dX11_pointsOf_222 : decode cX11_pointsOf 222 = .ok (.getfield 136, 3) := dG_dX11_pointsOf_218.2.2.1
theorem dX11_pointsOf_225 : decode cX11_pointsOf 225 = .ok (.iconst 0, 1) := dG_dX11_pointsOf_218.2.2.2.1
theorem dX11_pointsOf_226 : decode cX11_pointsOf 226 = .ok (.laload, 1) := dG_dX11_pointsOf_218.2.2.2.2.1
theorem dX11_pointsOf_227 : decode cX11_pointsOf 227 = .ok (.l2i, 1) := dG_dX11_pointsOf_218.2.2.2.2.2.1
theorem dX11_pointsOf_228 : decode cX11_pointsOf 228 = .ok (.ireturn, 1) := dG_dX11_pointsOf_218.2.2.2.2.2.2.1
theorem dX11_of_0 : decode cX11_of 0 = .ok (.aload_n 0, 1) := dG_dX11_pointsOf_218.2.2.2.2.2.2.2.1
theorem dX11_of_1 : decode cX11_of 1 = .ok (.iconst 0, 1) := dG_dX11_pointsOf_218.2.2.2.2.2.2.2.2.1
theorem dX11_of_2 : decode cX11_of 2 = .ok (.putfield 146, 3) := dG_dX11_pointsOf_218.2.2.2.2.2.2.2.2.2.1
theorem dX11_of_5 : decode cX11_of 5 = .ok (.aload_n 0, 1) := dG_dX11_pointsOf_218.2.2.2.2.2.2.2.2.2.2.1
theorem dX11_of_6 : decode cX11_of 6 = .ok (.iconst 0, 1) := dG_dX11_pointsOf_218.2.2.2.2.2.2.2.2.2.2.2
theorem dG_dX11_of_7 : (decode cX11_of 7 = .ok (.putfield 149, 3)) ∧ (decode cX11_of 10 = .ok (.aload_n 0, 1)) ∧ (decode cX11_of 11 = .ok (.iload_n 1, 1)) ∧ (decode cX11_of 12 = .ok (.iload_n 2, 1)) ∧ (decode cX11_of 13 = .ok (.invokevirtual 328, 3)) ∧ (decode cX11_of 16 = .ok (.ifCond .eq 11, 3)) ∧ (decode cX11_of 19 = .ok (.aload_n 0, 1)) ∧ (decode cX11_of 20 = .ok (.iload_n 3, 1)) ∧ (decode cX11_of 21 = .ok (.invokevirtual 349, 3)) ∧ (decode cX11_of 24 = .ok (.ifCond .ne 9, 3)) ∧ (decode cX11_of 27 = .ok (.aload_n 0, 1)) ∧ (decode cX11_of 28 = .ok (.iconst 1, 1)) := by decide +kernel
theorem dX11_of_7 : decode cX11_of 7 = .ok (.putfield 149, 3) := dG_dX11_of_7.1
theorem dX11_of_10 : decode cX11_of 10 = .ok (.aload_n 0, 1) := dG_dX11_of_7.2.1
theorem dX11_of_11 : decode cX11_of 11 = .ok (.iload_n 1, 1) := dG_dX11_of_7.2.2.1
theorem dX11_of_12 : decode cX11_of 12 = .ok (.iload_n 2, 1) := dG_dX11_of_7.2.2.2.1
theorem dX11_of_13 : decode cX11_of 13 = .ok (.invokevirtual 328, 3) := dG_dX11_of_7.2.2.2.2.1
theorem dX11_of_16 : decode cX11_of 16 = .ok (.ifCond .eq 11, 3) := dG_dX11_of_7.2.2.2.2.2.1
theorem dX11_of_19 : decode cX11_of 19 = .ok (.aload_n 0, 1) := dG_dX11_of_7.2.2.2.2.2.2.1
theorem dX11_of_20 : decode cX11_of 20 = .ok (.iload_n 3, 1) := dG_dX11_of_7.2.2.2.2.2.2.2.1
theorem dX11_of_21 : decode cX11_of 21 = .ok (.invokevirtual 349, 3) := dG_dX11_of_7.2.2.2.2.2.2.2.2.1
theorem dX11_of_24 : decode cX11_of 24 = .ok (.ifCond .ne 9, 3) := dG_dX11_of_7.2.2.2.2.2.2.2.2.2.1
theorem dX11_of_27 : decode cX11_of 27 = .ok (.aload_n 0, 1) := dG_dX11_of_7.2.2.2.2.2.2.2.2.2.2.1
theorem dX11_of_28 : decode cX11_of 28 = .ok (.iconst 1, 1) := dG_dX11_of_7.2.2.2.2.2.2.2.2.2.2.2
theorem dG_dX11_of_29 : (decode cX11_of 29 = .ok (.invokevirtual 295, 3)) ∧ (decode cX11_of 32 = .ok (.ireturn, 1)) ∧ (decode cX11_of 33 = .ok (.iload 4, 2)) ∧ (decode cX11_of 35 = .ok (.invokestatic 364, 3)) ∧ (decode cX11_of 38 = .ok (.ifCond .eq 15, 3)) ∧ (decode cX11_of 41 = .ok (.iload 5, 2)) ∧ (decode cX11_of 43 = .ok (.ifCond .lt 10, 3)) ∧ (decode cX11_of 46 = .ok (.iload 5, 2)) ∧ (decode cX11_of 48 = .ok (.bipush 6, 2)) ∧ (decode cX11_of 50 = .ok (.if_icmp .le 9, 3)) ∧ (decode cX11_of 53 = .ok (.aload_n 0, 1)) ∧ (decode cX11_of 54 = .ok (.iconst 2, 1)) := by decide +kernel
theorem dX11_of_29 : decode cX11_of 29 = .ok (.invokevirtual 295, 3) := dG_dX11_of_29.1
theorem dX11_of_32 : decode cX11_of 32 = .ok (.ireturn, 1) := dG_dX11_of_29.2.1
theorem dX11_of_33 : decode cX11_of 33 = .ok (.iload 4, 2) := dG_dX11_of_29.2.2.1
theorem dX11_of_35 : decode cX11_of 35 = .ok (.invokestatic 364, 3) := dG_dX11_of_29.2.2.2.1
theorem dX11_of_38 : decode cX11_of 38 = .ok (.ifCond .eq 15, 3) := dG_dX11_of_29.2.2.2.2.1
theorem dX11_of_41 : decode cX11_of 41 = .ok (.iload 5, 2) := dG_dX11_of_29.2.2.2.2.2.1
theorem dX11_of_43 : decode cX11_of 43 = .ok (.ifCond .lt 10, 3) := dG_dX11_of_29.2.2.2.2.2.2.1
theorem dX11_of_46 : decode cX11_of 46 = .ok (.iload 5, 2) := dG_dX11_of_29.2.2.2.2.2.2.2.1
theorem dX11_of_48 : decode cX11_of 48 = .ok (.bipush 6, 2) := dG_dX11_of_29.2.2.2.2.2.2.2.2.1
theorem dX11_of_50 : decode cX11_of 50 = .ok (.if_icmp .le 9, 3) := dG_dX11_of_29.2.2.2.2.2.2.2.2.2.1
theorem dX11_of_53 : decode cX11_of 53 = .ok (.aload_n 0, 1) := dG_dX11_of_29.2.2.2.2.2.2.2.2.2.2.1
theorem dX11_of_54 : decode cX11_of 54 = .ok (.iconst 2, 1) := dG_dX11_of_29.2.2.2.2.2.2.2.2.2.2.2
theorem dG_dX11_of_55 : (decode cX11_of 55 = .ok (.invokevirtual 295, 3)) ∧ (decode cX11_of 58 = .ok (.ireturn, 1)) ∧ (decode cX11_of 59 = .ok (.aload_n 0, 1)) ∧ (decode cX11_of 60 = .ok (.iload_n 1, 1)) ∧ (decode cX11_of 61 = .ok (.iload_n 2, 1)) ∧ (decode cX11_of 62 = .ok (.iload_n 3, 1)) ∧ (decode cX11_of 63 = .ok (.iload 4, 2)) ∧ (decode cX11_of 65 = .ok (.invokevirtual 387, 3)) ∧ (decode cX11_of 68 = .ok (.istore 6, 2)) ∧ (decode cX11_of 70 = .ok (.iload 5, 2)) ∧ (decode cX11_of 72 = .ok (.bipush 6, 2)) ∧ (decode cX11_of 74 = .ok (.if_icmp .ne 8, 3)) := by decide +kernel
theorem dX11_of_55 : decode cX11_of 55 = .ok (.invokevirtual 295, 3) := dG_dX11_of_55.1
theorem dX11_of_58 : decode cX11_of 58 = .ok (.ireturn, 1) := dG_dX11_of_55.2.1
theorem dX11_of_59 : decode cX11_of 59 = .ok (.aload_n 0, 1) := dG_dX11_of_55.2.2.1
theorem dX11_of_60 : decode cX11_of 60 = .ok (.iload_n 1, 1) := dG_dX11_of_55.2.2.2.1
theorem dX11_of_61 : decode cX11_of 61 = .ok (.iload_n 2, 1) := dG_dX11_of_55.2.2.2.2.1
theorem dX11_of_62 : decode cX11_of 62 = .ok (.iload_n 3, 1) := dG_dX11_of_55.2.2.2.2.2.1
theorem dX11_of_63 : decode cX11_of 63 = .ok (.iload 4, 2) := dG_dX11_of_55.2.2.2.2.2.2.1
theorem dX11_of_65 : decode cX11_of 65 = .ok (.invokevirtual 387, 3) := dG_dX11_of_55.2.2.2.2.2.2.2.1
theorem dX11_of_68 : decode cX11_of 68 = .ok (.istore 6, 2) := dG_dX11_of_55.2.2.2.2.2.2.2.2.1
theorem dX11_of_70 : decode cX11_of 70 = .ok (.iload 5, 2) := dG_dX11_of_55.2.2.2.2.2.2.2.2.2.1
theorem dX11_of_72 : decode cX11_of 72 = .ok (.bipush 6, 2) := dG_dX11_of_55.2.2.2.2.2.2.2.2.2.2.1
theorem dX11_of_74 : decode cX11_of 74 = .ok (.if_icmp .ne 8, 3) := dG_dX11_of_55.2.2.2.2.2.2.2.2.2.2.2
theorem dG_dX11_of_77 : (decode cX11_of 77 = .ok (.iload 6, 2)) ∧ (decode cX11_of 79 = .ok (.goto 10, 3)) ∧ (decode cX11_of 82 = .ok (.aload_n 0, 1)) ∧ (decode cX11_of 83 = .ok (.getfield 133, 3)) ∧ (decode cX11_of 86 = .ok (.iload 5, 2)) ∧ (decode cX11_of 88 = .ok (.iaload, 1)) ∧ (decode cX11_of 89 = .ok (.ireturn, 1)) := by decide +kernel
theorem dX11_of_77 : decode cX11_of 77 = .ok (.iload 6, 2) := dG_dX11_of_77.1
theorem dX11_of_79 : decode cX11_of 79 = .ok (.goto 10, 3) := dG_dX11_of_77.2.1
theorem dX11_of_82 : decode cX11_of 82 = .ok (.aload_n 0, 1) := dG_dX11_of_77.2.2.1
theorem dX11_of_83 : decode cX11_of 83 = .ok (.getfield 133, 3) := dG_dX11_of_77.2.2.2.1
theorem dX11_of_86 : decode cX11_of 86 = .ok (.iload 5, 2) := dG_dX11_of_77.2.2.2.2.1
theorem dX11_of_88 : decode cX11_of 88 = .ok (.iaload, 1) := dG_dX11_of_77.2.2.2.2.2.1
theorem dX11_of_89 : decode cX11_of 89 = .ok (.ireturn, 1) := dG_dX11_of_77.2.2.2.2.2.2
end

section
set_option maxHeartbeats 4000000 in
set_option maxRecDepth 100000 in
theorem y_holdOf (l : Launch) (D : va_G) (k : Nat → ClassId) (A : Nat → Prop) (ad : Nat → Nat) (hD : mdD A k ad) (v : gV) (f g : gF) (a1 : Int) (a2 : Int) (h_a1 : inR a1) (h_a2 : inR a2) (h1 : 0 ≤ a1 ∧ a1 ≤ 299) : GM l D k A (mdT k ad) yX11_holdOf cX11_holdOf 5 (some .int) 0 0 [.ref (ad 0), .int (iI a1), .int (iI a2)] v f g (fun r v1 f1 g1 => ∃ (z : Int), r = some (.int (iI z)) ∧ v = v1 ∧ f = f1 ∧ g = g1 ∧ (z = (kH (f 31) (f 32) (f 33) a2 a1 ((f 29) a1) (v 26).toNat)) ∧ (0 ≤ z ∧ z ≤ 60)) := by
  refine GM.of (by decide) (Nat.le_of_ble_eq_true rfl) ?_
  intro p e s m args below meth c Q ls hQ C hml hr hlocks hP hl
  have hx := C.1
  have hb := C.2.1
  have hok := hP.2
  have hS : va_S A s.heap s.heap [] := va_S.rf
  have hl : lv_has ls 5 [(0, .ref (ad 0)), (1, .int (iI a1)), (2, .int (iI a2))] := hl
  have r_1 : 0 ≤ (v 26) ∧ (v 26) ≤ 40 := hok.1 26
  refine lv_iconst (v := iI (-1)) hx hb dX11_holdOf_0 rfl ?_
  refine lv_istore_n (lv' := [(3, .int (iI (-1))), (0, .ref (ad 0)), (1, .int (iI a1)), (2, .int (iI a2))]) hx hb dX11_holdOf_1 rfl hl (by decide) rfl (fun ls hl => ?_)
  refine lv_iconst (v := iI 0) hx hb dX11_holdOf_2 rfl ?_
  refine lv_istore (lv' := [(4, .int (iI 0)), (3, .int (iI (-1))), (0, .ref (ad 0)), (1, .int (iI a1)), (2, .int (iI a2))]) hx hb dX11_holdOf_3 hl (by decide) rfl (fun ls hl => ?_)
  have L_2 : ∀ (n : Nat) (x3 : Int) (x4 : Int) (H : Heap) (locs : List Loc) (ls : Array Slot), 40 - x4 < (n : Int) → (0 ≤ x4 ∧ x4 ≤ (v 26)) → ((-1) ≤ x3 ∧ x3 < x4) → (x3 < 0 → kD (f 31) (f 33) a2 a1 x4.toNat = (-1) ∧ kH (f 31) (f 32) (f 33) a2 a1 ((f 29) a1) x4.toNat = (f 29) a1) → (0 ≤ x3 → kD (f 31) (f 33) a2 a1 x4.toNat = (f 33) x3 ∧ kH (f 31) (f 32) (f 33) a2 a1 ((f 29) a1) x4.toNat = (f 32) x3) → gWd D (mdT k ad) v f g H → va_S A s.heap H locs → lv_has ls 5 [(0, .ref (ad 0)), (1, .int (iI a1)), (2, .int (iI a2)), (3, .int (iI x3)), (4, .int (iI x4))] → W p l e (gRm 0 0) s m args below meth c H locs 0 0 Q (F0 m 5 ls []) := by
    intro n
    induction n with
    | zero =>
      intro x3 x4 H locs ls hn_2 i2_0 i2_1 i2_2 i2_3 hP hS hl
      exfalso; omega
    | succ n ih_5 =>
      intro x3 x4 H locs ls hn_2 i2_0 i2_1 i2_2 i2_3 hP hS hl
      have hI2 := i2_2
      have hI3 := i2_3
      refine lv_iload hx hb dX11_holdOf_5 (lv_at hl 4 rfl) ?_
      refine lv_aload_n hx hb dX11_holdOf_7 rfl (lv_at hl 0 rfl) ?_
      refine mdG_appeals C hP mF_X11_322 dX11_holdOf_8 ?_
      refine gi_cge (tgt := 65) hx hb dX11_holdOf_11 (by decide) (by omega) (by omega) (fun c_3 => ?_) (fun c_3 => ?_)
      · refine lv_iload_n hx hb dX11_holdOf_65 rfl (lv_at hl 3 rfl) ?_
        refine gi_zge (tgt := 78) hx hb dX11_holdOf_66 (by decide) (by omega) (fun c_4 => ?_) (fun c_4 => ?_)
        · refine lv_aload_n hx hb dX11_holdOf_78 rfl (lv_at hl 0 rfl) ?_
          refine mdG_appealHold C hP mF_X11_118 dX11_holdOf_79 ?_
          refine lv_iload_n hx hb dX11_holdOf_82 rfl (lv_at hl 3 rfl) ?_
          refine mdL_appealHold C hP (by omega) (by omega) dX11_holdOf_83 ?_
          have r_5 : 0 ≤ (f 32 x3) ∧ (f 32 x3) ≤ 60 := hP.2.2 32 x3
          exact g_iret hQ C hr hlocks hP hS dX11_holdOf_84 ⟨(f 32 x3), rfl, rfl, rfl, rfl, (by rw [show (v 26) = x4 by omega]; first | exact ((hI2 (by omega)).2).symm | exact ((hI3 (by omega)).2).symm), (by first | omega | ((repeat' split) <;> omega))⟩
        · refine lv_aload_n hx hb dX11_holdOf_69 rfl (lv_at hl 0 rfl) ?_
          refine mdG_hold C hP mF_X11_109 dX11_holdOf_70 ?_
          refine lv_iload_n hx hb dX11_holdOf_73 rfl (lv_at hl 1 rfl) ?_
          refine mdL_hold C hP (by omega) (by omega) dX11_holdOf_74 ?_
          have r_6 : 0 ≤ (f 29 a1) ∧ (f 29 a1) ≤ 60 := hP.2.2 29 a1
          refine lv_goto (tgt := 84) hx hb dX11_holdOf_75 (by decide) ?_
          exact g_iret hQ C hr hlocks hP hS dX11_holdOf_84 ⟨(f 29 a1), rfl, rfl, rfl, rfl, (by rw [show (v 26) = x4 by omega]; first | exact ((hI2 (by omega)).2).symm | exact ((hI3 (by omega)).2).symm), (by first | omega | ((repeat' split) <;> omega))⟩
      · refine lv_aload_n hx hb dX11_holdOf_14 rfl (lv_at hl 0 rfl) ?_
        refine mdG_appealTry C hP mF_X11_115 dX11_holdOf_15 ?_
        refine lv_iload hx hb dX11_holdOf_18 (lv_at hl 4 rfl) ?_
        refine mdL_appealTry C hP (by omega) (by omega) dX11_holdOf_20 ?_
        have r_7 : 0 ≤ (f 31 x4) ∧ (f 31 x4) ≤ 299 := hP.2.2 31 x4
        refine lv_iload_n hx hb dX11_holdOf_21 rfl (lv_at hl 1 rfl) ?_
        refine gi_cne (tgt := 59) hx hb dX11_holdOf_22 (by decide) (by omega) (by omega) (fun c_8 => ?_) (fun c_8 => ?_)
        · refine lv_iinc (v := iI (x4 + 1)) (lv' := [(4, .int (iI (x4 + 1))), (0, .ref (ad 0)), (1, .int (iI a1)), (2, .int (iI a2)), (3, .int (iI x3))]) hx hb dX11_holdOf_59 hl (k := 4) rfl (by show iI _ + iI 1 = _; rw [iI_add]) (by decide) rfl (fun ls hl => ?_)
          refine lv_goto (tgt := 5) hx hb dX11_holdOf_62 (by decide) ?_
          exact ih_5 x3 (x4 + 1) _ _ _ (by omega) (by omega) (by omega) (fun h => by rw [kD_s (by omega), kH_s (by omega)]; first | (exfalso; omega) | (rw [if_neg (by have := hI2; have := hI3; omega), if_neg (by have := hI2; have := hI3; omega)]; exact hI2 (by omega))) (fun h => by rw [kD_s (by omega), kH_s (by omega)]; first | (exfalso; omega) | (rw [if_pos (by have := hI2; have := hI3; omega), if_pos (by have := hI2; have := hI3; omega)]; exact ⟨rfl, rfl⟩) | (rw [if_neg (by have := hI2; have := hI3; omega), if_neg (by have := hI2; have := hI3; omega)]; exact hI3 (by omega))) hP hS (lv_sub hl [1, 2, 3, 4, 0] rfl)
        · refine lv_aload_n hx hb dX11_holdOf_25 rfl (lv_at hl 0 rfl) ?_
          refine mdG_appealDay C hP mF_X11_121 dX11_holdOf_26 ?_
          refine lv_iload hx hb dX11_holdOf_29 (lv_at hl 4 rfl) ?_
          refine mdL_appealDay C hP (by omega) (by omega) dX11_holdOf_31 ?_
          have r_9 : 0 ≤ (f 33 x4) ∧ (f 33 x4) ≤ 999 := hP.2.2 33 x4
          refine lv_iload_n hx hb dX11_holdOf_32 rfl (lv_at hl 2 rfl) ?_
          refine gi_cgt (tgt := 59) hx hb dX11_holdOf_33 (by decide) (by omega) (by omega) (fun c_10 => ?_) (fun c_10 => ?_)
          · refine lv_iinc (v := iI (x4 + 1)) (lv' := [(4, .int (iI (x4 + 1))), (0, .ref (ad 0)), (1, .int (iI a1)), (2, .int (iI a2)), (3, .int (iI x3))]) hx hb dX11_holdOf_59 hl (k := 4) rfl (by show iI _ + iI 1 = _; rw [iI_add]) (by decide) rfl (fun ls hl => ?_)
            refine lv_goto (tgt := 5) hx hb dX11_holdOf_62 (by decide) ?_
            exact ih_5 x3 (x4 + 1) _ _ _ (by omega) (by omega) (by omega) (fun h => by rw [kD_s (by omega), kH_s (by omega)]; first | (exfalso; omega) | (rw [if_neg (by have := hI2; have := hI3; omega), if_neg (by have := hI2; have := hI3; omega)]; exact hI2 (by omega))) (fun h => by rw [kD_s (by omega), kH_s (by omega)]; first | (exfalso; omega) | (rw [if_pos (by have := hI2; have := hI3; omega), if_pos (by have := hI2; have := hI3; omega)]; exact ⟨rfl, rfl⟩) | (rw [if_neg (by have := hI2; have := hI3; omega), if_neg (by have := hI2; have := hI3; omega)]; exact hI3 (by omega))) hP hS (lv_sub hl [1, 2, 3, 4, 0] rfl)
          · refine lv_iload_n hx hb dX11_holdOf_36 rfl (lv_at hl 3 rfl) ?_
            refine gi_zlt (tgt := 56) hx hb dX11_holdOf_37 (by decide) (by omega) (fun c_11 => ?_) (fun c_11 => ?_)
            · refine lv_iload hx hb dX11_holdOf_56 (lv_at hl 4 rfl) ?_
              refine lv_istore_n (lv' := [(3, .int (iI x4)), (0, .ref (ad 0)), (1, .int (iI a1)), (2, .int (iI a2)), (4, .int (iI x4))]) hx hb dX11_holdOf_58 rfl hl (by decide) rfl (fun ls hl => ?_)
              refine lv_iinc (v := iI (x4 + 1)) (lv' := [(4, .int (iI (x4 + 1))), (3, .int (iI x4)), (0, .ref (ad 0)), (1, .int (iI a1)), (2, .int (iI a2))]) hx hb dX11_holdOf_59 hl (k := 4) rfl (by show iI _ + iI 1 = _; rw [iI_add]) (by decide) rfl (fun ls hl => ?_)
              refine lv_goto (tgt := 5) hx hb dX11_holdOf_62 (by decide) ?_
              exact ih_5 x4 (x4 + 1) _ _ _ (by omega) (by omega) (by omega) (fun h => by rw [kD_s (by omega), kH_s (by omega)]; first | (exfalso; omega) | (rw [if_neg (by have := hI2; have := hI3; omega), if_neg (by have := hI2; have := hI3; omega)]; exact hI2 (by omega))) (fun h => by rw [kD_s (by omega), kH_s (by omega)]; first | (exfalso; omega) | (rw [if_pos (by have := hI2; have := hI3; omega), if_pos (by have := hI2; have := hI3; omega)]; exact ⟨rfl, rfl⟩) | (rw [if_neg (by have := hI2; have := hI3; omega), if_neg (by have := hI2; have := hI3; omega)]; exact hI3 (by omega))) hP hS (lv_sub hl [2, 3, 4, 1, 0] rfl)
            · refine lv_aload_n hx hb dX11_holdOf_40 rfl (lv_at hl 0 rfl) ?_
              refine mdG_appealDay C hP mF_X11_121 dX11_holdOf_41 ?_
              refine lv_iload hx hb dX11_holdOf_44 (lv_at hl 4 rfl) ?_
              refine mdL_appealDay C hP (by omega) (by omega) dX11_holdOf_46 ?_
              refine lv_aload_n hx hb dX11_holdOf_47 rfl (lv_at hl 0 rfl) ?_
              refine mdG_appealDay C hP mF_X11_121 dX11_holdOf_48 ?_
              refine lv_iload_n hx hb dX11_holdOf_51 rfl (lv_at hl 3 rfl) ?_
              refine mdL_appealDay C hP (by omega) (by omega) dX11_holdOf_52 ?_
              have r_12 : 0 ≤ (f 33 x3) ∧ (f 33 x3) ≤ 999 := hP.2.2 33 x3
              refine gi_clt (tgt := 59) hx hb dX11_holdOf_53 (by decide) (by omega) (by omega) (fun c_13 => ?_) (fun c_13 => ?_)
              · refine lv_iinc (v := iI (x4 + 1)) (lv' := [(4, .int (iI (x4 + 1))), (0, .ref (ad 0)), (1, .int (iI a1)), (2, .int (iI a2)), (3, .int (iI x3))]) hx hb dX11_holdOf_59 hl (k := 4) rfl (by show iI _ + iI 1 = _; rw [iI_add]) (by decide) rfl (fun ls hl => ?_)
                refine lv_goto (tgt := 5) hx hb dX11_holdOf_62 (by decide) ?_
                exact ih_5 x3 (x4 + 1) _ _ _ (by omega) (by omega) (by omega) (fun h => by rw [kD_s (by omega), kH_s (by omega)]; first | (exfalso; omega) | (rw [if_neg (by have := hI2; have := hI3; omega), if_neg (by have := hI2; have := hI3; omega)]; exact hI2 (by omega))) (fun h => by rw [kD_s (by omega), kH_s (by omega)]; first | (exfalso; omega) | (rw [if_pos (by have := hI2; have := hI3; omega), if_pos (by have := hI2; have := hI3; omega)]; exact ⟨rfl, rfl⟩) | (rw [if_neg (by have := hI2; have := hI3; omega), if_neg (by have := hI2; have := hI3; omega)]; exact hI3 (by omega))) hP hS (lv_sub hl [1, 2, 3, 4, 0] rfl)
              · refine lv_iload hx hb dX11_holdOf_56 (lv_at hl 4 rfl) ?_
                refine lv_istore_n (lv' := [(3, .int (iI x4)), (0, .ref (ad 0)), (1, .int (iI a1)), (2, .int (iI a2)), (4, .int (iI x4))]) hx hb dX11_holdOf_58 rfl hl (by decide) rfl (fun ls hl => ?_)
                refine lv_iinc (v := iI (x4 + 1)) (lv' := [(4, .int (iI (x4 + 1))), (3, .int (iI x4)), (0, .ref (ad 0)), (1, .int (iI a1)), (2, .int (iI a2))]) hx hb dX11_holdOf_59 hl (k := 4) rfl (by show iI _ + iI 1 = _; rw [iI_add]) (by decide) rfl (fun ls hl => ?_)
                refine lv_goto (tgt := 5) hx hb dX11_holdOf_62 (by decide) ?_
                exact ih_5 x4 (x4 + 1) _ _ _ (by omega) (by omega) (by omega) (fun h => by rw [kD_s (by omega), kH_s (by omega)]; first | (exfalso; omega) | (rw [if_neg (by have := hI2; have := hI3; omega), if_neg (by have := hI2; have := hI3; omega)]; exact hI2 (by omega))) (fun h => by rw [kD_s (by omega), kH_s (by omega)]; first | (exfalso; omega) | (rw [if_pos (by have := hI2; have := hI3; omega), if_pos (by have := hI2; have := hI3; omega)]; exact ⟨rfl, rfl⟩) | (rw [if_neg (by have := hI2; have := hI3; omega), if_neg (by have := hI2; have := hI3; omega)]; exact hI3 (by omega))) hP hS (lv_sub hl [2, 3, 4, 1, 0] rfl)
  exact L_2 41 (-1) 0 _ _ _ (by omega) (by omega) (by omega) (fun _ => ⟨rfl, rfl⟩) (fun h => by omega) hP hS (lv_sub hl [2, 3, 4, 1, 0] rfl)

set_option maxHeartbeats 4000000 in
set_option maxRecDepth 100000 in
theorem y_factsOf (l : Launch) (D : va_G) (k : Nat → ClassId) (A : Nat → Prop) (ad : Nat → Nat) (hD : mdD A k ad) (v : gV) (f g : gF) (a1 : Int) (a2 : Int) (a3 : Int) (a4 : Int) (h_a1 : inR a1) (h_a2 : inR a2) (h_a3 : inR a3) (h_a4 : inR a4) (h1 : 0 ≤ a1 ∧ a1 ≤ 3) (h2 : 0 ≤ a2 ∧ a2 ≤ 4) : GM l D k A (mdT k ad) yX11_factsOf cX11_factsOf 11 none 1 24 [.ref (ad 0), .int (iI a1), .int (iI a2), .int (iI a3), .int (iI a4)] v f g (fun r v1 f1 g1 => ∃ (a37_ : Int → Int), r = none ∧ v = v1 ∧ (va_up f 37 a37_) = f1 ∧ g = g1 ∧ (a37_ 0 = gFd (f 24) (f 25) (f 26) (f 27) (f 28) (f 29) (f 30) (f 31) (f 32) (f 33) (f 18) (f 19) (v 25) (v 26) a4 a1 a2 a3 0 ∧ a37_ 1 = gFd (f 24) (f 25) (f 26) (f 27) (f 28) (f 29) (f 30) (f 31) (f 32) (f 33) (f 18) (f 19) (v 25) (v 26) a4 a1 a2 a3 1 ∧ a37_ 2 = gFd (f 24) (f 25) (f 26) (f 27) (f 28) (f 29) (f 30) (f 31) (f 32) (f 33) (f 18) (f 19) (v 25) (v 26) a4 a1 a2 a3 2 ∧ a37_ 3 = gFd (f 24) (f 25) (f 26) (f 27) (f 28) (f 29) (f 30) (f 31) (f 32) (f 33) (f 18) (f 19) (v 25) (v 26) a4 a1 a2 a3 3 ∧ a37_ 4 = gFd (f 24) (f 25) (f 26) (f 27) (f 28) (f 29) (f 30) (f 31) (f 32) (f 33) (f 18) (f 19) (v 25) (v 26) a4 a1 a2 a3 4 ∧ a37_ 5 = gFd (f 24) (f 25) (f 26) (f 27) (f 28) (f 29) (f 30) (f 31) (f 32) (f 33) (f 18) (f 19) (v 25) (v 26) a4 a1 a2 a3 5)) := by
  refine GM.of (by decide) (Nat.le_of_ble_eq_true rfl) ?_
  intro p e s m args below meth c Q ls hQ C hml hr hlocks hP hl
  have hx := C.1
  have hb := C.2.1
  have hok := hP.2
  have hS : va_S A s.heap s.heap [] := va_S.rf
  have hl : lv_has ls 11 [(0, .ref (ad 0)), (1, .int (iI a1)), (2, .int (iI a2)), (3, .int (iI a3)), (4, .int (iI a4))] := hl
  have hP : gWd D (mdT k ad) v (va_up f 37 (f 37)) g s.heap := by rw [va_id]; exact hP
  have hkr : ∀ k, 0 ≤ (Fk (f 31) (f 32) (f 33) (f 29) (v 26) a4) k ∧ (Fk (f 31) (f 32) (f 33) (f 29) (v 26) a4) k ≤ 60 := fun k => kH_r (hok.2 29 k) (hok.2 32) _
  have r_1 : 0 ≤ (v 25) ∧ (v 25) ≤ 300 := hok.1 25
  refine lv_iconst (v := iI (-1)) hx hb dX11_factsOf_0 rfl ?_
  refine lv_istore (lv' := [(5, .int (iI (-1))), (0, .ref (ad 0)), (1, .int (iI a1)), (2, .int (iI a2)), (3, .int (iI a3)), (4, .int (iI a4))]) hx hb dX11_factsOf_1 hl (by decide) rfl (fun ls hl => ?_)
  refine lv_iconst (v := iI (-1)) hx hb dX11_factsOf_3 rfl ?_
  refine lv_istore (lv' := [(6, .int (iI (-1))), (5, .int (iI (-1))), (0, .ref (ad 0)), (1, .int (iI a1)), (2, .int (iI a2)), (3, .int (iI a3)), (4, .int (iI a4))]) hx hb dX11_factsOf_4 hl (by decide) rfl (fun ls hl => ?_)
  refine lv_iconst (v := iI 0) hx hb dX11_factsOf_6 rfl ?_
  refine lv_istore (lv' := [(7, .int (iI 0)), (6, .int (iI (-1))), (5, .int (iI (-1))), (0, .ref (ad 0)), (1, .int (iI a1)), (2, .int (iI a2)), (3, .int (iI a3)), (4, .int (iI a4))]) hx hb dX11_factsOf_7 hl (by decide) rfl (fun ls hl => ?_)
  refine lv_iconst (v := iI 0) hx hb dX11_factsOf_9 rfl ?_
  refine lv_istore (lv' := [(8, .int (iI 0)), (7, .int (iI 0)), (6, .int (iI (-1))), (5, .int (iI (-1))), (0, .ref (ad 0)), (1, .int (iI a1)), (2, .int (iI a2)), (3, .int (iI a3)), (4, .int (iI a4))]) hx hb dX11_factsOf_10 hl (by decide) rfl (fun ls hl => ?_)
  refine lv_iconst (v := iI 0) hx hb dX11_factsOf_12 rfl ?_
  refine lv_istore (lv' := [(9, .int (iI 0)), (8, .int (iI 0)), (7, .int (iI 0)), (6, .int (iI (-1))), (5, .int (iI (-1))), (0, .ref (ad 0)), (1, .int (iI a1)), (2, .int (iI a2)), (3, .int (iI a3)), (4, .int (iI a4))]) hx hb dX11_factsOf_13 hl (by decide) rfl (fun ls hl => ?_)
  have L_2 : ∀ (n : Nat) (x5 : Int) (x6 : Int) (x7 : Int) (x8 : Int) (x9 : Int) (H : Heap) (locs : List Loc) (ls : Array Slot), 300 - x9 < (n : Int) → (0 ≤ x9 ∧ x9 ≤ (v 25)) → ((-1) ≤ x5 ∧ x5 ≤ 60) → ((-1) ≤ x6 ∧ x6 ≤ 299) → (0 ≤ x7 ∧ x7 ≤ x9) → (0 ≤ x8 ∧ x8 ≤ 300) → (fS (f 24) (f 25) (f 26) (f 30) (Fk (f 31) (f 32) (f 33) (f 29) (v 26) a4) a3 a1 a2 x9.toNat = (x7, x5, x6, x8)) → gWd D (mdT k ad) v (va_up f 37 (f 37)) g H → va_S A s.heap H locs → lv_has ls 11 [(0, .ref (ad 0)), (1, .int (iI a1)), (2, .int (iI a2)), (3, .int (iI a3)), (4, .int (iI a4)), (5, .int (iI x5)), (6, .int (iI x6)), (7, .int (iI x7)), (8, .int (iI x8)), (9, .int (iI x9))] → W p l e (gRm 1 24) s m args below meth c H locs 0 0 Q (F0 m 15 ls []) := by
    intro n
    induction n with
    | zero =>
      intro x5 x6 x7 x8 x9 H locs ls hn_2 i2_0 i2_1 i2_2 i2_3 i2_4 i2_5 hP hS hl
      exfalso; omega
    | succ n ih_15 =>
      intro x5 x6 x7 x8 x9 H locs ls hn_2 i2_0 i2_1 i2_2 i2_3 i2_4 i2_5 hP hS hl
      have hI := i2_5
      refine lv_iload hx hb dX11_factsOf_15 (lv_at hl 9 rfl) ?_
      refine lv_aload_n hx hb dX11_factsOf_17 rfl (lv_at hl 0 rfl) ?_
      refine mdG_tried C hP mF_X11_319 dX11_factsOf_18 ?_
      refine gi_cge (tgt := 112) hx hb dX11_factsOf_21 (by decide) (by omega) (by omega) (fun c_3 => ?_) (fun c_3 => ?_)
      · have hSn : fS (f 24) (f 25) (f 26) (f 30) (Fk (f 31) (f 32) (f 33) (f 29) (v 26) a4) a3 a1 a2 (v 25).toNat = (x7, x5, x6, x8) := by rw [show (v 25) = x9 by omega]; exact hI
        refine lv_iconst (v := iI 0) hx hb dX11_factsOf_112 rfl ?_
        refine lv_istore (lv' := [(9, .int (iI 0)), (0, .ref (ad 0)), (1, .int (iI a1)), (2, .int (iI a2)), (3, .int (iI a3)), (4, .int (iI a4)), (5, .int (iI x5)), (6, .int (iI x6)), (7, .int (iI x7)), (8, .int (iI x8))]) hx hb dX11_factsOf_113 hl (by decide) rfl (fun ls hl => ?_)
        have L_4 : ∀ (n : Nat) (x9 : Int) (c37_4 : Int → Int) (H : Heap) (locs : List Loc) (ls : Array Slot), 6 - x9 < (n : Int) → (0 ≤ x9 ∧ x9 ≤ 6) → (c37_4 = gfill (f 37) x9 0) → gWd D (mdT k ad) v (va_up f 37 c37_4) g H → va_S A s.heap H locs → lv_has ls 11 [(0, .ref (ad 0)), (1, .int (iI a1)), (2, .int (iI a2)), (3, .int (iI a3)), (4, .int (iI a4)), (5, .int (iI x5)), (6, .int (iI x6)), (7, .int (iI x7)), (8, .int (iI x8)), (9, .int (iI x9))] → W p l e (gRm 1 24) s m args below meth c H locs 0 0 Q (F0 m 115 ls []) := by
          intro n
          induction n with
          | zero =>
            intro x9 c37_4 H locs ls hn_4 i4_0 i4_1 hP hS hl
            exfalso; omega
          | succ n ih_115 =>
            intro x9 c37_4 H locs ls hn_4 i4_0 i4_1 hP hS hl
            have hz1 := i4_1
            refine lv_iload hx hb dX11_factsOf_115 (lv_at hl 9 rfl) ?_
            refine lv_bipush (v := iI 6) hx hb dX11_factsOf_117 (by decide) ?_
            refine gi_cge (tgt := 136) hx hb dX11_factsOf_119 (by decide) (by omega) (by decide) (fun c_5 => ?_) (fun c_5 => ?_)
            · skip
              have hS9 : fS (f 24) (f 25) (f 26) (f 30) (Fk (f 31) (f 32) (f 33) (f 29) (v 26) a4) a3 a1 a2 (v 25).toNat = (x7, x5, x6, x8) := by first | (rw [show (v 25) = x9 by omega]; exact hI) | exact hSn
              refine lv_iload hx hb dX11_factsOf_136 (lv_at hl 6 rfl) ?_
              refine gi_zge (tgt := 142) hx hb dX11_factsOf_138 (by decide) (by omega) (fun c_6 => ?_) (fun c_6 => ?_)
              · have hp : 0 < (fS (f 24) (f 25) (f 26) (f 30) (Fk (f 31) (f 32) (f 33) (f 29) (v 26) a4) a3 a1 a2 (v 25).toNat).1 := by have o := (fS_ok (wh := (f 24)) (rd := (f 25)) (rt := (f 26)) (hw := (f 30)) (c := a3) (r := a1) (t := a2) hkr (v 25).toNat); rw [hSn] at o ⊢; exact (if hz : x7 = 0 then (by exfalso; have h8 := o.2.1 hz; have h9 : x6 = -1 := congrArg (fun q => q.2.2.1) h8; omega) else (by have h8 : 0 ≤ x7 := o.1.1; show 0 < x7; omega))
                have e1 : x5 = (fS (f 24) (f 25) (f 26) (f 30) (Fk (f 31) (f 32) (f 33) (f 29) (v 26) a4) a3 a1 a2 (v 25).toNat).2.1 := by rw [hSn]
                have e2 : x6 = (fS (f 24) (f 25) (f 26) (f 30) (Fk (f 31) (f 32) (f 33) (f 29) (v 26) a4) a3 a1 a2 (v 25).toNat).2.2.1 := by rw [hSn]
                have e3 : x8 = (fS (f 24) (f 25) (f 26) (f 30) (Fk (f 31) (f 32) (f 33) (f 29) (v 26) a4) a3 a1 a2 (v 25).toNat).2.2.2 := by rw [hSn]
                refine lv_iload_n hx hb dX11_factsOf_142 rfl (lv_at hl 1 rfl) ?_
                refine lv_iload_n hx hb dX11_factsOf_143 rfl (lv_at hl 2 rfl) ?_
                refine g_cs (As := [.int (iI a1), .int (iI a2)]) (rest := []) (n := 2) C hml (m_X11_at l D k A ad hD v (va_up f 37 c37_4) g a1 a2 (by omega) (by omega) (show 0 ≤ a1 ∧ a1 ≤ 3 from by omega) (show 0 ≤ a2 ∧ a2 ≤ 4 from by omega)) mM_X11_335 mS_X11_at mN_X11 mC_X11_at (by decide +kernel) hP hS (fun _ h => h) ⟨Nat.le_of_ble_eq_true rfl, Nat.le_of_ble_eq_true rfl⟩ ⟨Nat.zero_le _, Nat.zero_le _⟩ hl.1 rfl rfl (Nat.le_of_ble_eq_true rfl) dX11_factsOf_144 (fun r_7 v_7 f_7 g_7 H locs hq_7 hP _ hS => ?_)
                obtain ⟨z_7, rfl, rfl, rfl, rfl, p0_7⟩ := hq_7
                show W p l e (gRm 1 24) s m args below meth c _ _ 0 0 Q (F0 m 147 ls [.int (iI z_7)])
                replace p0_7 : z_7 = (5 * a1 + a2) := p0_7
                have hz_7 : inR z_7 := (by first | omega | (rw [p0_7]; split <;> omega))
                refine lv_istore (lv' := [(9, .int (iI z_7)), (0, .ref (ad 0)), (1, .int (iI a1)), (2, .int (iI a2)), (3, .int (iI a3)), (4, .int (iI a4)), (5, .int (iI x5)), (6, .int (iI x6)), (7, .int (iI x7)), (8, .int (iI x8))]) hx hb dX11_factsOf_147 hl (by decide) rfl (fun ls hl => ?_)
                refine lv_aload_n hx hb dX11_factsOf_149 rfl (lv_at hl 1 rfl) ?_
                refine mdG_facts C hP mF_X11_133 dX11_factsOf_150 ?_
                refine lv_iconst (v := iI 0) hx hb dX11_factsOf_153 rfl ?_
                refine lv_iload hx hb dX11_factsOf_154 (lv_at hl 6 rfl) ?_
                refine lv_aload_n hx hb dX11_factsOf_156 rfl (lv_at hl 1 rfl) ?_
                refine mdG_holds C hP mF_X11_73 dX11_factsOf_157 ?_
                refine lv_iload hx hb dX11_factsOf_160 (lv_at hl 0 rfl) ?_
                refine mdL_holds C hP (by omega) (by omega) dX11_factsOf_162 ?_
                show W p l e (gRm 1 24) s m args below meth c _ _ 0 0 Q (F0 m 163 ls [.int (iI (f 18 z_7)), .int (iI x5), .int (iI 0), .ref (ad 38)])
                have r_8 : 0 ≤ (f 18 z_7) ∧ (f 18 z_7) ≤ 60 := hP.2.2 18 z_7
                have hhs : (f 18 z_7) = (f 18) (a1 * 5 + a2) := by congr 1 <;> omega
                refine gi_cne (tgt := 170) hx hb dX11_factsOf_163 (by decide) (by omega) (by omega) (fun c_10 => ?_) (fun c_10 => ?_)
                · refine lv_iconst (v := iI 0) hx hb dX11_factsOf_170 rfl ?_
                  refine mdS_facts (f1 := (va_up f 37 (u1 c37_4 0 0))) C hP hD hS (by decide) (by decide) (by decide) rfl (Or.inr (gF_up (V := mdV) (F := mdF) ⟨hok.1, hok.2⟩ 37 (u1_rng (hP.2.2 37) (show (-2000000) ≤ 0 ∧ 0 ≤ 2000000 from (by decide))))) dX11_factsOf_171 (fun H locs hP hS => ?_)
                  refine lv_iconst (v := iI 0) hx hb dX11_factsOf_172 rfl ?_
                  refine lv_istore (lv' := [(10, .int (iI 0)), (9, .int (iI z_7)), (0, .ref (ad 0)), (1, .int (iI a1)), (2, .int (iI a2)), (3, .int (iI a3)), (4, .int (iI a4)), (5, .int (iI x5)), (6, .int (iI x6)), (7, .int (iI x7)), (8, .int (iI x8))]) hx hb dX11_factsOf_173 hl (by decide) rfl (fun ls hl => ?_)
                  have L_11 : ∀ (n : Nat) (x10 : Int) (c37_11 : Int → Int) (H : Heap) (locs : List Loc) (ls : Array Slot), 3 - x10 < (n : Int) → (0 ≤ x10 ∧ x10 ≤ 3) → (c37_11 = u1 (u1 (gfill (f 37) 6 0) 0 0) 1 (zUk (f 19) ((a1 * 5 + a2) * 3) x5 x10.toNat)) → gWd D (mdT k ad) v (va_up f 37 c37_11) g H → va_S A s.heap H locs → lv_has ls 11 [(0, .ref (ad 0)), (1, .int (iI a1)), (2, .int (iI a2)), (3, .int (iI a3)), (4, .int (iI a4)), (5, .int (iI x5)), (6, .int (iI x6)), (7, .int (iI x7)), (8, .int (iI x8)), (9, .int (iI z_7)), (10, .int (iI x10))] → W p l e (gRm 1 24) s m args below meth c H locs 0 0 Q (F0 m 175 ls []) := by
                    intro n
                    induction n with
                    | zero =>
                      intro x10 c37_11 H locs ls hn_11 i11_0 i11_1 hP hS hl
                      exfalso; omega
                    | succ n ih_175 =>
                      intro x10 c37_11 H locs ls hn_11 i11_0 i11_1 hP hS hl
                      have hz3 := i11_1
                      have hc1 : c37_11 1 = zUk (f 19) ((a1 * 5 + a2) * 3) x5 x10.toNat := by rw [hz3]; rfl
                      have hzr := zUk_r (zo := (f 19)) ((a1 * 5 + a2) * 3) x5 x10.toNat
                      refine lv_iload hx hb dX11_factsOf_175 (lv_at hl 10 rfl) ?_
                      refine lv_iconst (v := iI 3) hx hb dX11_factsOf_177 rfl ?_
                      refine gi_cge (tgt := 233) hx hb dX11_factsOf_178 (by decide) (by omega) (by decide) (fun c_12 => ?_) (fun c_12 => ?_)
                      · refine lv_aload_n hx hb dX11_factsOf_233 rfl (lv_at hl 0 rfl) ?_
                        refine mdG_facts C hP mF_X11_133 dX11_factsOf_234 ?_
                        refine lv_iconst (v := iI 2) hx hb dX11_factsOf_237 rfl ?_
                        refine lv_iload hx hb dX11_factsOf_238 (lv_at hl 5 rfl) ?_
                        refine mdS_facts (f1 := (va_up f 37 (u1 c37_11 2 x5))) C hP hD hS (by decide) (by decide) (by omega) rfl (Or.inr (gF_up (V := mdV) (F := mdF) ⟨hok.1, hok.2⟩ 37 (u1_rng (hP.2.2 37) (show (-2000000) ≤ x5 ∧ x5 ≤ 2000000 from (by omega))))) dX11_factsOf_240 (fun H locs hP hS => ?_)
                        refine lv_aload_n hx hb dX11_factsOf_241 rfl (lv_at hl 0 rfl) ?_
                        refine mdG_facts C hP mF_X11_133 dX11_factsOf_242 ?_
                        refine lv_iconst (v := iI 3) hx hb dX11_factsOf_245 rfl ?_
                        refine lv_iload hx hb dX11_factsOf_246 (lv_at hl 8 rfl) ?_
                        refine mdS_facts (f1 := (va_up f 37 (u1 (u1 c37_11 2 x5) 3 x8))) C hP hD hS (by decide) (by decide) (by omega) rfl (Or.inr (gF_up (V := mdV) (F := mdF) ⟨hok.1, hok.2⟩ 37 (u1_rng (hP.2.2 37) (show (-2000000) ≤ x8 ∧ x8 ≤ 2000000 from (by omega))))) dX11_factsOf_248 (fun H locs hP hS => ?_)
                        refine lv_aload_n hx hb dX11_factsOf_249 rfl (lv_at hl 0 rfl) ?_
                        refine mdG_facts C hP mF_X11_133 dX11_factsOf_250 ?_
                        refine lv_iconst (v := iI 4) hx hb dX11_factsOf_253 rfl ?_
                        refine lv_aload_n hx hb dX11_factsOf_254 rfl (lv_at hl 0 rfl) ?_
                        refine mdG_how C hP mF_X11_112 dX11_factsOf_255 ?_
                        refine lv_iload hx hb dX11_factsOf_258 (lv_at hl 6 rfl) ?_
                        refine mdL_how C hP (by omega) (by omega) dX11_factsOf_260 ?_
                        show W p l e (gRm 1 24) s m args below meth c _ _ 0 0 Q (F0 m 261 ls [.int (iI (f 30 x6)), .int (iI 4), .ref (ad 38)])
                        have r_13 : 0 ≤ (f 30 x6) ∧ (f 30 x6) ≤ 4 := hP.2.2 30 x6
                        refine gi_zne (tgt := 268) hx hb dX11_factsOf_261 (by decide) (by omega) (fun c_14 => ?_) (fun c_14 => ?_)
                        · refine lv_aload_n hx hb dX11_factsOf_268 rfl (lv_at hl 0 rfl) ?_
                          refine mdG_to C hP mF_X11_106 dX11_factsOf_269 ?_
                          refine lv_iload hx hb dX11_factsOf_272 (lv_at hl 6 rfl) ?_
                          refine mdL_to C hP (by omega) (by omega) dX11_factsOf_274 ?_
                          show W p l e (gRm 1 24) s m args below meth c _ _ 0 0 Q (F0 m 275 ls [.int (iI (f 28 x6)), .int (iI 4), .ref (ad 38)])
                          have r_15 : (-1) ≤ (f 28 x6) ∧ (f 28 x6) ≤ 1000999 := hP.2.2 28 x6
                          refine lv_aload_n hx hb dX11_factsOf_275 rfl (lv_at hl 0 rfl) ?_
                          refine mdG_from C hP mF_X11_103 dX11_factsOf_276 ?_
                          refine lv_iload hx hb dX11_factsOf_279 (lv_at hl 6 rfl) ?_
                          refine mdL_from C hP (by omega) (by omega) dX11_factsOf_281 ?_
                          show W p l e (gRm 1 24) s m args below meth c _ _ 0 0 Q (F0 m 282 ls [.int (iI (f 27 x6)), .int (iI (f 28 x6)), .int (iI 4), .ref (ad 38)])
                          have r_16 : 0 ≤ (f 27 x6) ∧ (f 27 x6) ≤ 1000000 := hP.2.2 27 x6
                          refine gi_sub (z := ((f 28 x6) - (f 27 x6))) hx hb dX11_factsOf_282 rfl ?_
                          refine mdS_facts (f1 := (va_up f 37 (u1 (u1 (u1 c37_11 2 x5) 3 x8) 4 ((f 28 x6) - (f 27 x6))))) C hP hD hS (by decide) (by decide) (by omega) rfl (Or.inr (gF_up (V := mdV) (F := mdF) ⟨hok.1, hok.2⟩ 37 (u1_rng (hP.2.2 37) (show (-2000000) ≤ ((f 28 x6) - (f 27 x6)) ∧ ((f 28 x6) - (f 27 x6)) ≤ 2000000 from (by omega))))) dX11_factsOf_283 (fun H locs hP hS => ?_)
                          refine lv_aload_n hx hb dX11_factsOf_284 rfl (lv_at hl 0 rfl) ?_
                          refine mdG_facts C hP mF_X11_133 dX11_factsOf_285 ?_
                          refine lv_iconst (v := iI 5) hx hb dX11_factsOf_288 rfl ?_
                          refine lv_aload_n hx hb dX11_factsOf_289 rfl (lv_at hl 0 rfl) ?_
                          refine mdG_facts C hP mF_X11_133 dX11_factsOf_290 ?_
                          refine lv_iconst (v := iI 0) hx hb dX11_factsOf_293 rfl ?_
                          refine mdL_facts C hP (by decide) (by decide) dX11_factsOf_294 ?_
                          show W p l e (gRm 1 24) s m args below meth c _ _ 0 0 Q (F0 m 295 ls [.int (iI ((u1 (u1 (u1 c37_11 2 x5) 3 x8) 4 ((f 28 x6) - (f 27 x6))) 0)), .int (iI 5), .ref (ad 38)])
                          have r_17 : (-2000000) ≤ ((u1 (u1 (u1 c37_11 2 x5) 3 x8) 4 ((f 28 x6) - (f 27 x6))) 0) ∧ ((u1 (u1 (u1 c37_11 2 x5) 3 x8) 4 ((f 28 x6) - (f 27 x6))) 0) ≤ 2000000 := hP.2.2 37 0
                          have hf0 : ((u1 (u1 (u1 c37_11 2 x5) 3 x8) 4 ((f 28 x6) - (f 27 x6))) 0) = 0 := by rw [hz3]; rfl
                          refine lv_iconst (v := iI 1) hx hb dX11_factsOf_295 rfl ?_
                          refine gi_cne (tgt := 309) hx hb dX11_factsOf_296 (by decide) (by omega) (by decide) (fun c_18 => ?_) (fun c_18 => ?_)
                          · refine lv_iconst (v := iI 0) hx hb dX11_factsOf_309 rfl ?_
                            refine mdS_facts (f1 := (va_up f 37 (u1 (u1 (u1 (u1 c37_11 2 x5) 3 x8) 4 ((f 28 x6) - (f 27 x6))) 5 0))) C hP hD hS (by decide) (by decide) (by decide) rfl (Or.inr (gF_up (V := mdV) (F := mdF) ⟨hok.1, hok.2⟩ 37 (u1_rng (hP.2.2 37) (show (-2000000) ≤ 0 ∧ 0 ≤ 2000000 from (by decide))))) dX11_factsOf_310 (fun H locs hP hS => ?_)
                            exact g_vret hQ C hr hlocks hP hS dX11_factsOf_311 ⟨(u1 (u1 (u1 (u1 c37_11 2 x5) 3 x8) 4 ((f 28 x6) - (f 27 x6))) 5 0), rfl, rfl, rfl, rfl, (by first | (rw [hz1, show x9 = 6 by omega]; exact fa_zero (by have o := (fS_ok (wh := (f 24)) (rd := (f 25)) (rt := (f 26)) (hw := (f 30)) (c := a3) (r := a1) (t := a2) hkr (v 25).toNat); rw [hSn] at o ⊢; exact (if hz : x7 = 0 then hz else (by exfalso; have h8 := (o.2.2 (show 0 < x7 by have h7 : 0 ≤ x7 := o.1.1; omega)).1.1; have h8 : 0 ≤ x6 := h8; omega)))) | (rw [hz3, show x10 = 3 by omega]; exact fa_all hp e1 e2 e3 (by first | rw [if_pos (by omega)] | rw [if_neg (by omega)]) (zU_k _ _ _) rfl rfl (by first | rw [if_pos (by omega)] | rw [if_neg (by omega)]) (by first | rw [if_pos (by omega)] | rw [if_neg (by omega)])))⟩
                          · exfalso; omega
                        · refine lv_iconst (v := iI 0) hx hb dX11_factsOf_264 rfl ?_
                          refine lv_goto (tgt := 283) hx hb dX11_factsOf_265 (by decide) ?_
                          refine mdS_facts (f1 := (va_up f 37 (u1 (u1 (u1 c37_11 2 x5) 3 x8) 4 0))) C hP hD hS (by decide) (by decide) (by decide) rfl (Or.inr (gF_up (V := mdV) (F := mdF) ⟨hok.1, hok.2⟩ 37 (u1_rng (hP.2.2 37) (show (-2000000) ≤ 0 ∧ 0 ≤ 2000000 from (by decide))))) dX11_factsOf_283 (fun H locs hP hS => ?_)
                          refine lv_aload_n hx hb dX11_factsOf_284 rfl (lv_at hl 0 rfl) ?_
                          refine mdG_facts C hP mF_X11_133 dX11_factsOf_285 ?_
                          refine lv_iconst (v := iI 5) hx hb dX11_factsOf_288 rfl ?_
                          refine lv_aload_n hx hb dX11_factsOf_289 rfl (lv_at hl 0 rfl) ?_
                          refine mdG_facts C hP mF_X11_133 dX11_factsOf_290 ?_
                          refine lv_iconst (v := iI 0) hx hb dX11_factsOf_293 rfl ?_
                          refine mdL_facts C hP (by decide) (by decide) dX11_factsOf_294 ?_
                          show W p l e (gRm 1 24) s m args below meth c _ _ 0 0 Q (F0 m 295 ls [.int (iI ((u1 (u1 (u1 c37_11 2 x5) 3 x8) 4 0) 0)), .int (iI 5), .ref (ad 38)])
                          have r_19 : (-2000000) ≤ ((u1 (u1 (u1 c37_11 2 x5) 3 x8) 4 0) 0) ∧ ((u1 (u1 (u1 c37_11 2 x5) 3 x8) 4 0) 0) ≤ 2000000 := hP.2.2 37 0
                          have hf0 : ((u1 (u1 (u1 c37_11 2 x5) 3 x8) 4 0) 0) = 0 := by rw [hz3]; rfl
                          refine lv_iconst (v := iI 1) hx hb dX11_factsOf_295 rfl ?_
                          refine gi_cne (tgt := 309) hx hb dX11_factsOf_296 (by decide) (by omega) (by decide) (fun c_20 => ?_) (fun c_20 => ?_)
                          · refine lv_iconst (v := iI 0) hx hb dX11_factsOf_309 rfl ?_
                            refine mdS_facts (f1 := (va_up f 37 (u1 (u1 (u1 (u1 c37_11 2 x5) 3 x8) 4 0) 5 0))) C hP hD hS (by decide) (by decide) (by decide) rfl (Or.inr (gF_up (V := mdV) (F := mdF) ⟨hok.1, hok.2⟩ 37 (u1_rng (hP.2.2 37) (show (-2000000) ≤ 0 ∧ 0 ≤ 2000000 from (by decide))))) dX11_factsOf_310 (fun H locs hP hS => ?_)
                            exact g_vret hQ C hr hlocks hP hS dX11_factsOf_311 ⟨(u1 (u1 (u1 (u1 c37_11 2 x5) 3 x8) 4 0) 5 0), rfl, rfl, rfl, rfl, (by first | (rw [hz1, show x9 = 6 by omega]; exact fa_zero (by have o := (fS_ok (wh := (f 24)) (rd := (f 25)) (rt := (f 26)) (hw := (f 30)) (c := a3) (r := a1) (t := a2) hkr (v 25).toNat); rw [hSn] at o ⊢; exact (if hz : x7 = 0 then hz else (by exfalso; have h8 := (o.2.2 (show 0 < x7 by have h7 : 0 ≤ x7 := o.1.1; omega)).1.1; have h8 : 0 ≤ x6 := h8; omega)))) | (rw [hz3, show x10 = 3 by omega]; exact fa_all hp e1 e2 e3 (by first | rw [if_pos (by omega)] | rw [if_neg (by omega)]) (zU_k _ _ _) rfl rfl (by first | rw [if_pos (by omega)] | rw [if_neg (by omega)]) (by first | rw [if_pos (by omega)] | rw [if_neg (by omega)])))⟩
                          · exfalso; omega
                      · refine lv_aload_n hx hb dX11_factsOf_181 rfl (lv_at hl 0 rfl) ?_
                        refine mdG_facts C hP mF_X11_133 dX11_factsOf_182 ?_
                        refine lv_iconst (v := iI 1) hx hb dX11_factsOf_185 rfl ?_
                        refine lv_dup2_11 hx hb dX11_factsOf_186 rfl rfl ?_
                        refine mdL_facts C hP (by decide) (by decide) dX11_factsOf_187 ?_
                        show W p l e (gRm 1 24) s m args below meth c _ _ 0 0 Q (F0 m 188 ls [.int (iI (c37_11 1)), .int (iI 1), .ref (ad 38)])
                        have r_21 : (-2000000) ≤ (c37_11 1) ∧ (c37_11 1) ≤ 2000000 := hP.2.2 37 1
                        refine lv_aload_n hx hb dX11_factsOf_188 rfl (lv_at hl 0 rfl) ?_
                        refine mdG_zones C hP mF_X11_76 dX11_factsOf_189 ?_
                        refine lv_iconst (v := iI 3) hx hb dX11_factsOf_192 rfl ?_
                        refine lv_iload hx hb dX11_factsOf_193 (lv_at hl 9 rfl) ?_
                        refine gi_mul (z := (3 * z_7)) hx hb dX11_factsOf_195 rfl ?_
                        refine lv_iload hx hb dX11_factsOf_196 (lv_at hl 10 rfl) ?_
                        refine gi_add (z := ((3 * z_7) + x10)) hx hb dX11_factsOf_198 rfl ?_
                        refine mdL_zones C hP (by omega) (by omega) dX11_factsOf_199 ?_
                        show W p l e (gRm 1 24) s m args below meth c _ _ 0 0 Q (F0 m 200 ls [.int (iI (f 19 ((3 * z_7) + x10))), .int (iI (c37_11 1)), .int (iI 1), .ref (ad 38)])
                        have r_22 : 0 ≤ (f 19 ((3 * z_7) + x10)) ∧ (f 19 ((3 * z_7) + x10)) ≤ 60 := hP.2.2 19 ((3 * z_7) + x10)
                        have hzo_23 : (f 19 ((3 * z_7) + x10)) = (f 19) (((a1 * 5 + a2) * 3) + x10) := by congr 1 <;> omega
                        refine gi_zle (tgt := 224) hx hb dX11_factsOf_200 (by decide) (by omega) (fun c_24 => ?_) (fun c_24 => ?_)
                        · refine lv_iconst (v := iI 0) hx hb dX11_factsOf_224 rfl ?_
                          refine gi_add (z := (c37_11 1)) hx hb dX11_factsOf_225 (by omega) ?_
                          refine mdS_facts (f1 := (va_up f 37 (u1 c37_11 1 (c37_11 1)))) C hP hD hS (by decide) (by decide) (by omega) rfl (Or.inr (gF_up (V := mdV) (F := mdF) ⟨hok.1, hok.2⟩ 37 (u1_rng (hP.2.2 37) (show (-2000000) ≤ (c37_11 1) ∧ (c37_11 1) ≤ 2000000 from (by omega))))) dX11_factsOf_226 (fun H locs hP hS => ?_)
                          refine lv_iinc (v := iI (x10 + 1)) (lv' := [(10, .int (iI (x10 + 1))), (0, .ref (ad 0)), (1, .int (iI a1)), (2, .int (iI a2)), (3, .int (iI a3)), (4, .int (iI a4)), (5, .int (iI x5)), (6, .int (iI x6)), (7, .int (iI x7)), (8, .int (iI x8)), (9, .int (iI z_7))]) hx hb dX11_factsOf_227 hl (k := 10) rfl (by show iI _ + iI 1 = _; rw [iI_add]) (by decide) rfl (fun ls hl => ?_)
                          refine lv_goto (tgt := 175) hx hb dX11_factsOf_230 (by decide) ?_
                          exact ih_175 (x10 + 1) (u1 c37_11 1 (c37_11 1)) _ _ _ (by omega) (by omega) (by rw [zUk_s (by omega)]; first | (rw [if_pos (by omega)]; exact zu_y hz3) | (rw [if_neg (by omega)]; exact zu_n hz3)) hP hS (lv_sub hl [1, 2, 3, 4, 5, 6, 7, 8, 9, 10, 0] rfl)
                        · refine lv_aload_n hx hb dX11_factsOf_203 rfl (lv_at hl 0 rfl) ?_
                          refine mdG_zones C hP mF_X11_76 dX11_factsOf_204 ?_
                          refine lv_iconst (v := iI 3) hx hb dX11_factsOf_207 rfl ?_
                          refine lv_iload hx hb dX11_factsOf_208 (lv_at hl 9 rfl) ?_
                          refine gi_mul (z := (3 * z_7)) hx hb dX11_factsOf_210 rfl ?_
                          refine lv_iload hx hb dX11_factsOf_211 (lv_at hl 10 rfl) ?_
                          refine gi_add (z := ((3 * z_7) + x10)) hx hb dX11_factsOf_213 rfl ?_
                          refine mdL_zones C hP (by omega) (by omega) dX11_factsOf_214 ?_
                          show W p l e (gRm 1 24) s m args below meth c _ _ 0 0 Q (F0 m 215 ls [.int (iI (f 19 ((3 * z_7) + x10))), .int (iI (c37_11 1)), .int (iI 1), .ref (ad 38)])
                          have hzo_25 : (f 19 ((3 * z_7) + x10)) = (f 19) (((a1 * 5 + a2) * 3) + x10) := by congr 1 <;> omega
                          refine lv_iload hx hb dX11_factsOf_215 (lv_at hl 5 rfl) ?_
                          refine gi_cgt (tgt := 224) hx hb dX11_factsOf_217 (by decide) (by omega) (by omega) (fun c_26 => ?_) (fun c_26 => ?_)
                          · refine lv_iconst (v := iI 0) hx hb dX11_factsOf_224 rfl ?_
                            refine gi_add (z := (c37_11 1)) hx hb dX11_factsOf_225 (by omega) ?_
                            refine mdS_facts (f1 := (va_up f 37 (u1 c37_11 1 (c37_11 1)))) C hP hD hS (by decide) (by decide) (by omega) rfl (Or.inr (gF_up (V := mdV) (F := mdF) ⟨hok.1, hok.2⟩ 37 (u1_rng (hP.2.2 37) (show (-2000000) ≤ (c37_11 1) ∧ (c37_11 1) ≤ 2000000 from (by omega))))) dX11_factsOf_226 (fun H locs hP hS => ?_)
                            refine lv_iinc (v := iI (x10 + 1)) (lv' := [(10, .int (iI (x10 + 1))), (0, .ref (ad 0)), (1, .int (iI a1)), (2, .int (iI a2)), (3, .int (iI a3)), (4, .int (iI a4)), (5, .int (iI x5)), (6, .int (iI x6)), (7, .int (iI x7)), (8, .int (iI x8)), (9, .int (iI z_7))]) hx hb dX11_factsOf_227 hl (k := 10) rfl (by show iI _ + iI 1 = _; rw [iI_add]) (by decide) rfl (fun ls hl => ?_)
                            refine lv_goto (tgt := 175) hx hb dX11_factsOf_230 (by decide) ?_
                            exact ih_175 (x10 + 1) (u1 c37_11 1 (c37_11 1)) _ _ _ (by omega) (by omega) (by rw [zUk_s (by omega)]; first | (rw [if_pos (by omega)]; exact zu_y hz3) | (rw [if_neg (by omega)]; exact zu_n hz3)) hP hS (lv_sub hl [1, 2, 3, 4, 5, 6, 7, 8, 9, 10, 0] rfl)
                          · refine lv_iconst (v := iI 1) hx hb dX11_factsOf_220 rfl ?_
                            refine lv_goto (tgt := 225) hx hb dX11_factsOf_221 (by decide) ?_
                            refine gi_add (z := ((c37_11 1) + 1)) hx hb dX11_factsOf_225 rfl ?_
                            refine mdS_facts (f1 := (va_up f 37 (u1 c37_11 1 ((c37_11 1) + 1)))) C hP hD hS (by decide) (by decide) (by omega) rfl (Or.inr (gF_up (V := mdV) (F := mdF) ⟨hok.1, hok.2⟩ 37 (u1_rng (hP.2.2 37) (show (-2000000) ≤ ((c37_11 1) + 1) ∧ ((c37_11 1) + 1) ≤ 2000000 from (by omega))))) dX11_factsOf_226 (fun H locs hP hS => ?_)
                            refine lv_iinc (v := iI (x10 + 1)) (lv' := [(10, .int (iI (x10 + 1))), (0, .ref (ad 0)), (1, .int (iI a1)), (2, .int (iI a2)), (3, .int (iI a3)), (4, .int (iI a4)), (5, .int (iI x5)), (6, .int (iI x6)), (7, .int (iI x7)), (8, .int (iI x8)), (9, .int (iI z_7))]) hx hb dX11_factsOf_227 hl (k := 10) rfl (by show iI _ + iI 1 = _; rw [iI_add]) (by decide) rfl (fun ls hl => ?_)
                            refine lv_goto (tgt := 175) hx hb dX11_factsOf_230 (by decide) ?_
                            exact ih_175 (x10 + 1) (u1 c37_11 1 ((c37_11 1) + 1)) _ _ _ (by omega) (by omega) (by rw [zUk_s (by omega)]; first | (rw [if_pos (by omega)]; exact zu_y hz3) | (rw [if_neg (by omega)]; exact zu_n hz3)) hP hS (lv_sub hl [1, 2, 3, 4, 5, 6, 7, 8, 9, 10, 0] rfl)
                  exact L_11 4 0 (u1 c37_4 0 0) _ _ _ (by omega) (by omega) (by rw [hz1, show x9 = 6 by omega]; exact (u1_id (show _ = zUk _ _ _ (0 : Int).toNat from rfl)).symm) hP hS (lv_sub hl [2, 3, 4, 5, 6, 7, 8, 9, 10, 1, 0] rfl)
                · refine lv_iconst (v := iI 1) hx hb dX11_factsOf_166 rfl ?_
                  refine lv_goto (tgt := 171) hx hb dX11_factsOf_167 (by decide) ?_
                  refine mdS_facts (f1 := (va_up f 37 (u1 c37_4 0 1))) C hP hD hS (by decide) (by decide) (by decide) rfl (Or.inr (gF_up (V := mdV) (F := mdF) ⟨hok.1, hok.2⟩ 37 (u1_rng (hP.2.2 37) (show (-2000000) ≤ 1 ∧ 1 ≤ 2000000 from (by decide))))) dX11_factsOf_171 (fun H locs hP hS => ?_)
                  refine lv_iconst (v := iI 0) hx hb dX11_factsOf_172 rfl ?_
                  refine lv_istore (lv' := [(10, .int (iI 0)), (9, .int (iI z_7)), (0, .ref (ad 0)), (1, .int (iI a1)), (2, .int (iI a2)), (3, .int (iI a3)), (4, .int (iI a4)), (5, .int (iI x5)), (6, .int (iI x6)), (7, .int (iI x7)), (8, .int (iI x8))]) hx hb dX11_factsOf_173 hl (by decide) rfl (fun ls hl => ?_)
                  have L_27 : ∀ (n : Nat) (x10 : Int) (c37_27 : Int → Int) (H : Heap) (locs : List Loc) (ls : Array Slot), 3 - x10 < (n : Int) → (0 ≤ x10 ∧ x10 ≤ 3) → (c37_27 = u1 (u1 (gfill (f 37) 6 0) 0 1) 1 (zUk (f 19) ((a1 * 5 + a2) * 3) x5 x10.toNat)) → gWd D (mdT k ad) v (va_up f 37 c37_27) g H → va_S A s.heap H locs → lv_has ls 11 [(0, .ref (ad 0)), (1, .int (iI a1)), (2, .int (iI a2)), (3, .int (iI a3)), (4, .int (iI a4)), (5, .int (iI x5)), (6, .int (iI x6)), (7, .int (iI x7)), (8, .int (iI x8)), (9, .int (iI z_7)), (10, .int (iI x10))] → W p l e (gRm 1 24) s m args below meth c H locs 0 0 Q (F0 m 175 ls []) := by
                    intro n
                    induction n with
                    | zero =>
                      intro x10 c37_27 H locs ls hn_27 i27_0 i27_1 hP hS hl
                      exfalso; omega
                    | succ n ih_175 =>
                      intro x10 c37_27 H locs ls hn_27 i27_0 i27_1 hP hS hl
                      have hz3 := i27_1
                      have hc1 : c37_27 1 = zUk (f 19) ((a1 * 5 + a2) * 3) x5 x10.toNat := by rw [hz3]; rfl
                      have hzr := zUk_r (zo := (f 19)) ((a1 * 5 + a2) * 3) x5 x10.toNat
                      refine lv_iload hx hb dX11_factsOf_175 (lv_at hl 10 rfl) ?_
                      refine lv_iconst (v := iI 3) hx hb dX11_factsOf_177 rfl ?_
                      refine gi_cge (tgt := 233) hx hb dX11_factsOf_178 (by decide) (by omega) (by decide) (fun c_28 => ?_) (fun c_28 => ?_)
                      · refine lv_aload_n hx hb dX11_factsOf_233 rfl (lv_at hl 0 rfl) ?_
                        refine mdG_facts C hP mF_X11_133 dX11_factsOf_234 ?_
                        refine lv_iconst (v := iI 2) hx hb dX11_factsOf_237 rfl ?_
                        refine lv_iload hx hb dX11_factsOf_238 (lv_at hl 5 rfl) ?_
                        refine mdS_facts (f1 := (va_up f 37 (u1 c37_27 2 x5))) C hP hD hS (by decide) (by decide) (by omega) rfl (Or.inr (gF_up (V := mdV) (F := mdF) ⟨hok.1, hok.2⟩ 37 (u1_rng (hP.2.2 37) (show (-2000000) ≤ x5 ∧ x5 ≤ 2000000 from (by omega))))) dX11_factsOf_240 (fun H locs hP hS => ?_)
                        refine lv_aload_n hx hb dX11_factsOf_241 rfl (lv_at hl 0 rfl) ?_
                        refine mdG_facts C hP mF_X11_133 dX11_factsOf_242 ?_
                        refine lv_iconst (v := iI 3) hx hb dX11_factsOf_245 rfl ?_
                        refine lv_iload hx hb dX11_factsOf_246 (lv_at hl 8 rfl) ?_
                        refine mdS_facts (f1 := (va_up f 37 (u1 (u1 c37_27 2 x5) 3 x8))) C hP hD hS (by decide) (by decide) (by omega) rfl (Or.inr (gF_up (V := mdV) (F := mdF) ⟨hok.1, hok.2⟩ 37 (u1_rng (hP.2.2 37) (show (-2000000) ≤ x8 ∧ x8 ≤ 2000000 from (by omega))))) dX11_factsOf_248 (fun H locs hP hS => ?_)
                        refine lv_aload_n hx hb dX11_factsOf_249 rfl (lv_at hl 0 rfl) ?_
                        refine mdG_facts C hP mF_X11_133 dX11_factsOf_250 ?_
                        refine lv_iconst (v := iI 4) hx hb dX11_factsOf_253 rfl ?_
                        refine lv_aload_n hx hb dX11_factsOf_254 rfl (lv_at hl 0 rfl) ?_
                        refine mdG_how C hP mF_X11_112 dX11_factsOf_255 ?_
                        refine lv_iload hx hb dX11_factsOf_258 (lv_at hl 6 rfl) ?_
                        refine mdL_how C hP (by omega) (by omega) dX11_factsOf_260 ?_
                        show W p l e (gRm 1 24) s m args below meth c _ _ 0 0 Q (F0 m 261 ls [.int (iI (f 30 x6)), .int (iI 4), .ref (ad 38)])
                        have r_29 : 0 ≤ (f 30 x6) ∧ (f 30 x6) ≤ 4 := hP.2.2 30 x6
                        refine gi_zne (tgt := 268) hx hb dX11_factsOf_261 (by decide) (by omega) (fun c_30 => ?_) (fun c_30 => ?_)
                        · refine lv_aload_n hx hb dX11_factsOf_268 rfl (lv_at hl 0 rfl) ?_
                          refine mdG_to C hP mF_X11_106 dX11_factsOf_269 ?_
                          refine lv_iload hx hb dX11_factsOf_272 (lv_at hl 6 rfl) ?_
                          refine mdL_to C hP (by omega) (by omega) dX11_factsOf_274 ?_
                          show W p l e (gRm 1 24) s m args below meth c _ _ 0 0 Q (F0 m 275 ls [.int (iI (f 28 x6)), .int (iI 4), .ref (ad 38)])
                          have r_31 : (-1) ≤ (f 28 x6) ∧ (f 28 x6) ≤ 1000999 := hP.2.2 28 x6
                          refine lv_aload_n hx hb dX11_factsOf_275 rfl (lv_at hl 0 rfl) ?_
                          refine mdG_from C hP mF_X11_103 dX11_factsOf_276 ?_
                          refine lv_iload hx hb dX11_factsOf_279 (lv_at hl 6 rfl) ?_
                          refine mdL_from C hP (by omega) (by omega) dX11_factsOf_281 ?_
                          show W p l e (gRm 1 24) s m args below meth c _ _ 0 0 Q (F0 m 282 ls [.int (iI (f 27 x6)), .int (iI (f 28 x6)), .int (iI 4), .ref (ad 38)])
                          have r_32 : 0 ≤ (f 27 x6) ∧ (f 27 x6) ≤ 1000000 := hP.2.2 27 x6
                          refine gi_sub (z := ((f 28 x6) - (f 27 x6))) hx hb dX11_factsOf_282 rfl ?_
                          refine mdS_facts (f1 := (va_up f 37 (u1 (u1 (u1 c37_27 2 x5) 3 x8) 4 ((f 28 x6) - (f 27 x6))))) C hP hD hS (by decide) (by decide) (by omega) rfl (Or.inr (gF_up (V := mdV) (F := mdF) ⟨hok.1, hok.2⟩ 37 (u1_rng (hP.2.2 37) (show (-2000000) ≤ ((f 28 x6) - (f 27 x6)) ∧ ((f 28 x6) - (f 27 x6)) ≤ 2000000 from (by omega))))) dX11_factsOf_283 (fun H locs hP hS => ?_)
                          refine lv_aload_n hx hb dX11_factsOf_284 rfl (lv_at hl 0 rfl) ?_
                          refine mdG_facts C hP mF_X11_133 dX11_factsOf_285 ?_
                          refine lv_iconst (v := iI 5) hx hb dX11_factsOf_288 rfl ?_
                          refine lv_aload_n hx hb dX11_factsOf_289 rfl (lv_at hl 0 rfl) ?_
                          refine mdG_facts C hP mF_X11_133 dX11_factsOf_290 ?_
                          refine lv_iconst (v := iI 0) hx hb dX11_factsOf_293 rfl ?_
                          refine mdL_facts C hP (by decide) (by decide) dX11_factsOf_294 ?_
                          show W p l e (gRm 1 24) s m args below meth c _ _ 0 0 Q (F0 m 295 ls [.int (iI ((u1 (u1 (u1 c37_27 2 x5) 3 x8) 4 ((f 28 x6) - (f 27 x6))) 0)), .int (iI 5), .ref (ad 38)])
                          have r_33 : (-2000000) ≤ ((u1 (u1 (u1 c37_27 2 x5) 3 x8) 4 ((f 28 x6) - (f 27 x6))) 0) ∧ ((u1 (u1 (u1 c37_27 2 x5) 3 x8) 4 ((f 28 x6) - (f 27 x6))) 0) ≤ 2000000 := hP.2.2 37 0
                          have hf0 : ((u1 (u1 (u1 c37_27 2 x5) 3 x8) 4 ((f 28 x6) - (f 27 x6))) 0) = 1 := by rw [hz3]; rfl
                          refine lv_iconst (v := iI 1) hx hb dX11_factsOf_295 rfl ?_
                          refine gi_cne (tgt := 309) hx hb dX11_factsOf_296 (by decide) (by omega) (by decide) (fun c_34 => ?_) (fun c_34 => ?_)
                          · exfalso; omega
                          · refine lv_iload hx hb dX11_factsOf_299 (lv_at hl 8 rfl) ?_
                            refine lv_iconst (v := iI 1) hx hb dX11_factsOf_301 rfl ?_
                            refine gi_cne (tgt := 309) hx hb dX11_factsOf_302 (by decide) (by omega) (by decide) (fun c_35 => ?_) (fun c_35 => ?_)
                            · refine lv_iconst (v := iI 0) hx hb dX11_factsOf_309 rfl ?_
                              refine mdS_facts (f1 := (va_up f 37 (u1 (u1 (u1 (u1 c37_27 2 x5) 3 x8) 4 ((f 28 x6) - (f 27 x6))) 5 0))) C hP hD hS (by decide) (by decide) (by decide) rfl (Or.inr (gF_up (V := mdV) (F := mdF) ⟨hok.1, hok.2⟩ 37 (u1_rng (hP.2.2 37) (show (-2000000) ≤ 0 ∧ 0 ≤ 2000000 from (by decide))))) dX11_factsOf_310 (fun H locs hP hS => ?_)
                              exact g_vret hQ C hr hlocks hP hS dX11_factsOf_311 ⟨(u1 (u1 (u1 (u1 c37_27 2 x5) 3 x8) 4 ((f 28 x6) - (f 27 x6))) 5 0), rfl, rfl, rfl, rfl, (by first | (rw [hz1, show x9 = 6 by omega]; exact fa_zero (by have o := (fS_ok (wh := (f 24)) (rd := (f 25)) (rt := (f 26)) (hw := (f 30)) (c := a3) (r := a1) (t := a2) hkr (v 25).toNat); rw [hSn] at o ⊢; exact (if hz : x7 = 0 then hz else (by exfalso; have h8 := (o.2.2 (show 0 < x7 by have h7 : 0 ≤ x7 := o.1.1; omega)).1.1; have h8 : 0 ≤ x6 := h8; omega)))) | (rw [hz3, show x10 = 3 by omega]; exact fa_all hp e1 e2 e3 (by first | rw [if_pos (by omega)] | rw [if_neg (by omega)]) (zU_k _ _ _) rfl rfl (by first | rw [if_pos (by omega)] | rw [if_neg (by omega)]) (by first | rw [if_pos (by omega)] | rw [if_neg (by omega)])))⟩
                            · refine lv_iconst (v := iI 1) hx hb dX11_factsOf_305 rfl ?_
                              refine lv_goto (tgt := 310) hx hb dX11_factsOf_306 (by decide) ?_
                              refine mdS_facts (f1 := (va_up f 37 (u1 (u1 (u1 (u1 c37_27 2 x5) 3 x8) 4 ((f 28 x6) - (f 27 x6))) 5 1))) C hP hD hS (by decide) (by decide) (by decide) rfl (Or.inr (gF_up (V := mdV) (F := mdF) ⟨hok.1, hok.2⟩ 37 (u1_rng (hP.2.2 37) (show (-2000000) ≤ 1 ∧ 1 ≤ 2000000 from (by decide))))) dX11_factsOf_310 (fun H locs hP hS => ?_)
                              exact g_vret hQ C hr hlocks hP hS dX11_factsOf_311 ⟨(u1 (u1 (u1 (u1 c37_27 2 x5) 3 x8) 4 ((f 28 x6) - (f 27 x6))) 5 1), rfl, rfl, rfl, rfl, (by first | (rw [hz1, show x9 = 6 by omega]; exact fa_zero (by have o := (fS_ok (wh := (f 24)) (rd := (f 25)) (rt := (f 26)) (hw := (f 30)) (c := a3) (r := a1) (t := a2) hkr (v 25).toNat); rw [hSn] at o ⊢; exact (if hz : x7 = 0 then hz else (by exfalso; have h8 := (o.2.2 (show 0 < x7 by have h7 : 0 ≤ x7 := o.1.1; omega)).1.1; have h8 : 0 ≤ x6 := h8; omega)))) | (rw [hz3, show x10 = 3 by omega]; exact fa_all hp e1 e2 e3 (by first | rw [if_pos (by omega)] | rw [if_neg (by omega)]) (zU_k _ _ _) rfl rfl (by first | rw [if_pos (by omega)] | rw [if_neg (by omega)]) (by first | rw [if_pos (by omega)] | rw [if_neg (by omega)])))⟩
                        · refine lv_iconst (v := iI 0) hx hb dX11_factsOf_264 rfl ?_
                          refine lv_goto (tgt := 283) hx hb dX11_factsOf_265 (by decide) ?_
                          refine mdS_facts (f1 := (va_up f 37 (u1 (u1 (u1 c37_27 2 x5) 3 x8) 4 0))) C hP hD hS (by decide) (by decide) (by decide) rfl (Or.inr (gF_up (V := mdV) (F := mdF) ⟨hok.1, hok.2⟩ 37 (u1_rng (hP.2.2 37) (show (-2000000) ≤ 0 ∧ 0 ≤ 2000000 from (by decide))))) dX11_factsOf_283 (fun H locs hP hS => ?_)
                          refine lv_aload_n hx hb dX11_factsOf_284 rfl (lv_at hl 0 rfl) ?_
                          refine mdG_facts C hP mF_X11_133 dX11_factsOf_285 ?_
                          refine lv_iconst (v := iI 5) hx hb dX11_factsOf_288 rfl ?_
                          refine lv_aload_n hx hb dX11_factsOf_289 rfl (lv_at hl 0 rfl) ?_
                          refine mdG_facts C hP mF_X11_133 dX11_factsOf_290 ?_
                          refine lv_iconst (v := iI 0) hx hb dX11_factsOf_293 rfl ?_
                          refine mdL_facts C hP (by decide) (by decide) dX11_factsOf_294 ?_
                          show W p l e (gRm 1 24) s m args below meth c _ _ 0 0 Q (F0 m 295 ls [.int (iI ((u1 (u1 (u1 c37_27 2 x5) 3 x8) 4 0) 0)), .int (iI 5), .ref (ad 38)])
                          have r_36 : (-2000000) ≤ ((u1 (u1 (u1 c37_27 2 x5) 3 x8) 4 0) 0) ∧ ((u1 (u1 (u1 c37_27 2 x5) 3 x8) 4 0) 0) ≤ 2000000 := hP.2.2 37 0
                          have hf0 : ((u1 (u1 (u1 c37_27 2 x5) 3 x8) 4 0) 0) = 1 := by rw [hz3]; rfl
                          refine lv_iconst (v := iI 1) hx hb dX11_factsOf_295 rfl ?_
                          refine gi_cne (tgt := 309) hx hb dX11_factsOf_296 (by decide) (by omega) (by decide) (fun c_37 => ?_) (fun c_37 => ?_)
                          · exfalso; omega
                          · refine lv_iload hx hb dX11_factsOf_299 (lv_at hl 8 rfl) ?_
                            refine lv_iconst (v := iI 1) hx hb dX11_factsOf_301 rfl ?_
                            refine gi_cne (tgt := 309) hx hb dX11_factsOf_302 (by decide) (by omega) (by decide) (fun c_38 => ?_) (fun c_38 => ?_)
                            · refine lv_iconst (v := iI 0) hx hb dX11_factsOf_309 rfl ?_
                              refine mdS_facts (f1 := (va_up f 37 (u1 (u1 (u1 (u1 c37_27 2 x5) 3 x8) 4 0) 5 0))) C hP hD hS (by decide) (by decide) (by decide) rfl (Or.inr (gF_up (V := mdV) (F := mdF) ⟨hok.1, hok.2⟩ 37 (u1_rng (hP.2.2 37) (show (-2000000) ≤ 0 ∧ 0 ≤ 2000000 from (by decide))))) dX11_factsOf_310 (fun H locs hP hS => ?_)
                              exact g_vret hQ C hr hlocks hP hS dX11_factsOf_311 ⟨(u1 (u1 (u1 (u1 c37_27 2 x5) 3 x8) 4 0) 5 0), rfl, rfl, rfl, rfl, (by first | (rw [hz1, show x9 = 6 by omega]; exact fa_zero (by have o := (fS_ok (wh := (f 24)) (rd := (f 25)) (rt := (f 26)) (hw := (f 30)) (c := a3) (r := a1) (t := a2) hkr (v 25).toNat); rw [hSn] at o ⊢; exact (if hz : x7 = 0 then hz else (by exfalso; have h8 := (o.2.2 (show 0 < x7 by have h7 : 0 ≤ x7 := o.1.1; omega)).1.1; have h8 : 0 ≤ x6 := h8; omega)))) | (rw [hz3, show x10 = 3 by omega]; exact fa_all hp e1 e2 e3 (by first | rw [if_pos (by omega)] | rw [if_neg (by omega)]) (zU_k _ _ _) rfl rfl (by first | rw [if_pos (by omega)] | rw [if_neg (by omega)]) (by first | rw [if_pos (by omega)] | rw [if_neg (by omega)])))⟩
                            · refine lv_iconst (v := iI 1) hx hb dX11_factsOf_305 rfl ?_
                              refine lv_goto (tgt := 310) hx hb dX11_factsOf_306 (by decide) ?_
                              refine mdS_facts (f1 := (va_up f 37 (u1 (u1 (u1 (u1 c37_27 2 x5) 3 x8) 4 0) 5 1))) C hP hD hS (by decide) (by decide) (by decide) rfl (Or.inr (gF_up (V := mdV) (F := mdF) ⟨hok.1, hok.2⟩ 37 (u1_rng (hP.2.2 37) (show (-2000000) ≤ 1 ∧ 1 ≤ 2000000 from (by decide))))) dX11_factsOf_310 (fun H locs hP hS => ?_)
                              exact g_vret hQ C hr hlocks hP hS dX11_factsOf_311 ⟨(u1 (u1 (u1 (u1 c37_27 2 x5) 3 x8) 4 0) 5 1), rfl, rfl, rfl, rfl, (by first | (rw [hz1, show x9 = 6 by omega]; exact fa_zero (by have o := (fS_ok (wh := (f 24)) (rd := (f 25)) (rt := (f 26)) (hw := (f 30)) (c := a3) (r := a1) (t := a2) hkr (v 25).toNat); rw [hSn] at o ⊢; exact (if hz : x7 = 0 then hz else (by exfalso; have h8 := (o.2.2 (show 0 < x7 by have h7 : 0 ≤ x7 := o.1.1; omega)).1.1; have h8 : 0 ≤ x6 := h8; omega)))) | (rw [hz3, show x10 = 3 by omega]; exact fa_all hp e1 e2 e3 (by first | rw [if_pos (by omega)] | rw [if_neg (by omega)]) (zU_k _ _ _) rfl rfl (by first | rw [if_pos (by omega)] | rw [if_neg (by omega)]) (by first | rw [if_pos (by omega)] | rw [if_neg (by omega)])))⟩
                      · refine lv_aload_n hx hb dX11_factsOf_181 rfl (lv_at hl 0 rfl) ?_
                        refine mdG_facts C hP mF_X11_133 dX11_factsOf_182 ?_
                        refine lv_iconst (v := iI 1) hx hb dX11_factsOf_185 rfl ?_
                        refine lv_dup2_11 hx hb dX11_factsOf_186 rfl rfl ?_
                        refine mdL_facts C hP (by decide) (by decide) dX11_factsOf_187 ?_
                        show W p l e (gRm 1 24) s m args below meth c _ _ 0 0 Q (F0 m 188 ls [.int (iI (c37_27 1)), .int (iI 1), .ref (ad 38)])
                        have r_39 : (-2000000) ≤ (c37_27 1) ∧ (c37_27 1) ≤ 2000000 := hP.2.2 37 1
                        refine lv_aload_n hx hb dX11_factsOf_188 rfl (lv_at hl 0 rfl) ?_
                        refine mdG_zones C hP mF_X11_76 dX11_factsOf_189 ?_
                        refine lv_iconst (v := iI 3) hx hb dX11_factsOf_192 rfl ?_
                        refine lv_iload hx hb dX11_factsOf_193 (lv_at hl 9 rfl) ?_
                        refine gi_mul (z := (3 * z_7)) hx hb dX11_factsOf_195 rfl ?_
                        refine lv_iload hx hb dX11_factsOf_196 (lv_at hl 10 rfl) ?_
                        refine gi_add (z := ((3 * z_7) + x10)) hx hb dX11_factsOf_198 rfl ?_
                        refine mdL_zones C hP (by omega) (by omega) dX11_factsOf_199 ?_
                        show W p l e (gRm 1 24) s m args below meth c _ _ 0 0 Q (F0 m 200 ls [.int (iI (f 19 ((3 * z_7) + x10))), .int (iI (c37_27 1)), .int (iI 1), .ref (ad 38)])
                        have r_40 : 0 ≤ (f 19 ((3 * z_7) + x10)) ∧ (f 19 ((3 * z_7) + x10)) ≤ 60 := hP.2.2 19 ((3 * z_7) + x10)
                        have hzo_41 : (f 19 ((3 * z_7) + x10)) = (f 19) (((a1 * 5 + a2) * 3) + x10) := by congr 1 <;> omega
                        refine gi_zle (tgt := 224) hx hb dX11_factsOf_200 (by decide) (by omega) (fun c_42 => ?_) (fun c_42 => ?_)
                        · refine lv_iconst (v := iI 0) hx hb dX11_factsOf_224 rfl ?_
                          refine gi_add (z := (c37_27 1)) hx hb dX11_factsOf_225 (by omega) ?_
                          refine mdS_facts (f1 := (va_up f 37 (u1 c37_27 1 (c37_27 1)))) C hP hD hS (by decide) (by decide) (by omega) rfl (Or.inr (gF_up (V := mdV) (F := mdF) ⟨hok.1, hok.2⟩ 37 (u1_rng (hP.2.2 37) (show (-2000000) ≤ (c37_27 1) ∧ (c37_27 1) ≤ 2000000 from (by omega))))) dX11_factsOf_226 (fun H locs hP hS => ?_)
                          refine lv_iinc (v := iI (x10 + 1)) (lv' := [(10, .int (iI (x10 + 1))), (0, .ref (ad 0)), (1, .int (iI a1)), (2, .int (iI a2)), (3, .int (iI a3)), (4, .int (iI a4)), (5, .int (iI x5)), (6, .int (iI x6)), (7, .int (iI x7)), (8, .int (iI x8)), (9, .int (iI z_7))]) hx hb dX11_factsOf_227 hl (k := 10) rfl (by show iI _ + iI 1 = _; rw [iI_add]) (by decide) rfl (fun ls hl => ?_)
                          refine lv_goto (tgt := 175) hx hb dX11_factsOf_230 (by decide) ?_
                          exact ih_175 (x10 + 1) (u1 c37_27 1 (c37_27 1)) _ _ _ (by omega) (by omega) (by rw [zUk_s (by omega)]; first | (rw [if_pos (by omega)]; exact zu_y hz3) | (rw [if_neg (by omega)]; exact zu_n hz3)) hP hS (lv_sub hl [1, 2, 3, 4, 5, 6, 7, 8, 9, 10, 0] rfl)
                        · refine lv_aload_n hx hb dX11_factsOf_203 rfl (lv_at hl 0 rfl) ?_
                          refine mdG_zones C hP mF_X11_76 dX11_factsOf_204 ?_
                          refine lv_iconst (v := iI 3) hx hb dX11_factsOf_207 rfl ?_
                          refine lv_iload hx hb dX11_factsOf_208 (lv_at hl 9 rfl) ?_
                          refine gi_mul (z := (3 * z_7)) hx hb dX11_factsOf_210 rfl ?_
                          refine lv_iload hx hb dX11_factsOf_211 (lv_at hl 10 rfl) ?_
                          refine gi_add (z := ((3 * z_7) + x10)) hx hb dX11_factsOf_213 rfl ?_
                          refine mdL_zones C hP (by omega) (by omega) dX11_factsOf_214 ?_
                          show W p l e (gRm 1 24) s m args below meth c _ _ 0 0 Q (F0 m 215 ls [.int (iI (f 19 ((3 * z_7) + x10))), .int (iI (c37_27 1)), .int (iI 1), .ref (ad 38)])
                          have hzo_43 : (f 19 ((3 * z_7) + x10)) = (f 19) (((a1 * 5 + a2) * 3) + x10) := by congr 1 <;> omega
                          refine lv_iload hx hb dX11_factsOf_215 (lv_at hl 5 rfl) ?_
                          refine gi_cgt (tgt := 224) hx hb dX11_factsOf_217 (by decide) (by omega) (by omega) (fun c_44 => ?_) (fun c_44 => ?_)
                          · refine lv_iconst (v := iI 0) hx hb dX11_factsOf_224 rfl ?_
                            refine gi_add (z := (c37_27 1)) hx hb dX11_factsOf_225 (by omega) ?_
                            refine mdS_facts (f1 := (va_up f 37 (u1 c37_27 1 (c37_27 1)))) C hP hD hS (by decide) (by decide) (by omega) rfl (Or.inr (gF_up (V := mdV) (F := mdF) ⟨hok.1, hok.2⟩ 37 (u1_rng (hP.2.2 37) (show (-2000000) ≤ (c37_27 1) ∧ (c37_27 1) ≤ 2000000 from (by omega))))) dX11_factsOf_226 (fun H locs hP hS => ?_)
                            refine lv_iinc (v := iI (x10 + 1)) (lv' := [(10, .int (iI (x10 + 1))), (0, .ref (ad 0)), (1, .int (iI a1)), (2, .int (iI a2)), (3, .int (iI a3)), (4, .int (iI a4)), (5, .int (iI x5)), (6, .int (iI x6)), (7, .int (iI x7)), (8, .int (iI x8)), (9, .int (iI z_7))]) hx hb dX11_factsOf_227 hl (k := 10) rfl (by show iI _ + iI 1 = _; rw [iI_add]) (by decide) rfl (fun ls hl => ?_)
                            refine lv_goto (tgt := 175) hx hb dX11_factsOf_230 (by decide) ?_
                            exact ih_175 (x10 + 1) (u1 c37_27 1 (c37_27 1)) _ _ _ (by omega) (by omega) (by rw [zUk_s (by omega)]; first | (rw [if_pos (by omega)]; exact zu_y hz3) | (rw [if_neg (by omega)]; exact zu_n hz3)) hP hS (lv_sub hl [1, 2, 3, 4, 5, 6, 7, 8, 9, 10, 0] rfl)
                          · refine lv_iconst (v := iI 1) hx hb dX11_factsOf_220 rfl ?_
                            refine lv_goto (tgt := 225) hx hb dX11_factsOf_221 (by decide) ?_
                            refine gi_add (z := ((c37_27 1) + 1)) hx hb dX11_factsOf_225 rfl ?_
                            refine mdS_facts (f1 := (va_up f 37 (u1 c37_27 1 ((c37_27 1) + 1)))) C hP hD hS (by decide) (by decide) (by omega) rfl (Or.inr (gF_up (V := mdV) (F := mdF) ⟨hok.1, hok.2⟩ 37 (u1_rng (hP.2.2 37) (show (-2000000) ≤ ((c37_27 1) + 1) ∧ ((c37_27 1) + 1) ≤ 2000000 from (by omega))))) dX11_factsOf_226 (fun H locs hP hS => ?_)
                            refine lv_iinc (v := iI (x10 + 1)) (lv' := [(10, .int (iI (x10 + 1))), (0, .ref (ad 0)), (1, .int (iI a1)), (2, .int (iI a2)), (3, .int (iI a3)), (4, .int (iI a4)), (5, .int (iI x5)), (6, .int (iI x6)), (7, .int (iI x7)), (8, .int (iI x8)), (9, .int (iI z_7))]) hx hb dX11_factsOf_227 hl (k := 10) rfl (by show iI _ + iI 1 = _; rw [iI_add]) (by decide) rfl (fun ls hl => ?_)
                            refine lv_goto (tgt := 175) hx hb dX11_factsOf_230 (by decide) ?_
                            exact ih_175 (x10 + 1) (u1 c37_27 1 ((c37_27 1) + 1)) _ _ _ (by omega) (by omega) (by rw [zUk_s (by omega)]; first | (rw [if_pos (by omega)]; exact zu_y hz3) | (rw [if_neg (by omega)]; exact zu_n hz3)) hP hS (lv_sub hl [1, 2, 3, 4, 5, 6, 7, 8, 9, 10, 0] rfl)
                  exact L_27 4 0 (u1 c37_4 0 1) _ _ _ (by omega) (by omega) (by rw [hz1, show x9 = 6 by omega]; exact (u1_id (show _ = zUk _ _ _ (0 : Int).toNat from rfl)).symm) hP hS (lv_sub hl [2, 3, 4, 5, 6, 7, 8, 9, 10, 1, 0] rfl)
              · exact g_vret hQ C hr hlocks hP hS dX11_factsOf_141 ⟨c37_4, rfl, rfl, rfl, rfl, (by first | (rw [hz1, show x9 = 6 by omega]; exact fa_zero (by have o := (fS_ok (wh := (f 24)) (rd := (f 25)) (rt := (f 26)) (hw := (f 30)) (c := a3) (r := a1) (t := a2) hkr (v 25).toNat); rw [hSn] at o ⊢; exact (if hz : x7 = 0 then hz else (by exfalso; have h8 := (o.2.2 (show 0 < x7 by have h7 : 0 ≤ x7 := o.1.1; omega)).1.1; have h8 : 0 ≤ x6 := h8; omega)))) | (rw [hz3, show x10 = 3 by omega]; exact fa_all hp e1 e2 e3 (by first | rw [if_pos (by omega)] | rw [if_neg (by omega)]) (zU_k _ _ _) rfl rfl (by first | rw [if_pos (by omega)] | rw [if_neg (by omega)]) (by first | rw [if_pos (by omega)] | rw [if_neg (by omega)])))⟩
            · refine lv_aload_n hx hb dX11_factsOf_122 rfl (lv_at hl 0 rfl) ?_
              refine mdG_facts C hP mF_X11_133 dX11_factsOf_123 ?_
              refine lv_iload hx hb dX11_factsOf_126 (lv_at hl 9 rfl) ?_
              refine lv_iconst (v := iI 0) hx hb dX11_factsOf_128 rfl ?_
              refine mdS_facts (f1 := (va_up f 37 (u1 c37_4 x9 0))) C hP hD hS (by omega) (by omega) (by decide) rfl (Or.inr (gF_up (V := mdV) (F := mdF) ⟨hok.1, hok.2⟩ 37 (u1_rng (hP.2.2 37) (show (-2000000) ≤ 0 ∧ 0 ≤ 2000000 from (by decide))))) dX11_factsOf_129 (fun H locs hP hS => ?_)
              refine lv_iinc (v := iI (x9 + 1)) (lv' := [(9, .int (iI (x9 + 1))), (0, .ref (ad 0)), (1, .int (iI a1)), (2, .int (iI a2)), (3, .int (iI a3)), (4, .int (iI a4)), (5, .int (iI x5)), (6, .int (iI x6)), (7, .int (iI x7)), (8, .int (iI x8))]) hx hb dX11_factsOf_130 hl (k := 9) rfl (by show iI _ + iI 1 = _; rw [iI_add]) (by decide) rfl (fun ls hl => ?_)
              refine lv_goto (tgt := 115) hx hb dX11_factsOf_133 (by decide) ?_
              exact ih_115 (x9 + 1) (u1 c37_4 x9 0) _ _ _ (by omega) (by omega) (by rw [hz1]; exact gfill_s _ _ (by omega)) hP hS (lv_sub hl [1, 2, 3, 4, 5, 6, 7, 8, 9, 0] rfl)
        exact L_4 7 0 (f 37) _ _ _ (by omega) (by omega) (gfill_0 _ _).symm hP hS (lv_sub hl [1, 2, 3, 4, 5, 6, 7, 8, 9, 0] rfl)
      · refine lv_aload_n hx hb dX11_factsOf_24 rfl (lv_at hl 0 rfl) ?_
        refine mdG_who C hP mF_X11_94 dX11_factsOf_25 ?_
        refine lv_iload hx hb dX11_factsOf_28 (lv_at hl 9 rfl) ?_
        refine mdL_who C hP (by omega) (by omega) dX11_factsOf_30 ?_
        show W p l e (gRm 1 24) s m args below meth c _ _ 0 0 Q (F0 m 31 ls [.int (iI (f 24 x9))])
        have r_45 : 0 ≤ (f 24 x9) ∧ (f 24 x9) ≤ 15 := hP.2.2 24 x9
        refine lv_iload_n hx hb dX11_factsOf_31 rfl (lv_at hl 3 rfl) ?_
        refine gi_cne (tgt := 106) hx hb dX11_factsOf_32 (by decide) (by omega) (by omega) (fun c_46 => ?_) (fun c_46 => ?_)
        · refine lv_iinc (v := iI (x9 + 1)) (lv' := [(9, .int (iI (x9 + 1))), (0, .ref (ad 0)), (1, .int (iI a1)), (2, .int (iI a2)), (3, .int (iI a3)), (4, .int (iI a4)), (5, .int (iI x5)), (6, .int (iI x6)), (7, .int (iI x7)), (8, .int (iI x8))]) hx hb dX11_factsOf_106 hl (k := 9) rfl (by show iI _ + iI 1 = _; rw [iI_add]) (by decide) rfl (fun ls hl => ?_)
          refine lv_goto (tgt := 15) hx hb dX11_factsOf_109 (by decide) ?_
          exact ih_15 x5 x6 x7 x8 (x9 + 1) _ _ _ (by omega) (by omega) (by omega) (by omega) (by omega) (by omega) (by first | (rw [fS_skip (by omega) (by omega)]; exact hI) | (rw [fS_new (by omega) (by omega) (by rw [hI, ← hho]; show x5 < _; omega), hI, ← hho]) | (rw [fS_old (by omega) (by omega) (by rw [hI, ← hho]; show ¬ x5 < _; omega), hI])) hP hS (lv_sub hl [1, 2, 3, 4, 5, 6, 7, 8, 9, 0] rfl)
        · refine lv_aload_n hx hb dX11_factsOf_35 rfl (lv_at hl 0 rfl) ?_
          refine mdG_where C hP mF_X11_97 dX11_factsOf_36 ?_
          refine lv_iload hx hb dX11_factsOf_39 (lv_at hl 9 rfl) ?_
          refine mdL_where C hP (by omega) (by omega) dX11_factsOf_41 ?_
          show W p l e (gRm 1 24) s m args below meth c _ _ 0 0 Q (F0 m 42 ls [.int (iI (f 25 x9))])
          have r_47 : 0 ≤ (f 25 x9) ∧ (f 25 x9) ≤ 3 := hP.2.2 25 x9
          refine lv_iload_n hx hb dX11_factsOf_42 rfl (lv_at hl 1 rfl) ?_
          refine gi_cne (tgt := 106) hx hb dX11_factsOf_43 (by decide) (by omega) (by omega) (fun c_48 => ?_) (fun c_48 => ?_)
          · refine lv_iinc (v := iI (x9 + 1)) (lv' := [(9, .int (iI (x9 + 1))), (0, .ref (ad 0)), (1, .int (iI a1)), (2, .int (iI a2)), (3, .int (iI a3)), (4, .int (iI a4)), (5, .int (iI x5)), (6, .int (iI x6)), (7, .int (iI x7)), (8, .int (iI x8))]) hx hb dX11_factsOf_106 hl (k := 9) rfl (by show iI _ + iI 1 = _; rw [iI_add]) (by decide) rfl (fun ls hl => ?_)
            refine lv_goto (tgt := 15) hx hb dX11_factsOf_109 (by decide) ?_
            exact ih_15 x5 x6 x7 x8 (x9 + 1) _ _ _ (by omega) (by omega) (by omega) (by omega) (by omega) (by omega) (by first | (rw [fS_skip (by omega) (by omega)]; exact hI) | (rw [fS_new (by omega) (by omega) (by rw [hI, ← hho]; show x5 < _; omega), hI, ← hho]) | (rw [fS_old (by omega) (by omega) (by rw [hI, ← hho]; show ¬ x5 < _; omega), hI])) hP hS (lv_sub hl [1, 2, 3, 4, 5, 6, 7, 8, 9, 0] rfl)
          · refine lv_aload_n hx hb dX11_factsOf_46 rfl (lv_at hl 0 rfl) ?_
            refine mdG_which C hP mF_X11_100 dX11_factsOf_47 ?_
            refine lv_iload hx hb dX11_factsOf_50 (lv_at hl 9 rfl) ?_
            refine mdL_which C hP (by omega) (by omega) dX11_factsOf_52 ?_
            show W p l e (gRm 1 24) s m args below meth c _ _ 0 0 Q (F0 m 53 ls [.int (iI (f 26 x9))])
            have r_49 : 0 ≤ (f 26 x9) ∧ (f 26 x9) ≤ 4 := hP.2.2 26 x9
            refine lv_iload_n hx hb dX11_factsOf_53 rfl (lv_at hl 2 rfl) ?_
            refine gi_cne (tgt := 106) hx hb dX11_factsOf_54 (by decide) (by omega) (by omega) (fun c_50 => ?_) (fun c_50 => ?_)
            · refine lv_iinc (v := iI (x9 + 1)) (lv' := [(9, .int (iI (x9 + 1))), (0, .ref (ad 0)), (1, .int (iI a1)), (2, .int (iI a2)), (3, .int (iI a3)), (4, .int (iI a4)), (5, .int (iI x5)), (6, .int (iI x6)), (7, .int (iI x7)), (8, .int (iI x8))]) hx hb dX11_factsOf_106 hl (k := 9) rfl (by show iI _ + iI 1 = _; rw [iI_add]) (by decide) rfl (fun ls hl => ?_)
              refine lv_goto (tgt := 15) hx hb dX11_factsOf_109 (by decide) ?_
              exact ih_15 x5 x6 x7 x8 (x9 + 1) _ _ _ (by omega) (by omega) (by omega) (by omega) (by omega) (by omega) (by first | (rw [fS_skip (by omega) (by omega)]; exact hI) | (rw [fS_new (by omega) (by omega) (by rw [hI, ← hho]; show x5 < _; omega), hI, ← hho]) | (rw [fS_old (by omega) (by omega) (by rw [hI, ← hho]; show ¬ x5 < _; omega), hI])) hP hS (lv_sub hl [1, 2, 3, 4, 5, 6, 7, 8, 9, 0] rfl)
            · refine lv_aload_n hx hb dX11_factsOf_57 rfl (lv_at hl 0 rfl) ?_
              refine mdG_how C hP mF_X11_112 dX11_factsOf_58 ?_
              refine lv_iload hx hb dX11_factsOf_61 (lv_at hl 9 rfl) ?_
              refine mdL_how C hP (by omega) (by omega) dX11_factsOf_63 ?_
              show W p l e (gRm 1 24) s m args below meth c _ _ 0 0 Q (F0 m 64 ls [.int (iI (f 30 x9))])
              have r_51 : 0 ≤ (f 30 x9) ∧ (f 30 x9) ≤ 4 := hP.2.2 30 x9
              refine lv_iconst (v := iI 4) hx hb dX11_factsOf_64 rfl ?_
              refine gi_cne (tgt := 71) hx hb dX11_factsOf_65 (by decide) (by omega) (by decide) (fun c_52 => ?_) (fun c_52 => ?_)
              · refine lv_iinc (v := iI (x7 + 1)) (lv' := [(7, .int (iI (x7 + 1))), (0, .ref (ad 0)), (1, .int (iI a1)), (2, .int (iI a2)), (3, .int (iI a3)), (4, .int (iI a4)), (5, .int (iI x5)), (6, .int (iI x6)), (8, .int (iI x8)), (9, .int (iI x9))]) hx hb dX11_factsOf_71 hl (k := 7) rfl (by show iI _ + iI 1 = _; rw [iI_add]) (by decide) rfl (fun ls hl => ?_)
                refine lv_aload_n hx hb dX11_factsOf_74 rfl (lv_at hl 1 rfl) ?_
                refine lv_iload hx hb dX11_factsOf_75 (lv_at hl 9 rfl) ?_
                refine lv_iload hx hb dX11_factsOf_77 (lv_at hl 5 rfl) ?_
                refine g_cv (As := [.int (iI x9), .int (iI a4)]) (rest := []) (n := 2) C hml (y_holdOf l D k A ad hD v (va_up f 37 (f 37)) g x9 a4 (by omega) (by omega) (show 0 ≤ x9 ∧ x9 ≤ 299 from by omega)) mM_X11_367 mI_X11_holdOf mE_X11_holdOf mN_X11 mC_X11_holdOf (by decide +kernel) 0 (ci := 11) rfl rfl hP hS (fun _ h => h) ⟨Nat.le_of_ble_eq_true rfl, Nat.le_of_ble_eq_true rfl⟩ ⟨Nat.zero_le _, Nat.zero_le _⟩ hl.1 rfl rfl (Nat.le_of_ble_eq_true rfl) dX11_factsOf_79 (fun r_53 v_53 f_53 g_53 H locs hq_53 hP _ hS => ?_)
                obtain ⟨z_53, rfl, rfl, rfl, rfl, p0_53, p1_53⟩ := hq_53
                show W p l e (gRm 1 24) s m args below meth c _ _ 0 0 Q (F0 m 82 ls [.int (iI z_53)])
                replace p0_53 : z_53 = (kH (f 31) (f 32) (f 33) a4 x9 ((f 29) x9) (v 26).toNat) := p0_53
                replace p1_53 : 0 ≤ z_53 ∧ z_53 ≤ 60 := p1_53
                have hz_53 : inR z_53 := (by first | omega | (rw [p0_53]; split <;> omega))
                have hho : z_53 = (Fk (f 31) (f 32) (f 33) (f 29) (v 26) a4) x9 := p0_53
                refine lv_istore (lv' := [(10, .int (iI z_53)), (7, .int (iI (x7 + 1))), (0, .ref (ad 0)), (1, .int (iI a1)), (2, .int (iI a2)), (3, .int (iI a3)), (4, .int (iI a4)), (5, .int (iI x5)), (6, .int (iI x6)), (8, .int (iI x8)), (9, .int (iI x9))]) hx hb dX11_factsOf_82 hl (by decide) rfl (fun ls hl => ?_)
                refine lv_iload hx hb dX11_factsOf_84 (lv_at hl 0 rfl) ?_
                refine lv_iload hx hb dX11_factsOf_86 (lv_at hl 7 rfl) ?_
                refine gi_cgt (tgt := 94) hx hb dX11_factsOf_88 (by decide) (by omega) (by omega) (fun c_54 => ?_) (fun c_54 => ?_)
                · refine lv_iload hx hb dX11_factsOf_94 (lv_at hl 0 rfl) ?_
                  refine lv_istore (lv' := [(5, .int (iI z_53)), (10, .int (iI z_53)), (7, .int (iI (x7 + 1))), (0, .ref (ad 0)), (1, .int (iI a1)), (2, .int (iI a2)), (3, .int (iI a3)), (4, .int (iI a4)), (6, .int (iI x6)), (8, .int (iI x8)), (9, .int (iI x9))]) hx hb dX11_factsOf_96 hl (by decide) rfl (fun ls hl => ?_)
                  refine lv_iload hx hb dX11_factsOf_98 (lv_at hl 10 rfl) ?_
                  refine lv_istore (lv' := [(6, .int (iI x9)), (5, .int (iI z_53)), (10, .int (iI z_53)), (7, .int (iI (x7 + 1))), (0, .ref (ad 0)), (1, .int (iI a1)), (2, .int (iI a2)), (3, .int (iI a3)), (4, .int (iI a4)), (8, .int (iI x8)), (9, .int (iI x9))]) hx hb dX11_factsOf_100 hl (by decide) rfl (fun ls hl => ?_)
                  refine lv_iload hx hb dX11_factsOf_102 (lv_at hl 3 rfl) ?_
                  refine lv_istore (lv' := [(8, .int (iI (x7 + 1))), (6, .int (iI x9)), (5, .int (iI z_53)), (10, .int (iI z_53)), (7, .int (iI (x7 + 1))), (0, .ref (ad 0)), (1, .int (iI a1)), (2, .int (iI a2)), (3, .int (iI a3)), (4, .int (iI a4)), (9, .int (iI x9))]) hx hb dX11_factsOf_104 hl (by decide) rfl (fun ls hl => ?_)
                  refine lv_iinc (v := iI (x9 + 1)) (lv' := [(9, .int (iI (x9 + 1))), (8, .int (iI (x7 + 1))), (6, .int (iI x9)), (5, .int (iI z_53)), (10, .int (iI z_53)), (7, .int (iI (x7 + 1))), (0, .ref (ad 0)), (1, .int (iI a1)), (2, .int (iI a2)), (3, .int (iI a3)), (4, .int (iI a4))]) hx hb dX11_factsOf_106 hl (k := 10) rfl (by show iI _ + iI 1 = _; rw [iI_add]) (by decide) rfl (fun ls hl => ?_)
                  refine lv_goto (tgt := 15) hx hb dX11_factsOf_109 (by decide) ?_
                  exact ih_15 z_53 x9 (x7 + 1) (x7 + 1) (x9 + 1) _ _ _ (by omega) (by omega) (by omega) (by omega) (by omega) (by omega) (by first | (rw [fS_skip (by omega) (by omega)]; exact hI) | (rw [fS_new (by omega) (by omega) (by rw [hI, ← hho]; show x5 < _; omega), hI, ← hho]) | (rw [fS_old (by omega) (by omega) (by rw [hI, ← hho]; show ¬ x5 < _; omega), hI])) hP hS (lv_sub hl [6, 7, 8, 9, 10, 3, 2, 5, 1, 0] rfl)
                · refine lv_goto (tgt := 106) hx hb dX11_factsOf_91 (by decide) ?_
                  refine lv_iinc (v := iI (x9 + 1)) (lv' := [(9, .int (iI (x9 + 1))), (10, .int (iI z_53)), (7, .int (iI (x7 + 1))), (0, .ref (ad 0)), (1, .int (iI a1)), (2, .int (iI a2)), (3, .int (iI a3)), (4, .int (iI a4)), (5, .int (iI x5)), (6, .int (iI x6)), (8, .int (iI x8))]) hx hb dX11_factsOf_106 hl (k := 10) rfl (by show iI _ + iI 1 = _; rw [iI_add]) (by decide) rfl (fun ls hl => ?_)
                  refine lv_goto (tgt := 15) hx hb dX11_factsOf_109 (by decide) ?_
                  exact ih_15 x5 x6 (x7 + 1) x8 (x9 + 1) _ _ _ (by omega) (by omega) (by omega) (by omega) (by omega) (by omega) (by first | (rw [fS_skip (by omega) (by omega)]; exact hI) | (rw [fS_new (by omega) (by omega) (by rw [hI, ← hho]; show x5 < _; omega), hI, ← hho]) | (rw [fS_old (by omega) (by omega) (by rw [hI, ← hho]; show ¬ x5 < _; omega), hI])) hP hS (lv_sub hl [3, 4, 5, 6, 7, 8, 9, 2, 10, 0] rfl)
              · refine lv_goto (tgt := 106) hx hb dX11_factsOf_68 (by decide) ?_
                refine lv_iinc (v := iI (x9 + 1)) (lv' := [(9, .int (iI (x9 + 1))), (0, .ref (ad 0)), (1, .int (iI a1)), (2, .int (iI a2)), (3, .int (iI a3)), (4, .int (iI a4)), (5, .int (iI x5)), (6, .int (iI x6)), (7, .int (iI x7)), (8, .int (iI x8))]) hx hb dX11_factsOf_106 hl (k := 9) rfl (by show iI _ + iI 1 = _; rw [iI_add]) (by decide) rfl (fun ls hl => ?_)
                refine lv_goto (tgt := 15) hx hb dX11_factsOf_109 (by decide) ?_
                exact ih_15 x5 x6 x7 x8 (x9 + 1) _ _ _ (by omega) (by omega) (by omega) (by omega) (by omega) (by omega) (by first | (rw [fS_skip (by omega) (by omega)]; exact hI) | (rw [fS_new (by omega) (by omega) (by rw [hI, ← hho]; show x5 < _; omega), hI, ← hho]) | (rw [fS_old (by omega) (by omega) (by rw [hI, ← hho]; show ¬ x5 < _; omega), hI])) hP hS (lv_sub hl [1, 2, 3, 4, 5, 6, 7, 8, 9, 0] rfl)
  exact L_2 301 (-1) (-1) 0 0 0 _ _ _ (by omega) (by omega) (by omega) (by omega) (by omega) (by omega) rfl hP hS (lv_sub hl [5, 6, 7, 8, 9, 4, 3, 2, 1, 0] rfl)

set_option maxHeartbeats 4000000 in
set_option maxRecDepth 100000 in
theorem y_cut (l : Launch) (D : va_G) (k : Nat → ClassId) (A : Nat → Prop) (ad : Nat → Nat) (hD : mdD A k ad) (v : gV) (f g : gF) (a1 : Int) (hL : inL a1) : GM l D k A (mdT k ad) yX11_cut cX11_cut 2 (some .long) 1 40 [.long (iL a1)] v f g (fun r v1 f1 g1 => ∃ (z : Int), r = some (.long (iL z)) ∧ v = v1 ∧ f = f1 ∧ g = g1 ∧ (z = (bd a1)) ∧ ((-1000000000) ≤ z ∧ z ≤ 1000000000)) := by
  refine GM.of (by decide) (Nat.le_of_ble_eq_true rfl) ?_
  intro p e s m args below meth c Q ls hQ C hml hr hlocks hP hl
  have hx := C.1
  have hb := C.2.1
  have hok := hP.2
  have hS : va_S A s.heap s.heap [] := va_S.rf
  have hl : lv_has ls 2 [(0, .long (iL a1))] := hl
  refine lv_ldc2 (v := iL (-1000000000)) hx hb C.2.2.2.1 (C.2.2.1 _ (show Cond.constantLong RX11 370 (iL (-1000000000)) ∈ gWs from mD_X11_370)) dX11_cut_0 ?_
  refine lv_ldc2 (v := iL 1000000000) hx hb C.2.2.2.1 (C.2.2.1 _ (show Cond.constantLong RX11 372 (iL 1000000000) ∈ gWs from mD_X11_372)) dX11_cut_3 ?_
  refine lv_lload_n hx hb dX11_cut_6 rfl (lv_at hl 0 rfl) ?_
  refine gl_minE C hml hl.1 mM_X11_374 (by omega) (by omega) (Nat.le_of_ble_eq_true rfl) (Nat.le_of_ble_eq_true rfl) dX11_cut_7 (fun x_1 hx_1 => ?_)
  refine gl_maxE C hml hl.1 mM_X11_377 (by omega) (by omega) (Nat.le_of_ble_eq_true rfl) (Nat.le_of_ble_eq_true rfl) dX11_cut_10 (fun x_2 hx_2 => ?_)
  exact g_lret hQ C hr hlocks hP hS dX11_cut_13 ⟨x_2, rfl, rfl, rfl, rfl, (by unfold bd; (repeat' split) <;> omega), (by first | omega | ((repeat' split) <;> omega))⟩

set_option maxHeartbeats 4000000 in
set_option maxRecDepth 100000 in
theorem y_pointsOf (l : Launch) (D : va_G) (k : Nat → ClassId) (A : Nat → Prop) (ad : Nat → Nat) (hD : mdD A k ad) (v : gV) (f g : gF) (a1 : Int) (a2 : Int) (a3 : Int) (a4 : Int) (h_a1 : inR a1) (h_a2 : inR a2) (h_a3 : inR a3) (h_a4 : inR a4) (hrp : rpOk (v 13) (f 9)) (h1 : 0 ≤ a1 ∧ a1 ≤ 3) (h2 : 0 ≤ a2 ∧ a2 ≤ 4) : GM l D k A (mdT k ad) yX11_pointsOf cX11_pointsOf 7 (some .int) 2 61 [.ref (ad 0), .int (iI a1), .int (iI a2), .int (iI a3), .int (iI a4)] v f g (fun r v1 f1 g1 => ∃ (z : Int) (a37_ : Int → Int) (b1_ : Int → Int), r = some (.int (iI z)) ∧ v = v1 ∧ (va_up f 37 a37_) = f1 ∧ (va_up g 1 b1_) = g1 ∧ (z = (evR (fun k => mcG ((f 9) k)) (f 10) (gFd (f 24) (f 25) (f 26) (f 27) (f 28) (f 29) (f 30) (f 31) (f 32) (f 33) (f 18) (f 19) (v 25) (v 26) a4 a1 a2 a3) (v 13))) ∧ ((-1000000000) ≤ z ∧ z ≤ 1000000000) ∧ (a37_ 0 = gFd (f 24) (f 25) (f 26) (f 27) (f 28) (f 29) (f 30) (f 31) (f 32) (f 33) (f 18) (f 19) (v 25) (v 26) a4 a1 a2 a3 0 ∧ a37_ 1 = gFd (f 24) (f 25) (f 26) (f 27) (f 28) (f 29) (f 30) (f 31) (f 32) (f 33) (f 18) (f 19) (v 25) (v 26) a4 a1 a2 a3 1 ∧ a37_ 2 = gFd (f 24) (f 25) (f 26) (f 27) (f 28) (f 29) (f 30) (f 31) (f 32) (f 33) (f 18) (f 19) (v 25) (v 26) a4 a1 a2 a3 2 ∧ a37_ 3 = gFd (f 24) (f 25) (f 26) (f 27) (f 28) (f 29) (f 30) (f 31) (f 32) (f 33) (f 18) (f 19) (v 25) (v 26) a4 a1 a2 a3 3 ∧ a37_ 4 = gFd (f 24) (f 25) (f 26) (f 27) (f 28) (f 29) (f 30) (f 31) (f 32) (f 33) (f 18) (f 19) (v 25) (v 26) a4 a1 a2 a3 4 ∧ a37_ 5 = gFd (f 24) (f 25) (f 26) (f 27) (f 28) (f 29) (f 30) (f 31) (f 32) (f 33) (f 18) (f 19) (v 25) (v 26) a4 a1 a2 a3 5)) := by
  refine GM.of (by decide) (Nat.le_of_ble_eq_true rfl) ?_
  intro p e s m args below meth c Q ls hQ C hml hr hlocks hP hl
  have hx := C.1
  have hb := C.2.1
  have hok := hP.2
  have hS : va_S A s.heap s.heap [] := va_S.rf
  have hl : lv_has ls 7 [(0, .ref (ad 0)), (1, .int (iI a1)), (2, .int (iI a2)), (3, .int (iI a3)), (4, .int (iI a4))] := hl
  have hP : gWd D (mdT k ad) v (va_up f 37 (f 37)) (va_up g 1 (g 1)) s.heap := by rw [va_id, va_id]; exact hP
  have hnu : ∀ k, 0 ≤ (f 10) k ∧ (f 10) k ≤ 999999 := fun k => hok.2 10 k
  have hit : ∀ k, 0 ≤ mcG ((f 9) k) ∧ mcG ((f 9) k) ≤ 11 := fun k => mcG_r (hok.2 9 k)
  have r_1 : 0 ≤ (v 13) ∧ (v 13) ≤ 40 := hok.1 13
  refine lv_aload_n hx hb dX11_pointsOf_0 rfl (lv_at hl 0 rfl) ?_
  refine lv_iload_n hx hb dX11_pointsOf_1 rfl (lv_at hl 1 rfl) ?_
  refine lv_iload_n hx hb dX11_pointsOf_2 rfl (lv_at hl 2 rfl) ?_
  refine lv_iload_n hx hb dX11_pointsOf_3 rfl (lv_at hl 3 rfl) ?_
  refine lv_iload hx hb dX11_pointsOf_4 (lv_at hl 4 rfl) ?_
  refine g_cv (As := [.int (iI a1), .int (iI a2), .int (iI a3), .int (iI a4)]) (rest := []) (n := 4) C hml (y_factsOf l D k A ad hD v (va_up f 37 (f 37)) (va_up g 1 (g 1)) a1 a2 a3 a4 (by omega) (by omega) (by omega) (by omega) (show 0 ≤ a1 ∧ a1 ≤ 3 from by omega) (show 0 ≤ a2 ∧ a2 ≤ 4 from by omega)) mM_X11_379 mI_X11_factsOf mE_X11_factsOf mN_X11 mC_X11_factsOf (by decide +kernel) 0 (ci := 11) rfl rfl hP hS (fun _ h => h) ⟨Nat.le_of_ble_eq_true rfl, Nat.le_of_ble_eq_true rfl⟩ ⟨Nat.zero_le _, Nat.zero_le _⟩ hl.1 rfl rfl (Nat.le_of_ble_eq_true rfl) dX11_pointsOf_6 (fun r_2 v_2 f_2 g_2 H locs hq_2 hP _ hS => ?_)
  obtain ⟨a37_2, rfl, rfl, rfl, rfl, p0_2⟩ := hq_2
  show W p l e (gRm 2 61) s m args below meth c _ _ 0 0 Q (F0 m 9 ls [])
  have hP : gWd D (mdT k ad) v (va_up f 37 a37_2) (va_up g 1 (g 1)) H := ⟨hP.1, (gF_up (V := mdV) (F := mdF) ⟨hok.1, hok.2⟩ 37 (hP.2.2 37))⟩
  replace p0_2 : a37_2 0 = gFd (f 24) (f 25) (f 26) (f 27) (f 28) (f 29) (f 30) (f 31) (f 32) (f 33) (f 18) (f 19) (v 25) (v 26) a4 a1 a2 a3 0 ∧ a37_2 1 = gFd (f 24) (f 25) (f 26) (f 27) (f 28) (f 29) (f 30) (f 31) (f 32) (f 33) (f 18) (f 19) (v 25) (v 26) a4 a1 a2 a3 1 ∧ a37_2 2 = gFd (f 24) (f 25) (f 26) (f 27) (f 28) (f 29) (f 30) (f 31) (f 32) (f 33) (f 18) (f 19) (v 25) (v 26) a4 a1 a2 a3 2 ∧ a37_2 3 = gFd (f 24) (f 25) (f 26) (f 27) (f 28) (f 29) (f 30) (f 31) (f 32) (f 33) (f 18) (f 19) (v 25) (v 26) a4 a1 a2 a3 3 ∧ a37_2 4 = gFd (f 24) (f 25) (f 26) (f 27) (f 28) (f 29) (f 30) (f 31) (f 32) (f 33) (f 18) (f 19) (v 25) (v 26) a4 a1 a2 a3 4 ∧ a37_2 5 = gFd (f 24) (f 25) (f 26) (f 27) (f 28) (f 29) (f 30) (f 31) (f 32) (f 33) (f 18) (f 19) (v 25) (v 26) a4 a1 a2 a3 5 := p0_2
  have hF := p0_2
  have hfb : ∀ i, 0 ≤ i → i < 6 → (-1000000000) ≤ a37_2 i ∧ a37_2 i ≤ 1000000000 := fun i _ _ => by have h : (-2000000) ≤ a37_2 i ∧ a37_2 i ≤ 2000000 := hP.2.2 37 i; omega
  refine lv_iconst (v := iI 0) hx hb dX11_pointsOf_9 rfl ?_
  refine lv_istore (lv' := [(5, .int (iI 0)), (0, .ref (ad 0)), (1, .int (iI a1)), (2, .int (iI a2)), (3, .int (iI a3)), (4, .int (iI a4))]) hx hb dX11_pointsOf_10 hl (by decide) rfl (fun ls hl => ?_)
  refine lv_iconst (v := iI 0) hx hb dX11_pointsOf_12 rfl ?_
  refine lv_istore (lv' := [(6, .int (iI 0)), (5, .int (iI 0)), (0, .ref (ad 0)), (1, .int (iI a1)), (2, .int (iI a2)), (3, .int (iI a3)), (4, .int (iI a4))]) hx hb dX11_pointsOf_13 hl (by decide) rfl (fun ls hl => ?_)
  have L_3 : ∀ (n : Nat) (x5 : Int) (x6 : Int) (d1_3 : Int → Int) (H : Heap) (locs : List Loc) (ls : Array Slot), 40 - x6 < (n : Int) → (0 ≤ x6 ∧ x6 ≤ (v 13)) → (x5 = rdp (f 9) x6.toNat) → (0 ≤ x5 ∧ x5 ≤ x6) → (rep (evL (fun k => mcG ((f 9) k)) (f 10) a37_2 x6.toNat) d1_3 x5) → gWd D (mdT k ad) v (va_up f 37 a37_2) (va_up g 1 d1_3) H → va_S A s.heap H locs → lv_has ls 7 [(0, .ref (ad 0)), (1, .int (iI a1)), (2, .int (iI a2)), (3, .int (iI a3)), (4, .int (iI a4)), (5, .int (iI x5)), (6, .int (iI x6))] → W p l e (gRm 2 61) s m args below meth c H locs 0 0 Q (F0 m 15 ls []) := by
    intro n
    induction n with
    | zero =>
      intro x5 x6 d1_3 H locs ls hn_3 i3_0 i3_1 i3_2 i3_3 hP hS hl
      exfalso; omega
    | succ n ih_15 =>
      intro x5 x6 d1_3 H locs ls hn_3 i3_0 i3_1 i3_2 i3_3 hP hS hl
      have hR := i3_3
      have hBd := rep_bnd _ _ hR (evL_bd hnu hfb (fun k => (hit k).1) x6.toNat)
      have hmc := mcG_c ((f 9) x6)
      refine lv_iload hx hb dX11_pointsOf_15 (lv_at hl 6 rfl) ?_
      refine lv_aload_n hx hb dX11_pointsOf_17 rfl (lv_at hl 0 rfl) ?_
      refine mdG_parts C hP mF_X11_304 dX11_pointsOf_18 ?_
      refine gi_cge (tgt := 221) hx hb dX11_pointsOf_21 (by decide) (by omega) (by omega) (fun c_4 => ?_) (fun c_4 => ?_)
      · refine lv_aload_n hx hb dX11_pointsOf_221 rfl (lv_at hl 0 rfl) ?_
        refine mdG_pile C hP mF_X11_136 dX11_pointsOf_222 ?_
        refine lv_iconst (v := iI 0) hx hb dX11_pointsOf_225 rfl ?_
        have hb0 := hBd 0 (by have := hrp.1; rw [show (v 13) = x6 by omega] at this; omega) (by have := hrp.1; rw [show (v 13) = x6 by omega] at this; omega)
        refine mdL_pile C hP (by decide) (by decide) dX11_pointsOf_226 ?_
        show W p l e (gRm 2 61) s m args below meth c _ _ 0 0 Q (F0 m 227 ls [.long (iL (d1_3 0))])
        refine gl_l2iE hx hb (by omega) dX11_pointsOf_227 ?_
        exact g_iret hQ C hr hlocks hP hS dX11_pointsOf_228 ⟨(d1_3 0), a37_2, d1_3, rfl, rfl, rfl, rfl, (by rw [show (v 13) = x6 by omega]; unfold evR; rw [← evL_fa (fun k => hit k) (fun i i0 i1 => fa_i hF i0 i1)]; exact rep_bot _ _ hR (by have := hrp.1; rw [show (v 13) = x6 by omega] at this; omega)), (by first | omega | ((repeat' split) <;> omega)), hF⟩
      · refine lv_aload_n hx hb dX11_pointsOf_24 rfl (lv_at hl 0 rfl) ?_
        refine mdG_part C hP mF_X11_45 dX11_pointsOf_25 ?_
        refine lv_iload hx hb dX11_pointsOf_28 (lv_at hl 6 rfl) ?_
        refine mdL_part C hP (by omega) (by omega) dX11_pointsOf_30 ?_
        show W p l e (gRm 2 61) s m args below meth c _ _ 0 0 Q (F0 m 31 ls [.int (iI (f 9 x6))])
        have r_5 : 0 ≤ (f 9 x6) ∧ (f 9 x6) ≤ 11 := hP.2.2 9 x6
        have q_6 := rpStep hrp x6 (by omega) (by omega)
        refine lv_bipush (v := iI 7) hx hb dX11_pointsOf_31 (by decide) ?_
        refine gi_cge (tgt := 85) hx hb dX11_pointsOf_33 (by decide) (by omega) (by decide) (fun c_7 => ?_) (fun c_7 => ?_)
        · refine lv_aload_n hx hb dX11_pointsOf_85 rfl (lv_at hl 0 rfl) ?_
          refine mdG_part C hP mF_X11_45 dX11_pointsOf_86 ?_
          refine lv_iload hx hb dX11_pointsOf_89 (lv_at hl 6 rfl) ?_
          refine mdL_part C hP (by omega) (by omega) dX11_pointsOf_91 ?_
          show W p l e (gRm 2 61) s m args below meth c _ _ 0 0 Q (F0 m 92 ls [.int (iI (f 9 x6))])
          have q_8 := rpStep hrp x6 (by omega) (by omega)
          refine lv_bipush (v := iI 10) hx hb dX11_pointsOf_92 (by decide) ?_
          refine gi_cne (tgt := 119) hx hb dX11_pointsOf_94 (by decide) (by omega) (by decide) (fun c_9 => ?_) (fun c_9 => ?_)
          · refine lv_iinc (v := iI (x5 + (-1))) (lv' := [(5, .int (iI (x5 + (-1)))), (0, .ref (ad 0)), (1, .int (iI a1)), (2, .int (iI a2)), (3, .int (iI a3)), (4, .int (iI a4)), (6, .int (iI x6))]) hx hb dX11_pointsOf_119 hl (k := 5) rfl (by show iI _ + iI (-1) = _; rw [iI_add]) (by decide) rfl (fun ls hl => ?_)
            refine lv_aload_n hx hb dX11_pointsOf_122 rfl (lv_at hl 1 rfl) ?_
            refine mdG_pile C hP mF_X11_136 dX11_pointsOf_123 ?_
            refine lv_iload hx hb dX11_pointsOf_126 (lv_at hl 0 rfl) ?_
            refine lv_iconst (v := iI 1) hx hb dX11_pointsOf_128 rfl ?_
            refine gi_sub (z := ((x5 + (-1)) - 1)) hx hb dX11_pointsOf_129 rfl ?_
            refine lv_aload_n hx hb dX11_pointsOf_130 rfl (lv_at hl 1 rfl) ?_
            refine mdG_part C hP mF_X11_45 dX11_pointsOf_131 ?_
            refine lv_iload hx hb dX11_pointsOf_134 (lv_at hl 6 rfl) ?_
            refine mdL_part C hP (by omega) (by omega) dX11_pointsOf_136 ?_
            show W p l e (gRm 2 61) s m args below meth c _ _ 0 0 Q (F0 m 137 ls [.int (iI (f 9 x6)), .int (iI ((x5 + (-1)) - 1)), .ref (ad 39)])
            have q_10 := rpStep hrp x6 (by omega) (by omega)
            refine lv_bipush (v := iI 7) hx hb dX11_pointsOf_137 (by decide) ?_
            refine gi_cne (tgt := 162) hx hb dX11_pointsOf_139 (by decide) (by omega) (by decide) (fun c_11 => ?_) (fun c_11 => ?_)
            · refine lv_aload_n hx hb dX11_pointsOf_162 rfl (lv_at hl 1 rfl) ?_
              refine mdG_part C hP mF_X11_45 dX11_pointsOf_163 ?_
              refine lv_iload hx hb dX11_pointsOf_166 (lv_at hl 6 rfl) ?_
              refine mdL_part C hP (by omega) (by omega) dX11_pointsOf_168 ?_
              show W p l e (gRm 2 61) s m args below meth c _ _ 0 0 Q (F0 m 169 ls [.int (iI (f 9 x6)), .int (iI ((x5 + (-1)) - 1)), .ref (ad 39)])
              have q_12 := rpStep hrp x6 (by omega) (by omega)
              refine lv_bipush (v := iI 8) hx hb dX11_pointsOf_169 (by decide) ?_
              refine gi_cne (tgt := 194) hx hb dX11_pointsOf_171 (by decide) (by omega) (by decide) (fun c_13 => ?_) (fun c_13 => ?_)
              · refine lv_aload_n hx hb dX11_pointsOf_194 rfl (lv_at hl 1 rfl) ?_
                refine mdG_pile C hP mF_X11_136 dX11_pointsOf_195 ?_
                refine lv_iload hx hb dX11_pointsOf_198 (lv_at hl 0 rfl) ?_
                refine lv_iconst (v := iI 1) hx hb dX11_pointsOf_200 rfl ?_
                refine gi_sub (z := ((x5 + (-1)) - 1)) hx hb dX11_pointsOf_201 rfl ?_
                refine mdL_pile C hP (by omega) (by omega) dX11_pointsOf_202 ?_
                show W p l e (gRm 2 61) s m args below meth c _ _ 0 0 Q (F0 m 203 ls [.long (iL (d1_3 ((x5 + (-1)) - 1))), .int (iI ((x5 + (-1)) - 1)), .ref (ad 39)])
                refine lv_aload_n hx hb dX11_pointsOf_203 rfl (lv_at hl 1 rfl) ?_
                refine mdG_pile C hP mF_X11_136 dX11_pointsOf_204 ?_
                refine lv_iload hx hb dX11_pointsOf_207 (lv_at hl 0 rfl) ?_
                refine mdL_pile C hP (by omega) (by omega) dX11_pointsOf_209 ?_
                show W p l e (gRm 2 61) s m args below meth c _ _ 0 0 Q (F0 m 210 ls [.long (iL (d1_3 (x5 + (-1)))), .long (iL (d1_3 ((x5 + (-1)) - 1))), .int (iI ((x5 + (-1)) - 1)), .ref (ad 39)])
                refine gl_mul (z := ((d1_3 ((x5 + (-1)) - 1)) * (d1_3 (x5 + (-1))))) hx hb dX11_pointsOf_210 rfl ?_
                refine g_cs (As := [.long (iL ((d1_3 ((x5 + (-1)) - 1)) * (d1_3 (x5 + (-1)))))]) (rest := [.int (iI ((x5 + (-1)) - 1)), .ref (ad 39)]) (n := 1) C hml (y_cut l D k A ad hD v (va_up f 37 a37_2) (va_up g 1 d1_3) ((d1_3 ((x5 + (-1)) - 1)) * (d1_3 (x5 + (-1)))) (show inL ((d1_3 ((x5 + (-1)) - 1)) * (d1_3 (x5 + (-1)))) from wk3_in (hBd ((x5 + (-1)) - 1) (by omega) (by omega)) (hBd (x5 + (-1)) (by omega) (by omega)) (by first | exact Or.inl rfl | exact Or.inr (Or.inl rfl) | exact Or.inr (Or.inr rfl)))) mM_X11_383 mS_X11_cut mN_X11 mC_X11_cut (by decide +kernel) hP hS (fun _ h => h) ⟨Nat.le_of_ble_eq_true rfl, Nat.le_of_ble_eq_true rfl⟩ ⟨Nat.zero_le _, Nat.zero_le _⟩ hl.1 rfl rfl (Nat.le_of_ble_eq_true rfl) dX11_pointsOf_211 (fun r_14 v_14 f_14 g_14 H locs hq_14 hP _ hS => ?_)
                obtain ⟨z_14, rfl, rfl, rfl, rfl, p0_14, p1_14⟩ := hq_14
                show W p l e (gRm 2 61) s m args below meth c _ _ 0 0 Q (F0 m 214 ls [.long (iL z_14), .int (iI ((x5 + (-1)) - 1)), .ref (ad 39)])
                replace p0_14 : z_14 = (bd ((d1_3 ((x5 + (-1)) - 1)) * (d1_3 (x5 + (-1))))) := p0_14
                replace p1_14 : (-1000000000) ≤ z_14 ∧ z_14 ≤ 1000000000 := p1_14
                have hct := p0_14
                refine mdS_pile (g1 := (va_up g 1 (u1 d1_3 ((x5 + (-1)) - 1) z_14))) C hP hD hS (by omega) (by omega) rfl dX11_pointsOf_214 (fun H locs hP hS => ?_)
                refine lv_iinc (v := iI (x6 + 1)) (lv' := [(6, .int (iI (x6 + 1))), (5, .int (iI (x5 + (-1)))), (0, .ref (ad 0)), (1, .int (iI a1)), (2, .int (iI a2)), (3, .int (iI a3)), (4, .int (iI a4))]) hx hb dX11_pointsOf_215 hl (k := 6) rfl (by show iI _ + iI 1 = _; rw [iI_add]) (by decide) rfl (fun ls hl => ?_)
                refine lv_goto (tgt := 15) hx hb dX11_pointsOf_218 (by decide) ?_
                exact ih_15 (x5 + (-1)) (x6 + 1) (u1 d1_3 ((x5 + (-1)) - 1) z_14) _ _ _ (by omega) (by omega) (by omega) (by omega) (by rw [evL_s (by omega)]; first | exact rep_num hR _ _ (by omega) (Or.inl ⟨by omega, rfl⟩) | exact rep_num hR _ _ (by omega) (Or.inr ⟨by omega, by congr 1 <;> omega⟩) | exact rep_neg hR (by omega) _ _ (by omega) rfl rfl | exact rep_bin (j := x5 + (-1)) hR (by omega) _ _ (by omega) (by omega) (by omega) (by omega) (by rw [hct]; congr 1; first | rw [if_neg (by omega), if_pos (by omega)] | rw [if_neg (by omega), if_neg (by omega)] | rw [if_pos (by omega)])) hP hS (lv_sub hl [2, 3, 4, 5, 6, 1, 0] rfl)
              · refine lv_aload_n hx hb dX11_pointsOf_174 rfl (lv_at hl 1 rfl) ?_
                refine mdG_pile C hP mF_X11_136 dX11_pointsOf_175 ?_
                refine lv_iload hx hb dX11_pointsOf_178 (lv_at hl 0 rfl) ?_
                refine lv_iconst (v := iI 1) hx hb dX11_pointsOf_180 rfl ?_
                refine gi_sub (z := ((x5 + (-1)) - 1)) hx hb dX11_pointsOf_181 rfl ?_
                refine mdL_pile C hP (by omega) (by omega) dX11_pointsOf_182 ?_
                show W p l e (gRm 2 61) s m args below meth c _ _ 0 0 Q (F0 m 183 ls [.long (iL (d1_3 ((x5 + (-1)) - 1))), .int (iI ((x5 + (-1)) - 1)), .ref (ad 39)])
                refine lv_aload_n hx hb dX11_pointsOf_183 rfl (lv_at hl 1 rfl) ?_
                refine mdG_pile C hP mF_X11_136 dX11_pointsOf_184 ?_
                refine lv_iload hx hb dX11_pointsOf_187 (lv_at hl 0 rfl) ?_
                refine mdL_pile C hP (by omega) (by omega) dX11_pointsOf_189 ?_
                show W p l e (gRm 2 61) s m args below meth c _ _ 0 0 Q (F0 m 190 ls [.long (iL (d1_3 (x5 + (-1)))), .long (iL (d1_3 ((x5 + (-1)) - 1))), .int (iI ((x5 + (-1)) - 1)), .ref (ad 39)])
                refine gl_sub (z := ((d1_3 ((x5 + (-1)) - 1)) - (d1_3 (x5 + (-1))))) hx hb dX11_pointsOf_190 rfl ?_
                refine lv_goto (tgt := 211) hx hb dX11_pointsOf_191 (by decide) ?_
                refine g_cs (As := [.long (iL ((d1_3 ((x5 + (-1)) - 1)) - (d1_3 (x5 + (-1)))))]) (rest := [.int (iI ((x5 + (-1)) - 1)), .ref (ad 39)]) (n := 1) C hml (y_cut l D k A ad hD v (va_up f 37 a37_2) (va_up g 1 d1_3) ((d1_3 ((x5 + (-1)) - 1)) - (d1_3 (x5 + (-1)))) (show inL ((d1_3 ((x5 + (-1)) - 1)) - (d1_3 (x5 + (-1)))) from wk3_in (hBd ((x5 + (-1)) - 1) (by omega) (by omega)) (hBd (x5 + (-1)) (by omega) (by omega)) (by first | exact Or.inl rfl | exact Or.inr (Or.inl rfl) | exact Or.inr (Or.inr rfl)))) mM_X11_383 mS_X11_cut mN_X11 mC_X11_cut (by decide +kernel) hP hS (fun _ h => h) ⟨Nat.le_of_ble_eq_true rfl, Nat.le_of_ble_eq_true rfl⟩ ⟨Nat.zero_le _, Nat.zero_le _⟩ hl.1 rfl rfl (Nat.le_of_ble_eq_true rfl) dX11_pointsOf_211 (fun r_15 v_15 f_15 g_15 H locs hq_15 hP _ hS => ?_)
                obtain ⟨z_15, rfl, rfl, rfl, rfl, p0_15, p1_15⟩ := hq_15
                show W p l e (gRm 2 61) s m args below meth c _ _ 0 0 Q (F0 m 214 ls [.long (iL z_15), .int (iI ((x5 + (-1)) - 1)), .ref (ad 39)])
                replace p0_15 : z_15 = (bd ((d1_3 ((x5 + (-1)) - 1)) - (d1_3 (x5 + (-1))))) := p0_15
                replace p1_15 : (-1000000000) ≤ z_15 ∧ z_15 ≤ 1000000000 := p1_15
                have hct := p0_15
                refine mdS_pile (g1 := (va_up g 1 (u1 d1_3 ((x5 + (-1)) - 1) z_15))) C hP hD hS (by omega) (by omega) rfl dX11_pointsOf_214 (fun H locs hP hS => ?_)
                refine lv_iinc (v := iI (x6 + 1)) (lv' := [(6, .int (iI (x6 + 1))), (5, .int (iI (x5 + (-1)))), (0, .ref (ad 0)), (1, .int (iI a1)), (2, .int (iI a2)), (3, .int (iI a3)), (4, .int (iI a4))]) hx hb dX11_pointsOf_215 hl (k := 6) rfl (by show iI _ + iI 1 = _; rw [iI_add]) (by decide) rfl (fun ls hl => ?_)
                refine lv_goto (tgt := 15) hx hb dX11_pointsOf_218 (by decide) ?_
                exact ih_15 (x5 + (-1)) (x6 + 1) (u1 d1_3 ((x5 + (-1)) - 1) z_15) _ _ _ (by omega) (by omega) (by omega) (by omega) (by rw [evL_s (by omega)]; first | exact rep_num hR _ _ (by omega) (Or.inl ⟨by omega, rfl⟩) | exact rep_num hR _ _ (by omega) (Or.inr ⟨by omega, by congr 1 <;> omega⟩) | exact rep_neg hR (by omega) _ _ (by omega) rfl rfl | exact rep_bin (j := x5 + (-1)) hR (by omega) _ _ (by omega) (by omega) (by omega) (by omega) (by rw [hct]; congr 1; first | rw [if_neg (by omega), if_pos (by omega)] | rw [if_neg (by omega), if_neg (by omega)] | rw [if_pos (by omega)])) hP hS (lv_sub hl [2, 3, 4, 5, 6, 1, 0] rfl)
            · refine lv_aload_n hx hb dX11_pointsOf_142 rfl (lv_at hl 1 rfl) ?_
              refine mdG_pile C hP mF_X11_136 dX11_pointsOf_143 ?_
              refine lv_iload hx hb dX11_pointsOf_146 (lv_at hl 0 rfl) ?_
              refine lv_iconst (v := iI 1) hx hb dX11_pointsOf_148 rfl ?_
              refine gi_sub (z := ((x5 + (-1)) - 1)) hx hb dX11_pointsOf_149 rfl ?_
              refine mdL_pile C hP (by omega) (by omega) dX11_pointsOf_150 ?_
              show W p l e (gRm 2 61) s m args below meth c _ _ 0 0 Q (F0 m 151 ls [.long (iL (d1_3 ((x5 + (-1)) - 1))), .int (iI ((x5 + (-1)) - 1)), .ref (ad 39)])
              refine lv_aload_n hx hb dX11_pointsOf_151 rfl (lv_at hl 1 rfl) ?_
              refine mdG_pile C hP mF_X11_136 dX11_pointsOf_152 ?_
              refine lv_iload hx hb dX11_pointsOf_155 (lv_at hl 0 rfl) ?_
              refine mdL_pile C hP (by omega) (by omega) dX11_pointsOf_157 ?_
              show W p l e (gRm 2 61) s m args below meth c _ _ 0 0 Q (F0 m 158 ls [.long (iL (d1_3 (x5 + (-1)))), .long (iL (d1_3 ((x5 + (-1)) - 1))), .int (iI ((x5 + (-1)) - 1)), .ref (ad 39)])
              refine gl_add (z := ((d1_3 ((x5 + (-1)) - 1)) + (d1_3 (x5 + (-1))))) hx hb dX11_pointsOf_158 rfl ?_
              refine lv_goto (tgt := 211) hx hb dX11_pointsOf_159 (by decide) ?_
              refine g_cs (As := [.long (iL ((d1_3 ((x5 + (-1)) - 1)) + (d1_3 (x5 + (-1)))))]) (rest := [.int (iI ((x5 + (-1)) - 1)), .ref (ad 39)]) (n := 1) C hml (y_cut l D k A ad hD v (va_up f 37 a37_2) (va_up g 1 d1_3) ((d1_3 ((x5 + (-1)) - 1)) + (d1_3 (x5 + (-1)))) (show inL ((d1_3 ((x5 + (-1)) - 1)) + (d1_3 (x5 + (-1)))) from wk3_in (hBd ((x5 + (-1)) - 1) (by omega) (by omega)) (hBd (x5 + (-1)) (by omega) (by omega)) (by first | exact Or.inl rfl | exact Or.inr (Or.inl rfl) | exact Or.inr (Or.inr rfl)))) mM_X11_383 mS_X11_cut mN_X11 mC_X11_cut (by decide +kernel) hP hS (fun _ h => h) ⟨Nat.le_of_ble_eq_true rfl, Nat.le_of_ble_eq_true rfl⟩ ⟨Nat.zero_le _, Nat.zero_le _⟩ hl.1 rfl rfl (Nat.le_of_ble_eq_true rfl) dX11_pointsOf_211 (fun r_16 v_16 f_16 g_16 H locs hq_16 hP _ hS => ?_)
              obtain ⟨z_16, rfl, rfl, rfl, rfl, p0_16, p1_16⟩ := hq_16
              show W p l e (gRm 2 61) s m args below meth c _ _ 0 0 Q (F0 m 214 ls [.long (iL z_16), .int (iI ((x5 + (-1)) - 1)), .ref (ad 39)])
              replace p0_16 : z_16 = (bd ((d1_3 ((x5 + (-1)) - 1)) + (d1_3 (x5 + (-1))))) := p0_16
              replace p1_16 : (-1000000000) ≤ z_16 ∧ z_16 ≤ 1000000000 := p1_16
              have hct := p0_16
              refine mdS_pile (g1 := (va_up g 1 (u1 d1_3 ((x5 + (-1)) - 1) z_16))) C hP hD hS (by omega) (by omega) rfl dX11_pointsOf_214 (fun H locs hP hS => ?_)
              refine lv_iinc (v := iI (x6 + 1)) (lv' := [(6, .int (iI (x6 + 1))), (5, .int (iI (x5 + (-1)))), (0, .ref (ad 0)), (1, .int (iI a1)), (2, .int (iI a2)), (3, .int (iI a3)), (4, .int (iI a4))]) hx hb dX11_pointsOf_215 hl (k := 6) rfl (by show iI _ + iI 1 = _; rw [iI_add]) (by decide) rfl (fun ls hl => ?_)
              refine lv_goto (tgt := 15) hx hb dX11_pointsOf_218 (by decide) ?_
              exact ih_15 (x5 + (-1)) (x6 + 1) (u1 d1_3 ((x5 + (-1)) - 1) z_16) _ _ _ (by omega) (by omega) (by omega) (by omega) (by rw [evL_s (by omega)]; first | exact rep_num hR _ _ (by omega) (Or.inl ⟨by omega, rfl⟩) | exact rep_num hR _ _ (by omega) (Or.inr ⟨by omega, by congr 1 <;> omega⟩) | exact rep_neg hR (by omega) _ _ (by omega) rfl rfl | exact rep_bin (j := x5 + (-1)) hR (by omega) _ _ (by omega) (by omega) (by omega) (by omega) (by rw [hct]; congr 1; first | rw [if_neg (by omega), if_pos (by omega)] | rw [if_neg (by omega), if_neg (by omega)] | rw [if_pos (by omega)])) hP hS (lv_sub hl [2, 3, 4, 5, 6, 1, 0] rfl)
          · refine lv_aload_n hx hb dX11_pointsOf_97 rfl (lv_at hl 0 rfl) ?_
            refine mdG_pile C hP mF_X11_136 dX11_pointsOf_98 ?_
            refine lv_iload hx hb dX11_pointsOf_101 (lv_at hl 5 rfl) ?_
            refine lv_iconst (v := iI 1) hx hb dX11_pointsOf_103 rfl ?_
            refine gi_sub (z := (x5 - 1)) hx hb dX11_pointsOf_104 rfl ?_
            refine lv_aload_n hx hb dX11_pointsOf_105 rfl (lv_at hl 0 rfl) ?_
            refine mdG_pile C hP mF_X11_136 dX11_pointsOf_106 ?_
            refine lv_iload hx hb dX11_pointsOf_109 (lv_at hl 5 rfl) ?_
            refine lv_iconst (v := iI 1) hx hb dX11_pointsOf_111 rfl ?_
            refine gi_sub (z := (x5 - 1)) hx hb dX11_pointsOf_112 rfl ?_
            refine mdL_pile C hP (by omega) (by omega) dX11_pointsOf_113 ?_
            show W p l e (gRm 2 61) s m args below meth c _ _ 0 0 Q (F0 m 114 ls [.long (iL (d1_3 (x5 - 1))), .int (iI (x5 - 1)), .ref (ad 39)])
            refine gl_neg (z := (-(d1_3 (x5 - 1)))) hx hb dX11_pointsOf_114 rfl ?_
            refine mdS_pile (g1 := (va_up g 1 (u1 d1_3 (x5 - 1) (-(d1_3 (x5 - 1)))))) C hP hD hS (by omega) (by omega) rfl dX11_pointsOf_115 (fun H locs hP hS => ?_)
            refine lv_goto (tgt := 215) hx hb dX11_pointsOf_116 (by decide) ?_
            refine lv_iinc (v := iI (x6 + 1)) (lv' := [(6, .int (iI (x6 + 1))), (0, .ref (ad 0)), (1, .int (iI a1)), (2, .int (iI a2)), (3, .int (iI a3)), (4, .int (iI a4)), (5, .int (iI x5))]) hx hb dX11_pointsOf_215 hl (k := 6) rfl (by show iI _ + iI 1 = _; rw [iI_add]) (by decide) rfl (fun ls hl => ?_)
            refine lv_goto (tgt := 15) hx hb dX11_pointsOf_218 (by decide) ?_
            exact ih_15 x5 (x6 + 1) (u1 d1_3 (x5 - 1) (-(d1_3 (x5 - 1)))) _ _ _ (by omega) (by omega) (by omega) (by omega) (by rw [evL_s (by omega)]; first | exact rep_num hR _ _ (by omega) (Or.inl ⟨by omega, rfl⟩) | exact rep_num hR _ _ (by omega) (Or.inr ⟨by omega, by congr 1 <;> omega⟩) | exact rep_neg hR (by omega) _ _ (by omega) rfl rfl | exact rep_bin (j := x5 + (-1)) hR (by omega) _ _ (by omega) (by omega) (by omega) (by omega) (by rw [hct]; congr 1; first | rw [if_neg (by omega), if_pos (by omega)] | rw [if_neg (by omega), if_neg (by omega)] | rw [if_pos (by omega)])) hP hS (lv_sub hl [1, 2, 3, 4, 5, 6, 0] rfl)
        · refine lv_aload_n hx hb dX11_pointsOf_36 rfl (lv_at hl 0 rfl) ?_
          refine mdG_pile C hP mF_X11_136 dX11_pointsOf_37 ?_
          refine lv_iload hx hb dX11_pointsOf_40 (lv_at hl 5 rfl) ?_
          refine lv_aload_n hx hb dX11_pointsOf_42 rfl (lv_at hl 0 rfl) ?_
          refine mdG_part C hP mF_X11_45 dX11_pointsOf_43 ?_
          refine lv_iload hx hb dX11_pointsOf_46 (lv_at hl 6 rfl) ?_
          refine mdL_part C hP (by omega) (by omega) dX11_pointsOf_48 ?_
          show W p l e (gRm 2 61) s m args below meth c _ _ 0 0 Q (F0 m 49 ls [.int (iI (f 9 x6)), .int (iI x5), .ref (ad 39)])
          have q_17 := rpStep hrp x6 (by omega) (by omega)
          refine gi_zne (tgt := 63) hx hb dX11_pointsOf_49 (by decide) (by omega) (fun c_18 => ?_) (fun c_18 => ?_)
          · refine lv_aload_n hx hb dX11_pointsOf_63 rfl (lv_at hl 0 rfl) ?_
            refine mdG_facts C hP mF_X11_133 dX11_pointsOf_64 ?_
            refine lv_aload_n hx hb dX11_pointsOf_67 rfl (lv_at hl 0 rfl) ?_
            refine mdG_part C hP mF_X11_45 dX11_pointsOf_68 ?_
            refine lv_iload hx hb dX11_pointsOf_71 (lv_at hl 6 rfl) ?_
            refine mdL_part C hP (by omega) (by omega) dX11_pointsOf_73 ?_
            show W p l e (gRm 2 61) s m args below meth c _ _ 0 0 Q (F0 m 74 ls [.int (iI (f 9 x6)), .ref (ad 38), .int (iI x5), .ref (ad 39)])
            have q_19 := rpStep hrp x6 (by omega) (by omega)
            refine lv_iconst (v := iI 1) hx hb dX11_pointsOf_74 rfl ?_
            refine gi_sub (z := ((f 9 x6) - 1)) hx hb dX11_pointsOf_75 rfl ?_
            refine mdL_facts C hP (by omega) (by omega) dX11_pointsOf_76 ?_
            show W p l e (gRm 2 61) s m args below meth c _ _ 0 0 Q (F0 m 77 ls [.int (iI (a37_2 ((f 9 x6) - 1))), .int (iI x5), .ref (ad 39)])
            have r_20 : (-2000000) ≤ (a37_2 ((f 9 x6) - 1)) ∧ (a37_2 ((f 9 x6) - 1)) ≤ 2000000 := hP.2.2 37 ((f 9 x6) - 1)
            refine gi_i2l hx hb (by omega) dX11_pointsOf_77 ?_
            refine mdS_pile (g1 := (va_up g 1 (u1 d1_3 x5 (a37_2 ((f 9 x6) - 1))))) C hP hD hS (by omega) (by omega) rfl dX11_pointsOf_78 (fun H locs hP hS => ?_)
            refine lv_iinc (v := iI (x5 + 1)) (lv' := [(5, .int (iI (x5 + 1))), (0, .ref (ad 0)), (1, .int (iI a1)), (2, .int (iI a2)), (3, .int (iI a3)), (4, .int (iI a4)), (6, .int (iI x6))]) hx hb dX11_pointsOf_79 hl (k := 5) rfl (by show iI _ + iI 1 = _; rw [iI_add]) (by decide) rfl (fun ls hl => ?_)
            refine lv_goto (tgt := 215) hx hb dX11_pointsOf_82 (by decide) ?_
            refine lv_iinc (v := iI (x6 + 1)) (lv' := [(6, .int (iI (x6 + 1))), (5, .int (iI (x5 + 1))), (0, .ref (ad 0)), (1, .int (iI a1)), (2, .int (iI a2)), (3, .int (iI a3)), (4, .int (iI a4))]) hx hb dX11_pointsOf_215 hl (k := 6) rfl (by show iI _ + iI 1 = _; rw [iI_add]) (by decide) rfl (fun ls hl => ?_)
            refine lv_goto (tgt := 15) hx hb dX11_pointsOf_218 (by decide) ?_
            exact ih_15 (x5 + 1) (x6 + 1) (u1 d1_3 x5 (a37_2 ((f 9 x6) - 1))) _ _ _ (by omega) (by omega) (by omega) (by omega) (by rw [evL_s (by omega)]; first | exact rep_num hR _ _ (by omega) (Or.inl ⟨by omega, rfl⟩) | exact rep_num hR _ _ (by omega) (Or.inr ⟨by omega, by congr 1 <;> omega⟩) | exact rep_neg hR (by omega) _ _ (by omega) rfl rfl | exact rep_bin (j := x5 + (-1)) hR (by omega) _ _ (by omega) (by omega) (by omega) (by omega) (by rw [hct]; congr 1; first | rw [if_neg (by omega), if_pos (by omega)] | rw [if_neg (by omega), if_neg (by omega)] | rw [if_pos (by omega)])) hP hS (lv_sub hl [2, 3, 4, 5, 6, 1, 0] rfl)
          · refine lv_aload_n hx hb dX11_pointsOf_52 rfl (lv_at hl 0 rfl) ?_
            refine mdG_partNumber C hP mF_X11_48 dX11_pointsOf_53 ?_
            refine lv_iload hx hb dX11_pointsOf_56 (lv_at hl 6 rfl) ?_
            refine mdL_partNumber C hP (by omega) (by omega) dX11_pointsOf_58 ?_
            show W p l e (gRm 2 61) s m args below meth c _ _ 0 0 Q (F0 m 59 ls [.int (iI (f 10 x6)), .int (iI x5), .ref (ad 39)])
            have r_21 : 0 ≤ (f 10 x6) ∧ (f 10 x6) ≤ 999999 := hP.2.2 10 x6
            refine gi_i2l hx hb (by omega) dX11_pointsOf_59 ?_
            refine lv_goto (tgt := 78) hx hb dX11_pointsOf_60 (by decide) ?_
            refine mdS_pile (g1 := (va_up g 1 (u1 d1_3 x5 (f 10 x6)))) C hP hD hS (by omega) (by omega) rfl dX11_pointsOf_78 (fun H locs hP hS => ?_)
            refine lv_iinc (v := iI (x5 + 1)) (lv' := [(5, .int (iI (x5 + 1))), (0, .ref (ad 0)), (1, .int (iI a1)), (2, .int (iI a2)), (3, .int (iI a3)), (4, .int (iI a4)), (6, .int (iI x6))]) hx hb dX11_pointsOf_79 hl (k := 5) rfl (by show iI _ + iI 1 = _; rw [iI_add]) (by decide) rfl (fun ls hl => ?_)
            refine lv_goto (tgt := 215) hx hb dX11_pointsOf_82 (by decide) ?_
            refine lv_iinc (v := iI (x6 + 1)) (lv' := [(6, .int (iI (x6 + 1))), (5, .int (iI (x5 + 1))), (0, .ref (ad 0)), (1, .int (iI a1)), (2, .int (iI a2)), (3, .int (iI a3)), (4, .int (iI a4))]) hx hb dX11_pointsOf_215 hl (k := 6) rfl (by show iI _ + iI 1 = _; rw [iI_add]) (by decide) rfl (fun ls hl => ?_)
            refine lv_goto (tgt := 15) hx hb dX11_pointsOf_218 (by decide) ?_
            exact ih_15 (x5 + 1) (x6 + 1) (u1 d1_3 x5 (f 10 x6)) _ _ _ (by omega) (by omega) (by omega) (by omega) (by rw [evL_s (by omega)]; first | exact rep_num hR _ _ (by omega) (Or.inl ⟨by omega, rfl⟩) | exact rep_num hR _ _ (by omega) (Or.inr ⟨by omega, by congr 1 <;> omega⟩) | exact rep_neg hR (by omega) _ _ (by omega) rfl rfl | exact rep_bin (j := x5 + (-1)) hR (by omega) _ _ (by omega) (by omega) (by omega) (by omega) (by rw [hct]; congr 1; first | rw [if_neg (by omega), if_pos (by omega)] | rw [if_neg (by omega), if_neg (by omega)] | rw [if_pos (by omega)])) hP hS (lv_sub hl [2, 3, 4, 5, 6, 1, 0] rfl)
  exact L_3 41 0 0 (g 1) _ _ _ (by omega) (by omega) rfl (by omega) (show rep [] _ 0 from rfl) hP hS (lv_sub hl [2, 3, 4, 5, 6, 1, 0] rfl)

set_option maxHeartbeats 4000000 in
set_option maxRecDepth 100000 in
theorem y_of (l : Launch) (D : va_G) (k : Nat → ClassId) (A : Nat → Prop) (ad : Nat → Nat) (hD : mdD A k ad) (v : gV) (f g : gF) (a1 : Int) (a2 : Int) (a3 : Int) (a4 : Int) (a5 : Int) (h_a1 : inR a1) (h_a2 : inR a2) (h_a3 : inR a3) (h_a4 : inR a4) (h_a5 : inR a5) (hrp : 0 < (v 12) → rpOk (v 13) (f 9)) : GM l D k A (mdT k ad) yX11_of cX11_of 7 (some .int) 3 87 [.ref (ad 0), .int (iI a1), .int (iI a2), .int (iI a3), .int (iI a4), .int (iI a5)] v f g (fun r v1 f1 g1 => ∃ (z : Int) (w0 : Int) (a37_ : Int → Int) (b1_ : Int → Int), r = some (.int (iI z)) ∧ (va_up (va_up v 0 w0) 1 0) = v1 ∧ (va_up f 37 a37_) = f1 ∧ (va_up g 1 b1_) = g1 ∧ (z = (if w0 ≠ 0 then (-1) else if a5 = 6 then evR (fun k => mcG ((f 9) k)) (f 10) (gFd (f 24) (f 25) (f 26) (f 27) (f 28) (f 29) (f 30) (f 31) (f 32) (f 33) (f 18) (f 19) (v 25) (v 26) a4 a1 a2 a3) (v 13) else gFd (f 24) (f 25) (f 26) (f 27) (f 28) (f 29) (f 30) (f 31) (f 32) (f 33) (f 18) (f 19) (v 25) (v 26) a4 a1 a2 a3 a5)) ∧ ((-1000000000) ≤ z ∧ z ≤ 1000000000) ∧ (w0 = (if ¬ (((0 ≤ a1 ∧ a1 < (v 12)) ∧ 0 ≤ a2 ∧ a2 < (f 1) a1) ∧ (0 ≤ a3 ∧ a3 < (v 22))) then 1 else if ¬ (0 ≤ a4 ∧ a4 ≤ 999) ∨ a5 < 0 ∨ 6 < a5 then 2 else 0))) := by
  refine GM.of (by decide) (Nat.le_of_ble_eq_true rfl) ?_
  intro p e s m args below meth c Q ls hQ C hml hr hlocks hP hl
  have hx := C.1
  have hb := C.2.1
  have hok := hP.2
  have hS : va_S A s.heap s.heap [] := va_S.rf
  have hl : lv_has ls 7 [(0, .ref (ad 0)), (1, .int (iI a1)), (2, .int (iI a2)), (3, .int (iI a3)), (4, .int (iI a4)), (5, .int (iI a5))] := hl
  have hP : gWd D (mdT k ad) (va_up (va_up v 0 (v 0)) 1 (v 1)) (va_up f 37 (f 37)) (va_up g 1 (g 1)) s.heap := by rw [va_id, va_id, va_id, va_id]; exact hP
  refine lv_aload_n hx hb dX11_of_0 rfl (lv_at hl 0 rfl) ?_
  refine lv_iconst (v := iI 0) hx hb dX11_of_1 rfl ?_
  refine mdP_thrown (v1 := (va_up (va_up v 0 (v 0)) 1 0)) C hP hD hS mF_X11_146 (by decide) rfl (Or.inr (gF_up (V := mdV) (F := mdF) (gR_up (V := mdV) (F := mdF) (gR_up (V := mdV) (F := mdF) ⟨hok.1, hok.2⟩ 0 (hP.2.1 0)) 1 (show 0 ≤ 0 ∧ 0 ≤ 0 from by decide)) 37 (hP.2.2 37))) dX11_of_2 (fun H locs hP hS => ?_)
  refine lv_aload_n hx hb dX11_of_5 rfl (lv_at hl 0 rfl) ?_
  refine lv_iconst (v := iI 0) hx hb dX11_of_6 rfl ?_
  refine mdP_status (v1 := (va_up (va_up v 0 0) 1 0)) C hP hD hS mF_X11_149 (by decide) rfl (Or.inr (gF_up (V := mdV) (F := mdF) (gR_up (V := mdV) (F := mdF) (gR_up (V := mdV) (F := mdF) ⟨hok.1, hok.2⟩ 0 (show 0 ≤ 0 ∧ 0 ≤ 10 from by decide)) 1 (hP.2.1 1)) 37 (hP.2.2 37))) dX11_of_7 (fun H locs hP hS => ?_)
  refine lv_aload_n hx hb dX11_of_10 rfl (lv_at hl 0 rfl) ?_
  refine lv_iload_n hx hb dX11_of_11 rfl (lv_at hl 1 rfl) ?_
  refine lv_iload_n hx hb dX11_of_12 rfl (lv_at hl 2 rfl) ?_
  refine g_cv (As := [.int (iI a1), .int (iI a2)]) (rest := []) (n := 2) C hml (m_X11_isRoute l D k A ad hD (va_up (va_up v 0 0) 1 0) (va_up f 37 (f 37)) (va_up g 1 (g 1)) a1 a2 (by omega) (by omega)) mM_X11_328 mI_X11_isRoute mE_X11_isRoute mN_X11 mC_X11_isRoute (by decide +kernel) 0 (ci := 11) rfl rfl hP hS (fun _ h => h) ⟨Nat.le_of_ble_eq_true rfl, Nat.le_of_ble_eq_true rfl⟩ ⟨Nat.zero_le _, Nat.zero_le _⟩ hl.1 rfl rfl (Nat.le_of_ble_eq_true rfl) dX11_of_13 (fun r_1 v_1 f_1 g_1 H locs hq_1 hP _ hS => ?_)
  obtain ⟨z_1, rfl, rfl, rfl, rfl, p0_1, p1_1⟩ := hq_1
  show W p l e (gRm 3 87) s m args below meth c _ _ 0 0 Q (F0 m 16 ls [.int (iI z_1)])
  replace p0_1 : z_1 = (if (0 ≤ a1 ∧ a1 < (v 12)) ∧ 0 ≤ a2 ∧ a2 < (f 1) a1 then 1 else 0) := p0_1
  have w_1 := gif (P := (0 ≤ a1 ∧ a1 < (v 12)) ∧ 0 ≤ a2 ∧ a2 < (f 1) a1) p0_1
  clear p0_1
  replace p1_1 : z_1 = 1 → a2 ≤ 4 ∧ a1 ≤ 3 := p1_1
  have hz_1 : inR z_1 := (by first | omega | (rw [p0_1]; split <;> omega))
  refine gi_zeq (tgt := 27) hx hb dX11_of_16 (by decide) (by omega) (fun c_2 => ?_) (fun c_2 => ?_)
  · have vz_1 := gif0 w_1 c_2
    clear w_1
    refine lv_aload_n hx hb dX11_of_27 rfl (lv_at hl 0 rfl) ?_
    refine lv_iconst (v := iI 1) hx hb dX11_of_28 rfl ?_
    refine g_cv (As := [.int (iI 1)]) (rest := []) (n := 1) C hml (m_X11_refuse l D k A ad hD (va_up (va_up v 0 0) 1 0) (va_up f 37 (f 37)) (va_up g 1 (g 1)) 1 (by decide) (show 0 ≤ (1 : Int) ∧ (1 : Int) ≤ 10 from by omega)) mM_X11_295 mI_X11_refuse mE_X11_refuse mN_X11 mC_X11_refuse (by decide +kernel) 0 (ci := 11) rfl rfl hP hS (fun _ h => h) ⟨Nat.le_of_ble_eq_true rfl, Nat.le_of_ble_eq_true rfl⟩ ⟨Nat.zero_le _, Nat.zero_le _⟩ hl.1 rfl rfl (Nat.le_of_ble_eq_true rfl) dX11_of_29 (fun r_3 v_3 f_3 g_3 H locs hq_3 hP _ hS => ?_)
    obtain ⟨rfl, rfl, rfl, rfl⟩ := hq_3
    show W p l e (gRm 3 87) s m args below meth c _ _ 0 0 Q (F0 m 32 ls [.int (iI (-1))])
    have hP : gWd D (mdT k ad) (va_up (va_up v 0 (1 : Int)) 1 0) (va_up f 37 (f 37)) (va_up g 1 (g 1)) H := ⟨hP.1, (gF_up (V := mdV) (F := mdF) (gR_up (V := mdV) (F := mdF) (gR_up (V := mdV) (F := mdF) ⟨hok.1, hok.2⟩ 0 (hP.2.1 0)) 1 (hP.2.1 1)) 37 (hP.2.2 37))⟩
    exact g_iret hQ C hr hlocks hP hS dX11_of_32 ⟨(-1), (1 : Int), (f 37), (g 1), rfl, rfl, rfl, rfl, (by first | (rw [if_pos (by omega)]) | (rw [if_neg (by omega), if_pos (by omega)]; exact hpt) | (rw [if_neg (by omega), if_neg (by omega)]; exact hfi)), (by first | omega | ((repeat' split) <;> omega)), (by first | omega | ((repeat' split) <;> omega))⟩
  · have vz_1 := gif1 w_1 c_2
    have voz_1 := gif1o w_1 c_2
    clear w_1
    refine lv_aload_n hx hb dX11_of_19 rfl (lv_at hl 0 rfl) ?_
    refine lv_iload_n hx hb dX11_of_20 rfl (lv_at hl 3 rfl) ?_
    refine g_cv (As := [.int (iI a3)]) (rest := []) (n := 1) C hml (m_X11_isClimber l D k A ad hD (va_up (va_up v 0 0) 1 0) (va_up f 37 (f 37)) (va_up g 1 (g 1)) a3 (by omega)) mM_X11_349 mI_X11_isClimber mE_X11_isClimber mN_X11 mC_X11_isClimber (by decide +kernel) 0 (ci := 11) rfl rfl hP hS (fun _ h => h) ⟨Nat.le_of_ble_eq_true rfl, Nat.le_of_ble_eq_true rfl⟩ ⟨Nat.zero_le _, Nat.zero_le _⟩ hl.1 rfl rfl (Nat.le_of_ble_eq_true rfl) dX11_of_21 (fun r_4 v_4 f_4 g_4 H locs hq_4 hP _ hS => ?_)
    obtain ⟨z_4, rfl, rfl, rfl, rfl, p0_4, p1_4⟩ := hq_4
    show W p l e (gRm 3 87) s m args below meth c _ _ 0 0 Q (F0 m 24 ls [.int (iI z_4)])
    replace p0_4 : z_4 = (if 0 ≤ a3 ∧ a3 < (v 22) then 1 else 0) := p0_4
    have w_4 := gif (P := 0 ≤ a3 ∧ a3 < (v 22)) p0_4
    clear p0_4
    replace p1_4 : z_4 = 1 → 0 ≤ a3 ∧ a3 ≤ 15 := p1_4
    have hz_4 : inR z_4 := (by first | omega | (rw [p0_4]; split <;> omega))
    refine gi_zne (tgt := 33) hx hb dX11_of_24 (by decide) (by omega) (fun c_5 => ?_) (fun c_5 => ?_)
    · have vz_4 := gif1 w_4 c_5
      have voz_4 := gif1o w_4 c_5
      clear w_4
      refine lv_iload hx hb dX11_of_33 (lv_at hl 4 rfl) ?_
      refine g_cs (As := [.int (iI a4)]) (rest := []) (n := 1) C hml (m_X11_isDay l D k A ad hD (va_up (va_up v 0 0) 1 0) (va_up f 37 (f 37)) (va_up g 1 (g 1)) a4 (by omega)) mM_X11_364 mS_X11_isDay mN_X11 mC_X11_isDay (by decide +kernel) hP hS (fun _ h => h) ⟨Nat.le_of_ble_eq_true rfl, Nat.le_of_ble_eq_true rfl⟩ ⟨Nat.zero_le _, Nat.zero_le _⟩ hl.1 rfl rfl (Nat.le_of_ble_eq_true rfl) dX11_of_35 (fun r_6 v_6 f_6 g_6 H locs hq_6 hP _ hS => ?_)
      obtain ⟨z_6, rfl, rfl, rfl, rfl, p0_6⟩ := hq_6
      show W p l e (gRm 3 87) s m args below meth c _ _ 0 0 Q (F0 m 38 ls [.int (iI z_6)])
      replace p0_6 : z_6 = (if 0 ≤ a4 ∧ a4 ≤ 999 then 1 else 0) := p0_6
      have w_6 := gif (P := 0 ≤ a4 ∧ a4 ≤ 999) p0_6
      clear p0_6
      have hz_6 : inR z_6 := (by first | omega | (rw [p0_6]; split <;> omega))
      refine gi_zeq (tgt := 53) hx hb dX11_of_38 (by decide) (by omega) (fun c_7 => ?_) (fun c_7 => ?_)
      · have vz_6 := gif0 w_6 c_7
        clear w_6
        refine lv_aload_n hx hb dX11_of_53 rfl (lv_at hl 0 rfl) ?_
        refine lv_iconst (v := iI 2) hx hb dX11_of_54 rfl ?_
        refine g_cv (As := [.int (iI 2)]) (rest := []) (n := 1) C hml (m_X11_refuse l D k A ad hD (va_up (va_up v 0 0) 1 0) (va_up f 37 (f 37)) (va_up g 1 (g 1)) 2 (by decide) (show 0 ≤ (2 : Int) ∧ (2 : Int) ≤ 10 from by omega)) mM_X11_295 mI_X11_refuse mE_X11_refuse mN_X11 mC_X11_refuse (by decide +kernel) 0 (ci := 11) rfl rfl hP hS (fun _ h => h) ⟨Nat.le_of_ble_eq_true rfl, Nat.le_of_ble_eq_true rfl⟩ ⟨Nat.zero_le _, Nat.zero_le _⟩ hl.1 rfl rfl (Nat.le_of_ble_eq_true rfl) dX11_of_55 (fun r_8 v_8 f_8 g_8 H locs hq_8 hP _ hS => ?_)
        obtain ⟨rfl, rfl, rfl, rfl⟩ := hq_8
        show W p l e (gRm 3 87) s m args below meth c _ _ 0 0 Q (F0 m 58 ls [.int (iI (-1))])
        have hP : gWd D (mdT k ad) (va_up (va_up v 0 (2 : Int)) 1 0) (va_up f 37 (f 37)) (va_up g 1 (g 1)) H := ⟨hP.1, (gF_up (V := mdV) (F := mdF) (gR_up (V := mdV) (F := mdF) (gR_up (V := mdV) (F := mdF) ⟨hok.1, hok.2⟩ 0 (hP.2.1 0)) 1 (hP.2.1 1)) 37 (hP.2.2 37))⟩
        exact g_iret hQ C hr hlocks hP hS dX11_of_58 ⟨(-1), (2 : Int), (f 37), (g 1), rfl, rfl, rfl, rfl, (by first | (rw [if_pos (by omega)]) | (rw [if_neg (by omega), if_pos (by omega)]; exact hpt) | (rw [if_neg (by omega), if_neg (by omega)]; exact hfi)), (by first | omega | ((repeat' split) <;> omega)), (by first | omega | ((repeat' split) <;> omega))⟩
      · have vz_6 := gif1 w_6 c_7
        have voz_6 := gif1o w_6 c_7
        clear w_6
        refine lv_iload hx hb dX11_of_41 (lv_at hl 5 rfl) ?_
        refine gi_zlt (tgt := 53) hx hb dX11_of_43 (by decide) (by omega) (fun c_9 => ?_) (fun c_9 => ?_)
        · refine lv_aload_n hx hb dX11_of_53 rfl (lv_at hl 0 rfl) ?_
          refine lv_iconst (v := iI 2) hx hb dX11_of_54 rfl ?_
          refine g_cv (As := [.int (iI 2)]) (rest := []) (n := 1) C hml (m_X11_refuse l D k A ad hD (va_up (va_up v 0 0) 1 0) (va_up f 37 (f 37)) (va_up g 1 (g 1)) 2 (by decide) (show 0 ≤ (2 : Int) ∧ (2 : Int) ≤ 10 from by omega)) mM_X11_295 mI_X11_refuse mE_X11_refuse mN_X11 mC_X11_refuse (by decide +kernel) 0 (ci := 11) rfl rfl hP hS (fun _ h => h) ⟨Nat.le_of_ble_eq_true rfl, Nat.le_of_ble_eq_true rfl⟩ ⟨Nat.zero_le _, Nat.zero_le _⟩ hl.1 rfl rfl (Nat.le_of_ble_eq_true rfl) dX11_of_55 (fun r_10 v_10 f_10 g_10 H locs hq_10 hP _ hS => ?_)
          obtain ⟨rfl, rfl, rfl, rfl⟩ := hq_10
          show W p l e (gRm 3 87) s m args below meth c _ _ 0 0 Q (F0 m 58 ls [.int (iI (-1))])
          have hP : gWd D (mdT k ad) (va_up (va_up v 0 (2 : Int)) 1 0) (va_up f 37 (f 37)) (va_up g 1 (g 1)) H := ⟨hP.1, (gF_up (V := mdV) (F := mdF) (gR_up (V := mdV) (F := mdF) (gR_up (V := mdV) (F := mdF) ⟨hok.1, hok.2⟩ 0 (hP.2.1 0)) 1 (hP.2.1 1)) 37 (hP.2.2 37))⟩
          exact g_iret hQ C hr hlocks hP hS dX11_of_58 ⟨(-1), (2 : Int), (f 37), (g 1), rfl, rfl, rfl, rfl, (by first | (rw [if_pos (by omega)]) | (rw [if_neg (by omega), if_pos (by omega)]; exact hpt) | (rw [if_neg (by omega), if_neg (by omega)]; exact hfi)), (by first | omega | ((repeat' split) <;> omega)), (by first | omega | ((repeat' split) <;> omega))⟩
        · refine lv_iload hx hb dX11_of_46 (lv_at hl 5 rfl) ?_
          refine lv_bipush (v := iI 6) hx hb dX11_of_48 (by decide) ?_
          refine gi_cle (tgt := 59) hx hb dX11_of_50 (by decide) (by omega) (by decide) (fun c_11 => ?_) (fun c_11 => ?_)
          · refine lv_aload_n hx hb dX11_of_59 rfl (lv_at hl 0 rfl) ?_
            refine lv_iload_n hx hb dX11_of_60 rfl (lv_at hl 1 rfl) ?_
            refine lv_iload_n hx hb dX11_of_61 rfl (lv_at hl 2 rfl) ?_
            refine lv_iload_n hx hb dX11_of_62 rfl (lv_at hl 3 rfl) ?_
            refine lv_iload hx hb dX11_of_63 (lv_at hl 4 rfl) ?_
            refine g_cv (As := [.int (iI a1), .int (iI a2), .int (iI a3), .int (iI a4)]) (rest := []) (n := 4) C hml (y_pointsOf l D k A ad hD (va_up (va_up v 0 0) 1 0) (va_up f 37 (f 37)) (va_up g 1 (g 1)) a1 a2 a3 a4 (by omega) (by omega) (by omega) (by omega) (show rpOk (v 13) (f 9) from hrp (by omega)) (show 0 ≤ a1 ∧ a1 ≤ 3 from by omega) (show 0 ≤ a2 ∧ a2 ≤ 4 from by omega)) mM_X11_387 mI_X11_pointsOf mE_X11_pointsOf mN_X11 mC_X11_pointsOf (by decide +kernel) 0 (ci := 11) rfl rfl hP hS (fun _ h => h) ⟨Nat.le_of_ble_eq_true rfl, Nat.le_of_ble_eq_true rfl⟩ ⟨Nat.zero_le _, Nat.zero_le _⟩ hl.1 rfl rfl (Nat.le_of_ble_eq_true rfl) dX11_of_65 (fun r_12 v_12 f_12 g_12 H locs hq_12 hP _ hS => ?_)
            obtain ⟨z_12, a37_12, b1_12, rfl, rfl, rfl, rfl, p0_12, p1_12, p2_12⟩ := hq_12
            show W p l e (gRm 3 87) s m args below meth c _ _ 0 0 Q (F0 m 68 ls [.int (iI z_12)])
            have hP : gWd D (mdT k ad) (va_up (va_up v 0 0) 1 0) (va_up f 37 a37_12) (va_up g 1 b1_12) H := ⟨hP.1, (gF_up (V := mdV) (F := mdF) (gR_up (V := mdV) (F := mdF) (gR_up (V := mdV) (F := mdF) ⟨hok.1, hok.2⟩ 0 (hP.2.1 0)) 1 (hP.2.1 1)) 37 (hP.2.2 37))⟩
            replace p0_12 : z_12 = (evR (fun k => mcG ((f 9) k)) (f 10) (gFd (f 24) (f 25) (f 26) (f 27) (f 28) (f 29) (f 30) (f 31) (f 32) (f 33) (f 18) (f 19) (v 25) (v 26) a4 a1 a2 a3) (v 13)) := p0_12
            replace p1_12 : (-1000000000) ≤ z_12 ∧ z_12 ≤ 1000000000 := p1_12
            replace p2_12 : a37_12 0 = gFd (f 24) (f 25) (f 26) (f 27) (f 28) (f 29) (f 30) (f 31) (f 32) (f 33) (f 18) (f 19) (v 25) (v 26) a4 a1 a2 a3 0 ∧ a37_12 1 = gFd (f 24) (f 25) (f 26) (f 27) (f 28) (f 29) (f 30) (f 31) (f 32) (f 33) (f 18) (f 19) (v 25) (v 26) a4 a1 a2 a3 1 ∧ a37_12 2 = gFd (f 24) (f 25) (f 26) (f 27) (f 28) (f 29) (f 30) (f 31) (f 32) (f 33) (f 18) (f 19) (v 25) (v 26) a4 a1 a2 a3 2 ∧ a37_12 3 = gFd (f 24) (f 25) (f 26) (f 27) (f 28) (f 29) (f 30) (f 31) (f 32) (f 33) (f 18) (f 19) (v 25) (v 26) a4 a1 a2 a3 3 ∧ a37_12 4 = gFd (f 24) (f 25) (f 26) (f 27) (f 28) (f 29) (f 30) (f 31) (f 32) (f 33) (f 18) (f 19) (v 25) (v 26) a4 a1 a2 a3 4 ∧ a37_12 5 = gFd (f 24) (f 25) (f 26) (f 27) (f 28) (f 29) (f 30) (f 31) (f 32) (f 33) (f 18) (f 19) (v 25) (v 26) a4 a1 a2 a3 5 := p2_12
            have hz_12 : inR z_12 := (by first | omega | (rw [p0_12]; split <;> omega))
            have hpt := p0_12
            have hF := p2_12
            clear p0_12
            refine lv_istore (lv' := [(6, .int (iI z_12)), (0, .ref (ad 0)), (1, .int (iI a1)), (2, .int (iI a2)), (3, .int (iI a3)), (4, .int (iI a4)), (5, .int (iI a5))]) hx hb dX11_of_68 hl (by decide) rfl (fun ls hl => ?_)
            refine lv_iload hx hb dX11_of_70 (lv_at hl 6 rfl) ?_
            refine lv_bipush (v := iI 6) hx hb dX11_of_72 (by decide) ?_
            refine gi_cne (tgt := 82) hx hb dX11_of_74 (by decide) (by omega) (by decide) (fun c_13 => ?_) (fun c_13 => ?_)
            · refine lv_aload_n hx hb dX11_of_82 rfl (lv_at hl 1 rfl) ?_
              refine mdG_facts C hP mF_X11_133 dX11_of_83 ?_
              refine lv_iload hx hb dX11_of_86 (lv_at hl 6 rfl) ?_
              refine mdL_facts C hP (by omega) (by omega) dX11_of_88 ?_
              show W p l e (gRm 3 87) s m args below meth c _ _ 0 0 Q (F0 m 89 ls [.int (iI (a37_12 a5))])
              have r_14 : (-2000000) ≤ (a37_12 a5) ∧ (a37_12 a5) ≤ 2000000 := hP.2.2 37 a5
              have hfi : (a37_12 a5) = gFd (f 24) (f 25) (f 26) (f 27) (f 28) (f 29) (f 30) (f 31) (f 32) (f 33) (f 18) (f 19) (v 25) (v 26) a4 a1 a2 a3 a5 := fa_i hF (by omega) (by omega)
              exact g_iret hQ C hr hlocks hP hS dX11_of_89 ⟨(a37_12 a5), 0, a37_12, b1_12, rfl, rfl, rfl, rfl, (by first | (rw [if_pos (by omega)]) | (rw [if_neg (by omega), if_pos (by omega)]; exact hpt) | (rw [if_neg (by omega), if_neg (by omega)]; exact hfi)), (by first | omega | ((repeat' split) <;> omega)), (by first | omega | ((repeat' split) <;> omega))⟩
            · refine lv_iload hx hb dX11_of_77 (lv_at hl 0 rfl) ?_
              refine lv_goto (tgt := 89) hx hb dX11_of_79 (by decide) ?_
              exact g_iret hQ C hr hlocks hP hS dX11_of_89 ⟨z_12, 0, a37_12, b1_12, rfl, rfl, rfl, rfl, (by first | (rw [if_pos (by omega)]) | (rw [if_neg (by omega), if_pos (by omega)]; exact hpt) | (rw [if_neg (by omega), if_neg (by omega)]; exact hfi)), (by first | omega | ((repeat' split) <;> omega)), (by first | omega | ((repeat' split) <;> omega))⟩
          · refine lv_aload_n hx hb dX11_of_53 rfl (lv_at hl 0 rfl) ?_
            refine lv_iconst (v := iI 2) hx hb dX11_of_54 rfl ?_
            refine g_cv (As := [.int (iI 2)]) (rest := []) (n := 1) C hml (m_X11_refuse l D k A ad hD (va_up (va_up v 0 0) 1 0) (va_up f 37 (f 37)) (va_up g 1 (g 1)) 2 (by decide) (show 0 ≤ (2 : Int) ∧ (2 : Int) ≤ 10 from by omega)) mM_X11_295 mI_X11_refuse mE_X11_refuse mN_X11 mC_X11_refuse (by decide +kernel) 0 (ci := 11) rfl rfl hP hS (fun _ h => h) ⟨Nat.le_of_ble_eq_true rfl, Nat.le_of_ble_eq_true rfl⟩ ⟨Nat.zero_le _, Nat.zero_le _⟩ hl.1 rfl rfl (Nat.le_of_ble_eq_true rfl) dX11_of_55 (fun r_16 v_16 f_16 g_16 H locs hq_16 hP _ hS => ?_)
            obtain ⟨rfl, rfl, rfl, rfl⟩ := hq_16
            show W p l e (gRm 3 87) s m args below meth c _ _ 0 0 Q (F0 m 58 ls [.int (iI (-1))])
            have hP : gWd D (mdT k ad) (va_up (va_up v 0 (2 : Int)) 1 0) (va_up f 37 (f 37)) (va_up g 1 (g 1)) H := ⟨hP.1, (gF_up (V := mdV) (F := mdF) (gR_up (V := mdV) (F := mdF) (gR_up (V := mdV) (F := mdF) ⟨hok.1, hok.2⟩ 0 (hP.2.1 0)) 1 (hP.2.1 1)) 37 (hP.2.2 37))⟩
            exact g_iret hQ C hr hlocks hP hS dX11_of_58 ⟨(-1), (2 : Int), (f 37), (g 1), rfl, rfl, rfl, rfl, (by first | (rw [if_pos (by omega)]) | (rw [if_neg (by omega), if_pos (by omega)]; exact hpt) | (rw [if_neg (by omega), if_neg (by omega)]; exact hfi)), (by first | omega | ((repeat' split) <;> omega)), (by first | omega | ((repeat' split) <;> omega))⟩
    · have vz_4 := gif0 w_4 c_5
      clear w_4
      refine lv_aload_n hx hb dX11_of_27 rfl (lv_at hl 0 rfl) ?_
      refine lv_iconst (v := iI 1) hx hb dX11_of_28 rfl ?_
      refine g_cv (As := [.int (iI 1)]) (rest := []) (n := 1) C hml (m_X11_refuse l D k A ad hD (va_up (va_up v 0 0) 1 0) (va_up f 37 (f 37)) (va_up g 1 (g 1)) 1 (by decide) (show 0 ≤ (1 : Int) ∧ (1 : Int) ≤ 10 from by omega)) mM_X11_295 mI_X11_refuse mE_X11_refuse mN_X11 mC_X11_refuse (by decide +kernel) 0 (ci := 11) rfl rfl hP hS (fun _ h => h) ⟨Nat.le_of_ble_eq_true rfl, Nat.le_of_ble_eq_true rfl⟩ ⟨Nat.zero_le _, Nat.zero_le _⟩ hl.1 rfl rfl (Nat.le_of_ble_eq_true rfl) dX11_of_29 (fun r_17 v_17 f_17 g_17 H locs hq_17 hP _ hS => ?_)
      obtain ⟨rfl, rfl, rfl, rfl⟩ := hq_17
      show W p l e (gRm 3 87) s m args below meth c _ _ 0 0 Q (F0 m 32 ls [.int (iI (-1))])
      have hP : gWd D (mdT k ad) (va_up (va_up v 0 (1 : Int)) 1 0) (va_up f 37 (f 37)) (va_up g 1 (g 1)) H := ⟨hP.1, (gF_up (V := mdV) (F := mdF) (gR_up (V := mdV) (F := mdF) (gR_up (V := mdV) (F := mdF) ⟨hok.1, hok.2⟩ 0 (hP.2.1 0)) 1 (hP.2.1 1)) 37 (hP.2.2 37))⟩
      exact g_iret hQ C hr hlocks hP hS dX11_of_32 ⟨(-1), (1 : Int), (f 37), (g 1), rfl, rfl, rfl, rfl, (by first | (rw [if_pos (by omega)]) | (rw [if_neg (by omega), if_pos (by omega)]; exact hpt) | (rw [if_neg (by omega), if_neg (by omega)]; exact hfi)), (by first | omega | ((repeat' split) <;> omega)), (by first | omega | ((repeat' split) <;> omega))⟩
end
