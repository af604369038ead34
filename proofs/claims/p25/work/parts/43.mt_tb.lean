section
theorem dG_dX11_numberOf_0 : (decode cX11_numberOf 0 = .ok (.aload_n 0, 1)) ∧ (decode cX11_numberOf 1 = .ok (.getfield 165, 3)) ∧ (decode cX11_numberOf 4 = .ok (.iconst 2, 1)) ∧ (decode cX11_numberOf 5 = .ok (.if_icmp .eq 9, 3)) ∧ (decode cX11_numberOf 8 = .ok (.aload_n 0, 1)) ∧ (decode cX11_numberOf 9 = .ok (.invokevirtual 198, 3)) ∧ (decode cX11_numberOf 12 = .ok (.iload_n 1, 1)) ∧ (decode cX11_numberOf 13 = .ok (.ireturn, 1)) ∧ (decode cX11_numberOf 14 = .ok (.aload_n 0, 1)) ∧ (decode cX11_numberOf 15 = .ok (.getfield 185, 3)) ∧ (decode cX11_numberOf 18 = .ok (.istore_n 3, 1)) ∧ (decode cX11_numberOf 19 = .ok (.iload_n 3, 1)) := by decide +kernel
theorem dX11_numberOf_0 : decode cX11_numberOf 0 = .ok (.aload_n 0, 1) := dG_dX11_numberOf_0.1
theorem dX11_numberOf_1 : decode cX11_numberOf 1 = .ok (.getfield 165, 3) := dG_dX11_numberOf_0.2.1
theorem dX11_numberOf_4 : decode cX11_numberOf 4 = .ok (.iconst 2, 1) := dG_dX11_numberOf_0.2.2.1
theorem dX11_numberOf_5 : decode cX11_numberOf 5 = .ok (.if_icmp .eq 9, 3) := dG_dX11_numberOf_0.2.2.2.1
theorem dX11_numberOf_8 : decode cX11_numberOf 8 = .ok (.aload_n 0, 1) := dG_dX11_numberOf_0.2.2.2.2.1
theorem dX11_numberOf_9 : decode cX11_numberOf 9 = .ok (.invokevirtual 198, 3) := dG_dX11_numberOf_0.2.2.2.2.2.1
theorem dX11_numberOf_12 : decode cX11_numberOf 12 = .ok (.iload_n 1, 1) := dG_dX11_numberOf_0.2.2.2.2.2.2.1
theorem dX11_numberOf_13 : decode cX11_numberOf 13 = .ok (.ireturn, 1) := dG_dX11_numberOf_0.2.2.2.2.2.2.2.1
theorem dX11_numberOf_14 : decode cX11_numberOf 14 = .ok (.aload_n 0, 1) := dG_dX11_numberOf_0.2.2.2.2.2.2.2.2.1
theorem dX11_numberOf_15 : decode cX11_numberOf 15 = .ok (.getfield 185, 3) := dG_dX11_numberOf_0.2.2.2.2.2.2.2.2.2.1
theorem dX11_numberOf_18 : decode cX11_numberOf 18 = .ok (.istore_n 3, 1) := dG_dX11_numberOf_0.2.2.2.2.2.2.2.2.2.2.1
theorem dX11_numberOf_19 : decode cX11_numberOf 19 = .ok (.iload_n 3, 1) := dG_dX11_numberOf_0.2.2.2.2.2.2.2.2.2.2.2
theorem dG_dX11_numberOf_20 : (decode cX11_numberOf 20 = .ok (.iload_n 1, 1)) ∧ (decode cX11_numberOf 21 = .ok (.if_icmp .lt 8, 3)) ∧ (decode cX11_numberOf 24 = .ok (.iload_n 3, 1)) ∧ (decode cX11_numberOf 25 = .ok (.iload_n 2, 1)) ∧ (decode cX11_numberOf 26 = .ok (.if_icmp .le 12, 3)) ∧ (decode cX11_numberOf 29 = .ok (.aload_n 0, 1)) ∧ (decode cX11_numberOf 30 = .ok (.iconst 4, 1)) ∧ (decode cX11_numberOf 31 = .ok (.aload_n 0, 1)) ∧ (decode cX11_numberOf 32 = .ok (.getfield 158, 3)) ∧ (decode cX11_numberOf 35 = .ok (.invokevirtual 194, 3)) ∧ (decode cX11_numberOf 38 = .ok (.aload_n 0, 1)) ∧ (decode cX11_numberOf 39 = .ok (.getfield 188, 3)) := by decide +kernel
theorem dX11_numberOf_20 : decode cX11_numberOf 20 = .ok (.iload_n 1, 1) := dG_dX11_numberOf_20.1
theorem dX11_numberOf_21 : decode cX11_numberOf 21 = .ok (.if_icmp .lt 8, 3) := dG_dX11_numberOf_20.2.1
theorem dX11_numberOf_24 : decode cX11_numberOf 24 = .ok (.iload_n 3, 1) := dG_dX11_numberOf_20.2.2.1
theorem dX11_numberOf_25 : decode cX11_numberOf 25 = .ok (.iload_n 2, 1) := dG_dX11_numberOf_20.2.2.2.1
theorem dX11_numberOf_26 : decode cX11_numberOf 26 = .ok (.if_icmp .le 12, 3) := dG_dX11_numberOf_20.2.2.2.2.1
theorem dX11_numberOf_29 : decode cX11_numberOf 29 = .ok (.aload_n 0, 1) := dG_dX11_numberOf_20.2.2.2.2.2.1
theorem dX11_numberOf_30 : decode cX11_numberOf 30 = .ok (.iconst 4, 1) := dG_dX11_numberOf_20.2.2.2.2.2.2.1
theorem dX11_numberOf_31 : decode cX11_numberOf 31 = .ok (.aload_n 0, 1) := dG_dX11_numberOf_20.2.2.2.2.2.2.2.1
theorem dX11_numberOf_32 : decode cX11_numberOf 32 = .ok (.getfield 158, 3) := dG_dX11_numberOf_20.2.2.2.2.2.2.2.2.1
theorem dX11_numberOf_35 : decode cX11_numberOf 35 = .ok (.invokevirtual 194, 3) := dG_dX11_numberOf_20.2.2.2.2.2.2.2.2.2.1
theorem dX11_numberOf_38 : decode cX11_numberOf 38 = .ok (.aload_n 0, 1) := dG_dX11_numberOf_20.2.2.2.2.2.2.2.2.2.2.1
theorem dX11_numberOf_39 : decode cX11_numberOf 39 = .ok (.getfield 188, 3) := dG_dX11_numberOf_20.2.2.2.2.2.2.2.2.2.2.2
theorem dG_dX11_numberOf_42 : (decode cX11_numberOf 42 = .ok (.ifCond .ne 7, 3)) ∧ (decode cX11_numberOf 45 = .ok (.aload_n 0, 1)) ∧ (decode cX11_numberOf 46 = .ok (.invokevirtual 201, 3)) ∧ (decode cX11_numberOf 49 = .ok (.aload_n 0, 1)) ∧ (decode cX11_numberOf 50 = .ok (.getfield 188, 3)) ∧ (decode cX11_numberOf 53 = .ok (.ifCond .ne 7, 3)) ∧ (decode cX11_numberOf 56 = .ok (.iload_n 3, 1)) ∧ (decode cX11_numberOf 57 = .ok (.goto 4, 3)) ∧ (decode cX11_numberOf 60 = .ok (.iload_n 1, 1)) ∧ (decode cX11_numberOf 61 = .ok (.ireturn, 1)) ∧ (decode cX11_ends 0 = .ok (.aload_n 0, 1)) ∧ (decode cX11_ends 1 = .ok (.bipush 59, 2)) := by decide +kernel
theorem dX11_numberOf_42 : decode cX11_numberOf 42 = .ok (.ifCond .ne 7, 3) := dG_dX11_numberOf_42.1
theorem dX11_numberOf_45 : decode cX11_numberOf 45 = .ok (.aload_n 0, 1) := dG_dX11_numberOf_42.2.1
theorem dX11_numberOf_46 : decode cX11_numberOf 46 = .ok (.invokevirtual 201, 3) := dG_dX11_numberOf_42.2.2.1
theorem dX11_numberOf_49 : decode cX11_numberOf 49 = .ok (.aload_n 0, 1) := dG_dX11_numberOf_42.2.2.2.1
theorem dX11_numberOf_50 : decode cX11_numberOf 50 = .ok (.getfield 188, 3) := dG_dX11_numberOf_42.2.2.2.2.1
theorem dX11_numberOf_53 : decode cX11_numberOf 53 = .ok (.ifCond .ne 7, 3) := dG_dX11_numberOf_42.2.2.2.2.2.1
theorem dX11_numberOf_56 : decode cX11_numberOf 56 = .ok (.iload_n 3, 1) := dG_dX11_numberOf_42.2.2.2.2.2.2.1
theorem dX11_numberOf_57 : decode cX11_numberOf 57 = .ok (.goto 4, 3) := dG_dX11_numberOf_42.2.2.2.2.2.2.2.1
theorem dX11_numberOf_60 : decode cX11_numberOf 60 = .ok (.iload_n 1, 1) := dG_dX11_numberOf_42.2.2.2.2.2.2.2.2.1
theorem dX11_numberOf_61 : decode cX11_numberOf 61 = .ok (.ireturn, 1) := dG_dX11_numberOf_42.2.2.2.2.2.2.2.2.2.1
theorem dX11_ends_0 : decode cX11_ends 0 = .ok (.aload_n 0, 1) := dG_dX11_numberOf_42.2.2.2.2.2.2.2.2.2.2.1
theorem dX11_ends_1 : decode cX11_ends 1 = .ok (.bipush 59, 2) := dG_dX11_numberOf_42.2.2.2.2.2.2.2.2.2.2.2
theorem dG_dX11_ends_3 : (decode cX11_ends 3 = .ok (.invokevirtual 204, 3)) ∧ (decode cX11_ends 6 = .ok (.ifCond .ne 10, 3)) ∧ (decode cX11_ends 9 = .ok (.aload_n 0, 1)) ∧ (decode cX11_ends 10 = .ok (.invokevirtual 198, 3)) ∧ (decode cX11_ends 13 = .ok (.goto 7, 3)) ∧ (decode cX11_ends 16 = .ok (.aload_n 0, 1)) ∧ (decode cX11_ends 17 = .ok (.invokevirtual 201, 3)) ∧ (decode cX11_ends 20 = .ok (.return_, 1)) ∧ (decode cX11_lawOf 0 = .ok (.aload_n 0, 1)) ∧ (decode cX11_lawOf 1 = .ok (.bipush 114, 2)) ∧ (decode cX11_lawOf 3 = .ok (.bipush 111, 2)) ∧ (decode cX11_lawOf 5 = .ok (.bipush 117, 2)) := by decide +kernel
theorem dX11_ends_3 : decode cX11_ends 3 = .ok (.invokevirtual 204, 3) := dG_dX11_ends_3.1
theorem dX11_ends_6 : decode cX11_ends 6 = .ok (.ifCond .ne 10, 3) := dG_dX11_ends_3.2.1
theorem dX11_ends_9 : decode cX11_ends 9 = .ok (.aload_n 0, 1) := dG_dX11_ends_3.2.2.1
theorem dX11_ends_10 : decode cX11_ends 10 = .ok (.invokevirtual 198, 3) := dG_dX11_ends_3.2.2.2.1
theorem dX11_ends_13 : decode cX11_ends 13 = .ok (.goto 7, 3) := dG_dX11_ends_3.2.2.2.2.1
theorem dX11_ends_16 : decode cX11_ends 16 = .ok (.aload_n 0, 1) := dG_dX11_ends_3.2.2.2.2.2.1
theorem dX11_ends_17 : decode cX11_ends 17 = .ok (.invokevirtual 201, 3) := dG_dX11_ends_3.2.2.2.2.2.2.1
theorem dX11_ends_20 : decode cX11_ends 20 = .ok (.return_, 1) := dG_dX11_ends_3.2.2.2.2.2.2.2.1
theorem dX11_lawOf_0 : decode cX11_lawOf 0 = .ok (.aload_n 0, 1) := dG_dX11_ends_3.2.2.2.2.2.2.2.2.1
theorem dX11_lawOf_1 : decode cX11_lawOf 1 = .ok (.bipush 114, 2) := dG_dX11_ends_3.2.2.2.2.2.2.2.2.2.1
theorem dX11_lawOf_3 : decode cX11_lawOf 3 = .ok (.bipush 111, 2) := dG_dX11_ends_3.2.2.2.2.2.2.2.2.2.2.1
theorem dX11_lawOf_5 : decode cX11_lawOf 5 = .ok (.bipush 117, 2) := dG_dX11_ends_3.2.2.2.2.2.2.2.2.2.2.2
theorem dG_dX11_lawOf_7 : (decode cX11_lawOf 7 = .ok (.bipush 110, 2)) ∧ (decode cX11_lawOf 9 = .ok (.bipush 100, 2)) ∧ (decode cX11_lawOf 11 = .ok (.iconst 0, 1)) ∧ (decode cX11_lawOf 12 = .ok (.iconst 0, 1)) ∧ (decode cX11_lawOf 13 = .ok (.invokestatic 228, 3)) ∧ (decode cX11_lawOf 16 = .ok (.invokevirtual 232, 3)) ∧ (decode cX11_lawOf 19 = .ok (.ifCond .eq 5, 3)) ∧ (decode cX11_lawOf 22 = .ok (.iconst 0, 1)) ∧ (decode cX11_lawOf 23 = .ok (.ireturn, 1)) ∧ (decode cX11_lawOf 24 = .ok (.aload_n 0, 1)) ∧ (decode cX11_lawOf 25 = .ok (.bipush 112, 2)) ∧ (decode cX11_lawOf 27 = .ok (.bipush 111, 2)) := by decide +kernel
theorem dX11_lawOf_7 : decode cX11_lawOf 7 = .ok (.bipush 110, 2) := dG_dX11_lawOf_7.1
theorem dX11_lawOf_9 : decode cX11_lawOf 9 = .ok (.bipush 100, 2) := dG_dX11_lawOf_7.2.1
theorem dX11_lawOf_11 : decode cX11_lawOf 11 = .ok (.iconst 0, 1) := dG_dX11_lawOf_7.2.2.1
theorem dX11_lawOf_12 : decode cX11_lawOf 12 = .ok (.iconst 0, 1) := dG_dX11_lawOf_7.2.2.2.1
theorem dX11_lawOf_13 : decode cX11_lawOf 13 = .ok (.invokestatic 228, 3) := dG_dX11_lawOf_7.2.2.2.2.1
theorem dX11_lawOf_16 : decode cX11_lawOf 16 = .ok (.invokevirtual 232, 3) := dG_dX11_lawOf_7.2.2.2.2.2.1
theorem dX11_lawOf_19 : decode cX11_lawOf 19 = .ok (.ifCond .eq 5, 3) := dG_dX11_lawOf_7.2.2.2.2.2.2.1
theorem dX11_lawOf_22 : decode cX11_lawOf 22 = .ok (.iconst 0, 1) := dG_dX11_lawOf_7.2.2.2.2.2.2.2.1
theorem dX11_lawOf_23 : decode cX11_lawOf 23 = .ok (.ireturn, 1) := dG_dX11_lawOf_7.2.2.2.2.2.2.2.2.1
theorem dX11_lawOf_24 : decode cX11_lawOf 24 = .ok (.aload_n 0, 1) := dG_dX11_lawOf_7.2.2.2.2.2.2.2.2.2.1
theorem dX11_lawOf_25 : decode cX11_lawOf 25 = .ok (.bipush 112, 2) := dG_dX11_lawOf_7.2.2.2.2.2.2.2.2.2.2.1
theorem dX11_lawOf_27 : decode cX11_lawOf 27 = .ok (.bipush 111, 2) := dG_dX11_lawOf_7.2.2.2.2.2.2.2.2.2.2.2
theorem dG_dX11_lawOf_29 : (decode cX11_lawOf 29 = .ok (.bipush 105, 2)) ∧ (decode cX11_lawOf 31 = .ok (.bipush 110, 2)) ∧ (decode cX11_lawOf 33 = .ok (.bipush 116, 2)) ∧ (decode cX11_lawOf 35 = .ok (.bipush 115, 2)) ∧ (decode cX11_lawOf 37 = .ok (.iconst 0, 1)) ∧ (decode cX11_lawOf 38 = .ok (.invokestatic 228, 3)) ∧ (decode cX11_lawOf 41 = .ok (.invokevirtual 232, 3)) ∧ (decode cX11_lawOf 44 = .ok (.ifCond .eq 5, 3)) ∧ (decode cX11_lawOf 47 = .ok (.iconst 1, 1)) ∧ (decode cX11_lawOf 48 = .ok (.ireturn, 1)) ∧ (decode cX11_lawOf 49 = .ok (.aload_n 0, 1)) ∧ (decode cX11_lawOf 50 = .ok (.bipush 107, 2)) := by decide +kernel
theorem dX11_lawOf_29 : decode cX11_lawOf 29 = .ok (.bipush 105, 2) := dG_dX11_lawOf_29.1
theorem dX11_lawOf_31 : decode cX11_lawOf 31 = .ok (.bipush 110, 2) := dG_dX11_lawOf_29.2.1
theorem dX11_lawOf_33 : decode cX11_lawOf 33 = .ok (.bipush 116, 2) := dG_dX11_lawOf_29.2.2.1
theorem dX11_lawOf_35 : decode cX11_lawOf 35 = .ok (.bipush 115, 2) := dG_dX11_lawOf_29.2.2.2.1
theorem dX11_lawOf_37 : decode cX11_lawOf 37 = .ok (.iconst 0, 1) := dG_dX11_lawOf_29.2.2.2.2.1
theorem dX11_lawOf_38 : decode cX11_lawOf 38 = .ok (.invokestatic 228, 3) := dG_dX11_lawOf_29.2.2.2.2.2.1
theorem dX11_lawOf_41 : decode cX11_lawOf 41 = .ok (.invokevirtual 232, 3) := dG_dX11_lawOf_29.2.2.2.2.2.2.1
theorem dX11_lawOf_44 : decode cX11_lawOf 44 = .ok (.ifCond .eq 5, 3) := dG_dX11_lawOf_29.2.2.2.2.2.2.2.1
theorem dX11_lawOf_47 : decode cX11_lawOf 47 = .ok (.iconst 1, 1) := dG_dX11_lawOf_29.2.2.2.2.2.2.2.2.1
theorem dX11_lawOf_48 : decode cX11_lawOf 48 = .ok (.ireturn, 1) := dG_dX11_lawOf_29.2.2.2.2.2.2.2.2.2.1
theorem dX11_lawOf_49 : decode cX11_lawOf 49 = .ok (.aload_n 0, 1) := dG_dX11_lawOf_29.2.2.2.2.2.2.2.2.2.2.1
theorem dX11_lawOf_50 : decode cX11_lawOf 50 = .ok (.bipush 107, 2) := dG_dX11_lawOf_29.2.2.2.2.2.2.2.2.2.2.2
theorem dG_dX11_lawOf_52 : (decode cX11_lawOf 52 = .ok (.bipush 101, 2)) ∧ (decode cX11_lawOf 54 = .ok (.bipush 121, 2)) ∧ (decode cX11_lawOf 56 = .ok (.bipush 115, 2)) ∧ (decode cX11_lawOf 58 = .ok (.iconst 0, 1)) ∧ (decode cX11_lawOf 59 = .ok (.iconst 0, 1)) ∧ (decode cX11_lawOf 60 = .ok (.iconst 0, 1)) ∧ (decode cX11_lawOf 61 = .ok (.invokestatic 228, 3)) ∧ (decode cX11_lawOf 64 = .ok (.invokevirtual 232, 3)) ∧ (decode cX11_lawOf 67 = .ok (.ifCond .eq 5, 3)) ∧ (decode cX11_lawOf 70 = .ok (.iconst 2, 1)) ∧ (decode cX11_lawOf 71 = .ok (.ireturn, 1)) ∧ (decode cX11_lawOf 72 = .ok (.aload_n 0, 1)) := by decide +kernel
theorem dX11_lawOf_52 : decode cX11_lawOf 52 = .ok (.bipush 101, 2) := dG_dX11_lawOf_52.1
theorem dX11_lawOf_54 : decode cX11_lawOf 54 = .ok (.bipush 121, 2) := dG_dX11_lawOf_52.2.1
theorem dX11_lawOf_56 : decode cX11_lawOf 56 = .ok (.bipush 115, 2) := dG_dX11_lawOf_52.2.2.1
theorem dX11_lawOf_58 : decode cX11_lawOf 58 = .ok (.iconst 0, 1) := dG_dX11_lawOf_52.2.2.2.1
theorem dX11_lawOf_59 : decode cX11_lawOf 59 = .ok (.iconst 0, 1) := dG_dX11_lawOf_52.2.2.2.2.1
theorem dX11_lawOf_60 : decode cX11_lawOf 60 = .ok (.iconst 0, 1) := dG_dX11_lawOf_52.2.2.2.2.2.1
theorem dX11_lawOf_61 : decode cX11_lawOf 61 = .ok (.invokestatic 228, 3) := dG_dX11_lawOf_52.2.2.2.2.2.2.1
theorem dX11_lawOf_64 : decode cX11_lawOf 64 = .ok (.invokevirtual 232, 3) := dG_dX11_lawOf_52.2.2.2.2.2.2.2.1
theorem dX11_lawOf_67 : decode cX11_lawOf 67 = .ok (.ifCond .eq 5, 3) := dG_dX11_lawOf_52.2.2.2.2.2.2.2.2.1
theorem dX11_lawOf_70 : decode cX11_lawOf 70 = .ok (.iconst 2, 1) := dG_dX11_lawOf_52.2.2.2.2.2.2.2.2.2.1
theorem dX11_lawOf_71 : decode cX11_lawOf 71 = .ok (.ireturn, 1) := dG_dX11_lawOf_52.2.2.2.2.2.2.2.2.2.2.1
theorem dX11_lawOf_72 : decode cX11_lawOf 72 = .ok (.aload_n 0, 1) := dG_dX11_lawOf_52.2.2.2.2.2.2.2.2.2.2.2
theorem dG_dX11_lawOf_73 : (decode cX11_lawOf 73 = .ok (.bipush 116, 2)) ∧ (decode cX11_lawOf 75 = .ok (.bipush 105, 2)) ∧ (decode cX11_lawOf 77 = .ok (.bipush 101, 2)) ∧ (decode cX11_lawOf 79 = .ok (.bipush 115, 2)) ∧ (decode cX11_lawOf 81 = .ok (.iconst 0, 1)) ∧ (decode cX11_lawOf 82 = .ok (.iconst 0, 1)) ∧ (decode cX11_lawOf 83 = .ok (.iconst 0, 1)) ∧ (decode cX11_lawOf 84 = .ok (.invokestatic 228, 3)) ∧ (decode cX11_lawOf 87 = .ok (.invokevirtual 232, 3)) ∧ (decode cX11_lawOf 90 = .ok (.ifCond .eq 7, 3)) ∧ (decode cX11_lawOf 93 = .ok (.iconst 3, 1)) ∧ (decode cX11_lawOf 94 = .ok (.goto 4, 3)) := by decide +kernel
theorem dX11_lawOf_73 : decode cX11_lawOf 73 = .ok (.bipush 116, 2) := dG_dX11_lawOf_73.1
theorem dX11_lawOf_75 : decode cX11_lawOf 75 = .ok (.bipush 105, 2) := dG_dX11_lawOf_73.2.1
theorem dX11_lawOf_77 : decode cX11_lawOf 77 = .ok (.bipush 101, 2) := dG_dX11_lawOf_73.2.2.1
theorem dX11_lawOf_79 : decode cX11_lawOf 79 = .ok (.bipush 115, 2) := dG_dX11_lawOf_73.2.2.2.1
theorem dX11_lawOf_81 : decode cX11_lawOf 81 = .ok (.iconst 0, 1) := dG_dX11_lawOf_73.2.2.2.2.1
theorem dX11_lawOf_82 : decode cX11_lawOf 82 = .ok (.iconst 0, 1) := dG_dX11_lawOf_73.2.2.2.2.2.1
theorem dX11_lawOf_83 : decode cX11_lawOf 83 = .ok (.iconst 0, 1) := dG_dX11_lawOf_73.2.2.2.2.2.2.1
theorem dX11_lawOf_84 : decode cX11_lawOf 84 = .ok (.invokestatic 228, 3) := dG_dX11_lawOf_73.2.2.2.2.2.2.2.1
theorem dX11_lawOf_87 : decode cX11_lawOf 87 = .ok (.invokevirtual 232, 3) := dG_dX11_lawOf_73.2.2.2.2.2.2.2.2.1
theorem dX11_lawOf_90 : decode cX11_lawOf 90 = .ok (.ifCond .eq 7, 3) := dG_dX11_lawOf_73.2.2.2.2.2.2.2.2.2.1
theorem dX11_lawOf_93 : decode cX11_lawOf 93 = .ok (.iconst 3, 1) := dG_dX11_lawOf_73.2.2.2.2.2.2.2.2.2.2.1
theorem dX11_lawOf_94 : decode cX11_lawOf 94 = .ok (.goto 4, 3) := dG_dX11_lawOf_73.2.2.2.2.2.2.2.2.2.2.2
theorem dG_dX11_lawOf_97 : (decode cX11_lawOf 97 = .ok (.iconst (-1), 1)) ∧ (decode cX11_lawOf 98 = .ok (.ireturn, 1)) ∧ (decode cX11_nameOf 0 = .ok (.aload_n 0, 1)) ∧ (decode cX11_nameOf 1 = .ok (.bipush 116, 2)) ∧ (decode cX11_nameOf 3 = .ok (.bipush 111, 2)) ∧ (decode cX11_nameOf 5 = .ok (.bipush 112, 2)) ∧ (decode cX11_nameOf 7 = .ok (.iconst 0, 1)) ∧ (decode cX11_nameOf 8 = .ok (.iconst 0, 1)) ∧ (decode cX11_nameOf 9 = .ok (.iconst 0, 1)) ∧ (decode cX11_nameOf 10 = .ok (.iconst 0, 1)) ∧ (decode cX11_nameOf 11 = .ok (.invokestatic 228, 3)) ∧ (decode cX11_nameOf 14 = .ok (.invokevirtual 232, 3)) := by decide +kernel
theorem dX11_lawOf_97 : decode cX11_lawOf 97 = .ok (.iconst (-1), 1) := dG_dX11_lawOf_97.1
theorem dX11_lawOf_98 : decode cX11_lawOf 98 = .ok (.ireturn, 1) := dG_dX11_lawOf_97.2.1
theorem dX11_nameOf_0 : decode cX11_nameOf 0 = .ok (.aload_n 0, 1) := dG_dX11_lawOf_97.2.2.1
theorem dX11_nameOf_1 : decode cX11_nameOf 1 = .ok (.bipush 116, 2) := dG_dX11_lawOf_97.2.2.2.1
theorem dX11_nameOf_3 : decode cX11_nameOf 3 = .ok (.bipush 111, 2) := dG_dX11_lawOf_97.2.2.2.2.1
theorem dX11_nameOf_5 : decode cX11_nameOf 5 = .ok (.bipush 112, 2) := dG_dX11_lawOf_97.2.2.2.2.2.1
theorem dX11_nameOf_7 : decode cX11_nameOf 7 = .ok (.iconst 0, 1) := dG_dX11_lawOf_97.2.2.2.2.2.2.1
theorem dX11_nameOf_8 : decode cX11_nameOf 8 = .ok (.iconst 0, 1) := dG_dX11_lawOf_97.2.2.2.2.2.2.2.1
theorem dX11_nameOf_9 : decode cX11_nameOf 9 = .ok (.iconst 0, 1) := dG_dX11_lawOf_97.2.2.2.2.2.2.2.2.1
theorem dX11_nameOf_10 : decode cX11_nameOf 10 = .ok (.iconst 0, 1) := dG_dX11_lawOf_97.2.2.2.2.2.2.2.2.2.1
theorem dX11_nameOf_11 : decode cX11_nameOf 11 = .ok (.invokestatic 228, 3) := dG_dX11_lawOf_97.2.2.2.2.2.2.2.2.2.2.1
theorem dX11_nameOf_14 : decode cX11_nameOf 14 = .ok (.invokevirtual 232, 3) := dG_dX11_lawOf_97.2.2.2.2.2.2.2.2.2.2.2
theorem dG_dX11_nameOf_17 : (decode cX11_nameOf 17 = .ok (.ifCond .eq 5, 3)) ∧ (decode cX11_nameOf 20 = .ok (.iconst 1, 1)) ∧ (decode cX11_nameOf 21 = .ok (.ireturn, 1)) ∧ (decode cX11_nameOf 22 = .ok (.aload_n 0, 1)) ∧ (decode cX11_nameOf 23 = .ok (.bipush 122, 2)) ∧ (decode cX11_nameOf 25 = .ok (.bipush 111, 2)) ∧ (decode cX11_nameOf 27 = .ok (.bipush 110, 2)) ∧ (decode cX11_nameOf 29 = .ok (.bipush 101, 2)) ∧ (decode cX11_nameOf 31 = .ok (.iconst 0, 1)) ∧ (decode cX11_nameOf 32 = .ok (.iconst 0, 1)) ∧ (decode cX11_nameOf 33 = .ok (.iconst 0, 1)) ∧ (decode cX11_nameOf 34 = .ok (.invokestatic 228, 3)) := by decide +kernel
theorem dX11_nameOf_17 : decode cX11_nameOf 17 = .ok (.ifCond .eq 5, 3) := dG_dX11_nameOf_17.1
theorem dX11_nameOf_20 : decode cX11_nameOf 20 = .ok (.iconst 1, 1) := dG_dX11_nameOf_17.2.1
theorem dX11_nameOf_21 : decode cX11_nameOf 21 = .ok (.ireturn, 1) := dG_dX11_nameOf_17.2.2.1
theorem dX11_nameOf_22 : decode cX11_nameOf 22 = .ok (.aload_n 0, 1) := dG_dX11_nameOf_17.2.2.2.1
theorem dX11_nameOf_23 : decode cX11_nameOf 23 = .ok (.bipush 122, 2) := dG_dX11_nameOf_17.2.2.2.2.1
theorem dX11_nameOf_25 : decode cX11_nameOf 25 = .ok (.bipush 111, 2) := dG_dX11_nameOf_17.2.2.2.2.2.1
theorem dX11_nameOf_27 : decode cX11_nameOf 27 = .ok (.bipush 110, 2) := dG_dX11_nameOf_17.2.2.2.2.2.2.1
theorem dX11_nameOf_29 : decode cX11_nameOf 29 = .ok (.bipush 101, 2) := dG_dX11_nameOf_17.2.2.2.2.2.2.2.1
theorem dX11_nameOf_31 : decode cX11_nameOf 31 = .ok (.iconst 0, 1) := dG_dX11_nameOf_17.2.2.2.2.2.2.2.2.1
theorem dX11_nameOf_32 : decode cX11_nameOf 32 = .ok (.iconst 0, 1) := dG_dX11_nameOf_17.2.2.2.2.2.2.2.2.2.1
theorem dX11_nameOf_33 : decode cX11_nameOf 33 = .ok (.iconst 0, 1) := dG_dX11_nameOf_17.2.2.2.2.2.2.2.2.2.2.1
theorem dX11_nameOf_34 : decode cX11_nameOf 34 = .ok (.invokestatic 228, 3) := dG_dX11_nameOf_17.2.2.2.2.2.2.2.2.2.2.2
theorem dG_dX11_nameOf_37 : (decode cX11_nameOf 37 = .ok (.invokevirtual 232, 3)) ∧ (decode cX11_nameOf 40 = .ok (.ifCond .eq 5, 3)) ∧ (decode cX11_nameOf 43 = .ok (.iconst 2, 1)) ∧ (decode cX11_nameOf 44 = .ok (.ireturn, 1)) ∧ (decode cX11_nameOf 45 = .ok (.aload_n 0, 1)) ∧ (decode cX11_nameOf 46 = .ok (.bipush 104, 2)) ∧ (decode cX11_nameOf 48 = .ok (.bipush 111, 2)) ∧ (decode cX11_nameOf 50 = .ok (.bipush 108, 2)) ∧ (decode cX11_nameOf 52 = .ok (.bipush 100, 2)) ∧ (decode cX11_nameOf 54 = .ok (.iconst 0, 1)) ∧ (decode cX11_nameOf 55 = .ok (.iconst 0, 1)) ∧ (decode cX11_nameOf 56 = .ok (.iconst 0, 1)) := by decide +kernel
theorem dX11_nameOf_37 : decode cX11_nameOf 37 = .ok (.invokevirtual 232, 3) := dG_dX11_nameOf_37.1
theorem dX11_nameOf_40 : decode cX11_nameOf 40 = .ok (.ifCond .eq 5, 3) := dG_dX11_nameOf_37.2.1
theorem dX11_nameOf_43 : decode cX11_nameOf 43 = .ok (.iconst 2, 1) := dG_dX11_nameOf_37.2.2.1
theorem dX11_nameOf_44 : decode cX11_nameOf 44 = .ok (.ireturn, 1) := dG_dX11_nameOf_37.2.2.2.1
theorem dX11_nameOf_45 : decode cX11_nameOf 45 = .ok (.aload_n 0, 1) := dG_dX11_nameOf_37.2.2.2.2.1
theorem dX11_nameOf_46 : decode cX11_nameOf 46 = .ok (.bipush 104, 2) := dG_dX11_nameOf_37.2.2.2.2.2.1
theorem dX11_nameOf_48 : decode cX11_nameOf 48 = .ok (.bipush 111, 2) := dG_dX11_nameOf_37.2.2.2.2.2.2.1
theorem dX11_nameOf_50 : decode cX11_nameOf 50 = .ok (.bipush 108, 2) := dG_dX11_nameOf_37.2.2.2.2.2.2.2.1
theorem dX11_nameOf_52 : decode cX11_nameOf 52 = .ok (.bipush 100, 2) := dG_dX11_nameOf_37.2.2.2.2.2.2.2.2.1
theorem dX11_nameOf_54 : decode cX11_nameOf 54 = .ok (.iconst 0, 1) := dG_dX11_nameOf_37.2.2.2.2.2.2.2.2.2.1
theorem dX11_nameOf_55 : decode cX11_nameOf 55 = .ok (.iconst 0, 1) := dG_dX11_nameOf_37.2.2.2.2.2.2.2.2.2.2.1
theorem dX11_nameOf_56 : decode cX11_nameOf 56 = .ok (.iconst 0, 1) := dG_dX11_nameOf_37.2.2.2.2.2.2.2.2.2.2.2
theorem dG_dX11_nameOf_57 : (decode cX11_nameOf 57 = .ok (.invokestatic 228, 3)) ∧ (decode cX11_nameOf 60 = .ok (.invokevirtual 232, 3)) ∧ (decode cX11_nameOf 63 = .ok (.ifCond .eq 5, 3)) ∧ (decode cX11_nameOf 66 = .ok (.iconst 3, 1)) ∧ (decode cX11_nameOf 67 = .ok (.ireturn, 1)) ∧ (decode cX11_nameOf 68 = .ok (.aload_n 0, 1)) ∧ (decode cX11_nameOf 69 = .ok (.bipush 116, 2)) ∧ (decode cX11_nameOf 71 = .ok (.bipush 114, 2)) ∧ (decode cX11_nameOf 73 = .ok (.bipush 105, 2)) ∧ (decode cX11_nameOf 75 = .ok (.bipush 101, 2)) ∧ (decode cX11_nameOf 77 = .ok (.bipush 115, 2)) ∧ (decode cX11_nameOf 79 = .ok (.iconst 0, 1)) := by decide +kernel
theorem dX11_nameOf_57 : decode cX11_nameOf 57 = .ok (.invokestatic 228, 3) := dG_dX11_nameOf_57.1
theorem dX11_nameOf_60 : decode cX11_nameOf 60 = .ok (.invokevirtual 232, 3) := dG_dX11_nameOf_57.2.1
theorem dX11_nameOf_63 : decode cX11_nameOf 63 = .ok (.ifCond .eq 5, 3) := dG_dX11_nameOf_57.2.2.1
theorem dX11_nameOf_66 : decode cX11_nameOf 66 = .ok (.iconst 3, 1) := dG_dX11_nameOf_57.2.2.2.1
theorem dX11_nameOf_67 : decode cX11_nameOf 67 = .ok (.ireturn, 1) := dG_dX11_nameOf_57.2.2.2.2.1
theorem dX11_nameOf_68 : decode cX11_nameOf 68 = .ok (.aload_n 0, 1) := dG_dX11_nameOf_57.2.2.2.2.2.1
theorem dX11_nameOf_69 : decode cX11_nameOf 69 = .ok (.bipush 116, 2) := dG_dX11_nameOf_57.2.2.2.2.2.2.1
theorem dX11_nameOf_71 : decode cX11_nameOf 71 = .ok (.bipush 114, 2) := dG_dX11_nameOf_57.2.2.2.2.2.2.2.1
theorem dX11_nameOf_73 : decode cX11_nameOf 73 = .ok (.bipush 105, 2) := dG_dX11_nameOf_57.2.2.2.2.2.2.2.2.1
theorem dX11_nameOf_75 : decode cX11_nameOf 75 = .ok (.bipush 101, 2) := dG_dX11_nameOf_57.2.2.2.2.2.2.2.2.2.1
theorem dX11_nameOf_77 : decode cX11_nameOf 77 = .ok (.bipush 115, 2) := dG_dX11_nameOf_57.2.2.2.2.2.2.2.2.2.2.1
theorem dX11_nameOf_79 : decode cX11_nameOf 79 = .ok (.iconst 0, 1) := dG_dX11_nameOf_57.2.2.2.2.2.2.2.2.2.2.2
theorem dG_dX11_nameOf_80 : (decode cX11_nameOf 80 = .ok (.iconst 0, 1)) ∧ (decode cX11_nameOf 81 = .ok (.invokestatic 228, 3)) ∧ (decode cX11_nameOf 84 = .ok (.invokevirtual 232, 3)) ∧ (decode cX11_nameOf 87 = .ok (.ifCond .eq 5, 3)) ∧ (decode cX11_nameOf 90 = .ok (.iconst 4, 1)) ∧ (decode cX11_nameOf 91 = .ok (.ireturn, 1)) ∧ (decode cX11_nameOf 92 = .ok (.aload_n 0, 1)) ∧ (decode cX11_nameOf 93 = .ok (.bipush 115, 2)) ∧ (decode cX11_nameOf 95 = .ok (.bipush 101, 2)) ∧ (decode cX11_nameOf 97 = .ok (.bipush 99, 2)) ∧ (decode cX11_nameOf 99 = .ok (.bipush 111, 2)) ∧ (decode cX11_nameOf 101 = .ok (.bipush 110, 2)) := by decide +kernel
theorem dX11_nameOf_80 : decode cX11_nameOf 80 = .ok (.iconst 0, 1) := dG_dX11_nameOf_80.1
theorem dX11_nameOf_81 : decode cX11_nameOf 81 = .ok (.invokestatic 228, 3) := dG_dX11_nameOf_80.2.1
theorem dX11_nameOf_84 : decode cX11_nameOf 84 = .ok (.invokevirtual 232, 3) := dG_dX11_nameOf_80.2.2.1
theorem dX11_nameOf_87 : decode cX11_nameOf 87 = .ok (.ifCond .eq 5, 3) := dG_dX11_nameOf_80.2.2.2.1
theorem dX11_nameOf_90 : decode cX11_nameOf 90 = .ok (.iconst 4, 1) := dG_dX11_nameOf_80.2.2.2.2.1
theorem dX11_nameOf_91 : decode cX11_nameOf 91 = .ok (.ireturn, 1) := dG_dX11_nameOf_80.2.2.2.2.2.1
theorem dX11_nameOf_92 : decode cX11_nameOf 92 = .ok (.aload_n 0, 1) := dG_dX11_nameOf_80.2.2.2.2.2.2.1
theorem dX11_nameOf_93 : decode cX11_nameOf 93 = .ok (.bipush 115, 2) := dG_dX11_nameOf_80.2.2.2.2.2.2.2.1
theorem dX11_nameOf_95 : decode cX11_nameOf 95 = .ok (.bipush 101, 2) := dG_dX11_nameOf_80.2.2.2.2.2.2.2.2.1
theorem dX11_nameOf_97 : decode cX11_nameOf 97 = .ok (.bipush 99, 2) := dG_dX11_nameOf_80.2.2.2.2.2.2.2.2.2.1
theorem dX11_nameOf_99 : decode cX11_nameOf 99 = .ok (.bipush 111, 2) := dG_dX11_nameOf_80.2.2.2.2.2.2.2.2.2.2.1
theorem dX11_nameOf_101 : decode cX11_nameOf 101 = .ok (.bipush 110, 2) := dG_dX11_nameOf_80.2.2.2.2.2.2.2.2.2.2.2
theorem dG_dX11_nameOf_103 : (decode cX11_nameOf 103 = .ok (.bipush 100, 2)) ∧ (decode cX11_nameOf 105 = .ok (.bipush 115, 2)) ∧ (decode cX11_nameOf 107 = .ok (.invokestatic 228, 3)) ∧ (decode cX11_nameOf 110 = .ok (.invokevirtual 232, 3)) ∧ (decode cX11_nameOf 113 = .ok (.ifCond .eq 5, 3)) ∧ (decode cX11_nameOf 116 = .ok (.iconst 5, 1)) ∧ (decode cX11_nameOf 117 = .ok (.ireturn, 1)) ∧ (decode cX11_nameOf 118 = .ok (.aload_n 0, 1)) ∧ (decode cX11_nameOf 119 = .ok (.bipush 102, 2)) ∧ (decode cX11_nameOf 121 = .ok (.bipush 108, 2)) ∧ (decode cX11_nameOf 123 = .ok (.bipush 97, 2)) ∧ (decode cX11_nameOf 125 = .ok (.bipush 115, 2)) := by decide +kernel
theorem dX11_nameOf_103 : decode cX11_nameOf 103 = .ok (.bipush 100, 2) := dG_dX11_nameOf_103.1
theorem dX11_nameOf_105 : decode cX11_nameOf 105 = .ok (.bipush 115, 2) := dG_dX11_nameOf_103.2.1
theorem dX11_nameOf_107 : decode cX11_nameOf 107 = .ok (.invokestatic 228, 3) := dG_dX11_nameOf_103.2.2.1
theorem dX11_nameOf_110 : decode cX11_nameOf 110 = .ok (.invokevirtual 232, 3) := dG_dX11_nameOf_103.2.2.2.1
theorem dX11_nameOf_113 : decode cX11_nameOf 113 = .ok (.ifCond .eq 5, 3) := dG_dX11_nameOf_103.2.2.2.2.1
theorem dX11_nameOf_116 : decode cX11_nameOf 116 = .ok (.iconst 5, 1) := dG_dX11_nameOf_103.2.2.2.2.2.1
theorem dX11_nameOf_117 : decode cX11_nameOf 117 = .ok (.ireturn, 1) := dG_dX11_nameOf_103.2.2.2.2.2.2.1
theorem dX11_nameOf_118 : decode cX11_nameOf 118 = .ok (.aload_n 0, 1) := dG_dX11_nameOf_103.2.2.2.2.2.2.2.1
theorem dX11_nameOf_119 : decode cX11_nameOf 119 = .ok (.bipush 102, 2) := dG_dX11_nameOf_103.2.2.2.2.2.2.2.2.1
theorem dX11_nameOf_121 : decode cX11_nameOf 121 = .ok (.bipush 108, 2) := dG_dX11_nameOf_103.2.2.2.2.2.2.2.2.2.1
theorem dX11_nameOf_123 : decode cX11_nameOf 123 = .ok (.bipush 97, 2) := dG_dX11_nameOf_103.2.2.2.2.2.2.2.2.2.2.1
theorem dX11_nameOf_125 : decode cX11_nameOf 125 = .ok (.bipush 115, 2) := dG_dX11_nameOf_103.2.2.2.2.2.2.2.2.2.2.2
theorem dG_dX11_nameOf_127 : (decode cX11_nameOf 127 = .ok (.bipush 104, 2)) ∧ (decode cX11_nameOf 129 = .ok (.iconst 0, 1)) ∧ (decode cX11_nameOf 130 = .ok (.iconst 0, 1)) ∧ (decode cX11_nameOf 131 = .ok (.invokestatic 228, 3)) ∧ (decode cX11_nameOf 134 = .ok (.invokevirtual 232, 3)) ∧ (decode cX11_nameOf 137 = .ok (.ifCond .eq 8, 3)) ∧ (decode cX11_nameOf 140 = .ok (.bipush 6, 2)) ∧ (decode cX11_nameOf 142 = .ok (.goto 4, 3)) ∧ (decode cX11_nameOf 145 = .ok (.iconst (-1), 1)) ∧ (decode cX11_nameOf 146 = .ok (.ireturn, 1)) := by decide +kernel
theorem dX11_nameOf_127 : decode cX11_nameOf 127 = .ok (.bipush 104, 2) := dG_dX11_nameOf_127.1
theorem dX11_nameOf_129 : decode cX11_nameOf 129 = .ok (.iconst 0, 1) := dG_dX11_nameOf_127.2.1
theorem dX11_nameOf_130 : decode cX11_nameOf 130 = .ok (.iconst 0, 1) := dG_dX11_nameOf_127.2.2.1
theorem dX11_nameOf_131 : decode cX11_nameOf 131 = .ok (.invokestatic 228, 3) := dG_dX11_nameOf_127.2.2.2.1
theorem dX11_nameOf_134 : decode cX11_nameOf 134 = .ok (.invokevirtual 232, 3) := dG_dX11_nameOf_127.2.2.2.2.1
theorem dX11_nameOf_137 : decode cX11_nameOf 137 = .ok (.ifCond .eq 8, 3) := dG_dX11_nameOf_127.2.2.2.2.2.1
theorem dX11_nameOf_140 : decode cX11_nameOf 140 = .ok (.bipush 6, 2) := dG_dX11_nameOf_127.2.2.2.2.2.2.1
theorem dX11_nameOf_142 : decode cX11_nameOf 142 = .ok (.goto 4, 3) := dG_dX11_nameOf_127.2.2.2.2.2.2.2.1
theorem dX11_nameOf_145 : decode cX11_nameOf 145 = .ok (.iconst (-1), 1) := dG_dX11_nameOf_127.2.2.2.2.2.2.2.2.1
theorem dX11_nameOf_146 : decode cX11_nameOf 146 = .ok (.ireturn, 1) := dG_dX11_nameOf_127.2.2.2.2.2.2.2.2.2
end

section
set_option maxHeartbeats 4000000 in
set_option maxRecDepth 100000 in
theorem n_isW (l : Launch) (D : va_G) (k : Nat → ClassId) (A : Nat → Prop) (ad : Nat → Nat) (hD : mdD A k ad) (v : gV) (f g : gF) (a1 : Int) (B : Int → Int) (pp : Int) (ii : Nat) (hc : mAt B (v 3) (v 9) (v 10) (v 8) (v 11) ((g 0) 0) pp) (ha : a1 = hW ii ∧ ii < 18) : GM l D k A (mdT k ad) yX11_isWord cX11_isWord 3 (some .boolean) 0 0 [.ref (ad 0), .long (iL a1)] v f g (fun r v1 f1 g1 => ∃ (z : Int), r = some (.int (iI z)) ∧ v = v1 ∧ f = f1 ∧ g = g1 ∧ (0 ≤ z ∧ z ≤ 1) ∧ (z = 1 ↔ (tK B (v 3) pp) = 260 + (ii : Int))) := by
  refine GM.of (by decide) (Nat.le_of_ble_eq_true rfl) ?_
  intro p e s m args below meth c Q ls hQ C hml hr hlocks hP hl
  have hx := C.1
  have hb := C.2.1
  have hok := hP.2
  have hS : va_S A s.heap s.heap [] := va_S.rf
  have hl : lv_has ls 3 [(0, .ref (ad 0)), (1, .long (iL a1))] := hl
  have hq := hc.of
  have hw := hc.wd ii ha.2
  have hwr := hW_rng ii ha.2
  refine lv_aload_n hx hb dX11_isWord_0 rfl (lv_at hl 0 rfl) ?_
  refine mdG_sort C hP mF_X11_165 dX11_isWord_1 ?_
  have r_1 : 0 ≤ (v 8) ∧ (v 8) ≤ 4 := hok.1 8
  refine lv_iconst (v := iI 1) hx hb dX11_isWord_4 rfl ?_
  refine gi_cne (tgt := 21) hx hb dX11_isWord_5 (by decide) (by omega) (by decide) (fun c_2 => ?_) (fun c_2 => ?_)
  · refine lv_iconst (v := iI 0) hx hb dX11_isWord_21 rfl ?_
    exact g_zret hQ C hr hlocks (by decide) hP hS dX11_isWord_22 ⟨0, rfl, rfl, rfl, rfl, (by first | omega | (split <;> omega)), (by first | omega | (split <;> omega))⟩
  · refine lv_aload_n hx hb dX11_isWord_8 rfl (lv_at hl 0 rfl) ?_
    refine mdG_word C hP mF_X11_172 dX11_isWord_9 ?_
    show W p l e (gRm 0 0) s m args below meth c _ _ 0 0 Q (F0 m 12 ls [.long (iL (g 0 0))])
    refine lv_lload_n hx hb dX11_isWord_12 rfl (lv_at hl 1 rfl) ?_
    refine gl_cmpE hx hb (by omega) (by omega) dX11_isWord_13 (fun x_3 hx_3 => ?_)
    refine gi_zne (tgt := 21) hx hb dX11_isWord_14 (by decide) (by omega) (fun c_4 => ?_) (fun c_4 => ?_)
    · refine lv_iconst (v := iI 0) hx hb dX11_isWord_21 rfl ?_
      exact g_zret hQ C hr hlocks (by decide) hP hS dX11_isWord_22 ⟨0, rfl, rfl, rfl, rfl, (by first | omega | (split <;> omega)), (by first | omega | (split <;> omega))⟩
    · refine lv_iconst (v := iI 1) hx hb dX11_isWord_17 rfl ?_
      refine lv_goto (tgt := 22) hx hb dX11_isWord_18 (by decide) ?_
      exact g_zret hQ C hr hlocks (by decide) hP hS dX11_isWord_22 ⟨1, rfl, rfl, rfl, rfl, (by first | omega | (split <;> omega)), (by first | omega | (split <;> omega))⟩

set_option maxHeartbeats 4000000 in
set_option maxRecDepth 100000 in
theorem n_numberOf (l : Launch) (D : va_G) (k : Nat → ClassId) (A : Nat → Prop) (ad : Nat → Nat) (hD : mdD A k ad) (v : gV) (f g : gF) (a1 : Int) (a2 : Int) (B : Int → Int) (pp : Int) (h_a1 : inR a1) (h_a2 : inR a2) (hB : ∀ k, (f 0) k % 256 = B k) (hc : mAt B (v 3) (v 9) (v 10) (v 8) (v 11) ((g 0) 0) pp) (hb0 : (v 6) = 0) (h1 : 0 ≤ a1 ∧ a1 ≤ a2 ∧ a2 ≤ 999) : GM l D k A (mdT k ad) yX11_numberOf cX11_numberOf 4 (some .int) 2 42 [.ref (ad 0), .int (iI a1), .int (iI a2)] v f g (fun r v1 f1 g1 => ∃ (z : Int) (w6 : Int) (w7 : Int) (w8 : Int) (w9 : Int) (w10 : Int) (w11 : Int) (b0_ : Int → Int), r = some (.int (iI z)) ∧ (va_up (va_up (va_up (va_up (va_up (va_up v 6 w6) 7 w7) 8 w8) 9 w9) 10 w10) 11 w11) = v1 ∧ f = f1 ∧ (va_up g 0 b0_) = g1 ∧ (a1 ≤ z ∧ z ≤ a2) ∧ (oM B (v 3) (nm1 B (v 3) a1 a2 pp) w6 w7 w9 w10 w8 w11 (b0_ 0)) ∧ (w6 = 0 → z = (tV B (v 3) pp))) := by
  refine GM.of (by decide) (Nat.le_of_ble_eq_true rfl) ?_
  intro p e s m args below meth c Q ls hQ C hml hr hlocks hP hl
  have hx := C.1
  have hb := C.2.1
  have hok := hP.2
  have hS : va_S A s.heap s.heap [] := va_S.rf
  have hl : lv_has ls 4 [(0, .ref (ad 0)), (1, .int (iI a1)), (2, .int (iI a2))] := hl
  have hP : gWd D (mdT k ad) (va_up (va_up (va_up (va_up (va_up (va_up v 6 (v 6)) 7 (v 7)) 8 (v 8)) 9 (v 9)) 10 (v 10)) 11 (v 11)) f (va_up g 0 (g 0)) s.heap := by rw [va_id, va_id, va_id, va_id, va_id, va_id, va_id]; exact hP
  have hq := hc.of
  have hle := hc.le
  have hfk := fk_rng B (v 3) pp
  have r_1 : 0 ≤ (v 9) ∧ (v 9) ≤ 700 := hok.1 9
  have r_2 : 0 ≤ (v 10) ∧ (v 10) ≤ 700 := hok.1 10
  have r_3 : 0 ≤ (v 3) ∧ (v 3) ≤ 700 := hok.1 3
  have r_4 : 0 ≤ (v 8) ∧ (v 8) ≤ 4 := hok.1 8
  have r_5 : 0 ≤ (v 6) ∧ (v 6) ≤ 5 := hok.1 6
  refine lv_aload_n hx hb dX11_numberOf_0 rfl (lv_at hl 0 rfl) ?_
  refine mdG_sort C hP mF_X11_165 dX11_numberOf_1 ?_
  show W p l e (gRm 2 42) s m args below meth c _ _ 0 0 Q (F0 m 4 ls [.int (iI (v 8))])
  refine lv_iconst (v := iI 2) hx hb dX11_numberOf_4 rfl ?_
  refine gi_ceq (tgt := 14) hx hb dX11_numberOf_5 (by decide) (by omega) (by decide) (fun c_6 => ?_) (fun c_6 => ?_)
  · refine lv_aload_n hx hb dX11_numberOf_14 rfl (lv_at hl 0 rfl) ?_
    refine mdG_number C hP mF_X11_185 dX11_numberOf_15 ?_
    show W p l e (gRm 2 42) s m args below meth c _ _ 0 0 Q (F0 m 18 ls [.int (iI (v 11))])
    have r_7 : 0 ≤ (v 11) ∧ (v 11) ≤ 999999 := hok.1 11
    refine lv_istore_n (lv' := [(3, .int (iI (v 11))), (0, .ref (ad 0)), (1, .int (iI a1)), (2, .int (iI a2))]) hx hb dX11_numberOf_18 rfl hl (by decide) rfl (fun ls hl => ?_)
    refine lv_iload_n hx hb dX11_numberOf_19 rfl (lv_at hl 0 rfl) ?_
    refine lv_iload_n hx hb dX11_numberOf_20 rfl (lv_at hl 2 rfl) ?_
    refine gi_clt (tgt := 29) hx hb dX11_numberOf_21 (by decide) (by omega) (by omega) (fun c_8 => ?_) (fun c_8 => ?_)
    · refine lv_aload_n hx hb dX11_numberOf_29 rfl (lv_at hl 1 rfl) ?_
      refine lv_iconst (v := iI 4) hx hb dX11_numberOf_30 rfl ?_
      refine lv_aload_n hx hb dX11_numberOf_31 rfl (lv_at hl 1 rfl) ?_
      refine mdG_at C hP mF_X11_158 dX11_numberOf_32 ?_
      show W p l e (gRm 2 42) s m args below meth c _ _ 0 0 Q (F0 m 35 ls [.int (iI (v 9)), .int (iI 4), .ref (ad 0)])
      refine g_cv (As := [.int (iI 4), .int (iI (v 9))]) (rest := []) (n := 2) C hml (n_fail l D k A ad hD (va_up (va_up (va_up (va_up (va_up (va_up v 6 (v 6)) 7 (v 7)) 8 (v 8)) 9 (v 9)) 10 (v 10)) 11 (v 11)) f (va_up g 0 (g 0)) 4 (v 9) (by decide) (by omega) (show 1 ≤ (4 : Int) ∧ (4 : Int) ≤ 5 from by omega) (show 0 ≤ (v 9) ∧ (v 9) ≤ 700 from by omega)) mM_X11_194 mI_X11_fail mE_X11_fail mN_X11 mC_X11_fail (by decide +kernel) 0 (ci := 11) rfl rfl hP hS (fun _ h => h) ⟨Nat.le_of_ble_eq_true rfl, Nat.le_of_ble_eq_true rfl⟩ ⟨Nat.zero_le _, Nat.zero_le _⟩ hl.1 rfl rfl (Nat.le_of_ble_eq_true rfl) dX11_numberOf_35 (fun r_9 v_9 f_9 g_9 H locs hq_9 hP _ hS => ?_)
      obtain ⟨w6_9, w7_9, rfl, rfl, rfl, rfl, p0_9, p1_9⟩ := hq_9
      show W p l e (gRm 2 42) s m args below meth c _ _ 0 0 Q (F0 m 38 ls [])
      have hP : gWd D (mdT k ad) (va_up (va_up (va_up (va_up (va_up (va_up v 6 w6_9) 7 w7_9) 8 (v 8)) 9 (v 9)) 10 (v 10)) 11 (v 11)) f (va_up g 0 (g 0)) H := ⟨hP.1, (gR_up (V := mdV) (F := mdF) (gR_up (V := mdV) (F := mdF) (gR_up (V := mdV) (F := mdF) (gR_up (V := mdV) (F := mdF) (gR_up (V := mdV) (F := mdF) (gR_up (V := mdV) (F := mdF) ⟨hok.1, hok.2⟩ 6 (hP.2.1 6)) 7 (hP.2.1 7)) 8 (hP.2.1 8)) 9 (hP.2.1 9)) 10 (hP.2.1 10)) 11 (hP.2.1 11))⟩
      replace p0_9 : (v 6) = 0 → w6_9 = (4 : Int) ∧ w7_9 = (v 9) := p0_9
      replace p1_9 : 0 < (v 6) → w6_9 = (v 6) ∧ w7_9 = (v 7) := p1_9
      have rw6_9 : 0 ≤ w6_9 ∧ w6_9 ≤ 5 := hP.2.1 6
      have rw7_9 : 0 ≤ w7_9 ∧ w7_9 ≤ 700 := hP.2.1 7
      first | replace p0_9 := p0_9 (by omega) | clear p0_9
      first | replace p1_9 := p1_9 (by omega) | clear p1_9
      refine lv_aload_n hx hb dX11_numberOf_38 rfl (lv_at hl 1 rfl) ?_
      refine mdG_bad C hP mF_X11_188 dX11_numberOf_39 ?_
      show W p l e (gRm 2 42) s m args below meth c _ _ 0 0 Q (F0 m 42 ls [.int (iI w6_9)])
      have r_10 : 0 ≤ w6_9 ∧ w6_9 ≤ 5 := hP.2.1 6
      refine gi_zne (tgt := 49) hx hb dX11_numberOf_42 (by decide) (by omega) (fun c_11 => ?_) (fun c_11 => ?_)
      · refine lv_aload_n hx hb dX11_numberOf_49 rfl (lv_at hl 1 rfl) ?_
        refine mdG_bad C hP mF_X11_188 dX11_numberOf_50 ?_
        show W p l e (gRm 2 42) s m args below meth c _ _ 0 0 Q (F0 m 53 ls [.int (iI w6_9)])
        refine gi_zne (tgt := 60) hx hb dX11_numberOf_53 (by decide) (by omega) (fun c_12 => ?_) (fun c_12 => ?_)
        · refine lv_iload_n hx hb dX11_numberOf_60 rfl (lv_at hl 2 rfl) ?_
          exact g_iret hQ C hr hlocks hP hS dX11_numberOf_61 ⟨a1, w6_9, w7_9, (v 8), (v 9), (v 10), (v 11), (g 0), rfl, rfl, rfl, rfl, (by first | omega | (split <;> omega)), (by first | exact oM_ok (nm1_c (by omega) (by omega)) (by omega) hN | exact oM_bad (nm1_b (by omega) (by omega)) (by omega) (by omega) hc | exact oM_bad (nm1_a (by omega)) (by omega) (by omega) hc), (by first | omega | (split <;> omega))⟩
        · refine lv_iload_n hx hb dX11_numberOf_56 rfl (lv_at hl 0 rfl) ?_
          refine lv_goto (tgt := 61) hx hb dX11_numberOf_57 (by decide) ?_
          exact g_iret hQ C hr hlocks hP hS dX11_numberOf_61 ⟨(v 11), w6_9, w7_9, (v 8), (v 9), (v 10), (v 11), (g 0), rfl, rfl, rfl, rfl, (by first | omega | (split <;> omega)), (by first | exact oM_ok (nm1_c (by omega) (by omega)) (by omega) hN | exact oM_bad (nm1_b (by omega) (by omega)) (by omega) (by omega) hc | exact oM_bad (nm1_a (by omega)) (by omega) (by omega) hc), (by first | omega | (split <;> omega))⟩
      · refine lv_aload_n hx hb dX11_numberOf_45 rfl (lv_at hl 1 rfl) ?_
        refine g_cv (As := []) (rest := []) (n := 0) C hml (n_next l D k A ad hD (va_up (va_up (va_up (va_up (va_up (va_up v 6 w6_9) 7 w7_9) 8 (v 8)) 9 (v 9)) 10 (v 10)) 11 (v 11)) f (va_up g 0 (g 0)) B (show ∀ k, (f 0) k % 256 = B k from hB) (show 0 ≤ (v 10) ∧ (v 10) ≤ (v 3) from by omega)) mM_X11_201 mI_X11_next mE_X11_next mN_X11 mC_X11_next (by decide +kernel) 0 (ci := 11) rfl rfl hP hS (fun _ h => h) ⟨Nat.le_of_ble_eq_true rfl, Nat.le_of_ble_eq_true rfl⟩ ⟨Nat.zero_le _, Nat.zero_le _⟩ hl.1 rfl rfl (Nat.le_of_ble_eq_true rfl) dX11_numberOf_46 (fun r_13 v_13 f_13 g_13 H locs hq_13 hP _ hS => ?_)
        obtain ⟨w8_13, w9_13, w10_13, w11_13, b0_13, rfl, rfl, rfl, rfl, p0_13⟩ := hq_13
        show W p l e (gRm 2 42) s m args below meth c _ _ 0 0 Q (F0 m 49 ls [])
        have hP : gWd D (mdT k ad) (va_up (va_up (va_up (va_up (va_up (va_up v 6 w6_9) 7 w7_9) 8 w8_13) 9 w9_13) 10 w10_13) 11 w11_13) f (va_up g 0 b0_13) H := ⟨hP.1, (gR_up (V := mdV) (F := mdF) (gR_up (V := mdV) (F := mdF) (gR_up (V := mdV) (F := mdF) (gR_up (V := mdV) (F := mdF) (gR_up (V := mdV) (F := mdF) (gR_up (V := mdV) (F := mdF) ⟨hok.1, hok.2⟩ 6 (hP.2.1 6)) 7 (hP.2.1 7)) 8 (hP.2.1 8)) 9 (hP.2.1 9)) 10 (hP.2.1 10)) 11 (hP.2.1 11))⟩
        replace p0_13 : mAt B (v 3) w9_13 w10_13 w8_13 w11_13 (b0_13 0) (run bW B (v 3) (v 10)) := p0_13
        have rw8_13 : 0 ≤ w8_13 ∧ w8_13 ≤ 4 := hP.2.1 8
        have rw9_13 : 0 ≤ w9_13 ∧ w9_13 ≤ 700 := hP.2.1 9
        have rw10_13 : 0 ≤ w10_13 ∧ w10_13 ≤ 700 := hP.2.1 10
        have rw11_13 : 0 ≤ w11_13 ∧ w11_13 ≤ 999999 := hP.2.1 11
        have hN : mAt B (v 3) w9_13 w10_13 w8_13 w11_13 (b0_13 0) (tX B (v 3) pp) := by have h := p0_13; rw [hc.bh] at h; exact h
        clear p0_13
        refine lv_aload_n hx hb dX11_numberOf_49 rfl (lv_at hl 1 rfl) ?_
        refine mdG_bad C hP mF_X11_188 dX11_numberOf_50 ?_
        show W p l e (gRm 2 42) s m args below meth c _ _ 0 0 Q (F0 m 53 ls [.int (iI w6_9)])
        refine gi_zne (tgt := 60) hx hb dX11_numberOf_53 (by decide) (by omega) (fun c_14 => ?_) (fun c_14 => ?_)
        · refine lv_iload_n hx hb dX11_numberOf_60 rfl (lv_at hl 2 rfl) ?_
          exact g_iret hQ C hr hlocks hP hS dX11_numberOf_61 ⟨a1, w6_9, w7_9, w8_13, w9_13, w10_13, w11_13, b0_13, rfl, rfl, rfl, rfl, (by first | omega | (split <;> omega)), (by first | exact oM_ok (nm1_c (by omega) (by omega)) (by omega) hN | exact oM_bad (nm1_b (by omega) (by omega)) (by omega) (by omega) hc | exact oM_bad (nm1_a (by omega)) (by omega) (by omega) hc), (by first | omega | (split <;> omega))⟩
        · refine lv_iload_n hx hb dX11_numberOf_56 rfl (lv_at hl 0 rfl) ?_
          refine lv_goto (tgt := 61) hx hb dX11_numberOf_57 (by decide) ?_
          exact g_iret hQ C hr hlocks hP hS dX11_numberOf_61 ⟨(v 11), w6_9, w7_9, w8_13, w9_13, w10_13, w11_13, b0_13, rfl, rfl, rfl, rfl, (by first | omega | (split <;> omega)), (by first | exact oM_ok (nm1_c (by omega) (by omega)) (by omega) hN | exact oM_bad (nm1_b (by omega) (by omega)) (by omega) (by omega) hc | exact oM_bad (nm1_a (by omega)) (by omega) (by omega) hc), (by first | omega | (split <;> omega))⟩
    · refine lv_iload_n hx hb dX11_numberOf_24 rfl (lv_at hl 0 rfl) ?_
      refine lv_iload_n hx hb dX11_numberOf_25 rfl (lv_at hl 3 rfl) ?_
      refine gi_cle (tgt := 38) hx hb dX11_numberOf_26 (by decide) (by omega) (by omega) (fun c_15 => ?_) (fun c_15 => ?_)
      · refine lv_aload_n hx hb dX11_numberOf_38 rfl (lv_at hl 1 rfl) ?_
        refine mdG_bad C hP mF_X11_188 dX11_numberOf_39 ?_
        show W p l e (gRm 2 42) s m args below meth c _ _ 0 0 Q (F0 m 42 ls [.int (iI (v 6))])
        refine gi_zne (tgt := 49) hx hb dX11_numberOf_42 (by decide) (by omega) (fun c_16 => ?_) (fun c_16 => ?_)
        · refine lv_aload_n hx hb dX11_numberOf_49 rfl (lv_at hl 1 rfl) ?_
          refine mdG_bad C hP mF_X11_188 dX11_numberOf_50 ?_
          show W p l e (gRm 2 42) s m args below meth c _ _ 0 0 Q (F0 m 53 ls [.int (iI (v 6))])
          refine gi_zne (tgt := 60) hx hb dX11_numberOf_53 (by decide) (by omega) (fun c_17 => ?_) (fun c_17 => ?_)
          · refine lv_iload_n hx hb dX11_numberOf_60 rfl (lv_at hl 2 rfl) ?_
            exact g_iret hQ C hr hlocks hP hS dX11_numberOf_61 ⟨a1, (v 6), (v 7), (v 8), (v 9), (v 10), (v 11), (g 0), rfl, rfl, rfl, rfl, (by first | omega | (split <;> omega)), (by first | exact oM_ok (nm1_c (by omega) (by omega)) (by omega) hN | exact oM_bad (nm1_b (by omega) (by omega)) (by omega) (by omega) hc | exact oM_bad (nm1_a (by omega)) (by omega) (by omega) hc), (by first | omega | (split <;> omega))⟩
          · refine lv_iload_n hx hb dX11_numberOf_56 rfl (lv_at hl 0 rfl) ?_
            refine lv_goto (tgt := 61) hx hb dX11_numberOf_57 (by decide) ?_
            exact g_iret hQ C hr hlocks hP hS dX11_numberOf_61 ⟨(v 11), (v 6), (v 7), (v 8), (v 9), (v 10), (v 11), (g 0), rfl, rfl, rfl, rfl, (by first | omega | (split <;> omega)), (by first | exact oM_ok (nm1_c (by omega) (by omega)) (by omega) hN | exact oM_bad (nm1_b (by omega) (by omega)) (by omega) (by omega) hc | exact oM_bad (nm1_a (by omega)) (by omega) (by omega) hc), (by first | omega | (split <;> omega))⟩
        · refine lv_aload_n hx hb dX11_numberOf_45 rfl (lv_at hl 1 rfl) ?_
          refine g_cv (As := []) (rest := []) (n := 0) C hml (n_next l D k A ad hD (va_up (va_up (va_up (va_up (va_up (va_up v 6 (v 6)) 7 (v 7)) 8 (v 8)) 9 (v 9)) 10 (v 10)) 11 (v 11)) f (va_up g 0 (g 0)) B (show ∀ k, (f 0) k % 256 = B k from hB) (show 0 ≤ (v 10) ∧ (v 10) ≤ (v 3) from by omega)) mM_X11_201 mI_X11_next mE_X11_next mN_X11 mC_X11_next (by decide +kernel) 0 (ci := 11) rfl rfl hP hS (fun _ h => h) ⟨Nat.le_of_ble_eq_true rfl, Nat.le_of_ble_eq_true rfl⟩ ⟨Nat.zero_le _, Nat.zero_le _⟩ hl.1 rfl rfl (Nat.le_of_ble_eq_true rfl) dX11_numberOf_46 (fun r_18 v_18 f_18 g_18 H locs hq_18 hP _ hS => ?_)
          obtain ⟨w8_18, w9_18, w10_18, w11_18, b0_18, rfl, rfl, rfl, rfl, p0_18⟩ := hq_18
          show W p l e (gRm 2 42) s m args below meth c _ _ 0 0 Q (F0 m 49 ls [])
          have hP : gWd D (mdT k ad) (va_up (va_up (va_up (va_up (va_up (va_up v 6 (v 6)) 7 (v 7)) 8 w8_18) 9 w9_18) 10 w10_18) 11 w11_18) f (va_up g 0 b0_18) H := ⟨hP.1, (gR_up (V := mdV) (F := mdF) (gR_up (V := mdV) (F := mdF) (gR_up (V := mdV) (F := mdF) (gR_up (V := mdV) (F := mdF) (gR_up (V := mdV) (F := mdF) (gR_up (V := mdV) (F := mdF) ⟨hok.1, hok.2⟩ 6 (hP.2.1 6)) 7 (hP.2.1 7)) 8 (hP.2.1 8)) 9 (hP.2.1 9)) 10 (hP.2.1 10)) 11 (hP.2.1 11))⟩
          replace p0_18 : mAt B (v 3) w9_18 w10_18 w8_18 w11_18 (b0_18 0) (run bW B (v 3) (v 10)) := p0_18
          have rw8_18 : 0 ≤ w8_18 ∧ w8_18 ≤ 4 := hP.2.1 8
          have rw9_18 : 0 ≤ w9_18 ∧ w9_18 ≤ 700 := hP.2.1 9
          have rw10_18 : 0 ≤ w10_18 ∧ w10_18 ≤ 700 := hP.2.1 10
          have rw11_18 : 0 ≤ w11_18 ∧ w11_18 ≤ 999999 := hP.2.1 11
          have hN : mAt B (v 3) w9_18 w10_18 w8_18 w11_18 (b0_18 0) (tX B (v 3) pp) := by have h := p0_18; rw [hc.bh] at h; exact h
          clear p0_18
          refine lv_aload_n hx hb dX11_numberOf_49 rfl (lv_at hl 1 rfl) ?_
          refine mdG_bad C hP mF_X11_188 dX11_numberOf_50 ?_
          show W p l e (gRm 2 42) s m args below meth c _ _ 0 0 Q (F0 m 53 ls [.int (iI (v 6))])
          refine gi_zne (tgt := 60) hx hb dX11_numberOf_53 (by decide) (by omega) (fun c_19 => ?_) (fun c_19 => ?_)
          · refine lv_iload_n hx hb dX11_numberOf_60 rfl (lv_at hl 2 rfl) ?_
            exact g_iret hQ C hr hlocks hP hS dX11_numberOf_61 ⟨a1, (v 6), (v 7), w8_18, w9_18, w10_18, w11_18, b0_18, rfl, rfl, rfl, rfl, (by first | omega | (split <;> omega)), (by first | exact oM_ok (nm1_c (by omega) (by omega)) (by omega) hN | exact oM_bad (nm1_b (by omega) (by omega)) (by omega) (by omega) hc | exact oM_bad (nm1_a (by omega)) (by omega) (by omega) hc), (by first | omega | (split <;> omega))⟩
          · refine lv_iload_n hx hb dX11_numberOf_56 rfl (lv_at hl 0 rfl) ?_
            refine lv_goto (tgt := 61) hx hb dX11_numberOf_57 (by decide) ?_
            exact g_iret hQ C hr hlocks hP hS dX11_numberOf_61 ⟨(v 11), (v 6), (v 7), w8_18, w9_18, w10_18, w11_18, b0_18, rfl, rfl, rfl, rfl, (by first | omega | (split <;> omega)), (by first | exact oM_ok (nm1_c (by omega) (by omega)) (by omega) hN | exact oM_bad (nm1_b (by omega) (by omega)) (by omega) (by omega) hc | exact oM_bad (nm1_a (by omega)) (by omega) (by omega) hc), (by first | omega | (split <;> omega))⟩
      · refine lv_aload_n hx hb dX11_numberOf_29 rfl (lv_at hl 1 rfl) ?_
        refine lv_iconst (v := iI 4) hx hb dX11_numberOf_30 rfl ?_
        refine lv_aload_n hx hb dX11_numberOf_31 rfl (lv_at hl 1 rfl) ?_
        refine mdG_at C hP mF_X11_158 dX11_numberOf_32 ?_
        show W p l e (gRm 2 42) s m args below meth c _ _ 0 0 Q (F0 m 35 ls [.int (iI (v 9)), .int (iI 4), .ref (ad 0)])
        refine g_cv (As := [.int (iI 4), .int (iI (v 9))]) (rest := []) (n := 2) C hml (n_fail l D k A ad hD (va_up (va_up (va_up (va_up (va_up (va_up v 6 (v 6)) 7 (v 7)) 8 (v 8)) 9 (v 9)) 10 (v 10)) 11 (v 11)) f (va_up g 0 (g 0)) 4 (v 9) (by decide) (by omega) (show 1 ≤ (4 : Int) ∧ (4 : Int) ≤ 5 from by omega) (show 0 ≤ (v 9) ∧ (v 9) ≤ 700 from by omega)) mM_X11_194 mI_X11_fail mE_X11_fail mN_X11 mC_X11_fail (by decide +kernel) 0 (ci := 11) rfl rfl hP hS (fun _ h => h) ⟨Nat.le_of_ble_eq_true rfl, Nat.le_of_ble_eq_true rfl⟩ ⟨Nat.zero_le _, Nat.zero_le _⟩ hl.1 rfl rfl (Nat.le_of_ble_eq_true rfl) dX11_numberOf_35 (fun r_20 v_20 f_20 g_20 H locs hq_20 hP _ hS => ?_)
        obtain ⟨w6_20, w7_20, rfl, rfl, rfl, rfl, p0_20, p1_20⟩ := hq_20
        show W p l e (gRm 2 42) s m args below meth c _ _ 0 0 Q (F0 m 38 ls [])
        have hP : gWd D (mdT k ad) (va_up (va_up (va_up (va_up (va_up (va_up v 6 w6_20) 7 w7_20) 8 (v 8)) 9 (v 9)) 10 (v 10)) 11 (v 11)) f (va_up g 0 (g 0)) H := ⟨hP.1, (gR_up (V := mdV) (F := mdF) (gR_up (V := mdV) (F := mdF) (gR_up (V := mdV) (F := mdF) (gR_up (V := mdV) (F := mdF) (gR_up (V := mdV) (F := mdF) (gR_up (V := mdV) (F := mdF) ⟨hok.1, hok.2⟩ 6 (hP.2.1 6)) 7 (hP.2.1 7)) 8 (hP.2.1 8)) 9 (hP.2.1 9)) 10 (hP.2.1 10)) 11 (hP.2.1 11))⟩
        replace p0_20 : (v 6) = 0 → w6_20 = (4 : Int) ∧ w7_20 = (v 9) := p0_20
        replace p1_20 : 0 < (v 6) → w6_20 = (v 6) ∧ w7_20 = (v 7) := p1_20
        have rw6_20 : 0 ≤ w6_20 ∧ w6_20 ≤ 5 := hP.2.1 6
        have rw7_20 : 0 ≤ w7_20 ∧ w7_20 ≤ 700 := hP.2.1 7
        first | replace p0_20 := p0_20 (by omega) | clear p0_20
        first | replace p1_20 := p1_20 (by omega) | clear p1_20
        refine lv_aload_n hx hb dX11_numberOf_38 rfl (lv_at hl 1 rfl) ?_
        refine mdG_bad C hP mF_X11_188 dX11_numberOf_39 ?_
        show W p l e (gRm 2 42) s m args below meth c _ _ 0 0 Q (F0 m 42 ls [.int (iI w6_20)])
        have r_21 : 0 ≤ w6_20 ∧ w6_20 ≤ 5 := hP.2.1 6
        refine gi_zne (tgt := 49) hx hb dX11_numberOf_42 (by decide) (by omega) (fun c_22 => ?_) (fun c_22 => ?_)
        · refine lv_aload_n hx hb dX11_numberOf_49 rfl (lv_at hl 1 rfl) ?_
          refine mdG_bad C hP mF_X11_188 dX11_numberOf_50 ?_
          show W p l e (gRm 2 42) s m args below meth c _ _ 0 0 Q (F0 m 53 ls [.int (iI w6_20)])
          refine gi_zne (tgt := 60) hx hb dX11_numberOf_53 (by decide) (by omega) (fun c_23 => ?_) (fun c_23 => ?_)
          · refine lv_iload_n hx hb dX11_numberOf_60 rfl (lv_at hl 2 rfl) ?_
            exact g_iret hQ C hr hlocks hP hS dX11_numberOf_61 ⟨a1, w6_20, w7_20, (v 8), (v 9), (v 10), (v 11), (g 0), rfl, rfl, rfl, rfl, (by first | omega | (split <;> omega)), (by first | exact oM_ok (nm1_c (by omega) (by omega)) (by omega) hN | exact oM_bad (nm1_b (by omega) (by omega)) (by omega) (by omega) hc | exact oM_bad (nm1_a (by omega)) (by omega) (by omega) hc), (by first | omega | (split <;> omega))⟩
          · refine lv_iload_n hx hb dX11_numberOf_56 rfl (lv_at hl 0 rfl) ?_
            refine lv_goto (tgt := 61) hx hb dX11_numberOf_57 (by decide) ?_
            exact g_iret hQ C hr hlocks hP hS dX11_numberOf_61 ⟨(v 11), w6_20, w7_20, (v 8), (v 9), (v 10), (v 11), (g 0), rfl, rfl, rfl, rfl, (by first | omega | (split <;> omega)), (by first | exact oM_ok (nm1_c (by omega) (by omega)) (by omega) hN | exact oM_bad (nm1_b (by omega) (by omega)) (by omega) (by omega) hc | exact oM_bad (nm1_a (by omega)) (by omega) (by omega) hc), (by first | omega | (split <;> omega))⟩
        · refine lv_aload_n hx hb dX11_numberOf_45 rfl (lv_at hl 1 rfl) ?_
          refine g_cv (As := []) (rest := []) (n := 0) C hml (n_next l D k A ad hD (va_up (va_up (va_up (va_up (va_up (va_up v 6 w6_20) 7 w7_20) 8 (v 8)) 9 (v 9)) 10 (v 10)) 11 (v 11)) f (va_up g 0 (g 0)) B (show ∀ k, (f 0) k % 256 = B k from hB) (show 0 ≤ (v 10) ∧ (v 10) ≤ (v 3) from by omega)) mM_X11_201 mI_X11_next mE_X11_next mN_X11 mC_X11_next (by decide +kernel) 0 (ci := 11) rfl rfl hP hS (fun _ h => h) ⟨Nat.le_of_ble_eq_true rfl, Nat.le_of_ble_eq_true rfl⟩ ⟨Nat.zero_le _, Nat.zero_le _⟩ hl.1 rfl rfl (Nat.le_of_ble_eq_true rfl) dX11_numberOf_46 (fun r_24 v_24 f_24 g_24 H locs hq_24 hP _ hS => ?_)
          obtain ⟨w8_24, w9_24, w10_24, w11_24, b0_24, rfl, rfl, rfl, rfl, p0_24⟩ := hq_24
          show W p l e (gRm 2 42) s m args below meth c _ _ 0 0 Q (F0 m 49 ls [])
          have hP : gWd D (mdT k ad) (va_up (va_up (va_up (va_up (va_up (va_up v 6 w6_20) 7 w7_20) 8 w8_24) 9 w9_24) 10 w10_24) 11 w11_24) f (va_up g 0 b0_24) H := ⟨hP.1, (gR_up (V := mdV) (F := mdF) (gR_up (V := mdV) (F := mdF) (gR_up (V := mdV) (F := mdF) (gR_up (V := mdV) (F := mdF) (gR_up (V := mdV) (F := mdF) (gR_up (V := mdV) (F := mdF) ⟨hok.1, hok.2⟩ 6 (hP.2.1 6)) 7 (hP.2.1 7)) 8 (hP.2.1 8)) 9 (hP.2.1 9)) 10 (hP.2.1 10)) 11 (hP.2.1 11))⟩
          replace p0_24 : mAt B (v 3) w9_24 w10_24 w8_24 w11_24 (b0_24 0) (run bW B (v 3) (v 10)) := p0_24
          have rw8_24 : 0 ≤ w8_24 ∧ w8_24 ≤ 4 := hP.2.1 8
          have rw9_24 : 0 ≤ w9_24 ∧ w9_24 ≤ 700 := hP.2.1 9
          have rw10_24 : 0 ≤ w10_24 ∧ w10_24 ≤ 700 := hP.2.1 10
          have rw11_24 : 0 ≤ w11_24 ∧ w11_24 ≤ 999999 := hP.2.1 11
          have hN : mAt B (v 3) w9_24 w10_24 w8_24 w11_24 (b0_24 0) (tX B (v 3) pp) := by have h := p0_24; rw [hc.bh] at h; exact h
          clear p0_24
          refine lv_aload_n hx hb dX11_numberOf_49 rfl (lv_at hl 1 rfl) ?_
          refine mdG_bad C hP mF_X11_188 dX11_numberOf_50 ?_
          show W p l e (gRm 2 42) s m args below meth c _ _ 0 0 Q (F0 m 53 ls [.int (iI w6_20)])
          refine gi_zne (tgt := 60) hx hb dX11_numberOf_53 (by decide) (by omega) (fun c_25 => ?_) (fun c_25 => ?_)
          · refine lv_iload_n hx hb dX11_numberOf_60 rfl (lv_at hl 2 rfl) ?_
            exact g_iret hQ C hr hlocks hP hS dX11_numberOf_61 ⟨a1, w6_20, w7_20, w8_24, w9_24, w10_24, w11_24, b0_24, rfl, rfl, rfl, rfl, (by first | omega | (split <;> omega)), (by first | exact oM_ok (nm1_c (by omega) (by omega)) (by omega) hN | exact oM_bad (nm1_b (by omega) (by omega)) (by omega) (by omega) hc | exact oM_bad (nm1_a (by omega)) (by omega) (by omega) hc), (by first | omega | (split <;> omega))⟩
          · refine lv_iload_n hx hb dX11_numberOf_56 rfl (lv_at hl 0 rfl) ?_
            refine lv_goto (tgt := 61) hx hb dX11_numberOf_57 (by decide) ?_
            exact g_iret hQ C hr hlocks hP hS dX11_numberOf_61 ⟨(v 11), w6_20, w7_20, w8_24, w9_24, w10_24, w11_24, b0_24, rfl, rfl, rfl, rfl, (by first | omega | (split <;> omega)), (by first | exact oM_ok (nm1_c (by omega) (by omega)) (by omega) hN | exact oM_bad (nm1_b (by omega) (by omega)) (by omega) (by omega) hc | exact oM_bad (nm1_a (by omega)) (by omega) (by omega) hc), (by first | omega | (split <;> omega))⟩
  · refine lv_aload_n hx hb dX11_numberOf_8 rfl (lv_at hl 0 rfl) ?_
    refine g_cv (As := []) (rest := []) (n := 0) C hml (n_wrong l D k A ad hD (va_up (va_up (va_up (va_up (va_up (va_up v 6 (v 6)) 7 (v 7)) 8 (v 8)) 9 (v 9)) 10 (v 10)) 11 (v 11)) f (va_up g 0 (g 0))) mM_X11_198 mI_X11_wrong mE_X11_wrong mN_X11 mC_X11_wrong (by decide +kernel) 0 (ci := 11) rfl rfl hP hS (fun _ h => h) ⟨Nat.le_of_ble_eq_true rfl, Nat.le_of_ble_eq_true rfl⟩ ⟨Nat.zero_le _, Nat.zero_le _⟩ hl.1 rfl rfl (Nat.le_of_ble_eq_true rfl) dX11_numberOf_9 (fun r_26 v_26 f_26 g_26 H locs hq_26 hP _ hS => ?_)
    obtain ⟨w6_26, w7_26, rfl, rfl, rfl, rfl, p0_26, p1_26⟩ := hq_26
    show W p l e (gRm 2 42) s m args below meth c _ _ 0 0 Q (F0 m 12 ls [])
    have hP : gWd D (mdT k ad) (va_up (va_up (va_up (va_up (va_up (va_up v 6 w6_26) 7 w7_26) 8 (v 8)) 9 (v 9)) 10 (v 10)) 11 (v 11)) f (va_up g 0 (g 0)) H := ⟨hP.1, (gR_up (V := mdV) (F := mdF) (gR_up (V := mdV) (F := mdF) (gR_up (V := mdV) (F := mdF) (gR_up (V := mdV) (F := mdF) (gR_up (V := mdV) (F := mdF) (gR_up (V := mdV) (F := mdF) ⟨hok.1, hok.2⟩ 6 (hP.2.1 6)) 7 (hP.2.1 7)) 8 (hP.2.1 8)) 9 (hP.2.1 9)) 10 (hP.2.1 10)) 11 (hP.2.1 11))⟩
    replace p0_26 : (v 6) = 0 → w6_26 = (if (v 8) = 4 then 1 else 2) ∧ w7_26 = (v 9) := p0_26
    replace p1_26 : 0 < (v 6) → w6_26 = (v 6) ∧ w7_26 = (v 7) := p1_26
    have rw6_26 : 0 ≤ w6_26 ∧ w6_26 ≤ 5 := hP.2.1 6
    have rw7_26 : 0 ≤ w7_26 ∧ w7_26 ≤ 700 := hP.2.1 7
    first | replace p0_26 := p0_26 (by omega) | clear p0_26
    first | replace p1_26 := p1_26 (by omega) | clear p1_26
    have hwv : (if (v 8) = 4 then (1 : Int) else 2) = (fk B (v 3) pp) := (if h4 : (v 8) = 4 then (by rw [if_pos h4, fk_p (by omega)]) else (by rw [if_neg h4, fk_n (by omega)]))
    refine lv_iload_n hx hb dX11_numberOf_12 rfl (lv_at hl 1 rfl) ?_
    exact g_iret hQ C hr hlocks hP hS dX11_numberOf_13 ⟨a1, w6_26, w7_26, (v 8), (v 9), (v 10), (v 11), (g 0), rfl, rfl, rfl, rfl, (by first | omega | (split <;> omega)), (by first | exact oM_ok (nm1_c (by omega) (by omega)) (by omega) hN | exact oM_bad (nm1_b (by omega) (by omega)) (by omega) (by omega) hc | exact oM_bad (nm1_a (by omega)) (by omega) (by omega) hc), (by first | omega | (split <;> omega))⟩

set_option maxHeartbeats 4000000 in
set_option maxRecDepth 100000 in
theorem n_ends (l : Launch) (D : va_G) (k : Nat → ClassId) (A : Nat → Prop) (ad : Nat → Nat) (hD : mdD A k ad) (v : gV) (f g : gF) (B : Int → Int) (pp : Int) (hB : ∀ k, (f 0) k % 256 = B k) (hc : mAt B (v 3) (v 9) (v 10) (v 8) (v 11) ((g 0) 0) pp) (hb0 : (v 6) = 0) : GM l D k A (mdT k ad) yX11_ends cX11_ends 1 none 2 42 [.ref (ad 0)] v f g (fun r v1 f1 g1 => ∃ (w6 : Int) (w7 : Int) (w8 : Int) (w9 : Int) (w10 : Int) (w11 : Int) (b0_ : Int → Int), r = none ∧ (va_up (va_up (va_up (va_up (va_up (va_up v 6 w6) 7 w7) 8 w8) 9 w9) 10 w10) 11 w11) = v1 ∧ f = f1 ∧ (va_up g 0 b0_) = g1 ∧ (oM B (v 3) (semi B (v 3) (0, pp)) w6 w7 w9 w10 w8 w11 (b0_ 0))) := by
  refine GM.of (by decide) (Nat.le_of_ble_eq_true rfl) ?_
  intro p e s m args below meth c Q ls hQ C hml hr hlocks hP hl
  have hx := C.1
  have hb := C.2.1
  have hok := hP.2
  have hS : va_S A s.heap s.heap [] := va_S.rf
  have hl : lv_has ls 1 [(0, .ref (ad 0))] := hl
  have hP : gWd D (mdT k ad) (va_up (va_up (va_up (va_up (va_up (va_up v 6 (v 6)) 7 (v 7)) 8 (v 8)) 9 (v 9)) 10 (v 10)) 11 (v 11)) f (va_up g 0 (g 0)) s.heap := by rw [va_id, va_id, va_id, va_id, va_id, va_id, va_id]; exact hP
  have hq := hc.of
  have hle := hc.le
  have hfk := fk_rng B (v 3) pp
  have r_1 : 0 ≤ (v 9) ∧ (v 9) ≤ 700 := hok.1 9
  have r_2 : 0 ≤ (v 10) ∧ (v 10) ≤ 700 := hok.1 10
  have r_3 : 0 ≤ (v 3) ∧ (v 3) ≤ 700 := hok.1 3
  have r_4 : 0 ≤ (v 8) ∧ (v 8) ≤ 4 := hok.1 8
  have r_5 : 0 ≤ (v 6) ∧ (v 6) ≤ 5 := hok.1 6
  refine lv_aload_n hx hb dX11_ends_0 rfl (lv_at hl 0 rfl) ?_
  refine lv_bipush (v := iI 59) hx hb dX11_ends_1 (by decide) ?_
  refine g_cv (As := [.int (iI 59)]) (rest := []) (n := 1) C hml (n_isSign l D k A ad hD (va_up (va_up (va_up (va_up (va_up (va_up v 6 (v 6)) 7 (v 7)) 8 (v 8)) 9 (v 9)) 10 (v 10)) 11 (v 11)) f (va_up g 0 (g 0)) 59 (by decide)) mM_X11_204 mI_X11_isSign mE_X11_isSign mN_X11 mC_X11_isSign (by decide +kernel) 0 (ci := 11) rfl rfl hP hS (fun _ h => h) ⟨Nat.le_of_ble_eq_true rfl, Nat.le_of_ble_eq_true rfl⟩ ⟨Nat.zero_le _, Nat.zero_le _⟩ hl.1 rfl rfl (Nat.le_of_ble_eq_true rfl) dX11_ends_3 (fun r_6 v_6 f_6 g_6 H locs hq_6 hP _ hS => ?_)
  obtain ⟨z_6, rfl, rfl, rfl, rfl, p0_6⟩ := hq_6
  show W p l e (gRm 2 42) s m args below meth c _ _ 0 0 Q (F0 m 6 ls [.int (iI z_6)])
  replace p0_6 : z_6 = (if (v 8) = 3 ∧ (v 11) = (59 : Int) then 1 else 0) := p0_6
  have w_6 := gif (P := (v 8) = 3 ∧ (v 11) = (59 : Int)) p0_6
  have hz_6 : inR z_6 := (by first | omega | (rw [p0_6]; split <;> omega))
  refine gi_zne (tgt := 16) hx hb dX11_ends_6 (by decide) (by omega) (fun c_7 => ?_) (fun c_7 => ?_)
  · refine lv_aload_n hx hb dX11_ends_16 rfl (lv_at hl 0 rfl) ?_
    refine g_cv (As := []) (rest := []) (n := 0) C hml (n_next l D k A ad hD (va_up (va_up (va_up (va_up (va_up (va_up v 6 (v 6)) 7 (v 7)) 8 (v 8)) 9 (v 9)) 10 (v 10)) 11 (v 11)) f (va_up g 0 (g 0)) B (show ∀ k, (f 0) k % 256 = B k from hB) (show 0 ≤ (v 10) ∧ (v 10) ≤ (v 3) from by omega)) mM_X11_201 mI_X11_next mE_X11_next mN_X11 mC_X11_next (by decide +kernel) 0 (ci := 11) rfl rfl hP hS (fun _ h => h) ⟨Nat.le_of_ble_eq_true rfl, Nat.le_of_ble_eq_true rfl⟩ ⟨Nat.zero_le _, Nat.zero_le _⟩ hl.1 rfl rfl (Nat.le_of_ble_eq_true rfl) dX11_ends_17 (fun r_8 v_8 f_8 g_8 H locs hq_8 hP _ hS => ?_)
    obtain ⟨w8_8, w9_8, w10_8, w11_8, b0_8, rfl, rfl, rfl, rfl, p0_8⟩ := hq_8
    show W p l e (gRm 2 42) s m args below meth c _ _ 0 0 Q (F0 m 20 ls [])
    have hP : gWd D (mdT k ad) (va_up (va_up (va_up (va_up (va_up (va_up v 6 (v 6)) 7 (v 7)) 8 w8_8) 9 w9_8) 10 w10_8) 11 w11_8) f (va_up g 0 b0_8) H := ⟨hP.1, (gR_up (V := mdV) (F := mdF) (gR_up (V := mdV) (F := mdF) (gR_up (V := mdV) (F := mdF) (gR_up (V := mdV) (F := mdF) (gR_up (V := mdV) (F := mdF) (gR_up (V := mdV) (F := mdF) ⟨hok.1, hok.2⟩ 6 (hP.2.1 6)) 7 (hP.2.1 7)) 8 (hP.2.1 8)) 9 (hP.2.1 9)) 10 (hP.2.1 10)) 11 (hP.2.1 11))⟩
    replace p0_8 : mAt B (v 3) w9_8 w10_8 w8_8 w11_8 (b0_8 0) (run bW B (v 3) (v 10)) := p0_8
    have rw8_8 : 0 ≤ w8_8 ∧ w8_8 ≤ 4 := hP.2.1 8
    have rw9_8 : 0 ≤ w9_8 ∧ w9_8 ≤ 700 := hP.2.1 9
    have rw10_8 : 0 ≤ w10_8 ∧ w10_8 ≤ 700 := hP.2.1 10
    have rw11_8 : 0 ≤ w11_8 ∧ w11_8 ≤ 999999 := hP.2.1 11
    have hN : mAt B (v 3) w9_8 w10_8 w8_8 w11_8 (b0_8 0) (tX B (v 3) pp) := by have h := p0_8; rw [hc.bh] at h; exact h
    clear p0_8
    exact g_vret hQ C hr hlocks hP hS dX11_ends_20 ⟨(v 6), (v 7), w8_8, w9_8, w10_8, w11_8, b0_8, rfl, rfl, rfl, rfl, (by first | exact oM_ok (semi_ok (by omega)) (by omega) hN | exact oM_bad (semi_no (by omega)) (by omega) (by omega) hc)⟩
  · refine lv_aload_n hx hb dX11_ends_9 rfl (lv_at hl 0 rfl) ?_
    refine g_cv (As := []) (rest := []) (n := 0) C hml (n_wrong l D k A ad hD (va_up (va_up (va_up (va_up (va_up (va_up v 6 (v 6)) 7 (v 7)) 8 (v 8)) 9 (v 9)) 10 (v 10)) 11 (v 11)) f (va_up g 0 (g 0))) mM_X11_198 mI_X11_wrong mE_X11_wrong mN_X11 mC_X11_wrong (by decide +kernel) 0 (ci := 11) rfl rfl hP hS (fun _ h => h) ⟨Nat.le_of_ble_eq_true rfl, Nat.le_of_ble_eq_true rfl⟩ ⟨Nat.zero_le _, Nat.zero_le _⟩ hl.1 rfl rfl (Nat.le_of_ble_eq_true rfl) dX11_ends_10 (fun r_9 v_9 f_9 g_9 H locs hq_9 hP _ hS => ?_)
    obtain ⟨w6_9, w7_9, rfl, rfl, rfl, rfl, p0_9, p1_9⟩ := hq_9
    show W p l e (gRm 2 42) s m args below meth c _ _ 0 0 Q (F0 m 13 ls [])
    have hP : gWd D (mdT k ad) (va_up (va_up (va_up (va_up (va_up (va_up v 6 w6_9) 7 w7_9) 8 (v 8)) 9 (v 9)) 10 (v 10)) 11 (v 11)) f (va_up g 0 (g 0)) H := ⟨hP.1, (gR_up (V := mdV) (F := mdF) (gR_up (V := mdV) (F := mdF) (gR_up (V := mdV) (F := mdF) (gR_up (V := mdV) (F := mdF) (gR_up (V := mdV) (F := mdF) (gR_up (V := mdV) (F := mdF) ⟨hok.1, hok.2⟩ 6 (hP.2.1 6)) 7 (hP.2.1 7)) 8 (hP.2.1 8)) 9 (hP.2.1 9)) 10 (hP.2.1 10)) 11 (hP.2.1 11))⟩
    replace p0_9 : (v 6) = 0 → w6_9 = (if (v 8) = 4 then 1 else 2) ∧ w7_9 = (v 9) := p0_9
    replace p1_9 : 0 < (v 6) → w6_9 = (v 6) ∧ w7_9 = (v 7) := p1_9
    have rw6_9 : 0 ≤ w6_9 ∧ w6_9 ≤ 5 := hP.2.1 6
    have rw7_9 : 0 ≤ w7_9 ∧ w7_9 ≤ 700 := hP.2.1 7
    first | replace p0_9 := p0_9 (by omega) | clear p0_9
    first | replace p1_9 := p1_9 (by omega) | clear p1_9
    have hwv : (if (v 8) = 4 then (1 : Int) else 2) = (fk B (v 3) pp) := (if h4 : (v 8) = 4 then (by rw [if_pos h4, fk_p (by omega)]) else (by rw [if_neg h4, fk_n (by omega)]))
    refine lv_goto (tgt := 20) hx hb dX11_ends_13 (by decide) ?_
    exact g_vret hQ C hr hlocks hP hS dX11_ends_20 ⟨w6_9, w7_9, (v 8), (v 9), (v 10), (v 11), (g 0), rfl, rfl, rfl, rfl, (by first | exact oM_ok (semi_ok (by omega)) (by omega) hN | exact oM_bad (semi_no (by omega)) (by omega) (by omega) hc)⟩

set_option maxHeartbeats 4000000 in
set_option maxRecDepth 100000 in
theorem n_lawOf (l : Launch) (D : va_G) (k : Nat → ClassId) (A : Nat → Prop) (ad : Nat → Nat) (hD : mdD A k ad) (v : gV) (f g : gF) (B : Int → Int) (pp : Int) (hc : mAt B (v 3) (v 9) (v 10) (v 8) (v 11) ((g 0) 0) pp) : GM l D k A (mdT k ad) yX11_lawOf cX11_lawOf 1 (some .int) 1 28 [.ref (ad 0)] v f g (fun r v1 f1 g1 => ∃ (z : Int), r = some (.int (iI z)) ∧ v = v1 ∧ f = f1 ∧ g = g1 ∧ ((-1) ≤ z ∧ z ≤ 3) ∧ (z = 0 ↔ (tK B (v 3) pp) = 260) ∧ (z = 1 ↔ (tK B (v 3) pp) = 261) ∧ (z = 2 ↔ (tK B (v 3) pp) = 262) ∧ (z = 3 ↔ (tK B (v 3) pp) = 263)) := by
  refine GM.of (by decide) (Nat.le_of_ble_eq_true rfl) ?_
  intro p e s m args below meth c Q ls hQ C hml hr hlocks hP hl
  have hx := C.1
  have hb := C.2.1
  have hok := hP.2
  have hS : va_S A s.heap s.heap [] := va_S.rf
  have hl : lv_has ls 1 [(0, .ref (ad 0))] := hl
  refine lv_aload_n hx hb dX11_lawOf_0 rfl (lv_at hl 0 rfl) ?_
  refine lv_bipush (v := iI 114) hx hb dX11_lawOf_1 (by decide) ?_
  refine lv_bipush (v := iI 111) hx hb dX11_lawOf_3 (by decide) ?_
  refine lv_bipush (v := iI 117) hx hb dX11_lawOf_5 (by decide) ?_
  refine lv_bipush (v := iI 110) hx hb dX11_lawOf_7 (by decide) ?_
  refine lv_bipush (v := iI 100) hx hb dX11_lawOf_9 (by decide) ?_
  refine lv_iconst (v := iI 0) hx hb dX11_lawOf_11 rfl ?_
  refine lv_iconst (v := iI 0) hx hb dX11_lawOf_12 rfl ?_
  refine g_cs (As := [.int (iI 114), .int (iI 111), .int (iI 117), .int (iI 110), .int (iI 100), .int (iI 0), .int (iI 0)]) (rest := [.ref (ad 0)]) (n := 7) C hml (n_spelled l D k A ad hD v f g 114 111 117 110 100 0 0 (by decide) (by decide) (by decide) (by decide) (by decide) (by decide) (by decide)) mM_X11_228 mS_X11_spelled mN_X11 mC_X11_spelled (by decide +kernel) hP hS (fun _ h => h) ⟨Nat.le_of_ble_eq_true rfl, Nat.le_of_ble_eq_true rfl⟩ ⟨Nat.zero_le _, Nat.zero_le _⟩ hl.1 rfl rfl (Nat.le_of_ble_eq_true rfl) dX11_lawOf_13 (fun r_1 v_1 f_1 g_1 H locs hq_1 hP _ hS => ?_)
  obtain ⟨z_1, rfl, rfl, rfl, rfl, p0_1⟩ := hq_1
  show W p l e (gRm 1 28) s m args below meth c _ _ 0 0 Q (F0 m 16 ls [.long (iL z_1), .ref (ad 0)])
  replace p0_1 : z_1 = (spW (114 : Int) (111 : Int) (117 : Int) (110 : Int) (100 : Int) (0 : Int) (0 : Int)) := p0_1
  have hsp := p0_1
  clear p0_1
  refine g_cv (As := [.long (iL z_1)]) (rest := []) (n := 1) C hml (n_isW l D k A ad hD v f g z_1 B pp 0 (show mAt B (v 3) (v 9) (v 10) (v 8) (v 11) ((g 0) 0) pp from hc) (show z_1 = hW 0 ∧ 0 < 18 from ⟨by rw [hsp]; decide +kernel, by decide⟩)) mM_X11_232 mI_X11_isWord mE_X11_isWord mN_X11 mC_X11_isWord (by decide +kernel) 0 (ci := 11) rfl rfl hP hS (fun _ h => h) ⟨Nat.le_of_ble_eq_true rfl, Nat.le_of_ble_eq_true rfl⟩ ⟨Nat.zero_le _, Nat.zero_le _⟩ hl.1 rfl rfl (Nat.le_of_ble_eq_true rfl) dX11_lawOf_16 (fun r_2 v_2 f_2 g_2 H locs hq_2 hP _ hS => ?_)
  obtain ⟨z_2, rfl, rfl, rfl, rfl, p0_2, p1_2⟩ := hq_2
  show W p l e (gRm 1 28) s m args below meth c _ _ 0 0 Q (F0 m 19 ls [.int (iI z_2)])
  replace p0_2 : 0 ≤ z_2 ∧ z_2 ≤ 1 := p0_2
  replace p1_2 : z_2 = 1 ↔ (tK B (v 3) pp) = 260 + (0 : Int) := p1_2
  refine gi_zeq (tgt := 24) hx hb dX11_lawOf_19 (by decide) (by omega) (fun c_3 => ?_) (fun c_3 => ?_)
  · refine lv_aload_n hx hb dX11_lawOf_24 rfl (lv_at hl 0 rfl) ?_
    refine lv_bipush (v := iI 112) hx hb dX11_lawOf_25 (by decide) ?_
    refine lv_bipush (v := iI 111) hx hb dX11_lawOf_27 (by decide) ?_
    refine lv_bipush (v := iI 105) hx hb dX11_lawOf_29 (by decide) ?_
    refine lv_bipush (v := iI 110) hx hb dX11_lawOf_31 (by decide) ?_
    refine lv_bipush (v := iI 116) hx hb dX11_lawOf_33 (by decide) ?_
    refine lv_bipush (v := iI 115) hx hb dX11_lawOf_35 (by decide) ?_
    refine lv_iconst (v := iI 0) hx hb dX11_lawOf_37 rfl ?_
    refine g_cs (As := [.int (iI 112), .int (iI 111), .int (iI 105), .int (iI 110), .int (iI 116), .int (iI 115), .int (iI 0)]) (rest := [.ref (ad 0)]) (n := 7) C hml (n_spelled l D k A ad hD v f g 112 111 105 110 116 115 0 (by decide) (by decide) (by decide) (by decide) (by decide) (by decide) (by decide)) mM_X11_228 mS_X11_spelled mN_X11 mC_X11_spelled (by decide +kernel) hP hS (fun _ h => h) ⟨Nat.le_of_ble_eq_true rfl, Nat.le_of_ble_eq_true rfl⟩ ⟨Nat.zero_le _, Nat.zero_le _⟩ hl.1 rfl rfl (Nat.le_of_ble_eq_true rfl) dX11_lawOf_38 (fun r_4 v_4 f_4 g_4 H locs hq_4 hP _ hS => ?_)
    obtain ⟨z_4, rfl, rfl, rfl, rfl, p0_4⟩ := hq_4
    show W p l e (gRm 1 28) s m args below meth c _ _ 0 0 Q (F0 m 41 ls [.long (iL z_4), .ref (ad 0)])
    replace p0_4 : z_4 = (spW (112 : Int) (111 : Int) (105 : Int) (110 : Int) (116 : Int) (115 : Int) (0 : Int)) := p0_4
    have hsp := p0_4
    clear p0_4
    refine g_cv (As := [.long (iL z_4)]) (rest := []) (n := 1) C hml (n_isW l D k A ad hD v f g z_4 B pp 1 (show mAt B (v 3) (v 9) (v 10) (v 8) (v 11) ((g 0) 0) pp from hc) (show z_4 = hW 1 ∧ 1 < 18 from ⟨by rw [hsp]; decide +kernel, by decide⟩)) mM_X11_232 mI_X11_isWord mE_X11_isWord mN_X11 mC_X11_isWord (by decide +kernel) 0 (ci := 11) rfl rfl hP hS (fun _ h => h) ⟨Nat.le_of_ble_eq_true rfl, Nat.le_of_ble_eq_true rfl⟩ ⟨Nat.zero_le _, Nat.zero_le _⟩ hl.1 rfl rfl (Nat.le_of_ble_eq_true rfl) dX11_lawOf_41 (fun r_5 v_5 f_5 g_5 H locs hq_5 hP _ hS => ?_)
    obtain ⟨z_5, rfl, rfl, rfl, rfl, p0_5, p1_5⟩ := hq_5
    show W p l e (gRm 1 28) s m args below meth c _ _ 0 0 Q (F0 m 44 ls [.int (iI z_5)])
    replace p0_5 : 0 ≤ z_5 ∧ z_5 ≤ 1 := p0_5
    replace p1_5 : z_5 = 1 ↔ (tK B (v 3) pp) = 260 + (1 : Int) := p1_5
    refine gi_zeq (tgt := 49) hx hb dX11_lawOf_44 (by decide) (by omega) (fun c_6 => ?_) (fun c_6 => ?_)
    · refine lv_aload_n hx hb dX11_lawOf_49 rfl (lv_at hl 0 rfl) ?_
      refine lv_bipush (v := iI 107) hx hb dX11_lawOf_50 (by decide) ?_
      refine lv_bipush (v := iI 101) hx hb dX11_lawOf_52 (by decide) ?_
      refine lv_bipush (v := iI 121) hx hb dX11_lawOf_54 (by decide) ?_
      refine lv_bipush (v := iI 115) hx hb dX11_lawOf_56 (by decide) ?_
      refine lv_iconst (v := iI 0) hx hb dX11_lawOf_58 rfl ?_
      refine lv_iconst (v := iI 0) hx hb dX11_lawOf_59 rfl ?_
      refine lv_iconst (v := iI 0) hx hb dX11_lawOf_60 rfl ?_
      refine g_cs (As := [.int (iI 107), .int (iI 101), .int (iI 121), .int (iI 115), .int (iI 0), .int (iI 0), .int (iI 0)]) (rest := [.ref (ad 0)]) (n := 7) C hml (n_spelled l D k A ad hD v f g 107 101 121 115 0 0 0 (by decide) (by decide) (by decide) (by decide) (by decide) (by decide) (by decide)) mM_X11_228 mS_X11_spelled mN_X11 mC_X11_spelled (by decide +kernel) hP hS (fun _ h => h) ⟨Nat.le_of_ble_eq_true rfl, Nat.le_of_ble_eq_true rfl⟩ ⟨Nat.zero_le _, Nat.zero_le _⟩ hl.1 rfl rfl (Nat.le_of_ble_eq_true rfl) dX11_lawOf_61 (fun r_7 v_7 f_7 g_7 H locs hq_7 hP _ hS => ?_)
      obtain ⟨z_7, rfl, rfl, rfl, rfl, p0_7⟩ := hq_7
      show W p l e (gRm 1 28) s m args below meth c _ _ 0 0 Q (F0 m 64 ls [.long (iL z_7), .ref (ad 0)])
      replace p0_7 : z_7 = (spW (107 : Int) (101 : Int) (121 : Int) (115 : Int) (0 : Int) (0 : Int) (0 : Int)) := p0_7
      have hsp := p0_7
      clear p0_7
      refine g_cv (As := [.long (iL z_7)]) (rest := []) (n := 1) C hml (n_isW l D k A ad hD v f g z_7 B pp 2 (show mAt B (v 3) (v 9) (v 10) (v 8) (v 11) ((g 0) 0) pp from hc) (show z_7 = hW 2 ∧ 2 < 18 from ⟨by rw [hsp]; decide +kernel, by decide⟩)) mM_X11_232 mI_X11_isWord mE_X11_isWord mN_X11 mC_X11_isWord (by decide +kernel) 0 (ci := 11) rfl rfl hP hS (fun _ h => h) ⟨Nat.le_of_ble_eq_true rfl, Nat.le_of_ble_eq_true rfl⟩ ⟨Nat.zero_le _, Nat.zero_le _⟩ hl.1 rfl rfl (Nat.le_of_ble_eq_true rfl) dX11_lawOf_64 (fun r_8 v_8 f_8 g_8 H locs hq_8 hP _ hS => ?_)
      obtain ⟨z_8, rfl, rfl, rfl, rfl, p0_8, p1_8⟩ := hq_8
      show W p l e (gRm 1 28) s m args below meth c _ _ 0 0 Q (F0 m 67 ls [.int (iI z_8)])
      replace p0_8 : 0 ≤ z_8 ∧ z_8 ≤ 1 := p0_8
      replace p1_8 : z_8 = 1 ↔ (tK B (v 3) pp) = 260 + (2 : Int) := p1_8
      refine gi_zeq (tgt := 72) hx hb dX11_lawOf_67 (by decide) (by omega) (fun c_9 => ?_) (fun c_9 => ?_)
      · refine lv_aload_n hx hb dX11_lawOf_72 rfl (lv_at hl 0 rfl) ?_
        refine lv_bipush (v := iI 116) hx hb dX11_lawOf_73 (by decide) ?_
        refine lv_bipush (v := iI 105) hx hb dX11_lawOf_75 (by decide) ?_
        refine lv_bipush (v := iI 101) hx hb dX11_lawOf_77 (by decide) ?_
        refine lv_bipush (v := iI 115) hx hb dX11_lawOf_79 (by decide) ?_
        refine lv_iconst (v := iI 0) hx hb dX11_lawOf_81 rfl ?_
        refine lv_iconst (v := iI 0) hx hb dX11_lawOf_82 rfl ?_
        refine lv_iconst (v := iI 0) hx hb dX11_lawOf_83 rfl ?_
        refine g_cs (As := [.int (iI 116), .int (iI 105), .int (iI 101), .int (iI 115), .int (iI 0), .int (iI 0), .int (iI 0)]) (rest := [.ref (ad 0)]) (n := 7) C hml (n_spelled l D k A ad hD v f g 116 105 101 115 0 0 0 (by decide) (by decide) (by decide) (by decide) (by decide) (by decide) (by decide)) mM_X11_228 mS_X11_spelled mN_X11 mC_X11_spelled (by decide +kernel) hP hS (fun _ h => h) ⟨Nat.le_of_ble_eq_true rfl, Nat.le_of_ble_eq_true rfl⟩ ⟨Nat.zero_le _, Nat.zero_le _⟩ hl.1 rfl rfl (Nat.le_of_ble_eq_true rfl) dX11_lawOf_84 (fun r_10 v_10 f_10 g_10 H locs hq_10 hP _ hS => ?_)
        obtain ⟨z_10, rfl, rfl, rfl, rfl, p0_10⟩ := hq_10
        show W p l e (gRm 1 28) s m args below meth c _ _ 0 0 Q (F0 m 87 ls [.long (iL z_10), .ref (ad 0)])
        replace p0_10 : z_10 = (spW (116 : Int) (105 : Int) (101 : Int) (115 : Int) (0 : Int) (0 : Int) (0 : Int)) := p0_10
        have hsp := p0_10
        clear p0_10
        refine g_cv (As := [.long (iL z_10)]) (rest := []) (n := 1) C hml (n_isW l D k A ad hD v f g z_10 B pp 3 (show mAt B (v 3) (v 9) (v 10) (v 8) (v 11) ((g 0) 0) pp from hc) (show z_10 = hW 3 ∧ 3 < 18 from ⟨by rw [hsp]; decide +kernel, by decide⟩)) mM_X11_232 mI_X11_isWord mE_X11_isWord mN_X11 mC_X11_isWord (by decide +kernel) 0 (ci := 11) rfl rfl hP hS (fun _ h => h) ⟨Nat.le_of_ble_eq_true rfl, Nat.le_of_ble_eq_true rfl⟩ ⟨Nat.zero_le _, Nat.zero_le _⟩ hl.1 rfl rfl (Nat.le_of_ble_eq_true rfl) dX11_lawOf_87 (fun r_11 v_11 f_11 g_11 H locs hq_11 hP _ hS => ?_)
        obtain ⟨z_11, rfl, rfl, rfl, rfl, p0_11, p1_11⟩ := hq_11
        show W p l e (gRm 1 28) s m args below meth c _ _ 0 0 Q (F0 m 90 ls [.int (iI z_11)])
        replace p0_11 : 0 ≤ z_11 ∧ z_11 ≤ 1 := p0_11
        replace p1_11 : z_11 = 1 ↔ (tK B (v 3) pp) = 260 + (3 : Int) := p1_11
        refine gi_zeq (tgt := 97) hx hb dX11_lawOf_90 (by decide) (by omega) (fun c_12 => ?_) (fun c_12 => ?_)
        · refine lv_iconst (v := iI (-1)) hx hb dX11_lawOf_97 rfl ?_
          exact g_iret hQ C hr hlocks hP hS dX11_lawOf_98 ⟨(-1), rfl, rfl, rfl, rfl, (by first | omega | (split <;> omega)), (by first | omega | (split <;> omega)), (by first | omega | (split <;> omega)), (by first | omega | (split <;> omega)), (by first | omega | (split <;> omega))⟩
        · refine lv_iconst (v := iI 3) hx hb dX11_lawOf_93 rfl ?_
          refine lv_goto (tgt := 98) hx hb dX11_lawOf_94 (by decide) ?_
          exact g_iret hQ C hr hlocks hP hS dX11_lawOf_98 ⟨3, rfl, rfl, rfl, rfl, (by first | omega | (split <;> omega)), (by first | omega | (split <;> omega)), (by first | omega | (split <;> omega)), (by first | omega | (split <;> omega)), (by first | omega | (split <;> omega))⟩
      · refine lv_iconst (v := iI 2) hx hb dX11_lawOf_70 rfl ?_
        exact g_iret hQ C hr hlocks hP hS dX11_lawOf_71 ⟨2, rfl, rfl, rfl, rfl, (by first | omega | (split <;> omega)), (by first | omega | (split <;> omega)), (by first | omega | (split <;> omega)), (by first | omega | (split <;> omega)), (by first | omega | (split <;> omega))⟩
    · refine lv_iconst (v := iI 1) hx hb dX11_lawOf_47 rfl ?_
      exact g_iret hQ C hr hlocks hP hS dX11_lawOf_48 ⟨1, rfl, rfl, rfl, rfl, (by first | omega | (split <;> omega)), (by first | omega | (split <;> omega)), (by first | omega | (split <;> omega)), (by first | omega | (split <;> omega)), (by first | omega | (split <;> omega))⟩
  · refine lv_iconst (v := iI 0) hx hb dX11_lawOf_22 rfl ?_
    exact g_iret hQ C hr hlocks hP hS dX11_lawOf_23 ⟨0, rfl, rfl, rfl, rfl, (by first | omega | (split <;> omega)), (by first | omega | (split <;> omega)), (by first | omega | (split <;> omega)), (by first | omega | (split <;> omega)), (by first | omega | (split <;> omega))⟩

set_option maxHeartbeats 4000000 in
set_option maxRecDepth 100000 in
theorem n_nameOf (l : Launch) (D : va_G) (k : Nat → ClassId) (A : Nat → Prop) (ad : Nat → Nat) (hD : mdD A k ad) (v : gV) (f g : gF) (B : Int → Int) (pp : Int) (hc : mAt B (v 3) (v 9) (v 10) (v 8) (v 11) ((g 0) 0) pp) : GM l D k A (mdT k ad) yX11_nameOf cX11_nameOf 1 (some .int) 1 28 [.ref (ad 0)] v f g (fun r v1 f1 g1 => ∃ (z : Int), r = some (.int (iI z)) ∧ v = v1 ∧ f = f1 ∧ g = g1 ∧ ((-1) ≤ z ∧ z ≤ 6) ∧ (0 < z ↔ (272 ≤ (tK B (v 3) pp) ∧ (tK B (v 3) pp) ≤ 277)) ∧ (0 < z → z = (tK B (v 3) pp) - 271)) := by
  refine GM.of (by decide) (Nat.le_of_ble_eq_true rfl) ?_
  intro p e s m args below meth c Q ls hQ C hml hr hlocks hP hl
  have hx := C.1
  have hb := C.2.1
  have hok := hP.2
  have hS : va_S A s.heap s.heap [] := va_S.rf
  have hl : lv_has ls 1 [(0, .ref (ad 0))] := hl
  have hkr := tK_rng B (v 3) pp
  refine lv_aload_n hx hb dX11_nameOf_0 rfl (lv_at hl 0 rfl) ?_
  refine lv_bipush (v := iI 116) hx hb dX11_nameOf_1 (by decide) ?_
  refine lv_bipush (v := iI 111) hx hb dX11_nameOf_3 (by decide) ?_
  refine lv_bipush (v := iI 112) hx hb dX11_nameOf_5 (by decide) ?_
  refine lv_iconst (v := iI 0) hx hb dX11_nameOf_7 rfl ?_
  refine lv_iconst (v := iI 0) hx hb dX11_nameOf_8 rfl ?_
  refine lv_iconst (v := iI 0) hx hb dX11_nameOf_9 rfl ?_
  refine lv_iconst (v := iI 0) hx hb dX11_nameOf_10 rfl ?_
  refine g_cs (As := [.int (iI 116), .int (iI 111), .int (iI 112), .int (iI 0), .int (iI 0), .int (iI 0), .int (iI 0)]) (rest := [.ref (ad 0)]) (n := 7) C hml (n_spelled l D k A ad hD v f g 116 111 112 0 0 0 0 (by decide) (by decide) (by decide) (by decide) (by decide) (by decide) (by decide)) mM_X11_228 mS_X11_spelled mN_X11 mC_X11_spelled (by decide +kernel) hP hS (fun _ h => h) ⟨Nat.le_of_ble_eq_true rfl, Nat.le_of_ble_eq_true rfl⟩ ⟨Nat.zero_le _, Nat.zero_le _⟩ hl.1 rfl rfl (Nat.le_of_ble_eq_true rfl) dX11_nameOf_11 (fun r_1 v_1 f_1 g_1 H locs hq_1 hP _ hS => ?_)
  obtain ⟨z_1, rfl, rfl, rfl, rfl, p0_1⟩ := hq_1
  show W p l e (gRm 1 28) s m args below meth c _ _ 0 0 Q (F0 m 14 ls [.long (iL z_1), .ref (ad 0)])
  replace p0_1 : z_1 = (spW (116 : Int) (111 : Int) (112 : Int) (0 : Int) (0 : Int) (0 : Int) (0 : Int)) := p0_1
  have hsp := p0_1
  clear p0_1
  refine g_cv (As := [.long (iL z_1)]) (rest := []) (n := 1) C hml (n_isW l D k A ad hD v f g z_1 B pp 12 (show mAt B (v 3) (v 9) (v 10) (v 8) (v 11) ((g 0) 0) pp from hc) (show z_1 = hW 12 ∧ 12 < 18 from ⟨by rw [hsp]; decide +kernel, by decide⟩)) mM_X11_232 mI_X11_isWord mE_X11_isWord mN_X11 mC_X11_isWord (by decide +kernel) 0 (ci := 11) rfl rfl hP hS (fun _ h => h) ⟨Nat.le_of_ble_eq_true rfl, Nat.le_of_ble_eq_true rfl⟩ ⟨Nat.zero_le _, Nat.zero_le _⟩ hl.1 rfl rfl (Nat.le_of_ble_eq_true rfl) dX11_nameOf_14 (fun r_2 v_2 f_2 g_2 H locs hq_2 hP _ hS => ?_)
  obtain ⟨z_2, rfl, rfl, rfl, rfl, p0_2, p1_2⟩ := hq_2
  show W p l e (gRm 1 28) s m args below meth c _ _ 0 0 Q (F0 m 17 ls [.int (iI z_2)])
  replace p0_2 : 0 ≤ z_2 ∧ z_2 ≤ 1 := p0_2
  replace p1_2 : z_2 = 1 ↔ (tK B (v 3) pp) = 260 + (12 : Int) := p1_2
  refine gi_zeq (tgt := 22) hx hb dX11_nameOf_17 (by decide) (by omega) (fun c_3 => ?_) (fun c_3 => ?_)
  · refine lv_aload_n hx hb dX11_nameOf_22 rfl (lv_at hl 0 rfl) ?_
    refine lv_bipush (v := iI 122) hx hb dX11_nameOf_23 (by decide) ?_
    refine lv_bipush (v := iI 111) hx hb dX11_nameOf_25 (by decide) ?_
    refine lv_bipush (v := iI 110) hx hb dX11_nameOf_27 (by decide) ?_
    refine lv_bipush (v := iI 101) hx hb dX11_nameOf_29 (by decide) ?_
    refine lv_iconst (v := iI 0) hx hb dX11_nameOf_31 rfl ?_
    refine lv_iconst (v := iI 0) hx hb dX11_nameOf_32 rfl ?_
    refine lv_iconst (v := iI 0) hx hb dX11_nameOf_33 rfl ?_
    refine g_cs (As := [.int (iI 122), .int (iI 111), .int (iI 110), .int (iI 101), .int (iI 0), .int (iI 0), .int (iI 0)]) (rest := [.ref (ad 0)]) (n := 7) C hml (n_spelled l D k A ad hD v f g 122 111 110 101 0 0 0 (by decide) (by decide) (by decide) (by decide) (by decide) (by decide) (by decide)) mM_X11_228 mS_X11_spelled mN_X11 mC_X11_spelled (by decide +kernel) hP hS (fun _ h => h) ⟨Nat.le_of_ble_eq_true rfl, Nat.le_of_ble_eq_true rfl⟩ ⟨Nat.zero_le _, Nat.zero_le _⟩ hl.1 rfl rfl (Nat.le_of_ble_eq_true rfl) dX11_nameOf_34 (fun r_4 v_4 f_4 g_4 H locs hq_4 hP _ hS => ?_)
    obtain ⟨z_4, rfl, rfl, rfl, rfl, p0_4⟩ := hq_4
    show W p l e (gRm 1 28) s m args below meth c _ _ 0 0 Q (F0 m 37 ls [.long (iL z_4), .ref (ad 0)])
    replace p0_4 : z_4 = (spW (122 : Int) (111 : Int) (110 : Int) (101 : Int) (0 : Int) (0 : Int) (0 : Int)) := p0_4
    have hsp := p0_4
    clear p0_4
    refine g_cv (As := [.long (iL z_4)]) (rest := []) (n := 1) C hml (n_isW l D k A ad hD v f g z_4 B pp 13 (show mAt B (v 3) (v 9) (v 10) (v 8) (v 11) ((g 0) 0) pp from hc) (show z_4 = hW 13 ∧ 13 < 18 from ⟨by rw [hsp]; decide +kernel, by decide⟩)) mM_X11_232 mI_X11_isWord mE_X11_isWord mN_X11 mC_X11_isWord (by decide +kernel) 0 (ci := 11) rfl rfl hP hS (fun _ h => h) ⟨Nat.le_of_ble_eq_true rfl, Nat.le_of_ble_eq_true rfl⟩ ⟨Nat.zero_le _, Nat.zero_le _⟩ hl.1 rfl rfl (Nat.le_of_ble_eq_true rfl) dX11_nameOf_37 (fun r_5 v_5 f_5 g_5 H locs hq_5 hP _ hS => ?_)
    obtain ⟨z_5, rfl, rfl, rfl, rfl, p0_5, p1_5⟩ := hq_5
    show W p l e (gRm 1 28) s m args below meth c _ _ 0 0 Q (F0 m 40 ls [.int (iI z_5)])
    replace p0_5 : 0 ≤ z_5 ∧ z_5 ≤ 1 := p0_5
    replace p1_5 : z_5 = 1 ↔ (tK B (v 3) pp) = 260 + (13 : Int) := p1_5
    refine gi_zeq (tgt := 45) hx hb dX11_nameOf_40 (by decide) (by omega) (fun c_6 => ?_) (fun c_6 => ?_)
    · refine lv_aload_n hx hb dX11_nameOf_45 rfl (lv_at hl 0 rfl) ?_
      refine lv_bipush (v := iI 104) hx hb dX11_nameOf_46 (by decide) ?_
      refine lv_bipush (v := iI 111) hx hb dX11_nameOf_48 (by decide) ?_
      refine lv_bipush (v := iI 108) hx hb dX11_nameOf_50 (by decide) ?_
      refine lv_bipush (v := iI 100) hx hb dX11_nameOf_52 (by decide) ?_
      refine lv_iconst (v := iI 0) hx hb dX11_nameOf_54 rfl ?_
      refine lv_iconst (v := iI 0) hx hb dX11_nameOf_55 rfl ?_
      refine lv_iconst (v := iI 0) hx hb dX11_nameOf_56 rfl ?_
      refine g_cs (As := [.int (iI 104), .int (iI 111), .int (iI 108), .int (iI 100), .int (iI 0), .int (iI 0), .int (iI 0)]) (rest := [.ref (ad 0)]) (n := 7) C hml (n_spelled l D k A ad hD v f g 104 111 108 100 0 0 0 (by decide) (by decide) (by decide) (by decide) (by decide) (by decide) (by decide)) mM_X11_228 mS_X11_spelled mN_X11 mC_X11_spelled (by decide +kernel) hP hS (fun _ h => h) ⟨Nat.le_of_ble_eq_true rfl, Nat.le_of_ble_eq_true rfl⟩ ⟨Nat.zero_le _, Nat.zero_le _⟩ hl.1 rfl rfl (Nat.le_of_ble_eq_true rfl) dX11_nameOf_57 (fun r_7 v_7 f_7 g_7 H locs hq_7 hP _ hS => ?_)
      obtain ⟨z_7, rfl, rfl, rfl, rfl, p0_7⟩ := hq_7
      show W p l e (gRm 1 28) s m args below meth c _ _ 0 0 Q (F0 m 60 ls [.long (iL z_7), .ref (ad 0)])
      replace p0_7 : z_7 = (spW (104 : Int) (111 : Int) (108 : Int) (100 : Int) (0 : Int) (0 : Int) (0 : Int)) := p0_7
      have hsp := p0_7
      clear p0_7
      refine g_cv (As := [.long (iL z_7)]) (rest := []) (n := 1) C hml (n_isW l D k A ad hD v f g z_7 B pp 14 (show mAt B (v 3) (v 9) (v 10) (v 8) (v 11) ((g 0) 0) pp from hc) (show z_7 = hW 14 ∧ 14 < 18 from ⟨by rw [hsp]; decide +kernel, by decide⟩)) mM_X11_232 mI_X11_isWord mE_X11_isWord mN_X11 mC_X11_isWord (by decide +kernel) 0 (ci := 11) rfl rfl hP hS (fun _ h => h) ⟨Nat.le_of_ble_eq_true rfl, Nat.le_of_ble_eq_true rfl⟩ ⟨Nat.zero_le _, Nat.zero_le _⟩ hl.1 rfl rfl (Nat.le_of_ble_eq_true rfl) dX11_nameOf_60 (fun r_8 v_8 f_8 g_8 H locs hq_8 hP _ hS => ?_)
      obtain ⟨z_8, rfl, rfl, rfl, rfl, p0_8, p1_8⟩ := hq_8
      show W p l e (gRm 1 28) s m args below meth c _ _ 0 0 Q (F0 m 63 ls [.int (iI z_8)])
      replace p0_8 : 0 ≤ z_8 ∧ z_8 ≤ 1 := p0_8
      replace p1_8 : z_8 = 1 ↔ (tK B (v 3) pp) = 260 + (14 : Int) := p1_8
      refine gi_zeq (tgt := 68) hx hb dX11_nameOf_63 (by decide) (by omega) (fun c_9 => ?_) (fun c_9 => ?_)
      · refine lv_aload_n hx hb dX11_nameOf_68 rfl (lv_at hl 0 rfl) ?_
        refine lv_bipush (v := iI 116) hx hb dX11_nameOf_69 (by decide) ?_
        refine lv_bipush (v := iI 114) hx hb dX11_nameOf_71 (by decide) ?_
        refine lv_bipush (v := iI 105) hx hb dX11_nameOf_73 (by decide) ?_
        refine lv_bipush (v := iI 101) hx hb dX11_nameOf_75 (by decide) ?_
        refine lv_bipush (v := iI 115) hx hb dX11_nameOf_77 (by decide) ?_
        refine lv_iconst (v := iI 0) hx hb dX11_nameOf_79 rfl ?_
        refine lv_iconst (v := iI 0) hx hb dX11_nameOf_80 rfl ?_
        refine g_cs (As := [.int (iI 116), .int (iI 114), .int (iI 105), .int (iI 101), .int (iI 115), .int (iI 0), .int (iI 0)]) (rest := [.ref (ad 0)]) (n := 7) C hml (n_spelled l D k A ad hD v f g 116 114 105 101 115 0 0 (by decide) (by decide) (by decide) (by decide) (by decide) (by decide) (by decide)) mM_X11_228 mS_X11_spelled mN_X11 mC_X11_spelled (by decide +kernel) hP hS (fun _ h => h) ⟨Nat.le_of_ble_eq_true rfl, Nat.le_of_ble_eq_true rfl⟩ ⟨Nat.zero_le _, Nat.zero_le _⟩ hl.1 rfl rfl (Nat.le_of_ble_eq_true rfl) dX11_nameOf_81 (fun r_10 v_10 f_10 g_10 H locs hq_10 hP _ hS => ?_)
        obtain ⟨z_10, rfl, rfl, rfl, rfl, p0_10⟩ := hq_10
        show W p l e (gRm 1 28) s m args below meth c _ _ 0 0 Q (F0 m 84 ls [.long (iL z_10), .ref (ad 0)])
        replace p0_10 : z_10 = (spW (116 : Int) (114 : Int) (105 : Int) (101 : Int) (115 : Int) (0 : Int) (0 : Int)) := p0_10
        have hsp := p0_10
        clear p0_10
        refine g_cv (As := [.long (iL z_10)]) (rest := []) (n := 1) C hml (n_isW l D k A ad hD v f g z_10 B pp 15 (show mAt B (v 3) (v 9) (v 10) (v 8) (v 11) ((g 0) 0) pp from hc) (show z_10 = hW 15 ∧ 15 < 18 from ⟨by rw [hsp]; decide +kernel, by decide⟩)) mM_X11_232 mI_X11_isWord mE_X11_isWord mN_X11 mC_X11_isWord (by decide +kernel) 0 (ci := 11) rfl rfl hP hS (fun _ h => h) ⟨Nat.le_of_ble_eq_true rfl, Nat.le_of_ble_eq_true rfl⟩ ⟨Nat.zero_le _, Nat.zero_le _⟩ hl.1 rfl rfl (Nat.le_of_ble_eq_true rfl) dX11_nameOf_84 (fun r_11 v_11 f_11 g_11 H locs hq_11 hP _ hS => ?_)
        obtain ⟨z_11, rfl, rfl, rfl, rfl, p0_11, p1_11⟩ := hq_11
        show W p l e (gRm 1 28) s m args below meth c _ _ 0 0 Q (F0 m 87 ls [.int (iI z_11)])
        replace p0_11 : 0 ≤ z_11 ∧ z_11 ≤ 1 := p0_11
        replace p1_11 : z_11 = 1 ↔ (tK B (v 3) pp) = 260 + (15 : Int) := p1_11
        refine gi_zeq (tgt := 92) hx hb dX11_nameOf_87 (by decide) (by omega) (fun c_12 => ?_) (fun c_12 => ?_)
        · refine lv_aload_n hx hb dX11_nameOf_92 rfl (lv_at hl 0 rfl) ?_
          refine lv_bipush (v := iI 115) hx hb dX11_nameOf_93 (by decide) ?_
          refine lv_bipush (v := iI 101) hx hb dX11_nameOf_95 (by decide) ?_
          refine lv_bipush (v := iI 99) hx hb dX11_nameOf_97 (by decide) ?_
          refine lv_bipush (v := iI 111) hx hb dX11_nameOf_99 (by decide) ?_
          refine lv_bipush (v := iI 110) hx hb dX11_nameOf_101 (by decide) ?_
          refine lv_bipush (v := iI 100) hx hb dX11_nameOf_103 (by decide) ?_
          refine lv_bipush (v := iI 115) hx hb dX11_nameOf_105 (by decide) ?_
          refine g_cs (As := [.int (iI 115), .int (iI 101), .int (iI 99), .int (iI 111), .int (iI 110), .int (iI 100), .int (iI 115)]) (rest := [.ref (ad 0)]) (n := 7) C hml (n_spelled l D k A ad hD v f g 115 101 99 111 110 100 115 (by decide) (by decide) (by decide) (by decide) (by decide) (by decide) (by decide)) mM_X11_228 mS_X11_spelled mN_X11 mC_X11_spelled (by decide +kernel) hP hS (fun _ h => h) ⟨Nat.le_of_ble_eq_true rfl, Nat.le_of_ble_eq_true rfl⟩ ⟨Nat.zero_le _, Nat.zero_le _⟩ hl.1 rfl rfl (Nat.le_of_ble_eq_true rfl) dX11_nameOf_107 (fun r_13 v_13 f_13 g_13 H locs hq_13 hP _ hS => ?_)
          obtain ⟨z_13, rfl, rfl, rfl, rfl, p0_13⟩ := hq_13
          show W p l e (gRm 1 28) s m args below meth c _ _ 0 0 Q (F0 m 110 ls [.long (iL z_13), .ref (ad 0)])
          replace p0_13 : z_13 = (spW (115 : Int) (101 : Int) (99 : Int) (111 : Int) (110 : Int) (100 : Int) (115 : Int)) := p0_13
          have hsp := p0_13
          clear p0_13
          refine g_cv (As := [.long (iL z_13)]) (rest := []) (n := 1) C hml (n_isW l D k A ad hD v f g z_13 B pp 16 (show mAt B (v 3) (v 9) (v 10) (v 8) (v 11) ((g 0) 0) pp from hc) (show z_13 = hW 16 ∧ 16 < 18 from ⟨by rw [hsp]; decide +kernel, by decide⟩)) mM_X11_232 mI_X11_isWord mE_X11_isWord mN_X11 mC_X11_isWord (by decide +kernel) 0 (ci := 11) rfl rfl hP hS (fun _ h => h) ⟨Nat.le_of_ble_eq_true rfl, Nat.le_of_ble_eq_true rfl⟩ ⟨Nat.zero_le _, Nat.zero_le _⟩ hl.1 rfl rfl (Nat.le_of_ble_eq_true rfl) dX11_nameOf_110 (fun r_14 v_14 f_14 g_14 H locs hq_14 hP _ hS => ?_)
          obtain ⟨z_14, rfl, rfl, rfl, rfl, p0_14, p1_14⟩ := hq_14
          show W p l e (gRm 1 28) s m args below meth c _ _ 0 0 Q (F0 m 113 ls [.int (iI z_14)])
          replace p0_14 : 0 ≤ z_14 ∧ z_14 ≤ 1 := p0_14
          replace p1_14 : z_14 = 1 ↔ (tK B (v 3) pp) = 260 + (16 : Int) := p1_14
          refine gi_zeq (tgt := 118) hx hb dX11_nameOf_113 (by decide) (by omega) (fun c_15 => ?_) (fun c_15 => ?_)
          · refine lv_aload_n hx hb dX11_nameOf_118 rfl (lv_at hl 0 rfl) ?_
            refine lv_bipush (v := iI 102) hx hb dX11_nameOf_119 (by decide) ?_
            refine lv_bipush (v := iI 108) hx hb dX11_nameOf_121 (by decide) ?_
            refine lv_bipush (v := iI 97) hx hb dX11_nameOf_123 (by decide) ?_
            refine lv_bipush (v := iI 115) hx hb dX11_nameOf_125 (by decide) ?_
            refine lv_bipush (v := iI 104) hx hb dX11_nameOf_127 (by decide) ?_
            refine lv_iconst (v := iI 0) hx hb dX11_nameOf_129 rfl ?_
            refine lv_iconst (v := iI 0) hx hb dX11_nameOf_130 rfl ?_
            refine g_cs (As := [.int (iI 102), .int (iI 108), .int (iI 97), .int (iI 115), .int (iI 104), .int (iI 0), .int (iI 0)]) (rest := [.ref (ad 0)]) (n := 7) C hml (n_spelled l D k A ad hD v f g 102 108 97 115 104 0 0 (by decide) (by decide) (by decide) (by decide) (by decide) (by decide) (by decide)) mM_X11_228 mS_X11_spelled mN_X11 mC_X11_spelled (by decide +kernel) hP hS (fun _ h => h) ⟨Nat.le_of_ble_eq_true rfl, Nat.le_of_ble_eq_true rfl⟩ ⟨Nat.zero_le _, Nat.zero_le _⟩ hl.1 rfl rfl (Nat.le_of_ble_eq_true rfl) dX11_nameOf_131 (fun r_16 v_16 f_16 g_16 H locs hq_16 hP _ hS => ?_)
            obtain ⟨z_16, rfl, rfl, rfl, rfl, p0_16⟩ := hq_16
            show W p l e (gRm 1 28) s m args below meth c _ _ 0 0 Q (F0 m 134 ls [.long (iL z_16), .ref (ad 0)])
            replace p0_16 : z_16 = (spW (102 : Int) (108 : Int) (97 : Int) (115 : Int) (104 : Int) (0 : Int) (0 : Int)) := p0_16
            have hsp := p0_16
            clear p0_16
            refine g_cv (As := [.long (iL z_16)]) (rest := []) (n := 1) C hml (n_isW l D k A ad hD v f g z_16 B pp 17 (show mAt B (v 3) (v 9) (v 10) (v 8) (v 11) ((g 0) 0) pp from hc) (show z_16 = hW 17 ∧ 17 < 18 from ⟨by rw [hsp]; decide +kernel, by decide⟩)) mM_X11_232 mI_X11_isWord mE_X11_isWord mN_X11 mC_X11_isWord (by decide +kernel) 0 (ci := 11) rfl rfl hP hS (fun _ h => h) ⟨Nat.le_of_ble_eq_true rfl, Nat.le_of_ble_eq_true rfl⟩ ⟨Nat.zero_le _, Nat.zero_le _⟩ hl.1 rfl rfl (Nat.le_of_ble_eq_true rfl) dX11_nameOf_134 (fun r_17 v_17 f_17 g_17 H locs hq_17 hP _ hS => ?_)
            obtain ⟨z_17, rfl, rfl, rfl, rfl, p0_17, p1_17⟩ := hq_17
            show W p l e (gRm 1 28) s m args below meth c _ _ 0 0 Q (F0 m 137 ls [.int (iI z_17)])
            replace p0_17 : 0 ≤ z_17 ∧ z_17 ≤ 1 := p0_17
            replace p1_17 : z_17 = 1 ↔ (tK B (v 3) pp) = 260 + (17 : Int) := p1_17
            refine gi_zeq (tgt := 145) hx hb dX11_nameOf_137 (by decide) (by omega) (fun c_18 => ?_) (fun c_18 => ?_)
            · refine lv_iconst (v := iI (-1)) hx hb dX11_nameOf_145 rfl ?_
              exact g_iret hQ C hr hlocks hP hS dX11_nameOf_146 ⟨(-1), rfl, rfl, rfl, rfl, (by first | omega | (split <;> omega)), (by first | omega | (split <;> omega)), (by first | omega | (split <;> omega))⟩
            · refine lv_bipush (v := iI 6) hx hb dX11_nameOf_140 (by decide) ?_
              refine lv_goto (tgt := 146) hx hb dX11_nameOf_142 (by decide) ?_
              exact g_iret hQ C hr hlocks hP hS dX11_nameOf_146 ⟨6, rfl, rfl, rfl, rfl, (by first | omega | (split <;> omega)), (by first | omega | (split <;> omega)), (by first | omega | (split <;> omega))⟩
          · refine lv_iconst (v := iI 5) hx hb dX11_nameOf_116 rfl ?_
            exact g_iret hQ C hr hlocks hP hS dX11_nameOf_117 ⟨5, rfl, rfl, rfl, rfl, (by first | omega | (split <;> omega)), (by first | omega | (split <;> omega)), (by first | omega | (split <;> omega))⟩
        · refine lv_iconst (v := iI 4) hx hb dX11_nameOf_90 rfl ?_
          exact g_iret hQ C hr hlocks hP hS dX11_nameOf_91 ⟨4, rfl, rfl, rfl, rfl, (by first | omega | (split <;> omega)), (by first | omega | (split <;> omega)), (by first | omega | (split <;> omega))⟩
      · refine lv_iconst (v := iI 3) hx hb dX11_nameOf_66 rfl ?_
        exact g_iret hQ C hr hlocks hP hS dX11_nameOf_67 ⟨3, rfl, rfl, rfl, rfl, (by first | omega | (split <;> omega)), (by first | omega | (split <;> omega)), (by first | omega | (split <;> omega))⟩
    · refine lv_iconst (v := iI 2) hx hb dX11_nameOf_43 rfl ?_
      exact g_iret hQ C hr hlocks hP hS dX11_nameOf_44 ⟨2, rfl, rfl, rfl, rfl, (by first | omega | (split <;> omega)), (by first | omega | (split <;> omega)), (by first | omega | (split <;> omega))⟩
  · refine lv_iconst (v := iI 1) hx hb dX11_nameOf_20 rfl ?_
    exact g_iret hQ C hr hlocks hP hS dX11_nameOf_21 ⟨1, rfl, rfl, rfl, rfl, (by first | omega | (split <;> omega)), (by first | omega | (split <;> omega)), (by first | omega | (split <;> omega))⟩
end
