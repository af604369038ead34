theorem dX11_numberOf_0 : decode cX11_numberOf 0 = .ok (.aload_n 0, 1) := by decide +kernel
theorem dX11_numberOf_1 : decode cX11_numberOf 1 = .ok (.getfield 165, 3) := by decide +kernel
theorem dX11_numberOf_4 : decode cX11_numberOf 4 = .ok (.iconst 2, 1) := by decide +kernel
theorem dX11_numberOf_5 : decode cX11_numberOf 5 = .ok (.if_icmp .eq 9, 3) := by decide +kernel
theorem dX11_numberOf_8 : decode cX11_numberOf 8 = .ok (.aload_n 0, 1) := by decide +kernel
theorem dX11_numberOf_9 : decode cX11_numberOf 9 = .ok (.invokevirtual 198, 3) := by decide +kernel
theorem dX11_numberOf_12 : decode cX11_numberOf 12 = .ok (.iload_n 1, 1) := by decide +kernel
theorem dX11_numberOf_13 : decode cX11_numberOf 13 = .ok (.ireturn, 1) := by decide +kernel
theorem dX11_numberOf_14 : decode cX11_numberOf 14 = .ok (.aload_n 0, 1) := by decide +kernel
theorem dX11_numberOf_15 : decode cX11_numberOf 15 = .ok (.getfield 185, 3) := by decide +kernel
theorem dX11_numberOf_18 : decode cX11_numberOf 18 = .ok (.istore_n 3, 1) := by decide +kernel
theorem dX11_numberOf_19 : decode cX11_numberOf 19 = .ok (.iload_n 3, 1) := by decide +kernel
theorem dX11_numberOf_20 : decode cX11_numberOf 20 = .ok (.iload_n 1, 1) := by decide +kernel
theorem dX11_numberOf_21 : decode cX11_numberOf 21 = .ok (.if_icmp .lt 8, 3) := by decide +kernel
theorem dX11_numberOf_24 : decode cX11_numberOf 24 = .ok (.iload_n 3, 1) := by decide +kernel
theorem dX11_numberOf_25 : decode cX11_numberOf 25 = .ok (.iload_n 2, 1) := by decide +kernel
theorem dX11_numberOf_26 : decode cX11_numberOf 26 = .ok (.if_icmp .le 12, 3) := by decide +kernel
theorem dX11_numberOf_29 : decode cX11_numberOf 29 = .ok (.aload_n 0, 1) := by decide +kernel
theorem dX11_numberOf_30 : decode cX11_numberOf 30 = .ok (.iconst 4, 1) := by decide +kernel
theorem dX11_numberOf_31 : decode cX11_numberOf 31 = .ok (.aload_n 0, 1) := by decide +kernel
theorem dX11_numberOf_32 : decode cX11_numberOf 32 = .ok (.getfield 158, 3) := by decide +kernel
theorem dX11_numberOf_35 : decode cX11_numberOf 35 = .ok (.invokevirtual 194, 3) := by decide +kernel
theorem dX11_numberOf_38 : decode cX11_numberOf 38 = .ok (.aload_n 0, 1) := by decide +kernel
theorem dX11_numberOf_39 : decode cX11_numberOf 39 = .ok (.getfield 188, 3) := by decide +kernel
theorem dX11_numberOf_42 : decode cX11_numberOf 42 = .ok (.ifCond .ne 7, 3) := by decide +kernel
theorem dX11_numberOf_45 : decode cX11_numberOf 45 = .ok (.aload_n 0, 1) := by decide +kernel
theorem dX11_numberOf_46 : decode cX11_numberOf 46 = .ok (.invokevirtual 201, 3) := by decide +kernel
theorem dX11_numberOf_49 : decode cX11_numberOf 49 = .ok (.aload_n 0, 1) := by decide +kernel
theorem dX11_numberOf_50 : decode cX11_numberOf 50 = .ok (.getfield 188, 3) := by decide +kernel
theorem dX11_numberOf_53 : decode cX11_numberOf 53 = .ok (.ifCond .ne 7, 3) := by decide +kernel
theorem dX11_numberOf_56 : decode cX11_numberOf 56 = .ok (.iload_n 3, 1) := by decide +kernel
theorem dX11_numberOf_57 : decode cX11_numberOf 57 = .ok (.goto 4, 3) := by decide +kernel
theorem dX11_numberOf_60 : decode cX11_numberOf 60 = .ok (.iload_n 1, 1) := by decide +kernel
theorem dX11_numberOf_61 : decode cX11_numberOf 61 = .ok (.ireturn, 1) := by decide +kernel
theorem dX11_ends_0 : decode cX11_ends 0 = .ok (.aload_n 0, 1) := by decide +kernel
theorem dX11_ends_1 : decode cX11_ends 1 = .ok (.bipush 59, 2) := by decide +kernel
theorem dX11_ends_3 : decode cX11_ends 3 = .ok (.invokevirtual 204, 3) := by decide +kernel
theorem dX11_ends_6 : decode cX11_ends 6 = .ok (.ifCond .ne 10, 3) := by decide +kernel
theorem dX11_ends_9 : decode cX11_ends 9 = .ok (.aload_n 0, 1) := by decide +kernel
theorem dX11_ends_10 : decode cX11_ends 10 = .ok (.invokevirtual 198, 3) := by decide +kernel
theorem dX11_ends_13 : decode cX11_ends 13 = .ok (.goto 7, 3) := by decide +kernel
theorem dX11_ends_16 : decode cX11_ends 16 = .ok (.aload_n 0, 1) := by decide +kernel
theorem dX11_ends_17 : decode cX11_ends 17 = .ok (.invokevirtual 201, 3) := by decide +kernel
theorem dX11_ends_20 : decode cX11_ends 20 = .ok (.return_, 1) := by decide +kernel
theorem dX11_lawOf_0 : decode cX11_lawOf 0 = .ok (.aload_n 0, 1) := by decide +kernel
theorem dX11_lawOf_1 : decode cX11_lawOf 1 = .ok (.bipush 114, 2) := by decide +kernel
theorem dX11_lawOf_3 : decode cX11_lawOf 3 = .ok (.bipush 111, 2) := by decide +kernel
theorem dX11_lawOf_5 : decode cX11_lawOf 5 = .ok (.bipush 117, 2) := by decide +kernel
theorem dX11_lawOf_7 : decode cX11_lawOf 7 = .ok (.bipush 110, 2) := by decide +kernel
theorem dX11_lawOf_9 : decode cX11_lawOf 9 = .ok (.bipush 100, 2) := by decide +kernel
theorem dX11_lawOf_11 : decode cX11_lawOf 11 = .ok (.iconst 0, 1) := by decide +kernel
theorem dX11_lawOf_12 : decode cX11_lawOf 12 = .ok (.iconst 0, 1) := by decide +kernel
theorem dX11_lawOf_13 : decode cX11_lawOf 13 = .ok (.invokestatic 228, 3) := by decide +kernel
theorem dX11_lawOf_16 : decode cX11_lawOf 16 = .ok (.invokevirtual 232, 3) := by decide +kernel
theorem dX11_lawOf_19 : decode cX11_lawOf 19 = .ok (.ifCond .eq 5, 3) := by decide +kernel
theorem dX11_lawOf_22 : decode cX11_lawOf 22 = .ok (.iconst 0, 1) := by decide +kernel
theorem dX11_lawOf_23 : decode cX11_lawOf 23 = .ok (.ireturn, 1) := by decide +kernel
theorem dX11_lawOf_24 : decode cX11_lawOf 24 = .ok (.aload_n 0, 1) := by decide +kernel
theorem dX11_lawOf_25 : decode cX11_lawOf 25 = .ok (.bipush 112, 2) := by decide +kernel
theorem dX11_lawOf_27 : decode cX11_lawOf 27 = .ok (.bipush 111, 2) := by decide +kernel
theorem dX11_lawOf_29 : decode cX11_lawOf 29 = .ok (.bipush 105, 2) := by decide +kernel
theorem dX11_lawOf_31 : decode cX11_lawOf 31 = .ok (.bipush 110, 2) := by decide +kernel
theorem dX11_lawOf_33 : decode cX11_lawOf 33 = .ok (.bipush 116, 2) := by decide +kernel
theorem dX11_lawOf_35 : decode cX11_lawOf 35 = .ok (.bipush 115, 2) := by decide +kernel
theorem dX11_lawOf_37 : decode cX11_lawOf 37 = .ok (.iconst 0, 1) := by decide +kernel
theorem dX11_lawOf_38 : decode cX11_lawOf 38 = .ok (.invokestatic 228, 3) := by decide +kernel
theorem dX11_lawOf_41 : decode cX11_lawOf 41 = .ok (.invokevirtual 232, 3) := by decide +kernel
theorem dX11_lawOf_44 : decode cX11_lawOf 44 = .ok (.ifCond .eq 5, 3) := by decide +kernel
theorem dX11_lawOf_47 : decode cX11_lawOf 47 = .ok (.iconst 1, 1) := by decide +kernel
theorem dX11_lawOf_48 : decode cX11_lawOf 48 = .ok (.ireturn, 1) := by decide +kernel
theorem dX11_lawOf_49 : decode cX11_lawOf 49 = .ok (.aload_n 0, 1) := by decide +kernel
theorem dX11_lawOf_50 : decode cX11_lawOf 50 = .ok (.bipush 107, 2) := by decide +kernel
theorem dX11_lawOf_52 : decode cX11_lawOf 52 = .ok (.bipush 101, 2) := by decide +kernel
theorem dX11_lawOf_54 : decode cX11_lawOf 54 = .ok (.bipush 121, 2) := by decide +kernel
theorem dX11_lawOf_56 : decode cX11_lawOf 56 = .ok (.bipush 115, 2) := by decide +kernel
theorem dX11_lawOf_58 : decode cX11_lawOf 58 = .ok (.iconst 0, 1) := by decide +kernel
theorem dX11_lawOf_59 : decode cX11_lawOf 59 = .ok (.iconst 0, 1) := by decide +kernel
theorem dX11_lawOf_60 : decode cX11_lawOf 60 = .ok (.iconst 0, 1) := by decide +kernel
theorem dX11_lawOf_61 : decode cX11_lawOf 61 = .ok (.invokestatic 228, 3) := by decide +kernel
theorem dX11_lawOf_64 : decode cX11_lawOf 64 = .ok (.invokevirtual 232, 3) := by decide +kernel
theorem dX11_lawOf_67 : decode cX11_lawOf 67 = .ok (.ifCond .eq 5, 3) := by decide +kernel
theorem dX11_lawOf_70 : decode cX11_lawOf 70 = .ok (.iconst 2, 1) := by decide +kernel
theorem dX11_lawOf_71 : decode cX11_lawOf 71 = .ok (.ireturn, 1) := by decide +kernel
theorem dX11_lawOf_72 : decode cX11_lawOf 72 = .ok (.aload_n 0, 1) := by decide +kernel
theorem dX11_lawOf_73 : decode cX11_lawOf 73 = .ok (.bipush 116, 2) := by decide +kernel
theorem dX11_lawOf_75 : decode cX11_lawOf 75 = .ok (.bipush 105, 2) := by decide +kernel
theorem dX11_lawOf_77 : decode cX11_lawOf 77 = .ok (.bipush 101, 2) := by decide +kernel
theorem dX11_lawOf_79 : decode cX11_lawOf 79 = .ok (.bipush 115, 2) := by decide +kernel
theorem dX11_lawOf_81 : decode cX11_lawOf 81 = .ok (.iconst 0, 1) := by decide +kernel
theorem dX11_lawOf_82 : decode cX11_lawOf 82 = .ok (.iconst 0, 1) := by decide +kernel
theorem dX11_lawOf_83 : decode cX11_lawOf 83 = .ok (.iconst 0, 1) := by decide +kernel
theorem dX11_lawOf_84 : decode cX11_lawOf 84 = .ok (.invokestatic 228, 3) := by decide +kernel
theorem dX11_lawOf_87 : decode cX11_lawOf 87 = .ok (.invokevirtual 232, 3) := by decide +kernel
theorem dX11_lawOf_90 : decode cX11_lawOf 90 = .ok (.ifCond .eq 7, 3) := by decide +kernel
theorem dX11_lawOf_93 : decode cX11_lawOf 93 = .ok (.iconst 3, 1) := by decide +kernel
theorem dX11_lawOf_94 : decode cX11_lawOf 94 = .ok (.goto 4, 3) := by decide +kernel
theorem dX11_lawOf_97 : decode cX11_lawOf 97 = .ok (.iconst (-1), 1) := by decide +kernel
theorem dX11_lawOf_98 : decode cX11_lawOf 98 = .ok (.ireturn, 1) := by decide +kernel
theorem dX11_nameOf_0 : decode cX11_nameOf 0 = .ok (.aload_n 0, 1) := by decide +kernel
theorem dX11_nameOf_1 : decode cX11_nameOf 1 = .ok (.bipush 116, 2) := by decide +kernel
theorem dX11_nameOf_3 : decode cX11_nameOf 3 = .ok (.bipush 111, 2) := by decide +kernel
theorem dX11_nameOf_5 : decode cX11_nameOf 5 = .ok (.bipush 112, 2) := by decide +kernel
theorem dX11_nameOf_7 : decode cX11_nameOf 7 = .ok (.iconst 0, 1) := by decide +kernel
theorem dX11_nameOf_8 : decode cX11_nameOf 8 = .ok (.iconst 0, 1) := by decide +kernel
theorem dX11_nameOf_9 : decode cX11_nameOf 9 = .ok (.iconst 0, 1) := by decide +kernel
theorem dX11_nameOf_10 : decode cX11_nameOf 10 = .ok (.iconst 0, 1) := by decide +kernel
theorem dX11_nameOf_11 : decode cX11_nameOf 11 = .ok (.invokestatic 228, 3) := by decide +kernel
theorem dX11_nameOf_14 : decode cX11_nameOf 14 = .ok (.invokevirtual 232, 3) := by decide +kernel
theorem dX11_nameOf_17 : decode cX11_nameOf 17 = .ok (.ifCond .eq 5, 3) := by decide +kernel
theorem dX11_nameOf_20 : decode cX11_nameOf 20 = .ok (.iconst 1, 1) := by decide +kernel
theorem dX11_nameOf_21 : decode cX11_nameOf 21 = .ok (.ireturn, 1) := by decide +kernel
theorem dX11_nameOf_22 : decode cX11_nameOf 22 = .ok (.aload_n 0, 1) := by decide +kernel
theorem dX11_nameOf_23 : decode cX11_nameOf 23 = .ok (.bipush 122, 2) := by decide +kernel
theorem dX11_nameOf_25 : decode cX11_nameOf 25 = .ok (.bipush 111, 2) := by decide +kernel
theorem dX11_nameOf_27 : decode cX11_nameOf 27 = .ok (.bipush 110, 2) := by decide +kernel
theorem dX11_nameOf_29 : decode cX11_nameOf 29 = .ok (.bipush 101, 2) := by decide +kernel
theorem dX11_nameOf_31 : decode cX11_nameOf 31 = .ok (.iconst 0, 1) := by decide +kernel
theorem dX11_nameOf_32 : decode cX11_nameOf 32 = .ok (.iconst 0, 1) := by decide +kernel
theorem dX11_nameOf_33 : decode cX11_nameOf 33 = .ok (.iconst 0, 1) := by decide +kernel
theorem dX11_nameOf_34 : decode cX11_nameOf 34 = .ok (.invokestatic 228, 3) := by decide +kernel
theorem dX11_nameOf_37 : decode cX11_nameOf 37 = .ok (.invokevirtual 232, 3) := by decide +kernel
theorem dX11_nameOf_40 : decode cX11_nameOf 40 = .ok (.ifCond .eq 5, 3) := by decide +kernel
theorem dX11_nameOf_43 : decode cX11_nameOf 43 = .ok (.iconst 2, 1) := by decide +kernel
theorem dX11_nameOf_44 : decode cX11_nameOf 44 = .ok (.ireturn, 1) := by decide +kernel
theorem dX11_nameOf_45 : decode cX11_nameOf 45 = .ok (.aload_n 0, 1) := by decide +kernel
theorem dX11_nameOf_46 : decode cX11_nameOf 46 = .ok (.bipush 104, 2) := by decide +kernel
theorem dX11_nameOf_48 : decode cX11_nameOf 48 = .ok (.bipush 111, 2) := by decide +kernel
theorem dX11_nameOf_50 : decode cX11_nameOf 50 = .ok (.bipush 108, 2) := by decide +kernel
theorem dX11_nameOf_52 : decode cX11_nameOf 52 = .ok (.bipush 100, 2) := by decide +kernel
theorem dX11_nameOf_54 : decode cX11_nameOf 54 = .ok (.iconst 0, 1) := by decide +kernel
theorem dX11_nameOf_55 : decode cX11_nameOf 55 = .ok (.iconst 0, 1) := by decide +kernel
theorem dX11_nameOf_56 : decode cX11_nameOf 56 = .ok (.iconst 0, 1) := by decide +kernel
theorem dX11_nameOf_57 : decode cX11_nameOf 57 = .ok (.invokestatic 228, 3) := by decide +kernel
theorem dX11_nameOf_60 : decode cX11_nameOf 60 = .ok (.invokevirtual 232, 3) := by decide +kernel
theorem dX11_nameOf_63 : decode cX11_nameOf 63 = .ok (.ifCond .eq 5, 3) := by decide +kernel
theorem dX11_nameOf_66 : decode cX11_nameOf 66 = .ok (.iconst 3, 1) := by decide +kernel
theorem dX11_nameOf_67 : decode cX11_nameOf 67 = .ok (.ireturn, 1) := by decide +kernel
theorem dX11_nameOf_68 : decode cX11_nameOf 68 = .ok (.aload_n 0, 1) := by decide +kernel
theorem dX11_nameOf_69 : decode cX11_nameOf 69 = .ok (.bipush 116, 2) := by decide +kernel
theorem dX11_nameOf_71 : decode cX11_nameOf 71 = .ok (.bipush 114, 2) := by decide +kernel
theorem dX11_nameOf_73 : decode cX11_nameOf 73 = .ok (.bipush 105, 2) := by decide +kernel
theorem dX11_nameOf_75 : decode cX11_nameOf 75 = .ok (.bipush 101, 2) := by decide +kernel
theorem dX11_nameOf_77 : decode cX11_nameOf 77 = .ok (.bipush 115, 2) := by decide +kernel
theorem dX11_nameOf_79 : decode cX11_nameOf 79 = .ok (.iconst 0, 1) := by decide +kernel
theorem dX11_nameOf_80 : decode cX11_nameOf 80 = .ok (.iconst 0, 1) := by decide +kernel
theorem dX11_nameOf_81 : decode cX11_nameOf 81 = .ok (.invokestatic 228, 3) := by decide +kernel
theorem dX11_nameOf_84 : decode cX11_nameOf 84 = .ok (.invokevirtual 232, 3) := by decide +kernel
theorem dX11_nameOf_87 : decode cX11_nameOf 87 = .ok (.ifCond .eq 5, 3) := by decide +kernel
theorem dX11_nameOf_90 : decode cX11_nameOf 90 = .ok (.iconst 4, 1) := by decide +kernel
theorem dX11_nameOf_91 : decode cX11_nameOf 91 = .ok (.ireturn, 1) := by decide +kernel
theorem dX11_nameOf_92 : decode cX11_nameOf 92 = .ok (.aload_n 0, 1) := by decide +kernel
theorem dX11_nameOf_93 : decode cX11_nameOf 93 = .ok (.bipush 115, 2) := by decide +kernel
theorem dX11_nameOf_95 : decode cX11_nameOf 95 = .ok (.bipush 101, 2) := by decide +kernel
theorem dX11_nameOf_97 : decode cX11_nameOf 97 = .ok (.bipush 99, 2) := by decide +kernel
theorem dX11_nameOf_99 : decode cX11_nameOf 99 = .ok (.bipush 111, 2) := by decide +kernel
theorem dX11_nameOf_101 : decode cX11_nameOf 101 = .ok (.bipush 110, 2) := by decide +kernel
theorem dX11_nameOf_103 : decode cX11_nameOf 103 = .ok (.bipush 100, 2) := by decide +kernel
theorem dX11_nameOf_105 : decode cX11_nameOf 105 = .ok (.bipush 115, 2) := by decide +kernel
theorem dX11_nameOf_107 : decode cX11_nameOf 107 = .ok (.invokestatic 228, 3) := by decide +kernel
theorem dX11_nameOf_110 : decode cX11_nameOf 110 = .ok (.invokevirtual 232, 3) := by decide +kernel
theorem dX11_nameOf_113 : decode cX11_nameOf 113 = .ok (.ifCond .eq 5, 3) := by decide +kernel
theorem dX11_nameOf_116 : decode cX11_nameOf 116 = .ok (.iconst 5, 1) := by decide +kernel
theorem dX11_nameOf_117 : decode cX11_nameOf 117 = .ok (.ireturn, 1) := by decide +kernel
theorem dX11_nameOf_118 : decode cX11_nameOf 118 = .ok (.aload_n 0, 1) := by decide +kernel
theorem dX11_nameOf_119 : decode cX11_nameOf 119 = .ok (.bipush 102, 2) := by decide +kernel
theorem dX11_nameOf_121 : decode cX11_nameOf 121 = .ok (.bipush 108, 2) := by decide +kernel
theorem dX11_nameOf_123 : decode cX11_nameOf 123 = .ok (.bipush 97, 2) := by decide +kernel
theorem dX11_nameOf_125 : decode cX11_nameOf 125 = .ok (.bipush 115, 2) := by decide +kernel
theorem dX11_nameOf_127 : decode cX11_nameOf 127 = .ok (.bipush 104, 2) := by decide +kernel
theorem dX11_nameOf_129 : decode cX11_nameOf 129 = .ok (.iconst 0, 1) := by decide +kernel
theorem dX11_nameOf_130 : decode cX11_nameOf 130 = .ok (.iconst 0, 1) := by decide +kernel
theorem dX11_nameOf_131 : decode cX11_nameOf 131 = .ok (.invokestatic 228, 3) := by decide +kernel
theorem dX11_nameOf_134 : decode cX11_nameOf 134 = .ok (.invokevirtual 232, 3) := by decide +kernel
theorem dX11_nameOf_137 : decode cX11_nameOf 137 = .ok (.ifCond .eq 8, 3) := by decide +kernel
theorem dX11_nameOf_140 : decode cX11_nameOf 140 = .ok (.bipush 6, 2) := by decide +kernel
theorem dX11_nameOf_142 : decode cX11_nameOf 142 = .ok (.goto 4, 3) := by decide +kernel
theorem dX11_nameOf_145 : decode cX11_nameOf 145 = .ok (.iconst (-1), 1) := by decide +kernel
theorem dX11_nameOf_146 : decode cX11_nameOf 146 = .ok (.ireturn, 1) := by decide +kernel
