theorem dX2_letCome_0 : decode cX2_letCome 0 = .ok (.iconst 0, 1) := by decide +kernel
theorem dX2_letCome_1 : decode cX2_letCome 1 = .ok (.istore 4, 2) := by decide +kernel
theorem dX2_letCome_3 : decode cX2_letCome 3 = .ok (.iconst 0, 1) := by decide +kernel
theorem dX2_letCome_4 : decode cX2_letCome 4 = .ok (.istore 5, 2) := by decide +kernel
theorem dX2_letCome_6 : decode cX2_letCome 6 = .ok (.iload 5, 2) := by decide +kernel
theorem dX2_letCome_8 : decode cX2_letCome 8 = .ok (.aload_n 0, 1) := by decide +kernel
theorem dX2_letCome_9 : decode cX2_letCome 9 = .ok (.getfield 18, 3) := by decide +kernel
theorem dX2_letCome_12 : decode cX2_letCome 12 = .ok (.if_icmp .ge 47, 3) := by decide +kernel
theorem dX2_letCome_15 : decode cX2_letCome 15 = .ok (.aload_n 0, 1) := by decide +kernel
theorem dX2_letCome_16 : decode cX2_letCome 16 = .ok (.getfield 9, 3) := by decide +kernel
theorem dX2_letCome_19 : decode cX2_letCome 19 = .ok (.iload 5, 2) := by decide +kernel
theorem dX2_letCome_21 : decode cX2_letCome 21 = .ok (.iaload, 1) := by decide +kernel
theorem dX2_letCome_22 : decode cX2_letCome 22 = .ok (.aload_n 0, 1) := by decide +kernel
theorem dX2_letCome_23 : decode cX2_letCome 23 = .ok (.getfield 22, 3) := by decide +kernel
theorem dX2_letCome_26 : decode cX2_letCome 26 = .ok (.if_icmp .ne 27, 3) := by decide +kernel
theorem dX2_letCome_29 : decode cX2_letCome 29 = .ok (.aload_n 1, 1) := by decide +kernel
theorem dX2_letCome_30 : decode cX2_letCome 30 = .ok (.iload 5, 2) := by decide +kernel
theorem dX2_letCome_32 : decode cX2_letCome 32 = .ok (.iaload, 1) := by decide +kernel
theorem dX2_letCome_33 : decode cX2_letCome 33 = .ok (.iload_n 2, 1) := by decide +kernel
theorem dX2_letCome_34 : decode cX2_letCome 34 = .ok (.if_icmp .gt 19, 3) := by decide +kernel
theorem dX2_letCome_37 : decode cX2_letCome 37 = .ok (.aload_n 0, 1) := by decide +kernel
theorem dX2_letCome_38 : decode cX2_letCome 38 = .ok (.getfield 9, 3) := by decide +kernel
theorem dX2_letCome_41 : decode cX2_letCome 41 = .ok (.iload 5, 2) := by decide +kernel
theorem dX2_letCome_43 : decode cX2_letCome 43 = .ok (.aload_n 0, 1) := by decide +kernel
theorem dX2_letCome_44 : decode cX2_letCome 44 = .ok (.getfield 22, 3) := by decide +kernel
theorem dX2_letCome_47 : decode cX2_letCome 47 = .ok (.iconst 1, 1) := by decide +kernel
theorem dX2_letCome_48 : decode cX2_letCome 48 = .ok (.iadd, 1) := by decide +kernel
theorem dX2_letCome_49 : decode cX2_letCome 49 = .ok (.iastore, 1) := by decide +kernel
theorem dX2_letCome_50 : decode cX2_letCome 50 = .ok (.iinc 4 1, 3) := by decide +kernel
theorem dX2_letCome_53 : decode cX2_letCome 53 = .ok (.iinc 5 1, 3) := by decide +kernel
theorem dX2_letCome_56 : decode cX2_letCome 56 = .ok (.goto (-50), 3) := by decide +kernel
theorem dX2_letCome_59 : decode cX2_letCome 59 = .ok (.aload_n 0, 1) := by decide +kernel
theorem dX2_letCome_60 : decode cX2_letCome 60 = .ok (.dup, 1) := by decide +kernel
theorem dX2_letCome_61 : decode cX2_letCome 61 = .ok (.getfield 22, 3) := by decide +kernel
theorem dX2_letCome_64 : decode cX2_letCome 64 = .ok (.iconst 1, 1) := by decide +kernel
theorem dX2_letCome_65 : decode cX2_letCome 65 = .ok (.iadd, 1) := by decide +kernel
theorem dX2_letCome_66 : decode cX2_letCome 66 = .ok (.putfield 22, 3) := by decide +kernel
theorem dX2_letCome_69 : decode cX2_letCome 69 = .ok (.aload_n 0, 1) := by decide +kernel
theorem dX2_letCome_70 : decode cX2_letCome 70 = .ok (.getfield 15, 3) := by decide +kernel
theorem dX2_letCome_73 : decode cX2_letCome 73 = .ok (.aload_n 0, 1) := by decide +kernel
theorem dX2_letCome_74 : decode cX2_letCome 74 = .ok (.getfield 22, 3) := by decide +kernel
theorem dX2_letCome_77 : decode cX2_letCome 77 = .ok (.iload_n 3, 1) := by decide +kernel
theorem dX2_letCome_78 : decode cX2_letCome 78 = .ok (.iastore, 1) := by decide +kernel
theorem dX2_letCome_79 : decode cX2_letCome 79 = .ok (.iload 4, 2) := by decide +kernel
theorem dX2_letCome_81 : decode cX2_letCome 81 = .ok (.ireturn, 1) := by decide +kernel
theorem dX5_cellOf_0 : decode cX5_cellOf 0 = .ok (.iload_n 0, 1) := by decide +kernel
theorem dX5_cellOf_1 : decode cX5_cellOf 1 = .ok (.bipush 80, 2) := by decide +kernel
theorem dX5_cellOf_3 : decode cX5_cellOf 3 = .ok (.imul, 1) := by decide +kernel
theorem dX5_cellOf_4 : decode cX5_cellOf 4 = .ok (.iload_n 1, 1) := by decide +kernel
theorem dX5_cellOf_5 : decode cX5_cellOf 5 = .ok (.iconst 5, 1) := by decide +kernel
theorem dX5_cellOf_6 : decode cX5_cellOf 6 = .ok (.imul, 1) := by decide +kernel
theorem dX5_cellOf_7 : decode cX5_cellOf 7 = .ok (.iadd, 1) := by decide +kernel
theorem dX5_cellOf_8 : decode cX5_cellOf 8 = .ok (.iload_n 2, 1) := by decide +kernel
theorem dX5_cellOf_9 : decode cX5_cellOf 9 = .ok (.iadd, 1) := by decide +kernel
theorem dX5_cellOf_10 : decode cX5_cellOf 10 = .ok (.ireturn, 1) := by decide +kernel
theorem dX5_keyRow_0 : decode cX5_keyRow 0 = .ok (.iload_n 0, 1) := by decide +kernel
theorem dX5_keyRow_1 : decode cX5_keyRow 1 = .ok (.bipush 16, 2) := by decide +kernel
theorem dX5_keyRow_3 : decode cX5_keyRow 3 = .ok (.imul, 1) := by decide +kernel
theorem dX5_keyRow_4 : decode cX5_keyRow 4 = .ok (.iload_n 1, 1) := by decide +kernel
theorem dX5_keyRow_5 : decode cX5_keyRow 5 = .ok (.iadd, 1) := by decide +kernel
theorem dX5_keyRow_6 : decode cX5_keyRow 6 = .ok (.iconst 4, 1) := by decide +kernel
theorem dX5_keyRow_7 : decode cX5_keyRow 7 = .ok (.imul, 1) := by decide +kernel
theorem dX5_keyRow_8 : decode cX5_keyRow 8 = .ok (.ireturn, 1) := by decide +kernel
theorem dX9_hasSeen_0 : decode cX9_hasSeen 0 = .ok (.iconst 0, 1) := by decide +kernel
theorem dX9_hasSeen_1 : decode cX9_hasSeen 1 = .ok (.istore 6, 2) := by decide +kernel
theorem dX9_hasSeen_3 : decode cX9_hasSeen 3 = .ok (.iload 6, 2) := by decide +kernel
theorem dX9_hasSeen_5 : decode cX9_hasSeen 5 = .ok (.aload_n 1, 1) := by decide +kernel
theorem dX9_hasSeen_6 : decode cX9_hasSeen 6 = .ok (.getfield 31, 3) := by decide +kernel
theorem dX9_hasSeen_9 : decode cX9_hasSeen 9 = .ok (.if_icmp .ge 85, 3) := by decide +kernel
theorem dX9_hasSeen_12 : decode cX9_hasSeen 12 = .ok (.aload_n 1, 1) := by decide +kernel
theorem dX9_hasSeen_13 : decode cX9_hasSeen 13 = .ok (.getfield 37, 3) := by decide +kernel
theorem dX9_hasSeen_16 : decode cX9_hasSeen 16 = .ok (.iload 6, 2) := by decide +kernel
theorem dX9_hasSeen_18 : decode cX9_hasSeen 18 = .ok (.iaload, 1) := by decide +kernel
theorem dX9_hasSeen_19 : decode cX9_hasSeen 19 = .ok (.iload_n 3, 1) := by decide +kernel
theorem dX9_hasSeen_20 : decode cX9_hasSeen 20 = .ok (.if_icmp .ne 68, 3) := by decide +kernel
theorem dX9_hasSeen_23 : decode cX9_hasSeen 23 = .ok (.aload_n 1, 1) := by decide +kernel
theorem dX9_hasSeen_24 : decode cX9_hasSeen 24 = .ok (.getfield 40, 3) := by decide +kernel
theorem dX9_hasSeen_27 : decode cX9_hasSeen 27 = .ok (.iload 6, 2) := by decide +kernel
theorem dX9_hasSeen_29 : decode cX9_hasSeen 29 = .ok (.iaload, 1) := by decide +kernel
theorem dX9_hasSeen_30 : decode cX9_hasSeen 30 = .ok (.iload 4, 2) := by decide +kernel
theorem dX9_hasSeen_32 : decode cX9_hasSeen 32 = .ok (.if_icmp .ne 56, 3) := by decide +kernel
theorem dX9_hasSeen_35 : decode cX9_hasSeen 35 = .ok (.aload_n 1, 1) := by decide +kernel
theorem dX9_hasSeen_36 : decode cX9_hasSeen 36 = .ok (.getfield 43, 3) := by decide +kernel
theorem dX9_hasSeen_39 : decode cX9_hasSeen 39 = .ok (.iload 6, 2) := by decide +kernel
theorem dX9_hasSeen_41 : decode cX9_hasSeen 41 = .ok (.iaload, 1) := by decide +kernel
theorem dX9_hasSeen_42 : decode cX9_hasSeen 42 = .ok (.iload_n 2, 1) := by decide +kernel
theorem dX9_hasSeen_43 : decode cX9_hasSeen 43 = .ok (.if_icmp .eq 45, 3) := by decide +kernel
theorem dX9_hasSeen_46 : decode cX9_hasSeen 46 = .ok (.aload_n 0, 1) := by decide +kernel
theorem dX9_hasSeen_47 : decode cX9_hasSeen 47 = .ok (.iload_n 2, 1) := by decide +kernel
theorem dX9_hasSeen_48 : decode cX9_hasSeen 48 = .ok (.aload_n 1, 1) := by decide +kernel
theorem dX9_hasSeen_49 : decode cX9_hasSeen 49 = .ok (.getfield 46, 3) := by decide +kernel
theorem dX9_hasSeen_52 : decode cX9_hasSeen 52 = .ok (.iload 6, 2) := by decide +kernel
theorem dX9_hasSeen_54 : decode cX9_hasSeen 54 = .ok (.iaload, 1) := by decide +kernel
theorem dX9_hasSeen_55 : decode cX9_hasSeen 55 = .ok (.aload_n 1, 1) := by decide +kernel
theorem dX9_hasSeen_56 : decode cX9_hasSeen 56 = .ok (.getfield 49, 3) := by decide +kernel
theorem dX9_hasSeen_59 : decode cX9_hasSeen 59 = .ok (.iload 6, 2) := by decide +kernel
theorem dX9_hasSeen_61 : decode cX9_hasSeen 61 = .ok (.iaload, 1) := by decide +kernel
theorem dX9_hasSeen_62 : decode cX9_hasSeen 62 = .ok (.iconst (-1), 1) := by decide +kernel
theorem dX9_hasSeen_63 : decode cX9_hasSeen 63 = .ok (.if_icmp .ne 8, 3) := by decide +kernel
theorem dX9_hasSeen_66 : decode cX9_hasSeen 66 = .ok (.iload 5, 2) := by decide +kernel
theorem dX9_hasSeen_68 : decode cX9_hasSeen 68 = .ok (.goto 10, 3) := by decide +kernel
theorem dX9_hasSeen_71 : decode cX9_hasSeen 71 = .ok (.aload_n 1, 1) := by decide +kernel
theorem dX9_hasSeen_72 : decode cX9_hasSeen 72 = .ok (.getfield 49, 3) := by decide +kernel
theorem dX9_hasSeen_75 : decode cX9_hasSeen 75 = .ok (.iload 6, 2) := by decide +kernel
theorem dX9_hasSeen_77 : decode cX9_hasSeen 77 = .ok (.iaload, 1) := by decide +kernel
theorem dX9_hasSeen_78 : decode cX9_hasSeen 78 = .ok (.iload 5, 2) := by decide +kernel
theorem dX9_hasSeen_80 : decode cX9_hasSeen 80 = .ok (.invokevirtual 52, 3) := by decide +kernel
theorem dX9_hasSeen_83 : decode cX9_hasSeen 83 = .ok (.ifCond .eq 5, 3) := by decide +kernel
theorem dX9_hasSeen_86 : decode cX9_hasSeen 86 = .ok (.iconst 1, 1) := by decide +kernel
theorem dX9_hasSeen_87 : decode cX9_hasSeen 87 = .ok (.ireturn, 1) := by decide +kernel
theorem dX9_hasSeen_88 : decode cX9_hasSeen 88 = .ok (.iinc 6 1, 3) := by decide +kernel
theorem dX9_hasSeen_91 : decode cX9_hasSeen 91 = .ok (.goto (-88), 3) := by decide +kernel
theorem dX9_hasSeen_94 : decode cX9_hasSeen 94 = .ok (.iconst 0, 1) := by decide +kernel
theorem dX9_hasSeen_95 : decode cX9_hasSeen 95 = .ok (.ireturn, 1) := by decide +kernel
theorem dX9_wasOut_0 : decode cX9_wasOut 0 = .ok (.iload_n 1, 1) := by decide +kernel
theorem dX9_wasOut_1 : decode cX9_wasOut 1 = .ok (.bipush 20, 2) := by decide +kernel
theorem dX9_wasOut_3 : decode cX9_wasOut 3 = .ok (.imul, 1) := by decide +kernel
theorem dX9_wasOut_4 : decode cX9_wasOut 4 = .ok (.istore 5, 2) := by decide +kernel
theorem dX9_wasOut_6 : decode cX9_wasOut 6 = .ok (.iload 5, 2) := by decide +kernel
theorem dX9_wasOut_8 : decode cX9_wasOut 8 = .ok (.aload_n 0, 1) := by decide +kernel
theorem dX9_wasOut_9 : decode cX9_wasOut 9 = .ok (.iload_n 1, 1) := by decide +kernel
theorem dX9_wasOut_10 : decode cX9_wasOut 10 = .ok (.invokevirtual 27, 3) := by decide +kernel
theorem dX9_wasOut_13 : decode cX9_wasOut 13 = .ok (.if_icmp .gt 53, 3) := by decide +kernel
theorem dX9_wasOut_16 : decode cX9_wasOut 16 = .ok (.aload_n 0, 1) := by decide +kernel
theorem dX9_wasOut_17 : decode cX9_wasOut 17 = .ok (.getfield 18, 3) := by decide +kernel
theorem dX9_wasOut_20 : decode cX9_wasOut 20 = .ok (.iload 5, 2) := by decide +kernel
theorem dX9_wasOut_22 : decode cX9_wasOut 22 = .ok (.iaload, 1) := by decide +kernel
theorem dX9_wasOut_23 : decode cX9_wasOut 23 = .ok (.iconst (-1), 1) := by decide +kernel
theorem dX9_wasOut_24 : decode cX9_wasOut 24 = .ok (.if_icmp .ne 8, 3) := by decide +kernel
theorem dX9_wasOut_27 : decode cX9_wasOut 27 = .ok (.iload 4, 2) := by decide +kernel
theorem dX9_wasOut_29 : decode cX9_wasOut 29 = .ok (.goto 10, 3) := by decide +kernel
theorem dX9_wasOut_32 : decode cX9_wasOut 32 = .ok (.aload_n 0, 1) := by decide +kernel
theorem dX9_wasOut_33 : decode cX9_wasOut 33 = .ok (.getfield 18, 3) := by decide +kernel
theorem dX9_wasOut_36 : decode cX9_wasOut 36 = .ok (.iload 5, 2) := by decide +kernel
theorem dX9_wasOut_38 : decode cX9_wasOut 38 = .ok (.iaload, 1) := by decide +kernel
theorem dX9_wasOut_39 : decode cX9_wasOut 39 = .ok (.istore 6, 2) := by decide +kernel
theorem dX9_wasOut_41 : decode cX9_wasOut 41 = .ok (.aload_n 0, 1) := by decide +kernel
theorem dX9_wasOut_42 : decode cX9_wasOut 42 = .ok (.getfield 15, 3) := by decide +kernel
theorem dX9_wasOut_45 : decode cX9_wasOut 45 = .ok (.iload 5, 2) := by decide +kernel
theorem dX9_wasOut_47 : decode cX9_wasOut 47 = .ok (.iaload, 1) := by decide +kernel
theorem dX9_wasOut_48 : decode cX9_wasOut 48 = .ok (.iload_n 3, 1) := by decide +kernel
theorem dX9_wasOut_49 : decode cX9_wasOut 49 = .ok (.if_icmp .gt 11, 3) := by decide +kernel
theorem dX9_wasOut_52 : decode cX9_wasOut 52 = .ok (.iload_n 2, 1) := by decide +kernel
theorem dX9_wasOut_53 : decode cX9_wasOut 53 = .ok (.iload 6, 2) := by decide +kernel
theorem dX9_wasOut_55 : decode cX9_wasOut 55 = .ok (.if_icmp .gt 5, 3) := by decide +kernel
theorem dX9_wasOut_58 : decode cX9_wasOut 58 = .ok (.iconst 1, 1) := by decide +kernel
theorem dX9_wasOut_59 : decode cX9_wasOut 59 = .ok (.ireturn, 1) := by decide +kernel
theorem dX9_wasOut_60 : decode cX9_wasOut 60 = .ok (.iinc 5 1, 3) := by decide +kernel
theorem dX9_wasOut_63 : decode cX9_wasOut 63 = .ok (.goto (-57), 3) := by decide +kernel
theorem dX9_wasOut_66 : decode cX9_wasOut 66 = .ok (.iconst 0, 1) := by decide +kernel
theorem dX9_wasOut_67 : decode cX9_wasOut 67 = .ok (.ireturn, 1) := by decide +kernel
