theorem dX6_split_0 : decode cX6_split 0 = .ok (.aload_n 0, 1) := by decide +kernel
theorem dX6_split_1 : decode cX6_split 1 = .ok (.iconst 0, 1) := by decide +kernel
theorem dX6_split_2 : decode cX6_split 2 = .ok (.putfield 21, 3) := by decide +kernel
theorem dX6_split_5 : decode cX6_split 5 = .ok (.aload_n 0, 1) := by decide +kernel
theorem dX6_split_6 : decode cX6_split 6 = .ok (.iconst 0, 1) := by decide +kernel
theorem dX6_split_7 : decode cX6_split 7 = .ok (.putfield 25, 3) := by decide +kernel
theorem dX6_split_10 : decode cX6_split 10 = .ok (.iconst 0, 1) := by decide +kernel
theorem dX6_split_11 : decode cX6_split 11 = .ok (.istore_n 3, 1) := by decide +kernel
theorem dX6_split_12 : decode cX6_split 12 = .ok (.iconst 0, 1) := by decide +kernel
theorem dX6_split_13 : decode cX6_split 13 = .ok (.istore 4, 2) := by decide +kernel
theorem dX6_split_15 : decode cX6_split 15 = .ok (.iload 4, 2) := by decide +kernel
theorem dX6_split_17 : decode cX6_split 17 = .ok (.iload_n 2, 1) := by decide +kernel
theorem dX6_split_18 : decode cX6_split 18 = .ok (.if_icmp .ge 127, 3) := by decide +kernel
theorem dX6_split_21 : decode cX6_split 21 = .ok (.iload_n 3, 1) := by decide +kernel
theorem dX6_split_22 : decode cX6_split 22 = .ok (.iload_n 2, 1) := by decide +kernel
theorem dX6_split_23 : decode cX6_split 23 = .ok (.if_icmp .ge 122, 3) := by decide +kernel
theorem dX6_split_26 : decode cX6_split 26 = .ok (.aload_n 1, 1) := by decide +kernel
theorem dX6_split_27 : decode cX6_split 27 = .ok (.iload_n 3, 1) := by decide +kernel
theorem dX6_split_28 : decode cX6_split 28 = .ok (.iaload, 1) := by decide +kernel
theorem dX6_split_29 : decode cX6_split 29 = .ok (.istore 5, 2) := by decide +kernel
theorem dX6_split_31 : decode cX6_split 31 = .ok (.iload 5, 2) := by decide +kernel
theorem dX6_split_33 : decode cX6_split 33 = .ok (.bipush 32, 2) := by decide +kernel
theorem dX6_split_35 : decode cX6_split 35 = .ok (.if_icmp .eq 10, 3) := by decide +kernel
theorem dX6_split_38 : decode cX6_split 38 = .ok (.iload 5, 2) := by decide +kernel
theorem dX6_split_40 : decode cX6_split 40 = .ok (.bipush 10, 2) := by decide +kernel
theorem dX6_split_42 : decode cX6_split 42 = .ok (.if_icmp .ne 9, 3) := by decide +kernel
theorem dX6_split_45 : decode cX6_split 45 = .ok (.iinc 3 1, 3) := by decide +kernel
theorem dX6_split_48 : decode cX6_split 48 = .ok (.goto 66, 3) := by decide +kernel
theorem dX6_split_51 : decode cX6_split 51 = .ok (.iload 5, 2) := by decide +kernel
theorem dX6_split_53 : decode cX6_split 53 = .ok (.invokestatic 28, 3) := by decide +kernel
theorem dX6_split_56 : decode cX6_split 56 = .ok (.ifCond .eq 14, 3) := by decide +kernel
theorem dX6_split_59 : decode cX6_split 59 = .ok (.aload_n 0, 1) := by decide +kernel
theorem dX6_split_60 : decode cX6_split 60 = .ok (.aload_n 1, 1) := by decide +kernel
theorem dX6_split_61 : decode cX6_split 61 = .ok (.iload_n 3, 1) := by decide +kernel
theorem dX6_split_62 : decode cX6_split 62 = .ok (.iload_n 2, 1) := by decide +kernel
theorem dX6_split_63 : decode cX6_split 63 = .ok (.invokevirtual 32, 3) := by decide +kernel
theorem dX6_split_66 : decode cX6_split 66 = .ok (.istore_n 3, 1) := by decide +kernel
theorem dX6_split_67 : decode cX6_split 67 = .ok (.goto 47, 3) := by decide +kernel
theorem dX6_split_70 : decode cX6_split 70 = .ok (.iload 5, 2) := by decide +kernel
theorem dX6_split_72 : decode cX6_split 72 = .ok (.invokestatic 36, 3) := by decide +kernel
theorem dX6_split_75 : decode cX6_split 75 = .ok (.ifCond .eq 14, 3) := by decide +kernel
theorem dX6_split_78 : decode cX6_split 78 = .ok (.aload_n 0, 1) := by decide +kernel
theorem dX6_split_79 : decode cX6_split 79 = .ok (.aload_n 1, 1) := by decide +kernel
theorem dX6_split_80 : decode cX6_split 80 = .ok (.iload_n 3, 1) := by decide +kernel
theorem dX6_split_81 : decode cX6_split 81 = .ok (.iload_n 2, 1) := by decide +kernel
theorem dX6_split_82 : decode cX6_split 82 = .ok (.invokevirtual 39, 3) := by decide +kernel
theorem dX6_split_85 : decode cX6_split 85 = .ok (.istore_n 3, 1) := by decide +kernel
theorem dX6_split_86 : decode cX6_split 86 = .ok (.goto 28, 3) := by decide +kernel
theorem dX6_split_89 : decode cX6_split 89 = .ok (.aload_n 0, 1) := by decide +kernel
theorem dX6_split_90 : decode cX6_split 90 = .ok (.iload 5, 2) := by decide +kernel
theorem dX6_split_92 : decode cX6_split 92 = .ok (.invokestatic 42, 3) := by decide +kernel
theorem dX6_split_95 : decode cX6_split 95 = .ok (.ifCond .eq 8, 3) := by decide +kernel
theorem dX6_split_98 : decode cX6_split 98 = .ok (.iload 5, 2) := by decide +kernel
theorem dX6_split_100 : decode cX6_split 100 = .ok (.goto 6, 3) := by decide +kernel
theorem dX6_split_103 : decode cX6_split 103 = .ok (.sipush 257, 3) := by decide +kernel
theorem dX6_split_106 : decode cX6_split 106 = .ok (.iload_n 3, 1) := by decide +kernel
theorem dX6_split_107 : decode cX6_split 107 = .ok (.iconst 0, 1) := by decide +kernel
theorem dX6_split_108 : decode cX6_split 108 = .ok (.invokevirtual 45, 3) := by decide +kernel
theorem dX6_split_111 : decode cX6_split 111 = .ok (.iinc 3 1, 3) := by decide +kernel
theorem dX6_split_114 : decode cX6_split 114 = .ok (.aload_n 0, 1) := by decide +kernel
theorem dX6_split_115 : decode cX6_split 115 = .ok (.getfield 25, 3) := by decide +kernel
theorem dX6_split_118 : decode cX6_split 118 = .ok (.ifCond .le 21, 3) := by decide +kernel
theorem dX6_split_121 : decode cX6_split 121 = .ok (.aload_n 0, 1) := by decide +kernel
theorem dX6_split_122 : decode cX6_split 122 = .ok (.getfield 9, 3) := by decide +kernel
theorem dX6_split_125 : decode cX6_split 125 = .ok (.aload_n 0, 1) := by decide +kernel
theorem dX6_split_126 : decode cX6_split 126 = .ok (.getfield 25, 3) := by decide +kernel
theorem dX6_split_129 : decode cX6_split 129 = .ok (.iconst 1, 1) := by decide +kernel
theorem dX6_split_130 : decode cX6_split 130 = .ok (.isub, 1) := by decide +kernel
theorem dX6_split_131 : decode cX6_split 131 = .ok (.iaload, 1) := by decide +kernel
theorem dX6_split_132 : decode cX6_split 132 = .ok (.sipush 257, 3) := by decide +kernel
theorem dX6_split_135 : decode cX6_split 135 = .ok (.if_icmp .ne 4, 3) := by decide +kernel
theorem dX6_split_138 : decode cX6_split 138 = .ok (.return_, 1) := by decide +kernel
theorem dX6_split_139 : decode cX6_split 139 = .ok (.iinc 4 1, 3) := by decide +kernel
theorem dX6_split_142 : decode cX6_split 142 = .ok (.goto (-127), 3) := by decide +kernel
theorem dX6_split_145 : decode cX6_split 145 = .ok (.aload_n 0, 1) := by decide +kernel
theorem dX6_split_146 : decode cX6_split 146 = .ok (.sipush 256, 3) := by decide +kernel
theorem dX6_split_149 : decode cX6_split 149 = .ok (.iload_n 2, 1) := by decide +kernel
theorem dX6_split_150 : decode cX6_split 150 = .ok (.iconst 0, 1) := by decide +kernel
theorem dX6_split_151 : decode cX6_split 151 = .ok (.invokevirtual 45, 3) := by decide +kernel
theorem dX6_split_154 : decode cX6_split 154 = .ok (.return_, 1) := by decide +kernel
theorem dX6_put_0 : decode cX6_put 0 = .ok (.aload_n 0, 1) := by decide +kernel
theorem dX6_put_1 : decode cX6_put 1 = .ok (.getfield 25, 3) := by decide +kernel
theorem dX6_put_4 : decode cX6_put 4 = .ok (.aload_n 0, 1) := by decide +kernel
theorem dX6_put_5 : decode cX6_put 5 = .ok (.getfield 9, 3) := by decide +kernel
theorem dX6_put_8 : decode cX6_put 8 = .ok (.arraylength, 1) := by decide +kernel
theorem dX6_put_9 : decode cX6_put 9 = .ok (.if_icmp .ge 43, 3) := by decide +kernel
theorem dX6_put_12 : decode cX6_put 12 = .ok (.aload_n 0, 1) := by decide +kernel
theorem dX6_put_13 : decode cX6_put 13 = .ok (.getfield 9, 3) := by decide +kernel
theorem dX6_put_16 : decode cX6_put 16 = .ok (.aload_n 0, 1) := by decide +kernel
theorem dX6_put_17 : decode cX6_put 17 = .ok (.getfield 25, 3) := by decide +kernel
theorem dX6_put_20 : decode cX6_put 20 = .ok (.iload_n 1, 1) := by decide +kernel
theorem dX6_put_21 : decode cX6_put 21 = .ok (.iastore, 1) := by decide +kernel
theorem dX6_put_22 : decode cX6_put 22 = .ok (.aload_n 0, 1) := by decide +kernel
theorem dX6_put_23 : decode cX6_put 23 = .ok (.getfield 15, 3) := by decide +kernel
theorem dX6_put_26 : decode cX6_put 26 = .ok (.aload_n 0, 1) := by decide +kernel
theorem dX6_put_27 : decode cX6_put 27 = .ok (.getfield 25, 3) := by decide +kernel
theorem dX6_put_30 : decode cX6_put 30 = .ok (.iload_n 2, 1) := by decide +kernel
theorem dX6_put_31 : decode cX6_put 31 = .ok (.iastore, 1) := by decide +kernel
theorem dX6_put_32 : decode cX6_put 32 = .ok (.aload_n 0, 1) := by decide +kernel
theorem dX6_put_33 : decode cX6_put 33 = .ok (.getfield 18, 3) := by decide +kernel
theorem dX6_put_36 : decode cX6_put 36 = .ok (.aload_n 0, 1) := by decide +kernel
theorem dX6_put_37 : decode cX6_put 37 = .ok (.getfield 25, 3) := by decide +kernel
theorem dX6_put_40 : decode cX6_put 40 = .ok (.iload_n 3, 1) := by decide +kernel
theorem dX6_put_41 : decode cX6_put 41 = .ok (.iastore, 1) := by decide +kernel
theorem dX6_put_42 : decode cX6_put 42 = .ok (.aload_n 0, 1) := by decide +kernel
theorem dX6_put_43 : decode cX6_put 43 = .ok (.dup, 1) := by decide +kernel
theorem dX6_put_44 : decode cX6_put 44 = .ok (.getfield 25, 3) := by decide +kernel
theorem dX6_put_47 : decode cX6_put 47 = .ok (.iconst 1, 1) := by decide +kernel
theorem dX6_put_48 : decode cX6_put 48 = .ok (.iadd, 1) := by decide +kernel
theorem dX6_put_49 : decode cX6_put 49 = .ok (.putfield 25, 3) := by decide +kernel
theorem dX6_put_52 : decode cX6_put 52 = .ok (.return_, 1) := by decide +kernel
theorem dX6_putWord_0 : decode cX6_putWord 0 = .ok (.iload_n 2, 1) := by decide +kernel
theorem dX6_putWord_1 : decode cX6_putWord 1 = .ok (.istore 4, 2) := by decide +kernel
theorem dX6_putWord_3 : decode cX6_putWord 3 = .ok (.iload 4, 2) := by decide +kernel
theorem dX6_putWord_5 : decode cX6_putWord 5 = .ok (.iload_n 3, 1) := by decide +kernel
theorem dX6_putWord_6 : decode cX6_putWord 6 = .ok (.if_icmp .ge 19, 3) := by decide +kernel
theorem dX6_putWord_9 : decode cX6_putWord 9 = .ok (.aload_n 1, 1) := by decide +kernel
theorem dX6_putWord_10 : decode cX6_putWord 10 = .ok (.iload 4, 2) := by decide +kernel
theorem dX6_putWord_12 : decode cX6_putWord 12 = .ok (.iaload, 1) := by decide +kernel
theorem dX6_putWord_13 : decode cX6_putWord 13 = .ok (.invokestatic 28, 3) := by decide +kernel
theorem dX6_putWord_16 : decode cX6_putWord 16 = .ok (.ifCond .eq 9, 3) := by decide +kernel
theorem dX6_putWord_19 : decode cX6_putWord 19 = .ok (.iinc 4 1, 3) := by decide +kernel
theorem dX6_putWord_22 : decode cX6_putWord 22 = .ok (.goto (-19), 3) := by decide +kernel
theorem dX6_putWord_25 : decode cX6_putWord 25 = .ok (.aload_n 0, 1) := by decide +kernel
theorem dX6_putWord_26 : decode cX6_putWord 26 = .ok (.aload_n 1, 1) := by decide +kernel
theorem dX6_putWord_27 : decode cX6_putWord 27 = .ok (.iload_n 2, 1) := by decide +kernel
theorem dX6_putWord_28 : decode cX6_putWord 28 = .ok (.iload 4, 2) := by decide +kernel
theorem dX6_putWord_30 : decode cX6_putWord 30 = .ok (.invokestatic 49, 3) := by decide +kernel
theorem dX6_putWord_33 : decode cX6_putWord 33 = .ok (.iload_n 2, 1) := by decide +kernel
theorem dX6_putWord_34 : decode cX6_putWord 34 = .ok (.iconst 0, 1) := by decide +kernel
theorem dX6_putWord_35 : decode cX6_putWord 35 = .ok (.invokevirtual 45, 3) := by decide +kernel
theorem dX6_putWord_38 : decode cX6_putWord 38 = .ok (.iload 4, 2) := by decide +kernel
theorem dX6_putWord_40 : decode cX6_putWord 40 = .ok (.ireturn, 1) := by decide +kernel
theorem dX6_wordKind_0 : decode cX6_wordKind 0 = .ok (.sipush 260, 3) := by decide +kernel
theorem dX6_wordKind_3 : decode cX6_wordKind 3 = .ok (.istore_n 3, 1) := by decide +kernel
theorem dX6_wordKind_4 : decode cX6_wordKind 4 = .ok (.iload_n 1, 1) := by decide +kernel
theorem dX6_wordKind_5 : decode cX6_wordKind 5 = .ok (.istore 4, 2) := by decide +kernel
theorem dX6_wordKind_7 : decode cX6_wordKind 7 = .ok (.iconst 1, 1) := by decide +kernel
theorem dX6_wordKind_8 : decode cX6_wordKind 8 = .ok (.istore 5, 2) := by decide +kernel
theorem dX6_wordKind_10 : decode cX6_wordKind 10 = .ok (.iconst 0, 1) := by decide +kernel
theorem dX6_wordKind_11 : decode cX6_wordKind 11 = .ok (.istore 6, 2) := by decide +kernel
theorem dX6_wordKind_13 : decode cX6_wordKind 13 = .ok (.iload 6, 2) := by decide +kernel
theorem dX6_wordKind_15 : decode cX6_wordKind 15 = .ok (.ldc 52, 2) := by decide +kernel
theorem dX6_wordKind_17 : decode cX6_wordKind 17 = .ok (.invokevirtual 54, 3) := by decide +kernel
theorem dX6_wordKind_20 : decode cX6_wordKind 20 = .ok (.if_icmp .ge 80, 3) := by decide +kernel
theorem dX6_wordKind_23 : decode cX6_wordKind 23 = .ok (.ldc 52, 2) := by decide +kernel
theorem dX6_wordKind_25 : decode cX6_wordKind 25 = .ok (.iload 6, 2) := by decide +kernel
theorem dX6_wordKind_27 : decode cX6_wordKind 27 = .ok (.invokevirtual 60, 3) := by decide +kernel
theorem dX6_wordKind_30 : decode cX6_wordKind 30 = .ok (.istore 7, 2) := by decide +kernel
theorem dX6_wordKind_32 : decode cX6_wordKind 32 = .ok (.iload 7, 2) := by decide +kernel
theorem dX6_wordKind_34 : decode cX6_wordKind 34 = .ok (.bipush 32, 2) := by decide +kernel
theorem dX6_wordKind_36 : decode cX6_wordKind 36 = .ok (.if_icmp .eq 36, 3) := by decide +kernel
theorem dX6_wordKind_39 : decode cX6_wordKind 39 = .ok (.iload 5, 2) := by decide +kernel
theorem dX6_wordKind_41 : decode cX6_wordKind 41 = .ok (.ifCond .eq 22, 3) := by decide +kernel
theorem dX6_wordKind_44 : decode cX6_wordKind 44 = .ok (.iload 4, 2) := by decide +kernel
theorem dX6_wordKind_46 : decode cX6_wordKind 46 = .ok (.iload_n 2, 1) := by decide +kernel
theorem dX6_wordKind_47 : decode cX6_wordKind 47 = .ok (.if_icmp .ge 16, 3) := by decide +kernel
theorem dX6_wordKind_50 : decode cX6_wordKind 50 = .ok (.aload_n 0, 1) := by decide +kernel
theorem dX6_wordKind_51 : decode cX6_wordKind 51 = .ok (.iload 4, 2) := by decide +kernel
theorem dX6_wordKind_53 : decode cX6_wordKind 53 = .ok (.iaload, 1) := by decide +kernel
theorem dX6_wordKind_54 : decode cX6_wordKind 54 = .ok (.iload 7, 2) := by decide +kernel
theorem dX6_wordKind_56 : decode cX6_wordKind 56 = .ok (.if_icmp .ne 7, 3) := by decide +kernel
theorem dX6_wordKind_59 : decode cX6_wordKind 59 = .ok (.iconst 1, 1) := by decide +kernel
theorem dX6_wordKind_60 : decode cX6_wordKind 60 = .ok (.goto 4, 3) := by decide +kernel
theorem dX6_wordKind_63 : decode cX6_wordKind 63 = .ok (.iconst 0, 1) := by decide +kernel
theorem dX6_wordKind_64 : decode cX6_wordKind 64 = .ok (.istore 5, 2) := by decide +kernel
theorem dX6_wordKind_66 : decode cX6_wordKind 66 = .ok (.iinc 4 1, 3) := by decide +kernel
theorem dX6_wordKind_69 : decode cX6_wordKind 69 = .ok (.goto 25, 3) := by decide +kernel
theorem dX6_wordKind_72 : decode cX6_wordKind 72 = .ok (.iload 5, 2) := by decide +kernel
theorem dX6_wordKind_74 : decode cX6_wordKind 74 = .ok (.ifCond .eq 11, 3) := by decide +kernel
theorem dX6_wordKind_77 : decode cX6_wordKind 77 = .ok (.iload 4, 2) := by decide +kernel
theorem dX6_wordKind_79 : decode cX6_wordKind 79 = .ok (.iload_n 2, 1) := by decide +kernel
theorem dX6_wordKind_80 : decode cX6_wordKind 80 = .ok (.if_icmp .ne 5, 3) := by decide +kernel
theorem dX6_wordKind_83 : decode cX6_wordKind 83 = .ok (.iload_n 3, 1) := by decide +kernel
theorem dX6_wordKind_84 : decode cX6_wordKind 84 = .ok (.ireturn, 1) := by decide +kernel
theorem dX6_wordKind_85 : decode cX6_wordKind 85 = .ok (.iinc 3 1, 3) := by decide +kernel
theorem dX6_wordKind_88 : decode cX6_wordKind 88 = .ok (.iload_n 1, 1) := by decide +kernel
theorem dX6_wordKind_89 : decode cX6_wordKind 89 = .ok (.istore 4, 2) := by decide +kernel
theorem dX6_wordKind_91 : decode cX6_wordKind 91 = .ok (.iconst 1, 1) := by decide +kernel
theorem dX6_wordKind_92 : decode cX6_wordKind 92 = .ok (.istore 5, 2) := by decide +kernel
theorem dX6_wordKind_94 : decode cX6_wordKind 94 = .ok (.iinc 6 1, 3) := by decide +kernel
theorem dX6_wordKind_97 : decode cX6_wordKind 97 = .ok (.goto (-84), 3) := by decide +kernel
theorem dX6_wordKind_100 : decode cX6_wordKind 100 = .ok (.sipush 259, 3) := by decide +kernel
theorem dX6_wordKind_103 : decode cX6_wordKind 103 = .ok (.ireturn, 1) := by decide +kernel
theorem dX6_putNumber_0 : decode cX6_putNumber 0 = .ok (.iload_n 2, 1) := by decide +kernel
theorem dX6_putNumber_1 : decode cX6_putNumber 1 = .ok (.istore 4, 2) := by decide +kernel
theorem dX6_putNumber_3 : decode cX6_putNumber 3 = .ok (.iconst 0, 1) := by decide +kernel
theorem dX6_putNumber_4 : decode cX6_putNumber 4 = .ok (.istore 5, 2) := by decide +kernel
theorem dX6_putNumber_6 : decode cX6_putNumber 6 = .ok (.iload 4, 2) := by decide +kernel
theorem dX6_putNumber_8 : decode cX6_putNumber 8 = .ok (.iload_n 3, 1) := by decide +kernel
theorem dX6_putNumber_9 : decode cX6_putNumber 9 = .ok (.if_icmp .ge 43, 3) := by decide +kernel
theorem dX6_putNumber_12 : decode cX6_putNumber 12 = .ok (.aload_n 1, 1) := by decide +kernel
theorem dX6_putNumber_13 : decode cX6_putNumber 13 = .ok (.iload 4, 2) := by decide +kernel
theorem dX6_putNumber_15 : decode cX6_putNumber 15 = .ok (.iaload, 1) := by decide +kernel
theorem dX6_putNumber_16 : decode cX6_putNumber 16 = .ok (.invokestatic 36, 3) := by decide +kernel
theorem dX6_putNumber_19 : decode cX6_putNumber 19 = .ok (.ifCond .eq 33, 3) := by decide +kernel
theorem dX6_putNumber_22 : decode cX6_putNumber 22 = .ok (.iload 4, 2) := by decide +kernel
theorem dX6_putNumber_24 : decode cX6_putNumber 24 = .ok (.iload_n 2, 1) := by decide +kernel
theorem dX6_putNumber_25 : decode cX6_putNumber 25 = .ok (.isub, 1) := by decide +kernel
theorem dX6_putNumber_26 : decode cX6_putNumber 26 = .ok (.bipush 6, 2) := by decide +kernel
theorem dX6_putNumber_28 : decode cX6_putNumber 28 = .ok (.if_icmp .ge 18, 3) := by decide +kernel
theorem dX6_putNumber_31 : decode cX6_putNumber 31 = .ok (.iload 5, 2) := by decide +kernel
theorem dX6_putNumber_33 : decode cX6_putNumber 33 = .ok (.bipush 10, 2) := by decide +kernel
theorem dX6_putNumber_35 : decode cX6_putNumber 35 = .ok (.imul, 1) := by decide +kernel
theorem dX6_putNumber_36 : decode cX6_putNumber 36 = .ok (.aload_n 1, 1) := by decide +kernel
theorem dX6_putNumber_37 : decode cX6_putNumber 37 = .ok (.iload 4, 2) := by decide +kernel
theorem dX6_putNumber_39 : decode cX6_putNumber 39 = .ok (.iaload, 1) := by decide +kernel
theorem dX6_putNumber_40 : decode cX6_putNumber 40 = .ok (.iadd, 1) := by decide +kernel
theorem dX6_putNumber_41 : decode cX6_putNumber 41 = .ok (.bipush 48, 2) := by decide +kernel
theorem dX6_putNumber_43 : decode cX6_putNumber 43 = .ok (.isub, 1) := by decide +kernel
theorem dX6_putNumber_44 : decode cX6_putNumber 44 = .ok (.istore 5, 2) := by decide +kernel
theorem dX6_putNumber_46 : decode cX6_putNumber 46 = .ok (.iinc 4 1, 3) := by decide +kernel
theorem dX6_putNumber_49 : decode cX6_putNumber 49 = .ok (.goto (-43), 3) := by decide +kernel
theorem dX6_putNumber_52 : decode cX6_putNumber 52 = .ok (.aload_n 0, 1) := by decide +kernel
theorem dX6_putNumber_53 : decode cX6_putNumber 53 = .ok (.iload 4, 2) := by decide +kernel
theorem dX6_putNumber_55 : decode cX6_putNumber 55 = .ok (.iload_n 2, 1) := by decide +kernel
theorem dX6_putNumber_56 : decode cX6_putNumber 56 = .ok (.isub, 1) := by decide +kernel
theorem dX6_putNumber_57 : decode cX6_putNumber 57 = .ok (.bipush 6, 2) := by decide +kernel
theorem dX6_putNumber_59 : decode cX6_putNumber 59 = .ok (.if_icmp .le 9, 3) := by decide +kernel
theorem dX6_putNumber_62 : decode cX6_putNumber 62 = .ok (.sipush 257, 3) := by decide +kernel
theorem dX6_putNumber_65 : decode cX6_putNumber 65 = .ok (.goto 6, 3) := by decide +kernel
theorem dX6_putNumber_68 : decode cX6_putNumber 68 = .ok (.sipush 258, 3) := by decide +kernel
theorem dX6_putNumber_71 : decode cX6_putNumber 71 = .ok (.iload_n 2, 1) := by decide +kernel
theorem dX6_putNumber_72 : decode cX6_putNumber 72 = .ok (.iload 5, 2) := by decide +kernel
theorem dX6_putNumber_74 : decode cX6_putNumber 74 = .ok (.invokevirtual 45, 3) := by decide +kernel
theorem dX6_putNumber_77 : decode cX6_putNumber 77 = .ok (.iload 4, 2) := by decide +kernel
theorem dX6_putNumber_79 : decode cX6_putNumber 79 = .ok (.ireturn, 1) := by decide +kernel
theorem dX6_isLetter_0 : decode cX6_isLetter 0 = .ok (.iload_n 0, 1) := by decide +kernel
theorem dX6_isLetter_1 : decode cX6_isLetter 1 = .ok (.bipush 97, 2) := by decide +kernel
theorem dX6_isLetter_3 : decode cX6_isLetter 3 = .ok (.if_icmp .lt 13, 3) := by decide +kernel
theorem dX6_isLetter_6 : decode cX6_isLetter 6 = .ok (.iload_n 0, 1) := by decide +kernel
theorem dX6_isLetter_7 : decode cX6_isLetter 7 = .ok (.bipush 122, 2) := by decide +kernel
theorem dX6_isLetter_9 : decode cX6_isLetter 9 = .ok (.if_icmp .gt 7, 3) := by decide +kernel
theorem dX6_isLetter_12 : decode cX6_isLetter 12 = .ok (.iconst 1, 1) := by decide +kernel
theorem dX6_isLetter_13 : decode cX6_isLetter 13 = .ok (.goto 4, 3) := by decide +kernel
theorem dX6_isLetter_16 : decode cX6_isLetter 16 = .ok (.iconst 0, 1) := by decide +kernel
theorem dX6_isLetter_17 : decode cX6_isLetter 17 = .ok (.ireturn, 1) := by decide +kernel
theorem dX6_isDigit_0 : decode cX6_isDigit 0 = .ok (.iload_n 0, 1) := by decide +kernel
theorem dX6_isDigit_1 : decode cX6_isDigit 1 = .ok (.bipush 48, 2) := by decide +kernel
theorem dX6_isDigit_3 : decode cX6_isDigit 3 = .ok (.if_icmp .lt 13, 3) := by decide +kernel
theorem dX6_isDigit_6 : decode cX6_isDigit 6 = .ok (.iload_n 0, 1) := by decide +kernel
theorem dX6_isDigit_7 : decode cX6_isDigit 7 = .ok (.bipush 57, 2) := by decide +kernel
theorem dX6_isDigit_9 : decode cX6_isDigit 9 = .ok (.if_icmp .gt 7, 3) := by decide +kernel
theorem dX6_isDigit_12 : decode cX6_isDigit 12 = .ok (.iconst 1, 1) := by decide +kernel
theorem dX6_isDigit_13 : decode cX6_isDigit 13 = .ok (.goto 4, 3) := by decide +kernel
theorem dX6_isDigit_16 : decode cX6_isDigit 16 = .ok (.iconst 0, 1) := by decide +kernel
theorem dX6_isDigit_17 : decode cX6_isDigit 17 = .ok (.ireturn, 1) := by decide +kernel
theorem dX6_isSign_0 : decode cX6_isSign 0 = .ok (.iload_n 0, 1) := by decide +kernel
theorem dX6_isSign_1 : decode cX6_isSign 1 = .ok (.bipush 43, 2) := by decide +kernel
theorem dX6_isSign_3 : decode cX6_isSign 3 = .ok (.if_icmp .eq 39, 3) := by decide +kernel
theorem dX6_isSign_6 : decode cX6_isSign 6 = .ok (.iload_n 0, 1) := by decide +kernel
theorem dX6_isSign_7 : decode cX6_isSign 7 = .ok (.bipush 45, 2) := by decide +kernel
theorem dX6_isSign_9 : decode cX6_isSign 9 = .ok (.if_icmp .eq 33, 3) := by decide +kernel
theorem dX6_isSign_12 : decode cX6_isSign 12 = .ok (.iload_n 0, 1) := by decide +kernel
theorem dX6_isSign_13 : decode cX6_isSign 13 = .ok (.bipush 42, 2) := by decide +kernel
theorem dX6_isSign_15 : decode cX6_isSign 15 = .ok (.if_icmp .eq 27, 3) := by decide +kernel
theorem dX6_isSign_18 : decode cX6_isSign 18 = .ok (.iload_n 0, 1) := by decide +kernel
theorem dX6_isSign_19 : decode cX6_isSign 19 = .ok (.bipush 40, 2) := by decide +kernel
theorem dX6_isSign_21 : decode cX6_isSign 21 = .ok (.if_icmp .eq 21, 3) := by decide +kernel
theorem dX6_isSign_24 : decode cX6_isSign 24 = .ok (.iload_n 0, 1) := by decide +kernel
theorem dX6_isSign_25 : decode cX6_isSign 25 = .ok (.bipush 41, 2) := by decide +kernel
theorem dX6_isSign_27 : decode cX6_isSign 27 = .ok (.if_icmp .eq 15, 3) := by decide +kernel
theorem dX6_isSign_30 : decode cX6_isSign 30 = .ok (.iload_n 0, 1) := by decide +kernel
theorem dX6_isSign_31 : decode cX6_isSign 31 = .ok (.bipush 44, 2) := by decide +kernel
theorem dX6_isSign_33 : decode cX6_isSign 33 = .ok (.if_icmp .eq 9, 3) := by decide +kernel
theorem dX6_isSign_36 : decode cX6_isSign 36 = .ok (.iload_n 0, 1) := by decide +kernel
theorem dX6_isSign_37 : decode cX6_isSign 37 = .ok (.bipush 59, 2) := by decide +kernel
theorem dX6_isSign_39 : decode cX6_isSign 39 = .ok (.if_icmp .ne 7, 3) := by decide +kernel
theorem dX6_isSign_42 : decode cX6_isSign 42 = .ok (.iconst 1, 1) := by decide +kernel
theorem dX6_isSign_43 : decode cX6_isSign 43 = .ok (.goto 4, 3) := by decide +kernel
theorem dX6_isSign_46 : decode cX6_isSign 46 = .ok (.iconst 0, 1) := by decide +kernel
theorem dX6_isSign_47 : decode cX6_isSign 47 = .ok (.ireturn, 1) := by decide +kernel
