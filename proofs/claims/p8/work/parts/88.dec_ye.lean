theorem dX11_keyOf_0 : decode cX11_keyOf 0 = .ok (.lconst 0, 1) := by decide +kernel
theorem dX11_keyOf_1 : decode cX11_keyOf 1 = .ok (.lstore 5, 2) := by decide +kernel
theorem dX11_keyOf_3 : decode cX11_keyOf 3 = .ok (.ldc2_w 370, 3) := by decide +kernel
theorem dX11_keyOf_6 : decode cX11_keyOf 6 = .ok (.lstore 7, 2) := by decide +kernel
theorem dX11_keyOf_8 : decode cX11_keyOf 8 = .ok (.iconst 0, 1) := by decide +kernel
theorem dX11_keyOf_9 : decode cX11_keyOf 9 = .ok (.istore 9, 2) := by decide +kernel
theorem dX11_keyOf_11 : decode cX11_keyOf 11 = .ok (.iload 9, 2) := by decide +kernel
theorem dX11_keyOf_13 : decode cX11_keyOf 13 = .ok (.aload_n 0, 1) := by decide +kernel
theorem dX11_keyOf_14 : decode cX11_keyOf 14 = .ok (.getfield 20, 3) := by decide +kernel
theorem dX11_keyOf_17 : decode cX11_keyOf 17 = .ok (.iload_n 1, 1) := by decide +kernel
theorem dX11_keyOf_18 : decode cX11_keyOf 18 = .ok (.iaload, 1) := by decide +kernel
theorem dX11_keyOf_19 : decode cX11_keyOf 19 = .ok (.if_icmp .ge 79, 3) := by decide +kernel
theorem dX11_keyOf_22 : decode cX11_keyOf 22 = .ok (.aload_n 0, 1) := by decide +kernel
theorem dX11_keyOf_23 : decode cX11_keyOf 23 = .ok (.iload_n 1, 1) := by decide +kernel
theorem dX11_keyOf_24 : decode cX11_keyOf 24 = .ok (.iload 9, 2) := by decide +kernel
theorem dX11_keyOf_26 : decode cX11_keyOf 26 = .ok (.iload_n 2, 1) := by decide +kernel
theorem dX11_keyOf_27 : decode cX11_keyOf 27 = .ok (.iload_n 3, 1) := by decide +kernel
theorem dX11_keyOf_28 : decode cX11_keyOf 28 = .ok (.invokevirtual 387, 3) := by decide +kernel
theorem dX11_keyOf_31 : decode cX11_keyOf 31 = .ok (.istore 10, 2) := by decide +kernel
theorem dX11_keyOf_33 : decode cX11_keyOf 33 = .ok (.lload 7, 2) := by decide +kernel
theorem dX11_keyOf_35 : decode cX11_keyOf 35 = .ok (.iload 10, 2) := by decide +kernel
theorem dX11_keyOf_37 : decode cX11_keyOf 37 = .ok (.i2l, 1) := by decide +kernel
theorem dX11_keyOf_38 : decode cX11_keyOf 38 = .ok (.invokestatic 377, 3) := by decide +kernel
theorem dX11_keyOf_41 : decode cX11_keyOf 41 = .ok (.lstore 7, 2) := by decide +kernel
theorem dX11_keyOf_43 : decode cX11_keyOf 43 = .ok (.lload 5, 2) := by decide +kernel
theorem dX11_keyOf_45 : decode cX11_keyOf 45 = .ok (.aload_n 0, 1) := by decide +kernel
theorem dX11_keyOf_46 : decode cX11_keyOf 46 = .ok (.getfield 57, 3) := by decide +kernel
theorem dX11_keyOf_49 : decode cX11_keyOf 49 = .ok (.iload 4, 2) := by decide +kernel
theorem dX11_keyOf_51 : decode cX11_keyOf 51 = .ok (.iaload, 1) := by decide +kernel
theorem dX11_keyOf_52 : decode cX11_keyOf 52 = .ok (.ifCond .ne 9, 3) := by decide +kernel
theorem dX11_keyOf_55 : decode cX11_keyOf 55 = .ok (.iload 10, 2) := by decide +kernel
theorem dX11_keyOf_57 : decode cX11_keyOf 57 = .ok (.i2l, 1) := by decide +kernel
theorem dX11_keyOf_58 : decode cX11_keyOf 58 = .ok (.goto 31, 3) := by decide +kernel
theorem dX11_keyOf_61 : decode cX11_keyOf 61 = .ok (.aload_n 0, 1) := by decide +kernel
theorem dX11_keyOf_62 : decode cX11_keyOf 62 = .ok (.getfield 57, 3) := by decide +kernel
theorem dX11_keyOf_65 : decode cX11_keyOf 65 = .ok (.iload 4, 2) := by decide +kernel
theorem dX11_keyOf_67 : decode cX11_keyOf 67 = .ok (.iaload, 1) := by decide +kernel
theorem dX11_keyOf_68 : decode cX11_keyOf 68 = .ok (.iconst 2, 1) := by decide +kernel
theorem dX11_keyOf_69 : decode cX11_keyOf 69 = .ok (.if_icmp .ne 13, 3) := by decide +kernel
theorem dX11_keyOf_72 : decode cX11_keyOf 72 = .ok (.aload_n 0, 1) := by decide +kernel
theorem dX11_keyOf_73 : decode cX11_keyOf 73 = .ok (.getfield 133, 3) := by decide +kernel
theorem dX11_keyOf_76 : decode cX11_keyOf 76 = .ok (.iconst 0, 1) := by decide +kernel
theorem dX11_keyOf_77 : decode cX11_keyOf 77 = .ok (.iaload, 1) := by decide +kernel
theorem dX11_keyOf_78 : decode cX11_keyOf 78 = .ok (.i2l, 1) := by decide +kernel
theorem dX11_keyOf_79 : decode cX11_keyOf 79 = .ok (.goto 10, 3) := by decide +kernel
theorem dX11_keyOf_82 : decode cX11_keyOf 82 = .ok (.aload_n 0, 1) := by decide +kernel
theorem dX11_keyOf_83 : decode cX11_keyOf 83 = .ok (.getfield 133, 3) := by decide +kernel
theorem dX11_keyOf_86 : decode cX11_keyOf 86 = .ok (.iconst 1, 1) := by decide +kernel
theorem dX11_keyOf_87 : decode cX11_keyOf 87 = .ok (.iaload, 1) := by decide +kernel
theorem dX11_keyOf_88 : decode cX11_keyOf 88 = .ok (.i2l, 1) := by decide +kernel
theorem dX11_keyOf_89 : decode cX11_keyOf 89 = .ok (.ladd, 1) := by decide +kernel
theorem dX11_keyOf_90 : decode cX11_keyOf 90 = .ok (.lstore 5, 2) := by decide +kernel
theorem dX11_keyOf_92 : decode cX11_keyOf 92 = .ok (.iinc 9 1, 3) := by decide +kernel
theorem dX11_keyOf_95 : decode cX11_keyOf 95 = .ok (.goto (-84), 3) := by decide +kernel
theorem dX11_keyOf_98 : decode cX11_keyOf 98 = .ok (.aload_n 0, 1) := by decide +kernel
theorem dX11_keyOf_99 : decode cX11_keyOf 99 = .ok (.getfield 57, 3) := by decide +kernel
theorem dX11_keyOf_102 : decode cX11_keyOf 102 = .ok (.iload 4, 2) := by decide +kernel
theorem dX11_keyOf_104 : decode cX11_keyOf 104 = .ok (.iaload, 1) := by decide +kernel
theorem dX11_keyOf_105 : decode cX11_keyOf 105 = .ok (.iconst 1, 1) := by decide +kernel
theorem dX11_keyOf_106 : decode cX11_keyOf 106 = .ok (.if_icmp .ne 8, 3) := by decide +kernel
theorem dX11_keyOf_109 : decode cX11_keyOf 109 = .ok (.lload 7, 2) := by decide +kernel
theorem dX11_keyOf_111 : decode cX11_keyOf 111 = .ok (.goto 5, 3) := by decide +kernel
theorem dX11_keyOf_114 : decode cX11_keyOf 114 = .ok (.lload 5, 2) := by decide +kernel
theorem dX11_keyOf_116 : decode cX11_keyOf 116 = .ok (.lreturn, 1) := by decide +kernel
theorem dX11_key_0 : decode cX11_key 0 = .ok (.aload_n 0, 1) := by decide +kernel
theorem dX11_key_1 : decode cX11_key 1 = .ok (.iconst 0, 1) := by decide +kernel
theorem dX11_key_2 : decode cX11_key 2 = .ok (.putfield 146, 3) := by decide +kernel
theorem dX11_key_5 : decode cX11_key 5 = .ok (.aload_n 0, 1) := by decide +kernel
theorem dX11_key_6 : decode cX11_key 6 = .ok (.iconst 0, 1) := by decide +kernel
theorem dX11_key_7 : decode cX11_key 7 = .ok (.putfield 149, 3) := by decide +kernel
theorem dX11_key_10 : decode cX11_key 10 = .ok (.aload_n 0, 1) := by decide +kernel
theorem dX11_key_11 : decode cX11_key 11 = .ok (.iload_n 1, 1) := by decide +kernel
theorem dX11_key_12 : decode cX11_key 12 = .ok (.iload_n 2, 1) := by decide +kernel
theorem dX11_key_13 : decode cX11_key 13 = .ok (.invokevirtual 391, 3) := by decide +kernel
theorem dX11_key_16 : decode cX11_key 16 = .ok (.ifCond .eq 17, 3) := by decide +kernel
theorem dX11_key_19 : decode cX11_key 19 = .ok (.iload 4, 2) := by decide +kernel
theorem dX11_key_21 : decode cX11_key 21 = .ok (.ifCond .lt 12, 3) := by decide +kernel
theorem dX11_key_24 : decode cX11_key 24 = .ok (.iload 4, 2) := by decide +kernel
theorem dX11_key_26 : decode cX11_key 26 = .ok (.aload_n 0, 1) := by decide +kernel
theorem dX11_key_27 : decode cX11_key 27 = .ok (.getfield 307, 3) := by decide +kernel
theorem dX11_key_30 : decode cX11_key 30 = .ok (.if_icmp .lt 10, 3) := by decide +kernel
theorem dX11_key_33 : decode cX11_key 33 = .ok (.aload_n 0, 1) := by decide +kernel
theorem dX11_key_34 : decode cX11_key 34 = .ok (.iconst 1, 1) := by decide +kernel
theorem dX11_key_35 : decode cX11_key 35 = .ok (.invokevirtual 295, 3) := by decide +kernel
theorem dX11_key_38 : decode cX11_key 38 = .ok (.i2l, 1) := by decide +kernel
theorem dX11_key_39 : decode cX11_key 39 = .ok (.lreturn, 1) := by decide +kernel
theorem dX11_key_40 : decode cX11_key 40 = .ok (.iload_n 3, 1) := by decide +kernel
theorem dX11_key_41 : decode cX11_key 41 = .ok (.invokestatic 364, 3) := by decide +kernel
theorem dX11_key_44 : decode cX11_key 44 = .ok (.ifCond .ne 10, 3) := by decide +kernel
theorem dX11_key_47 : decode cX11_key 47 = .ok (.aload_n 0, 1) := by decide +kernel
theorem dX11_key_48 : decode cX11_key 48 = .ok (.iconst 2, 1) := by decide +kernel
theorem dX11_key_49 : decode cX11_key 49 = .ok (.invokevirtual 295, 3) := by decide +kernel
theorem dX11_key_52 : decode cX11_key 52 = .ok (.i2l, 1) := by decide +kernel
theorem dX11_key_53 : decode cX11_key 53 = .ok (.lreturn, 1) := by decide +kernel
theorem dX11_key_54 : decode cX11_key 54 = .ok (.aload_n 0, 1) := by decide +kernel
theorem dX11_key_55 : decode cX11_key 55 = .ok (.iload_n 1, 1) := by decide +kernel
theorem dX11_key_56 : decode cX11_key 56 = .ok (.iload_n 2, 1) := by decide +kernel
theorem dX11_key_57 : decode cX11_key 57 = .ok (.iload_n 3, 1) := by decide +kernel
theorem dX11_key_58 : decode cX11_key 58 = .ok (.iload 4, 2) := by decide +kernel
theorem dX11_key_60 : decode cX11_key 60 = .ok (.invokevirtual 393, 3) := by decide +kernel
theorem dX11_key_63 : decode cX11_key 63 = .ok (.lreturn, 1) := by decide +kernel
theorem dX11_isAhead_0 : decode cX11_isAhead 0 = .ok (.iload_n 1, 1) := by decide +kernel
theorem dX11_isAhead_1 : decode cX11_isAhead 1 = .ok (.istore 5, 2) := by decide +kernel
theorem dX11_isAhead_3 : decode cX11_isAhead 3 = .ok (.iload 5, 2) := by decide +kernel
theorem dX11_isAhead_5 : decode cX11_isAhead 5 = .ok (.ifCond .lt 115, 3) := by decide +kernel
theorem dX11_isAhead_8 : decode cX11_isAhead 8 = .ok (.iconst 0, 1) := by decide +kernel
theorem dX11_isAhead_9 : decode cX11_isAhead 9 = .ok (.istore 6, 2) := by decide +kernel
theorem dX11_isAhead_11 : decode cX11_isAhead 11 = .ok (.iload 6, 2) := by decide +kernel
theorem dX11_isAhead_13 : decode cX11_isAhead 13 = .ok (.aload_n 0, 1) := by decide +kernel
theorem dX11_isAhead_14 : decode cX11_isAhead 14 = .ok (.getfield 307, 3) := by decide +kernel
theorem dX11_isAhead_17 : decode cX11_isAhead 17 = .ok (.if_icmp .ge 83, 3) := by decide +kernel
theorem dX11_isAhead_20 : decode cX11_isAhead 20 = .ok (.aload_n 0, 1) := by decide +kernel
theorem dX11_isAhead_21 : decode cX11_isAhead 21 = .ok (.iload 5, 2) := by decide +kernel
theorem dX11_isAhead_23 : decode cX11_isAhead 23 = .ok (.iload_n 2, 1) := by decide +kernel
theorem dX11_isAhead_24 : decode cX11_isAhead 24 = .ok (.iload 4, 2) := by decide +kernel
theorem dX11_isAhead_26 : decode cX11_isAhead 26 = .ok (.iload 6, 2) := by decide +kernel
theorem dX11_isAhead_28 : decode cX11_isAhead 28 = .ok (.invokevirtual 393, 3) := by decide +kernel
theorem dX11_isAhead_31 : decode cX11_isAhead 31 = .ok (.lstore 7, 2) := by decide +kernel
theorem dX11_isAhead_33 : decode cX11_isAhead 33 = .ok (.aload_n 0, 1) := by decide +kernel
theorem dX11_isAhead_34 : decode cX11_isAhead 34 = .ok (.iload 5, 2) := by decide +kernel
theorem dX11_isAhead_36 : decode cX11_isAhead 36 = .ok (.iload_n 3, 1) := by decide +kernel
theorem dX11_isAhead_37 : decode cX11_isAhead 37 = .ok (.iload 4, 2) := by decide +kernel
theorem dX11_isAhead_39 : decode cX11_isAhead 39 = .ok (.iload 6, 2) := by decide +kernel
theorem dX11_isAhead_41 : decode cX11_isAhead 41 = .ok (.invokevirtual 393, 3) := by decide +kernel
theorem dX11_isAhead_44 : decode cX11_isAhead 44 = .ok (.lstore 9, 2) := by decide +kernel
theorem dX11_isAhead_46 : decode cX11_isAhead 46 = .ok (.lload 7, 2) := by decide +kernel
theorem dX11_isAhead_48 : decode cX11_isAhead 48 = .ok (.lload 9, 2) := by decide +kernel
theorem dX11_isAhead_50 : decode cX11_isAhead 50 = .ok (.lcmp, 1) := by decide +kernel
theorem dX11_isAhead_51 : decode cX11_isAhead 51 = .ok (.ifCond .eq 43, 3) := by decide +kernel
theorem dX11_isAhead_54 : decode cX11_isAhead 54 = .ok (.aload_n 0, 1) := by decide +kernel
theorem dX11_isAhead_55 : decode cX11_isAhead 55 = .ok (.getfield 63, 3) := by decide +kernel
theorem dX11_isAhead_58 : decode cX11_isAhead 58 = .ok (.iload 6, 2) := by decide +kernel
theorem dX11_isAhead_60 : decode cX11_isAhead 60 = .ok (.baload, 1) := by decide +kernel
theorem dX11_isAhead_61 : decode cX11_isAhead 61 = .ok (.ifCond .eq 19, 3) := by decide +kernel
theorem dX11_isAhead_64 : decode cX11_isAhead 64 = .ok (.lload 7, 2) := by decide +kernel
theorem dX11_isAhead_66 : decode cX11_isAhead 66 = .ok (.lload 9, 2) := by decide +kernel
theorem dX11_isAhead_68 : decode cX11_isAhead 68 = .ok (.lcmp, 1) := by decide +kernel
theorem dX11_isAhead_69 : decode cX11_isAhead 69 = .ok (.ifCond .ge 7, 3) := by decide +kernel
theorem dX11_isAhead_72 : decode cX11_isAhead 72 = .ok (.iconst 1, 1) := by decide +kernel
theorem dX11_isAhead_73 : decode cX11_isAhead 73 = .ok (.goto 20, 3) := by decide +kernel
theorem dX11_isAhead_76 : decode cX11_isAhead 76 = .ok (.iconst 0, 1) := by decide +kernel
theorem dX11_isAhead_77 : decode cX11_isAhead 77 = .ok (.goto 16, 3) := by decide +kernel
theorem dX11_isAhead_80 : decode cX11_isAhead 80 = .ok (.lload 7, 2) := by decide +kernel
theorem dX11_isAhead_82 : decode cX11_isAhead 82 = .ok (.lload 9, 2) := by decide +kernel
theorem dX11_isAhead_84 : decode cX11_isAhead 84 = .ok (.lcmp, 1) := by decide +kernel
theorem dX11_isAhead_85 : decode cX11_isAhead 85 = .ok (.ifCond .le 7, 3) := by decide +kernel
theorem dX11_isAhead_88 : decode cX11_isAhead 88 = .ok (.iconst 1, 1) := by decide +kernel
theorem dX11_isAhead_89 : decode cX11_isAhead 89 = .ok (.goto 4, 3) := by decide +kernel
theorem dX11_isAhead_92 : decode cX11_isAhead 92 = .ok (.iconst 0, 1) := by decide +kernel
theorem dX11_isAhead_93 : decode cX11_isAhead 93 = .ok (.ireturn, 1) := by decide +kernel
theorem dX11_isAhead_94 : decode cX11_isAhead 94 = .ok (.iinc 6 1, 3) := by decide +kernel
theorem dX11_isAhead_97 : decode cX11_isAhead 97 = .ok (.goto (-86), 3) := by decide +kernel
theorem dX11_isAhead_100 : decode cX11_isAhead 100 = .ok (.aload_n 0, 1) := by decide +kernel
theorem dX11_isAhead_101 : decode cX11_isAhead 101 = .ok (.getfield 310, 3) := by decide +kernel
theorem dX11_isAhead_104 : decode cX11_isAhead 104 = .ok (.ifCond .eq 10, 3) := by decide +kernel
theorem dX11_isAhead_107 : decode cX11_isAhead 107 = .ok (.iload 5, 2) := by decide +kernel
theorem dX11_isAhead_109 : decode cX11_isAhead 109 = .ok (.iconst 1, 1) := by decide +kernel
theorem dX11_isAhead_110 : decode cX11_isAhead 110 = .ok (.isub, 1) := by decide +kernel
theorem dX11_isAhead_111 : decode cX11_isAhead 111 = .ok (.goto 4, 3) := by decide +kernel
theorem dX11_isAhead_114 : decode cX11_isAhead 114 = .ok (.iconst (-1), 1) := by decide +kernel
theorem dX11_isAhead_115 : decode cX11_isAhead 115 = .ok (.istore 5, 2) := by decide +kernel
theorem dX11_isAhead_117 : decode cX11_isAhead 117 = .ok (.goto (-114), 3) := by decide +kernel
theorem dX11_isAhead_120 : decode cX11_isAhead 120 = .ok (.iconst 0, 1) := by decide +kernel
theorem dX11_isAhead_121 : decode cX11_isAhead 121 = .ok (.ireturn, 1) := by decide +kernel
theorem dX11_rankOf_0 : decode cX11_rankOf 0 = .ok (.iconst 1, 1) := by decide +kernel
theorem dX11_rankOf_1 : decode cX11_rankOf 1 = .ok (.istore 4, 2) := by decide +kernel
theorem dX11_rankOf_3 : decode cX11_rankOf 3 = .ok (.iconst 0, 1) := by decide +kernel
theorem dX11_rankOf_4 : decode cX11_rankOf 4 = .ok (.istore 5, 2) := by decide +kernel
theorem dX11_rankOf_6 : decode cX11_rankOf 6 = .ok (.iload 5, 2) := by decide +kernel
theorem dX11_rankOf_8 : decode cX11_rankOf 8 = .ok (.aload_n 0, 1) := by decide +kernel
theorem dX11_rankOf_9 : decode cX11_rankOf 9 = .ok (.getfield 313, 3) := by decide +kernel
theorem dX11_rankOf_12 : decode cX11_rankOf 12 = .ok (.if_icmp .ge 52, 3) := by decide +kernel
theorem dX11_rankOf_15 : decode cX11_rankOf 15 = .ok (.iload 4, 2) := by decide +kernel
theorem dX11_rankOf_17 : decode cX11_rankOf 17 = .ok (.iload 5, 2) := by decide +kernel
theorem dX11_rankOf_19 : decode cX11_rankOf 19 = .ok (.iload_n 2, 1) := by decide +kernel
theorem dX11_rankOf_20 : decode cX11_rankOf 20 = .ok (.if_icmp .eq 34, 3) := by decide +kernel
theorem dX11_rankOf_23 : decode cX11_rankOf 23 = .ok (.aload_n 0, 1) := by decide +kernel
theorem dX11_rankOf_24 : decode cX11_rankOf 24 = .ok (.getfield 85, 3) := by decide +kernel
theorem dX11_rankOf_27 : decode cX11_rankOf 27 = .ok (.bipush 16, 2) := by decide +kernel
theorem dX11_rankOf_29 : decode cX11_rankOf 29 = .ok (.iload_n 1, 1) := by decide +kernel
theorem dX11_rankOf_30 : decode cX11_rankOf 30 = .ok (.imul, 1) := by decide +kernel
theorem dX11_rankOf_31 : decode cX11_rankOf 31 = .ok (.iload 5, 2) := by decide +kernel
theorem dX11_rankOf_33 : decode cX11_rankOf 33 = .ok (.iadd, 1) := by decide +kernel
theorem dX11_rankOf_34 : decode cX11_rankOf 34 = .ok (.baload, 1) := by decide +kernel
theorem dX11_rankOf_35 : decode cX11_rankOf 35 = .ok (.ifCond .eq 19, 3) := by decide +kernel
theorem dX11_rankOf_38 : decode cX11_rankOf 38 = .ok (.aload_n 0, 1) := by decide +kernel
theorem dX11_rankOf_39 : decode cX11_rankOf 39 = .ok (.iload_n 1, 1) := by decide +kernel
theorem dX11_rankOf_40 : decode cX11_rankOf 40 = .ok (.iload 5, 2) := by decide +kernel
theorem dX11_rankOf_42 : decode cX11_rankOf 42 = .ok (.iload_n 2, 1) := by decide +kernel
theorem dX11_rankOf_43 : decode cX11_rankOf 43 = .ok (.iload_n 3, 1) := by decide +kernel
theorem dX11_rankOf_44 : decode cX11_rankOf 44 = .ok (.invokevirtual 397, 3) := by decide +kernel
theorem dX11_rankOf_47 : decode cX11_rankOf 47 = .ok (.ifCond .eq 7, 3) := by decide +kernel
theorem dX11_rankOf_50 : decode cX11_rankOf 50 = .ok (.iconst 1, 1) := by decide +kernel
theorem dX11_rankOf_51 : decode cX11_rankOf 51 = .ok (.goto 4, 3) := by decide +kernel
theorem dX11_rankOf_54 : decode cX11_rankOf 54 = .ok (.iconst 0, 1) := by decide +kernel
theorem dX11_rankOf_55 : decode cX11_rankOf 55 = .ok (.iadd, 1) := by decide +kernel
theorem dX11_rankOf_56 : decode cX11_rankOf 56 = .ok (.istore 4, 2) := by decide +kernel
theorem dX11_rankOf_58 : decode cX11_rankOf 58 = .ok (.iinc 5 1, 3) := by decide +kernel
theorem dX11_rankOf_61 : decode cX11_rankOf 61 = .ok (.goto (-55), 3) := by decide +kernel
theorem dX11_rankOf_64 : decode cX11_rankOf 64 = .ok (.iload 4, 2) := by decide +kernel
theorem dX11_rankOf_66 : decode cX11_rankOf 66 = .ok (.ireturn, 1) := by decide +kernel
theorem dX11_rank_0 : decode cX11_rank 0 = .ok (.aload_n 0, 1) := by decide +kernel
theorem dX11_rank_1 : decode cX11_rank 1 = .ok (.iconst 0, 1) := by decide +kernel
theorem dX11_rank_2 : decode cX11_rank 2 = .ok (.putfield 146, 3) := by decide +kernel
theorem dX11_rank_5 : decode cX11_rank 5 = .ok (.aload_n 0, 1) := by decide +kernel
theorem dX11_rank_6 : decode cX11_rank 6 = .ok (.iconst 0, 1) := by decide +kernel
theorem dX11_rank_7 : decode cX11_rank 7 = .ok (.putfield 149, 3) := by decide +kernel
theorem dX11_rank_10 : decode cX11_rank 10 = .ok (.aload_n 0, 1) := by decide +kernel
theorem dX11_rank_11 : decode cX11_rank 11 = .ok (.iload_n 1, 1) := by decide +kernel
theorem dX11_rank_12 : decode cX11_rank 12 = .ok (.iload_n 2, 1) := by decide +kernel
theorem dX11_rank_13 : decode cX11_rank 13 = .ok (.invokevirtual 391, 3) := by decide +kernel
theorem dX11_rank_16 : decode cX11_rank 16 = .ok (.ifCond .ne 9, 3) := by decide +kernel
theorem dX11_rank_19 : decode cX11_rank 19 = .ok (.aload_n 0, 1) := by decide +kernel
theorem dX11_rank_20 : decode cX11_rank 20 = .ok (.iconst 1, 1) := by decide +kernel
theorem dX11_rank_21 : decode cX11_rank 21 = .ok (.invokevirtual 295, 3) := by decide +kernel
theorem dX11_rank_24 : decode cX11_rank 24 = .ok (.ireturn, 1) := by decide +kernel
theorem dX11_rank_25 : decode cX11_rank 25 = .ok (.iload_n 3, 1) := by decide +kernel
theorem dX11_rank_26 : decode cX11_rank 26 = .ok (.invokestatic 364, 3) := by decide +kernel
theorem dX11_rank_29 : decode cX11_rank 29 = .ok (.ifCond .ne 9, 3) := by decide +kernel
theorem dX11_rank_32 : decode cX11_rank 32 = .ok (.aload_n 0, 1) := by decide +kernel
theorem dX11_rank_33 : decode cX11_rank 33 = .ok (.iconst 2, 1) := by decide +kernel
theorem dX11_rank_34 : decode cX11_rank 34 = .ok (.invokevirtual 295, 3) := by decide +kernel
theorem dX11_rank_37 : decode cX11_rank 37 = .ok (.ireturn, 1) := by decide +kernel
theorem dX11_rank_38 : decode cX11_rank 38 = .ok (.aload_n 0, 1) := by decide +kernel
theorem dX11_rank_39 : decode cX11_rank 39 = .ok (.iload_n 1, 1) := by decide +kernel
theorem dX11_rank_40 : decode cX11_rank 40 = .ok (.iload_n 2, 1) := by decide +kernel
theorem dX11_rank_41 : decode cX11_rank 41 = .ok (.iload_n 3, 1) := by decide +kernel
theorem dX11_rank_42 : decode cX11_rank 42 = .ok (.invokevirtual 401, 3) := by decide +kernel
theorem dX11_rank_45 : decode cX11_rank 45 = .ok (.ireturn, 1) := by decide +kernel
theorem dX11_order_0 : decode cX11_order 0 = .ok (.aload_n 0, 1) := by decide +kernel
theorem dX11_order_1 : decode cX11_order 1 = .ok (.iconst 0, 1) := by decide +kernel
theorem dX11_order_2 : decode cX11_order 2 = .ok (.putfield 146, 3) := by decide +kernel
theorem dX11_order_5 : decode cX11_order 5 = .ok (.aload_n 0, 1) := by decide +kernel
theorem dX11_order_6 : decode cX11_order 6 = .ok (.iconst 0, 1) := by decide +kernel
theorem dX11_order_7 : decode cX11_order 7 = .ok (.putfield 149, 3) := by decide +kernel
theorem dX11_order_10 : decode cX11_order 10 = .ok (.aload_n 0, 1) := by decide +kernel
theorem dX11_order_11 : decode cX11_order 11 = .ok (.iload_n 1, 1) := by decide +kernel
theorem dX11_order_12 : decode cX11_order 12 = .ok (.invokevirtual 325, 3) := by decide +kernel
theorem dX11_order_15 : decode cX11_order 15 = .ok (.ifCond .eq 17, 3) := by decide +kernel
theorem dX11_order_18 : decode cX11_order 18 = .ok (.iload_n 2, 1) := by decide +kernel
theorem dX11_order_19 : decode cX11_order 19 = .ok (.ifCond .lt 13, 3) := by decide +kernel
theorem dX11_order_22 : decode cX11_order 22 = .ok (.iload_n 2, 1) := by decide +kernel
theorem dX11_order_23 : decode cX11_order 23 = .ok (.aload_n 0, 1) := by decide +kernel
theorem dX11_order_24 : decode cX11_order 24 = .ok (.getfield 91, 3) := by decide +kernel
theorem dX11_order_27 : decode cX11_order 27 = .ok (.iload_n 1, 1) := by decide +kernel
theorem dX11_order_28 : decode cX11_order 28 = .ok (.iaload, 1) := by decide +kernel
theorem dX11_order_29 : decode cX11_order 29 = .ok (.if_icmp .lt 9, 3) := by decide +kernel
theorem dX11_order_32 : decode cX11_order 32 = .ok (.aload_n 0, 1) := by decide +kernel
theorem dX11_order_33 : decode cX11_order 33 = .ok (.iconst 1, 1) := by decide +kernel
theorem dX11_order_34 : decode cX11_order 34 = .ok (.invokevirtual 295, 3) := by decide +kernel
theorem dX11_order_37 : decode cX11_order 37 = .ok (.ireturn, 1) := by decide +kernel
theorem dX11_order_38 : decode cX11_order 38 = .ok (.aload_n 0, 1) := by decide +kernel
theorem dX11_order_39 : decode cX11_order 39 = .ok (.getfield 88, 3) := by decide +kernel
theorem dX11_order_42 : decode cX11_order 42 = .ok (.bipush 16, 2) := by decide +kernel
theorem dX11_order_44 : decode cX11_order 44 = .ok (.iload_n 1, 1) := by decide +kernel
theorem dX11_order_45 : decode cX11_order 45 = .ok (.imul, 1) := by decide +kernel
theorem dX11_order_46 : decode cX11_order 46 = .ok (.iload_n 2, 1) := by decide +kernel
theorem dX11_order_47 : decode cX11_order 47 = .ok (.iadd, 1) := by decide +kernel
theorem dX11_order_48 : decode cX11_order 48 = .ok (.iaload, 1) := by decide +kernel
theorem dX11_order_49 : decode cX11_order 49 = .ok (.ireturn, 1) := by decide +kernel
