theorem dX5_workKeys_0 : decode cX5_workKeys 0 = .ok (.aload_n 0, 1) := by decide +kernel
theorem dX5_workKeys_1 : decode cX5_workKeys 1 = .ok (.getfield 33, 3) := by decide +kernel
theorem dX5_workKeys_4 : decode cX5_workKeys 4 = .ok (.lconst 0, 1) := by decide +kernel
theorem dX5_workKeys_5 : decode cX5_workKeys 5 = .ok (.invokestatic 123, 3) := by decide +kernel
theorem dX5_workKeys_8 : decode cX5_workKeys 8 = .ok (.iconst 0, 1) := by decide +kernel
theorem dX5_workKeys_9 : decode cX5_workKeys 9 = .ok (.istore_n 3, 1) := by decide +kernel
theorem dX5_workKeys_10 : decode cX5_workKeys 10 = .ok (.iload_n 3, 1) := by decide +kernel
theorem dX5_workKeys_11 : decode cX5_workKeys 11 = .ok (.aload_n 0, 1) := by decide +kernel
theorem dX5_workKeys_12 : decode cX5_workKeys 12 = .ok (.getfield 43, 3) := by decide +kernel
theorem dX5_workKeys_15 : decode cX5_workKeys 15 = .ok (.iload_n 1, 1) := by decide +kernel
theorem dX5_workKeys_16 : decode cX5_workKeys 16 = .ok (.iconst 0, 1) := by decide +kernel
theorem dX5_workKeys_17 : decode cX5_workKeys 17 = .ok (.invokevirtual 126, 3) := by decide +kernel
theorem dX5_workKeys_20 : decode cX5_workKeys 20 = .ok (.if_icmp .ge 101, 3) := by decide +kernel
theorem dX5_workKeys_23 : decode cX5_workKeys 23 = .ok (.aload_n 0, 1) := by decide +kernel
theorem dX5_workKeys_24 : decode cX5_workKeys 24 = .ok (.iload_n 1, 1) := by decide +kernel
theorem dX5_workKeys_25 : decode cX5_workKeys 25 = .ok (.iload_n 2, 1) := by decide +kernel
theorem dX5_workKeys_26 : decode cX5_workKeys 26 = .ok (.iload_n 3, 1) := by decide +kernel
theorem dX5_workKeys_27 : decode cX5_workKeys 27 = .ok (.invokevirtual 131, 3) := by decide +kernel
theorem dX5_workKeys_30 : decode cX5_workKeys 30 = .ok (.aload_n 0, 1) := by decide +kernel
theorem dX5_workKeys_31 : decode cX5_workKeys 31 = .ok (.getfield 43, 3) := by decide +kernel
theorem dX5_workKeys_34 : decode cX5_workKeys 34 = .ok (.aload_n 0, 1) := by decide +kernel
theorem dX5_workKeys_35 : decode cX5_workKeys 35 = .ok (.getfield 27, 3) := by decide +kernel
theorem dX5_workKeys_38 : decode cX5_workKeys 38 = .ok (.invokevirtual 135, 3) := by decide +kernel
theorem dX5_workKeys_41 : decode cX5_workKeys 41 = .ok (.istore 4, 2) := by decide +kernel
theorem dX5_workKeys_43 : decode cX5_workKeys 43 = .ok (.aload_n 0, 1) := by decide +kernel
theorem dX5_workKeys_44 : decode cX5_workKeys 44 = .ok (.getfield 33, 3) := by decide +kernel
theorem dX5_workKeys_47 : decode cX5_workKeys 47 = .ok (.iconst 0, 1) := by decide +kernel
theorem dX5_workKeys_48 : decode cX5_workKeys 48 = .ok (.dup2, 1) := by decide +kernel
theorem dX5_workKeys_49 : decode cX5_workKeys 49 = .ok (.laload, 1) := by decide +kernel
theorem dX5_workKeys_50 : decode cX5_workKeys 50 = .ok (.iload 4, 2) := by decide +kernel
theorem dX5_workKeys_52 : decode cX5_workKeys 52 = .ok (.i2l, 1) := by decide +kernel
theorem dX5_workKeys_53 : decode cX5_workKeys 53 = .ok (.ladd, 1) := by decide +kernel
theorem dX5_workKeys_54 : decode cX5_workKeys 54 = .ok (.lastore, 1) := by decide +kernel
theorem dX5_workKeys_55 : decode cX5_workKeys 55 = .ok (.aload_n 0, 1) := by decide +kernel
theorem dX5_workKeys_56 : decode cX5_workKeys 56 = .ok (.getfield 33, 3) := by decide +kernel
theorem dX5_workKeys_59 : decode cX5_workKeys 59 = .ok (.iconst 1, 1) := by decide +kernel
theorem dX5_workKeys_60 : decode cX5_workKeys 60 = .ok (.iload_n 3, 1) := by decide +kernel
theorem dX5_workKeys_61 : decode cX5_workKeys 61 = .ok (.ifCond .ne 9, 3) := by decide +kernel
theorem dX5_workKeys_64 : decode cX5_workKeys 64 = .ok (.iload 4, 2) := by decide +kernel
theorem dX5_workKeys_66 : decode cX5_workKeys 66 = .ok (.i2l, 1) := by decide +kernel
theorem dX5_workKeys_67 : decode cX5_workKeys 67 = .ok (.goto 15, 3) := by decide +kernel
theorem dX5_workKeys_70 : decode cX5_workKeys 70 = .ok (.aload_n 0, 1) := by decide +kernel
theorem dX5_workKeys_71 : decode cX5_workKeys 71 = .ok (.getfield 33, 3) := by decide +kernel
theorem dX5_workKeys_74 : decode cX5_workKeys 74 = .ok (.iconst 1, 1) := by decide +kernel
theorem dX5_workKeys_75 : decode cX5_workKeys 75 = .ok (.laload, 1) := by decide +kernel
theorem dX5_workKeys_76 : decode cX5_workKeys 76 = .ok (.iload 4, 2) := by decide +kernel
theorem dX5_workKeys_78 : decode cX5_workKeys 78 = .ok (.i2l, 1) := by decide +kernel
theorem dX5_workKeys_79 : decode cX5_workKeys 79 = .ok (.invokestatic 139, 3) := by decide +kernel
theorem dX5_workKeys_82 : decode cX5_workKeys 82 = .ok (.lastore, 1) := by decide +kernel
theorem dX5_workKeys_83 : decode cX5_workKeys 83 = .ok (.aload_n 0, 1) := by decide +kernel
theorem dX5_workKeys_84 : decode cX5_workKeys 84 = .ok (.getfield 33, 3) := by decide +kernel
theorem dX5_workKeys_87 : decode cX5_workKeys 87 = .ok (.iconst 2, 1) := by decide +kernel
theorem dX5_workKeys_88 : decode cX5_workKeys 88 = .ok (.dup2, 1) := by decide +kernel
theorem dX5_workKeys_89 : decode cX5_workKeys 89 = .ok (.laload, 1) := by decide +kernel
theorem dX5_workKeys_90 : decode cX5_workKeys 90 = .ok (.aload_n 0, 1) := by decide +kernel
theorem dX5_workKeys_91 : decode cX5_workKeys 91 = .ok (.getfield 27, 3) := by decide +kernel
theorem dX5_workKeys_94 : decode cX5_workKeys 94 = .ok (.iconst 0, 1) := by decide +kernel
theorem dX5_workKeys_95 : decode cX5_workKeys 95 = .ok (.iaload, 1) := by decide +kernel
theorem dX5_workKeys_96 : decode cX5_workKeys 96 = .ok (.i2l, 1) := by decide +kernel
theorem dX5_workKeys_97 : decode cX5_workKeys 97 = .ok (.ladd, 1) := by decide +kernel
theorem dX5_workKeys_98 : decode cX5_workKeys 98 = .ok (.lastore, 1) := by decide +kernel
theorem dX5_workKeys_99 : decode cX5_workKeys 99 = .ok (.aload_n 0, 1) := by decide +kernel
theorem dX5_workKeys_100 : decode cX5_workKeys 100 = .ok (.getfield 33, 3) := by decide +kernel
theorem dX5_workKeys_103 : decode cX5_workKeys 103 = .ok (.iconst 3, 1) := by decide +kernel
theorem dX5_workKeys_104 : decode cX5_workKeys 104 = .ok (.dup2, 1) := by decide +kernel
theorem dX5_workKeys_105 : decode cX5_workKeys 105 = .ok (.laload, 1) := by decide +kernel
theorem dX5_workKeys_106 : decode cX5_workKeys 106 = .ok (.aload_n 0, 1) := by decide +kernel
theorem dX5_workKeys_107 : decode cX5_workKeys 107 = .ok (.getfield 27, 3) := by decide +kernel
theorem dX5_workKeys_110 : decode cX5_workKeys 110 = .ok (.iconst 1, 1) := by decide +kernel
theorem dX5_workKeys_111 : decode cX5_workKeys 111 = .ok (.iaload, 1) := by decide +kernel
theorem dX5_workKeys_112 : decode cX5_workKeys 112 = .ok (.i2l, 1) := by decide +kernel
theorem dX5_workKeys_113 : decode cX5_workKeys 113 = .ok (.ladd, 1) := by decide +kernel
theorem dX5_workKeys_114 : decode cX5_workKeys 114 = .ok (.lastore, 1) := by decide +kernel
theorem dX5_workKeys_115 : decode cX5_workKeys 115 = .ok (.iinc 3 1, 3) := by decide +kernel
theorem dX5_workKeys_118 : decode cX5_workKeys 118 = .ok (.goto (-108), 3) := by decide +kernel
theorem dX5_workKeys_121 : decode cX5_workKeys 121 = .ok (.iconst 0, 1) := by decide +kernel
theorem dX5_workKeys_122 : decode cX5_workKeys 122 = .ok (.istore_n 3, 1) := by decide +kernel
theorem dX5_workKeys_123 : decode cX5_workKeys 123 = .ok (.iload_n 3, 1) := by decide +kernel
theorem dX5_workKeys_124 : decode cX5_workKeys 124 = .ok (.aload_n 0, 1) := by decide +kernel
theorem dX5_workKeys_125 : decode cX5_workKeys 125 = .ok (.getfield 43, 3) := by decide +kernel
theorem dX5_workKeys_128 : decode cX5_workKeys 128 = .ok (.getfield 145, 3) := by decide +kernel
theorem dX5_workKeys_131 : decode cX5_workKeys 131 = .ok (.if_icmp .ge 35, 3) := by decide +kernel
theorem dX5_workKeys_134 : decode cX5_workKeys 134 = .ok (.aload_n 0, 1) := by decide +kernel
theorem dX5_workKeys_135 : decode cX5_workKeys 135 = .ok (.getfield 37, 3) := by decide +kernel
theorem dX5_workKeys_138 : decode cX5_workKeys 138 = .ok (.iload_n 1, 1) := by decide +kernel
theorem dX5_workKeys_139 : decode cX5_workKeys 139 = .ok (.iload_n 2, 1) := by decide +kernel
theorem dX5_workKeys_140 : decode cX5_workKeys 140 = .ok (.invokestatic 148, 3) := by decide +kernel
theorem dX5_workKeys_143 : decode cX5_workKeys 143 = .ok (.iload_n 3, 1) := by decide +kernel
theorem dX5_workKeys_144 : decode cX5_workKeys 144 = .ok (.iadd, 1) := by decide +kernel
theorem dX5_workKeys_145 : decode cX5_workKeys 145 = .ok (.aload_n 0, 1) := by decide +kernel
theorem dX5_workKeys_146 : decode cX5_workKeys 146 = .ok (.getfield 33, 3) := by decide +kernel
theorem dX5_workKeys_149 : decode cX5_workKeys 149 = .ok (.aload_n 0, 1) := by decide +kernel
theorem dX5_workKeys_150 : decode cX5_workKeys 150 = .ok (.getfield 43, 3) := by decide +kernel
theorem dX5_workKeys_153 : decode cX5_workKeys 153 = .ok (.getfield 151, 3) := by decide +kernel
theorem dX5_workKeys_156 : decode cX5_workKeys 156 = .ok (.iload_n 3, 1) := by decide +kernel
theorem dX5_workKeys_157 : decode cX5_workKeys 157 = .ok (.iaload, 1) := by decide +kernel
theorem dX5_workKeys_158 : decode cX5_workKeys 158 = .ok (.laload, 1) := by decide +kernel
theorem dX5_workKeys_159 : decode cX5_workKeys 159 = .ok (.lastore, 1) := by decide +kernel
theorem dX5_workKeys_160 : decode cX5_workKeys 160 = .ok (.iinc 3 1, 3) := by decide +kernel
theorem dX5_workKeys_163 : decode cX5_workKeys 163 = .ok (.goto (-40), 3) := by decide +kernel
theorem dX5_workKeys_166 : decode cX5_workKeys 166 = .ok (.return_, 1) := by decide +kernel
theorem dX5_keyOf_0 : decode cX5_keyOf 0 = .ok (.aload_n 0, 1) := by decide +kernel
theorem dX5_keyOf_1 : decode cX5_keyOf 1 = .ok (.getfield 37, 3) := by decide +kernel
theorem dX5_keyOf_4 : decode cX5_keyOf 4 = .ok (.iload_n 1, 1) := by decide +kernel
theorem dX5_keyOf_5 : decode cX5_keyOf 5 = .ok (.iload_n 2, 1) := by decide +kernel
theorem dX5_keyOf_6 : decode cX5_keyOf 6 = .ok (.invokestatic 148, 3) := by decide +kernel
theorem dX5_keyOf_9 : decode cX5_keyOf 9 = .ok (.iload_n 3, 1) := by decide +kernel
theorem dX5_keyOf_10 : decode cX5_keyOf 10 = .ok (.iadd, 1) := by decide +kernel
theorem dX5_keyOf_11 : decode cX5_keyOf 11 = .ok (.laload, 1) := by decide +kernel
theorem dX5_keyOf_12 : decode cX5_keyOf 12 = .ok (.lreturn, 1) := by decide +kernel
theorem dX5_manyAhead_0 : decode cX5_manyAhead 0 = .ok (.iconst 0, 1) := by decide +kernel
theorem dX5_manyAhead_1 : decode cX5_manyAhead 1 = .ok (.istore_n 3, 1) := by decide +kernel
theorem dX5_manyAhead_2 : decode cX5_manyAhead 2 = .ok (.iconst 0, 1) := by decide +kernel
theorem dX5_manyAhead_3 : decode cX5_manyAhead 3 = .ok (.istore 4, 2) := by decide +kernel
theorem dX5_manyAhead_5 : decode cX5_manyAhead 5 = .ok (.iload 4, 2) := by decide +kernel
theorem dX5_manyAhead_7 : decode cX5_manyAhead 7 = .ok (.aload_n 0, 1) := by decide +kernel
theorem dX5_manyAhead_8 : decode cX5_manyAhead 8 = .ok (.getfield 51, 3) := by decide +kernel
theorem dX5_manyAhead_11 : decode cX5_manyAhead 11 = .ok (.getfield 157, 3) := by decide +kernel
theorem dX5_manyAhead_14 : decode cX5_manyAhead 14 = .ok (.if_icmp .ge 36, 3) := by decide +kernel
theorem dX5_manyAhead_17 : decode cX5_manyAhead 17 = .ok (.aload_n 0, 1) := by decide +kernel
theorem dX5_manyAhead_18 : decode cX5_manyAhead 18 = .ok (.getfield 51, 3) := by decide +kernel
theorem dX5_manyAhead_21 : decode cX5_manyAhead 21 = .ok (.iload_n 1, 1) := by decide +kernel
theorem dX5_manyAhead_22 : decode cX5_manyAhead 22 = .ok (.iload 4, 2) := by decide +kernel
theorem dX5_manyAhead_24 : decode cX5_manyAhead 24 = .ok (.invokevirtual 166, 3) := by decide +kernel
theorem dX5_manyAhead_27 : decode cX5_manyAhead 27 = .ok (.ifCond .eq 17, 3) := by decide +kernel
theorem dX5_manyAhead_30 : decode cX5_manyAhead 30 = .ok (.aload_n 0, 1) := by decide +kernel
theorem dX5_manyAhead_31 : decode cX5_manyAhead 31 = .ok (.iload_n 1, 1) := by decide +kernel
theorem dX5_manyAhead_32 : decode cX5_manyAhead 32 = .ok (.iload 4, 2) := by decide +kernel
theorem dX5_manyAhead_34 : decode cX5_manyAhead 34 = .ok (.iload_n 2, 1) := by decide +kernel
theorem dX5_manyAhead_35 : decode cX5_manyAhead 35 = .ok (.invokevirtual 177, 3) := by decide +kernel
theorem dX5_manyAhead_38 : decode cX5_manyAhead 38 = .ok (.ifCond .eq 6, 3) := by decide +kernel
theorem dX5_manyAhead_41 : decode cX5_manyAhead 41 = .ok (.iinc 3 1, 3) := by decide +kernel
theorem dX5_manyAhead_44 : decode cX5_manyAhead 44 = .ok (.iinc 4 1, 3) := by decide +kernel
theorem dX5_manyAhead_47 : decode cX5_manyAhead 47 = .ok (.goto (-42), 3) := by decide +kernel
theorem dX5_manyAhead_50 : decode cX5_manyAhead 50 = .ok (.iload_n 3, 1) := by decide +kernel
theorem dX5_manyAhead_51 : decode cX5_manyAhead 51 = .ok (.ireturn, 1) := by decide +kernel
theorem dX5_lowestAsked_0 : decode cX5_lowestAsked 0 = .ok (.aload_n 0, 1) := by decide +kernel
theorem dX5_lowestAsked_1 : decode cX5_lowestAsked 1 = .ok (.getfield 43, 3) := by decide +kernel
theorem dX5_lowestAsked_4 : decode cX5_lowestAsked 4 = .ok (.getfield 181, 3) := by decide +kernel
theorem dX5_lowestAsked_7 : decode cX5_lowestAsked 7 = .ok (.ifCond .eq 7, 3) := by decide +kernel
theorem dX5_lowestAsked_10 : decode cX5_lowestAsked 10 = .ok (.iconst 0, 1) := by decide +kernel
theorem dX5_lowestAsked_11 : decode cX5_lowestAsked 11 = .ok (.goto 4, 3) := by decide +kernel
theorem dX5_lowestAsked_14 : decode cX5_lowestAsked 14 = .ok (.iload_n 1, 1) := by decide +kernel
theorem dX5_lowestAsked_15 : decode cX5_lowestAsked 15 = .ok (.ireturn, 1) := by decide +kernel
theorem dX5_isAhead_0 : decode cX5_isAhead 0 = .ok (.iload_n 1, 1) := by decide +kernel
theorem dX5_isAhead_1 : decode cX5_isAhead 1 = .ok (.istore 4, 2) := by decide +kernel
theorem dX5_isAhead_3 : decode cX5_isAhead 3 = .ok (.iload 4, 2) := by decide +kernel
theorem dX5_isAhead_5 : decode cX5_isAhead 5 = .ok (.aload_n 0, 1) := by decide +kernel
theorem dX5_isAhead_6 : decode cX5_isAhead 6 = .ok (.iload_n 1, 1) := by decide +kernel
theorem dX5_isAhead_7 : decode cX5_isAhead 7 = .ok (.invokevirtual 162, 3) := by decide +kernel
theorem dX5_isAhead_10 : decode cX5_isAhead 10 = .ok (.if_icmp .lt 101, 3) := by decide +kernel
theorem dX5_isAhead_13 : decode cX5_isAhead 13 = .ok (.iconst 0, 1) := by decide +kernel
theorem dX5_isAhead_14 : decode cX5_isAhead 14 = .ok (.istore 5, 2) := by decide +kernel
theorem dX5_isAhead_16 : decode cX5_isAhead 16 = .ok (.iload 5, 2) := by decide +kernel
theorem dX5_isAhead_18 : decode cX5_isAhead 18 = .ok (.aload_n 0, 1) := by decide +kernel
theorem dX5_isAhead_19 : decode cX5_isAhead 19 = .ok (.getfield 43, 3) := by decide +kernel
theorem dX5_isAhead_22 : decode cX5_isAhead 22 = .ok (.getfield 145, 3) := by decide +kernel
theorem dX5_isAhead_25 : decode cX5_isAhead 25 = .ok (.if_icmp .ge 80, 3) := by decide +kernel
theorem dX5_isAhead_28 : decode cX5_isAhead 28 = .ok (.aload_n 0, 1) := by decide +kernel
theorem dX5_isAhead_29 : decode cX5_isAhead 29 = .ok (.iload 4, 2) := by decide +kernel
theorem dX5_isAhead_31 : decode cX5_isAhead 31 = .ok (.iload_n 2, 1) := by decide +kernel
theorem dX5_isAhead_32 : decode cX5_isAhead 32 = .ok (.iload 5, 2) := by decide +kernel
theorem dX5_isAhead_34 : decode cX5_isAhead 34 = .ok (.invokevirtual 185, 3) := by decide +kernel
theorem dX5_isAhead_37 : decode cX5_isAhead 37 = .ok (.lstore 6, 2) := by decide +kernel
theorem dX5_isAhead_39 : decode cX5_isAhead 39 = .ok (.aload_n 0, 1) := by decide +kernel
theorem dX5_isAhead_40 : decode cX5_isAhead 40 = .ok (.iload 4, 2) := by decide +kernel
theorem dX5_isAhead_42 : decode cX5_isAhead 42 = .ok (.iload_n 3, 1) := by decide +kernel
theorem dX5_isAhead_43 : decode cX5_isAhead 43 = .ok (.iload 5, 2) := by decide +kernel
theorem dX5_isAhead_45 : decode cX5_isAhead 45 = .ok (.invokevirtual 185, 3) := by decide +kernel
theorem dX5_isAhead_48 : decode cX5_isAhead 48 = .ok (.lstore 8, 2) := by decide +kernel
theorem dX5_isAhead_50 : decode cX5_isAhead 50 = .ok (.lload 6, 2) := by decide +kernel
theorem dX5_isAhead_52 : decode cX5_isAhead 52 = .ok (.lload 8, 2) := by decide +kernel
theorem dX5_isAhead_54 : decode cX5_isAhead 54 = .ok (.lcmp, 1) := by decide +kernel
theorem dX5_isAhead_55 : decode cX5_isAhead 55 = .ok (.ifCond .eq 44, 3) := by decide +kernel
theorem dX5_isAhead_58 : decode cX5_isAhead 58 = .ok (.lload 6, 2) := by decide +kernel
theorem dX5_isAhead_60 : decode cX5_isAhead 60 = .ok (.lload 8, 2) := by decide +kernel
theorem dX5_isAhead_62 : decode cX5_isAhead 62 = .ok (.lcmp, 1) := by decide +kernel
theorem dX5_isAhead_63 : decode cX5_isAhead 63 = .ok (.ifCond .le 7, 3) := by decide +kernel
theorem dX5_isAhead_66 : decode cX5_isAhead 66 = .ok (.iconst 1, 1) := by decide +kernel
theorem dX5_isAhead_67 : decode cX5_isAhead 67 = .ok (.goto 4, 3) := by decide +kernel
theorem dX5_isAhead_70 : decode cX5_isAhead 70 = .ok (.iconst 0, 1) := by decide +kernel
theorem dX5_isAhead_71 : decode cX5_isAhead 71 = .ok (.aload_n 0, 1) := by decide +kernel
theorem dX5_isAhead_72 : decode cX5_isAhead 72 = .ok (.getfield 43, 3) := by decide +kernel
theorem dX5_isAhead_75 : decode cX5_isAhead 75 = .ok (.getfield 189, 3) := by decide +kernel
theorem dX5_isAhead_78 : decode cX5_isAhead 78 = .ok (.iload 5, 2) := by decide +kernel
theorem dX5_isAhead_80 : decode cX5_isAhead 80 = .ok (.iaload, 1) := by decide +kernel
theorem dX5_isAhead_81 : decode cX5_isAhead 81 = .ok (.iconst 1, 1) := by decide +kernel
theorem dX5_isAhead_82 : decode cX5_isAhead 82 = .ok (.if_icmp .ne 7, 3) := by decide +kernel
theorem dX5_isAhead_85 : decode cX5_isAhead 85 = .ok (.iconst 1, 1) := by decide +kernel
theorem dX5_isAhead_86 : decode cX5_isAhead 86 = .ok (.goto 4, 3) := by decide +kernel
theorem dX5_isAhead_89 : decode cX5_isAhead 89 = .ok (.iconst 0, 1) := by decide +kernel
theorem dX5_isAhead_90 : decode cX5_isAhead 90 = .ok (.if_icmp .ne 7, 3) := by decide +kernel
theorem dX5_isAhead_93 : decode cX5_isAhead 93 = .ok (.iconst 1, 1) := by decide +kernel
theorem dX5_isAhead_94 : decode cX5_isAhead 94 = .ok (.goto 4, 3) := by decide +kernel
theorem dX5_isAhead_97 : decode cX5_isAhead 97 = .ok (.iconst 0, 1) := by decide +kernel
theorem dX5_isAhead_98 : decode cX5_isAhead 98 = .ok (.ireturn, 1) := by decide +kernel
theorem dX5_isAhead_99 : decode cX5_isAhead 99 = .ok (.iinc 5 1, 3) := by decide +kernel
theorem dX5_isAhead_102 : decode cX5_isAhead 102 = .ok (.goto (-86), 3) := by decide +kernel
theorem dX5_isAhead_105 : decode cX5_isAhead 105 = .ok (.iinc 4 (-1), 3) := by decide +kernel
theorem dX5_isAhead_108 : decode cX5_isAhead 108 = .ok (.goto (-105), 3) := by decide +kernel
theorem dX5_isAhead_111 : decode cX5_isAhead 111 = .ok (.iconst 0, 1) := by decide +kernel
theorem dX5_isAhead_112 : decode cX5_isAhead 112 = .ok (.ireturn, 1) := by decide +kernel
theorem dJ6_bitCount_0f7a4_0 : decode cJ6_bitCount_0f7a4 0 = .ok (.iload_n 0, 1) := by decide +kernel
theorem dJ6_bitCount_0f7a4_1 : decode cJ6_bitCount_0f7a4 1 = .ok (.iload_n 0, 1) := by decide +kernel
theorem dJ6_bitCount_0f7a4_2 : decode cJ6_bitCount_0f7a4 2 = .ok (.iconst 1, 1) := by decide +kernel
theorem dJ6_bitCount_0f7a4_3 : decode cJ6_bitCount_0f7a4 3 = .ok (.iushr, 1) := by decide +kernel
theorem dJ6_bitCount_0f7a4_4 : decode cJ6_bitCount_0f7a4 4 = .ok (.ldc_w 265, 3) := by decide +kernel
theorem dJ6_bitCount_0f7a4_7 : decode cJ6_bitCount_0f7a4 7 = .ok (.iand, 1) := by decide +kernel
theorem dJ6_bitCount_0f7a4_8 : decode cJ6_bitCount_0f7a4 8 = .ok (.isub, 1) := by decide +kernel
theorem dJ6_bitCount_0f7a4_9 : decode cJ6_bitCount_0f7a4 9 = .ok (.istore_n 0, 1) := by decide +kernel
theorem dJ6_bitCount_0f7a4_10 : decode cJ6_bitCount_0f7a4 10 = .ok (.iload_n 0, 1) := by decide +kernel
theorem dJ6_bitCount_0f7a4_11 : decode cJ6_bitCount_0f7a4 11 = .ok (.ldc_w 266, 3) := by decide +kernel
theorem dJ6_bitCount_0f7a4_14 : decode cJ6_bitCount_0f7a4 14 = .ok (.iand, 1) := by decide +kernel
theorem dJ6_bitCount_0f7a4_15 : decode cJ6_bitCount_0f7a4 15 = .ok (.iload_n 0, 1) := by decide +kernel
theorem dJ6_bitCount_0f7a4_16 : decode cJ6_bitCount_0f7a4 16 = .ok (.iconst 2, 1) := by decide +kernel
theorem dJ6_bitCount_0f7a4_17 : decode cJ6_bitCount_0f7a4 17 = .ok (.iushr, 1) := by decide +kernel
theorem dJ6_bitCount_0f7a4_18 : decode cJ6_bitCount_0f7a4 18 = .ok (.ldc_w 266, 3) := by decide +kernel
theorem dJ6_bitCount_0f7a4_21 : decode cJ6_bitCount_0f7a4 21 = .ok (.iand, 1) := by decide +kernel
theorem dJ6_bitCount_0f7a4_22 : decode cJ6_bitCount_0f7a4 22 = .ok (.iadd, 1) := by decide +kernel
theorem dJ6_bitCount_0f7a4_23 : decode cJ6_bitCount_0f7a4 23 = .ok (.istore_n 0, 1) := by decide +kernel
theorem dJ6_bitCount_0f7a4_24 : decode cJ6_bitCount_0f7a4 24 = .ok (.iload_n 0, 1) := by decide +kernel
theorem dJ6_bitCount_0f7a4_25 : decode cJ6_bitCount_0f7a4 25 = .ok (.iload_n 0, 1) := by decide +kernel
theorem dJ6_bitCount_0f7a4_26 : decode cJ6_bitCount_0f7a4 26 = .ok (.iconst 4, 1) := by decide +kernel
theorem dJ6_bitCount_0f7a4_27 : decode cJ6_bitCount_0f7a4 27 = .ok (.iushr, 1) := by decide +kernel
theorem dJ6_bitCount_0f7a4_28 : decode cJ6_bitCount_0f7a4 28 = .ok (.iadd, 1) := by decide +kernel
theorem dJ6_bitCount_0f7a4_29 : decode cJ6_bitCount_0f7a4 29 = .ok (.ldc_w 267, 3) := by decide +kernel
theorem dJ6_bitCount_0f7a4_32 : decode cJ6_bitCount_0f7a4 32 = .ok (.iand, 1) := by decide +kernel
theorem dJ6_bitCount_0f7a4_33 : decode cJ6_bitCount_0f7a4 33 = .ok (.istore_n 0, 1) := by decide +kernel
theorem dJ6_bitCount_0f7a4_34 : decode cJ6_bitCount_0f7a4 34 = .ok (.iload_n 0, 1) := by decide +kernel
theorem dJ6_bitCount_0f7a4_35 : decode cJ6_bitCount_0f7a4 35 = .ok (.iload_n 0, 1) := by decide +kernel
theorem dJ6_bitCount_0f7a4_36 : decode cJ6_bitCount_0f7a4 36 = .ok (.bipush 8, 2) := by decide +kernel
theorem dJ6_bitCount_0f7a4_38 : decode cJ6_bitCount_0f7a4 38 = .ok (.iushr, 1) := by decide +kernel
theorem dJ6_bitCount_0f7a4_39 : decode cJ6_bitCount_0f7a4 39 = .ok (.iadd, 1) := by decide +kernel
theorem dJ6_bitCount_0f7a4_40 : decode cJ6_bitCount_0f7a4 40 = .ok (.istore_n 0, 1) := by decide +kernel
theorem dJ6_bitCount_0f7a4_41 : decode cJ6_bitCount_0f7a4 41 = .ok (.iload_n 0, 1) := by decide +kernel
theorem dJ6_bitCount_0f7a4_42 : decode cJ6_bitCount_0f7a4 42 = .ok (.iload_n 0, 1) := by decide +kernel
theorem dJ6_bitCount_0f7a4_43 : decode cJ6_bitCount_0f7a4 43 = .ok (.bipush 16, 2) := by decide +kernel
theorem dJ6_bitCount_0f7a4_45 : decode cJ6_bitCount_0f7a4 45 = .ok (.iushr, 1) := by decide +kernel
theorem dJ6_bitCount_0f7a4_46 : decode cJ6_bitCount_0f7a4 46 = .ok (.iadd, 1) := by decide +kernel
theorem dJ6_bitCount_0f7a4_47 : decode cJ6_bitCount_0f7a4 47 = .ok (.istore_n 0, 1) := by decide +kernel
theorem dJ6_bitCount_0f7a4_48 : decode cJ6_bitCount_0f7a4 48 = .ok (.iload_n 0, 1) := by decide +kernel
theorem dJ6_bitCount_0f7a4_49 : decode cJ6_bitCount_0f7a4 49 = .ok (.bipush 63, 2) := by decide +kernel
theorem dJ6_bitCount_0f7a4_51 : decode cJ6_bitCount_0f7a4 51 = .ok (.iand, 1) := by decide +kernel
theorem dJ6_bitCount_0f7a4_52 : decode cJ6_bitCount_0f7a4 52 = .ok (.ireturn, 1) := by decide +kernel
