theorem dX0_clear_0 : decode cX0_clear 0 = .ok (.aload_n 0, 1) := by decide +kernel
theorem dX0_clear_1 : decode cX0_clear 1 = .ok (.iconst 0, 1) := by decide +kernel
theorem dX0_clear_2 : decode cX0_clear 2 = .ok (.putfield 21, 3) := by decide +kernel
theorem dX0_clear_5 : decode cX0_clear 5 = .ok (.return_, 1) := by decide +kernel
theorem dX2_clear_0 : decode cX2_clear 0 = .ok (.aload_n 0, 1) := by decide +kernel
theorem dX2_clear_1 : decode cX2_clear 1 = .ok (.iconst 0, 1) := by decide +kernel
theorem dX2_clear_2 : decode cX2_clear 2 = .ok (.putfield 18, 3) := by decide +kernel
theorem dX2_clear_5 : decode cX2_clear 5 = .ok (.aload_n 0, 1) := by decide +kernel
theorem dX2_clear_6 : decode cX2_clear 6 = .ok (.iconst 0, 1) := by decide +kernel
theorem dX2_clear_7 : decode cX2_clear 7 = .ok (.putfield 22, 3) := by decide +kernel
theorem dX2_clear_10 : decode cX2_clear 10 = .ok (.return_, 1) := by decide +kernel
theorem dX2_knows_0 : decode cX2_knows 0 = .ok (.iload_n 1, 1) := by decide +kernel
theorem dX2_knows_1 : decode cX2_knows 1 = .ok (.ifCond .lt 15, 3) := by decide +kernel
theorem dX2_knows_4 : decode cX2_knows 4 = .ok (.iload_n 1, 1) := by decide +kernel
theorem dX2_knows_5 : decode cX2_knows 5 = .ok (.aload_n 0, 1) := by decide +kernel
theorem dX2_knows_6 : decode cX2_knows 6 = .ok (.getfield 18, 3) := by decide +kernel
theorem dX2_knows_9 : decode cX2_knows 9 = .ok (.if_icmp .ge 7, 3) := by decide +kernel
theorem dX2_knows_12 : decode cX2_knows 12 = .ok (.iconst 1, 1) := by decide +kernel
theorem dX2_knows_13 : decode cX2_knows 13 = .ok (.goto 4, 3) := by decide +kernel
theorem dX2_knows_16 : decode cX2_knows 16 = .ok (.iconst 0, 1) := by decide +kernel
theorem dX2_knows_17 : decode cX2_knows 17 = .ok (.ireturn, 1) := by decide +kernel
theorem dX3_read_0 : decode cX3_read 0 = .ok (.aload_n 0, 1) := by decide +kernel
theorem dX3_read_1 : decode cX3_read 1 = .ok (.iconst 0, 1) := by decide +kernel
theorem dX3_read_2 : decode cX3_read 2 = .ok (.putfield 32, 3) := by decide +kernel
theorem dX3_read_5 : decode cX3_read 5 = .ok (.aload_n 0, 1) := by decide +kernel
theorem dX3_read_6 : decode cX3_read 6 = .ok (.iconst (-1), 1) := by decide +kernel
theorem dX3_read_7 : decode cX3_read 7 = .ok (.putfield 36, 3) := by decide +kernel
theorem dX3_read_10 : decode cX3_read 10 = .ok (.aload_n 0, 1) := by decide +kernel
theorem dX3_read_11 : decode cX3_read 11 = .ok (.iconst 0, 1) := by decide +kernel
theorem dX3_read_12 : decode cX3_read 12 = .ok (.putfield 39, 3) := by decide +kernel
theorem dX3_read_15 : decode cX3_read 15 = .ok (.aload_n 0, 1) := by decide +kernel
theorem dX3_read_16 : decode cX3_read 16 = .ok (.iconst 0, 1) := by decide +kernel
theorem dX3_read_17 : decode cX3_read 17 = .ok (.putfield 43, 3) := by decide +kernel
theorem dX3_read_20 : decode cX3_read 20 = .ok (.aload_n 0, 1) := by decide +kernel
theorem dX3_read_21 : decode cX3_read 21 = .ok (.iconst 0, 1) := by decide +kernel
theorem dX3_read_22 : decode cX3_read 22 = .ok (.putfield 46, 3) := by decide +kernel
theorem dX3_read_25 : decode cX3_read 25 = .ok (.aload_n 0, 1) := by decide +kernel
theorem dX3_read_26 : decode cX3_read 26 = .ok (.getfield 21, 3) := by decide +kernel
theorem dX3_read_29 : decode cX3_read 29 = .ok (.invokevirtual 49, 3) := by decide +kernel
theorem dX3_read_32 : decode cX3_read 32 = .ok (.aload_n 0, 1) := by decide +kernel
theorem dX3_read_33 : decode cX3_read 33 = .ok (.getfield 12, 3) := by decide +kernel
theorem dX3_read_36 : decode cX3_read 36 = .ok (.aload_n 1, 1) := by decide +kernel
theorem dX3_read_37 : decode cX3_read 37 = .ok (.iload_n 2, 1) := by decide +kernel
theorem dX3_read_38 : decode cX3_read 38 = .ok (.invokevirtual 52, 3) := by decide +kernel
theorem dX3_read_41 : decode cX3_read 41 = .ok (.iconst 0, 1) := by decide +kernel
theorem dX3_read_42 : decode cX3_read 42 = .ok (.istore_n 3, 1) := by decide +kernel
theorem dX3_read_43 : decode cX3_read 43 = .ok (.iload_n 3, 1) := by decide +kernel
theorem dX3_read_44 : decode cX3_read 44 = .ok (.sipush 700, 3) := by decide +kernel
theorem dX3_read_47 : decode cX3_read 47 = .ok (.if_icmp .gt 33, 3) := by decide +kernel
theorem dX3_read_50 : decode cX3_read 50 = .ok (.aload_n 0, 1) := by decide +kernel
theorem dX3_read_51 : decode cX3_read 51 = .ok (.getfield 32, 3) := by decide +kernel
theorem dX3_read_54 : decode cX3_read 54 = .ok (.ifCond .ne 26, 3) := by decide +kernel
theorem dX3_read_57 : decode cX3_read 57 = .ok (.aload_n 0, 1) := by decide +kernel
theorem dX3_read_58 : decode cX3_read 58 = .ok (.getfield 12, 3) := by decide +kernel
theorem dX3_read_61 : decode cX3_read 61 = .ok (.invokevirtual 56, 3) := by decide +kernel
theorem dX3_read_64 : decode cX3_read 64 = .ok (.sipush 256, 3) := by decide +kernel
theorem dX3_read_67 : decode cX3_read 67 = .ok (.if_icmp .eq 13, 3) := by decide +kernel
theorem dX3_read_70 : decode cX3_read 70 = .ok (.aload_n 0, 1) := by decide +kernel
theorem dX3_read_71 : decode cX3_read 71 = .ok (.invokevirtual 60, 3) := by decide +kernel
theorem dX3_read_74 : decode cX3_read 74 = .ok (.iinc 3 1, 3) := by decide +kernel
theorem dX3_read_77 : decode cX3_read 77 = .ok (.goto (-34), 3) := by decide +kernel
theorem dX3_read_80 : decode cX3_read 80 = .ok (.return_, 1) := by decide +kernel
theorem dX4_setUntold_0 : decode cX4_setUntold 0 = .ok (.aload_n 0, 1) := by decide +kernel
theorem dX4_setUntold_1 : decode cX4_setUntold 1 = .ok (.iconst 0, 1) := by decide +kernel
theorem dX4_setUntold_2 : decode cX4_setUntold 2 = .ok (.putfield 31, 3) := by decide +kernel
theorem dX4_setUntold_5 : decode cX4_setUntold 5 = .ok (.aload_n 0, 1) := by decide +kernel
theorem dX4_setUntold_6 : decode cX4_setUntold 6 = .ok (.iconst 0, 1) := by decide +kernel
theorem dX4_setUntold_7 : decode cX4_setUntold 7 = .ok (.putfield 35, 3) := by decide +kernel
theorem dX4_setUntold_10 : decode cX4_setUntold 10 = .ok (.aload_n 0, 1) := by decide +kernel
theorem dX4_setUntold_11 : decode cX4_setUntold 11 = .ok (.bipush 6, 2) := by decide +kernel
theorem dX4_setUntold_13 : decode cX4_setUntold 13 = .ok (.bipush 100, 2) := by decide +kernel
theorem dX4_setUntold_15 : decode cX4_setUntold 15 = .ok (.invokevirtual 38, 3) := by decide +kernel
theorem dX4_setUntold_18 : decode cX4_setUntold 18 = .ok (.aload_n 0, 1) := by decide +kernel
theorem dX4_setUntold_19 : decode cX4_setUntold 19 = .ok (.iconst 0, 1) := by decide +kernel
theorem dX4_setUntold_20 : decode cX4_setUntold 20 = .ok (.iconst 0, 1) := by decide +kernel
theorem dX4_setUntold_21 : decode cX4_setUntold 21 = .ok (.invokevirtual 38, 3) := by decide +kernel
theorem dX4_setUntold_24 : decode cX4_setUntold 24 = .ok (.aload_n 0, 1) := by decide +kernel
theorem dX4_setUntold_25 : decode cX4_setUntold 25 = .ok (.bipush 9, 2) := by decide +kernel
theorem dX4_setUntold_27 : decode cX4_setUntold 27 = .ok (.iconst 0, 1) := by decide +kernel
theorem dX4_setUntold_28 : decode cX4_setUntold 28 = .ok (.invokevirtual 38, 3) := by decide +kernel
theorem dX4_setUntold_31 : decode cX4_setUntold 31 = .ok (.aload_n 0, 1) := by decide +kernel
theorem dX4_setUntold_32 : decode cX4_setUntold 32 = .ok (.iconst 1, 1) := by decide +kernel
theorem dX4_setUntold_33 : decode cX4_setUntold 33 = .ok (.iconst 0, 1) := by decide +kernel
theorem dX4_setUntold_34 : decode cX4_setUntold 34 = .ok (.invokevirtual 38, 3) := by decide +kernel
theorem dX4_setUntold_37 : decode cX4_setUntold 37 = .ok (.aload_n 0, 1) := by decide +kernel
theorem dX4_setUntold_38 : decode cX4_setUntold 38 = .ok (.bipush 7, 2) := by decide +kernel
theorem dX4_setUntold_40 : decode cX4_setUntold 40 = .ok (.iconst 0, 1) := by decide +kernel
theorem dX4_setUntold_41 : decode cX4_setUntold 41 = .ok (.invokevirtual 38, 3) := by decide +kernel
theorem dX4_setUntold_44 : decode cX4_setUntold 44 = .ok (.aload_n 0, 1) := by decide +kernel
theorem dX4_setUntold_45 : decode cX4_setUntold 45 = .ok (.iconst 0, 1) := by decide +kernel
theorem dX4_setUntold_46 : decode cX4_setUntold 46 = .ok (.putfield 42, 3) := by decide +kernel
theorem dX4_setUntold_49 : decode cX4_setUntold 49 = .ok (.aload_n 0, 1) := by decide +kernel
theorem dX4_setUntold_50 : decode cX4_setUntold 50 = .ok (.iconst 0, 1) := by decide +kernel
theorem dX4_setUntold_51 : decode cX4_setUntold 51 = .ok (.iconst 1, 1) := by decide +kernel
theorem dX4_setUntold_52 : decode cX4_setUntold 52 = .ok (.invokevirtual 45, 3) := by decide +kernel
theorem dX4_setUntold_55 : decode cX4_setUntold 55 = .ok (.aload_n 0, 1) := by decide +kernel
theorem dX4_setUntold_56 : decode cX4_setUntold 56 = .ok (.iconst 0, 1) := by decide +kernel
theorem dX4_setUntold_57 : decode cX4_setUntold 57 = .ok (.putfield 49, 3) := by decide +kernel
theorem dX4_setUntold_60 : decode cX4_setUntold 60 = .ok (.return_, 1) := by decide +kernel
theorem dX4_take_0 : decode cX4_take 0 = .ok (.aload_n 0, 1) := by decide +kernel
theorem dX4_take_1 : decode cX4_take 1 = .ok (.aload_n 1, 1) := by decide +kernel
theorem dX4_take_2 : decode cX4_take 2 = .ok (.getfield 31, 3) := by decide +kernel
theorem dX4_take_5 : decode cX4_take 5 = .ok (.putfield 31, 3) := by decide +kernel
theorem dX4_take_8 : decode cX4_take 8 = .ok (.aload_n 1, 1) := by decide +kernel
theorem dX4_take_9 : decode cX4_take 9 = .ok (.getfield 9, 3) := by decide +kernel
theorem dX4_take_12 : decode cX4_take 12 = .ok (.iconst 0, 1) := by decide +kernel
theorem dX4_take_13 : decode cX4_take 13 = .ok (.aload_n 0, 1) := by decide +kernel
theorem dX4_take_14 : decode cX4_take 14 = .ok (.getfield 9, 3) := by decide +kernel
theorem dX4_take_17 : decode cX4_take 17 = .ok (.iconst 0, 1) := by decide +kernel
theorem dX4_take_18 : decode cX4_take 18 = .ok (.aload_n 0, 1) := by decide +kernel
theorem dX4_take_19 : decode cX4_take 19 = .ok (.getfield 9, 3) := by decide +kernel
theorem dX4_take_22 : decode cX4_take 22 = .ok (.arraylength, 1) := by decide +kernel
theorem dX4_take_23 : decode cX4_take 23 = .ok (.invokestatic 53, 3) := by decide +kernel
theorem dX4_take_26 : decode cX4_take 26 = .ok (.aload_n 1, 1) := by decide +kernel
theorem dX4_take_27 : decode cX4_take 27 = .ok (.getfield 15, 3) := by decide +kernel
theorem dX4_take_30 : decode cX4_take 30 = .ok (.iconst 0, 1) := by decide +kernel
theorem dX4_take_31 : decode cX4_take 31 = .ok (.aload_n 0, 1) := by decide +kernel
theorem dX4_take_32 : decode cX4_take 32 = .ok (.getfield 15, 3) := by decide +kernel
theorem dX4_take_35 : decode cX4_take 35 = .ok (.iconst 0, 1) := by decide +kernel
theorem dX4_take_36 : decode cX4_take 36 = .ok (.aload_n 0, 1) := by decide +kernel
theorem dX4_take_37 : decode cX4_take 37 = .ok (.getfield 15, 3) := by decide +kernel
theorem dX4_take_40 : decode cX4_take 40 = .ok (.arraylength, 1) := by decide +kernel
theorem dX4_take_41 : decode cX4_take 41 = .ok (.invokestatic 53, 3) := by decide +kernel
theorem dX4_take_44 : decode cX4_take 44 = .ok (.aload_n 1, 1) := by decide +kernel
theorem dX4_take_45 : decode cX4_take 45 = .ok (.getfield 18, 3) := by decide +kernel
theorem dX4_take_48 : decode cX4_take 48 = .ok (.iconst 0, 1) := by decide +kernel
theorem dX4_take_49 : decode cX4_take 49 = .ok (.aload_n 0, 1) := by decide +kernel
theorem dX4_take_50 : decode cX4_take 50 = .ok (.getfield 18, 3) := by decide +kernel
theorem dX4_take_53 : decode cX4_take 53 = .ok (.iconst 0, 1) := by decide +kernel
theorem dX4_take_54 : decode cX4_take 54 = .ok (.aload_n 0, 1) := by decide +kernel
theorem dX4_take_55 : decode cX4_take 55 = .ok (.getfield 18, 3) := by decide +kernel
theorem dX4_take_58 : decode cX4_take 58 = .ok (.arraylength, 1) := by decide +kernel
theorem dX4_take_59 : decode cX4_take 59 = .ok (.invokestatic 53, 3) := by decide +kernel
theorem dX4_take_62 : decode cX4_take 62 = .ok (.aload_n 0, 1) := by decide +kernel
theorem dX4_take_63 : decode cX4_take 63 = .ok (.aload_n 1, 1) := by decide +kernel
theorem dX4_take_64 : decode cX4_take 64 = .ok (.getfield 35, 3) := by decide +kernel
theorem dX4_take_67 : decode cX4_take 67 = .ok (.putfield 35, 3) := by decide +kernel
theorem dX4_take_70 : decode cX4_take 70 = .ok (.aload_n 1, 1) := by decide +kernel
theorem dX4_take_71 : decode cX4_take 71 = .ok (.getfield 21, 3) := by decide +kernel
theorem dX4_take_74 : decode cX4_take 74 = .ok (.iconst 0, 1) := by decide +kernel
theorem dX4_take_75 : decode cX4_take 75 = .ok (.aload_n 0, 1) := by decide +kernel
theorem dX4_take_76 : decode cX4_take 76 = .ok (.getfield 21, 3) := by decide +kernel
theorem dX4_take_79 : decode cX4_take 79 = .ok (.iconst 0, 1) := by decide +kernel
theorem dX4_take_80 : decode cX4_take 80 = .ok (.aload_n 0, 1) := by decide +kernel
theorem dX4_take_81 : decode cX4_take 81 = .ok (.getfield 21, 3) := by decide +kernel
theorem dX4_take_84 : decode cX4_take 84 = .ok (.arraylength, 1) := by decide +kernel
theorem dX4_take_85 : decode cX4_take 85 = .ok (.invokestatic 53, 3) := by decide +kernel
theorem dX4_take_88 : decode cX4_take 88 = .ok (.aload_n 1, 1) := by decide +kernel
theorem dX4_take_89 : decode cX4_take 89 = .ok (.getfield 24, 3) := by decide +kernel
theorem dX4_take_92 : decode cX4_take 92 = .ok (.iconst 0, 1) := by decide +kernel
theorem dX4_take_93 : decode cX4_take 93 = .ok (.aload_n 0, 1) := by decide +kernel
theorem dX4_take_94 : decode cX4_take 94 = .ok (.getfield 24, 3) := by decide +kernel
theorem dX4_take_97 : decode cX4_take 97 = .ok (.iconst 0, 1) := by decide +kernel
theorem dX4_take_98 : decode cX4_take 98 = .ok (.aload_n 0, 1) := by decide +kernel
theorem dX4_take_99 : decode cX4_take 99 = .ok (.getfield 24, 3) := by decide +kernel
theorem dX4_take_102 : decode cX4_take 102 = .ok (.arraylength, 1) := by decide +kernel
theorem dX4_take_103 : decode cX4_take 103 = .ok (.invokestatic 53, 3) := by decide +kernel
theorem dX4_take_106 : decode cX4_take 106 = .ok (.aload_n 0, 1) := by decide +kernel
theorem dX4_take_107 : decode cX4_take 107 = .ok (.aload_n 1, 1) := by decide +kernel
theorem dX4_take_108 : decode cX4_take 108 = .ok (.getfield 42, 3) := by decide +kernel
theorem dX4_take_111 : decode cX4_take 111 = .ok (.putfield 42, 3) := by decide +kernel
theorem dX4_take_114 : decode cX4_take 114 = .ok (.aload_n 0, 1) := by decide +kernel
theorem dX4_take_115 : decode cX4_take 115 = .ok (.aload_n 1, 1) := by decide +kernel
theorem dX4_take_116 : decode cX4_take 116 = .ok (.getfield 49, 3) := by decide +kernel
theorem dX4_take_119 : decode cX4_take 119 = .ok (.putfield 49, 3) := by decide +kernel
theorem dX4_take_122 : decode cX4_take 122 = .ok (.return_, 1) := by decide +kernel
theorem dX4_addItem_0 : decode cX4_addItem 0 = .ok (.aload_n 0, 1) := by decide +kernel
theorem dX4_addItem_1 : decode cX4_addItem 1 = .ok (.getfield 35, 3) := by decide +kernel
theorem dX4_addItem_4 : decode cX4_addItem 4 = .ok (.bipush 40, 2) := by decide +kernel
theorem dX4_addItem_6 : decode cX4_addItem 6 = .ok (.if_icmp .ge 33, 3) := by decide +kernel
theorem dX4_addItem_9 : decode cX4_addItem 9 = .ok (.aload_n 0, 1) := by decide +kernel
theorem dX4_addItem_10 : decode cX4_addItem 10 = .ok (.getfield 15, 3) := by decide +kernel
theorem dX4_addItem_13 : decode cX4_addItem 13 = .ok (.aload_n 0, 1) := by decide +kernel
theorem dX4_addItem_14 : decode cX4_addItem 14 = .ok (.getfield 35, 3) := by decide +kernel
theorem dX4_addItem_17 : decode cX4_addItem 17 = .ok (.iload_n 1, 1) := by decide +kernel
theorem dX4_addItem_18 : decode cX4_addItem 18 = .ok (.iastore, 1) := by decide +kernel
theorem dX4_addItem_19 : decode cX4_addItem 19 = .ok (.aload_n 0, 1) := by decide +kernel
theorem dX4_addItem_20 : decode cX4_addItem 20 = .ok (.getfield 18, 3) := by decide +kernel
theorem dX4_addItem_23 : decode cX4_addItem 23 = .ok (.aload_n 0, 1) := by decide +kernel
theorem dX4_addItem_24 : decode cX4_addItem 24 = .ok (.getfield 35, 3) := by decide +kernel
theorem dX4_addItem_27 : decode cX4_addItem 27 = .ok (.iload_n 2, 1) := by decide +kernel
theorem dX4_addItem_28 : decode cX4_addItem 28 = .ok (.iastore, 1) := by decide +kernel
theorem dX4_addItem_29 : decode cX4_addItem 29 = .ok (.aload_n 0, 1) := by decide +kernel
theorem dX4_addItem_30 : decode cX4_addItem 30 = .ok (.dup, 1) := by decide +kernel
theorem dX4_addItem_31 : decode cX4_addItem 31 = .ok (.getfield 35, 3) := by decide +kernel
theorem dX4_addItem_34 : decode cX4_addItem 34 = .ok (.iconst 1, 1) := by decide +kernel
theorem dX4_addItem_35 : decode cX4_addItem 35 = .ok (.iadd, 1) := by decide +kernel
theorem dX4_addItem_36 : decode cX4_addItem 36 = .ok (.putfield 35, 3) := by decide +kernel
theorem dX4_addItem_39 : decode cX4_addItem 39 = .ok (.return_, 1) := by decide +kernel
theorem dX4_addKey_0 : decode cX4_addKey 0 = .ok (.aload_n 0, 1) := by decide +kernel
theorem dX4_addKey_1 : decode cX4_addKey 1 = .ok (.getfield 42, 3) := by decide +kernel
theorem dX4_addKey_4 : decode cX4_addKey 4 = .ok (.iconst 4, 1) := by decide +kernel
theorem dX4_addKey_5 : decode cX4_addKey 5 = .ok (.if_icmp .ge 41, 3) := by decide +kernel
theorem dX4_addKey_8 : decode cX4_addKey 8 = .ok (.aload_n 0, 1) := by decide +kernel
theorem dX4_addKey_9 : decode cX4_addKey 9 = .ok (.getfield 21, 3) := by decide +kernel
theorem dX4_addKey_12 : decode cX4_addKey 12 = .ok (.aload_n 0, 1) := by decide +kernel
theorem dX4_addKey_13 : decode cX4_addKey 13 = .ok (.getfield 42, 3) := by decide +kernel
theorem dX4_addKey_16 : decode cX4_addKey 16 = .ok (.iload_n 1, 1) := by decide +kernel
theorem dX4_addKey_17 : decode cX4_addKey 17 = .ok (.iastore, 1) := by decide +kernel
theorem dX4_addKey_18 : decode cX4_addKey 18 = .ok (.aload_n 0, 1) := by decide +kernel
theorem dX4_addKey_19 : decode cX4_addKey 19 = .ok (.getfield 24, 3) := by decide +kernel
theorem dX4_addKey_22 : decode cX4_addKey 22 = .ok (.aload_n 0, 1) := by decide +kernel
theorem dX4_addKey_23 : decode cX4_addKey 23 = .ok (.getfield 42, 3) := by decide +kernel
theorem dX4_addKey_26 : decode cX4_addKey 26 = .ok (.iload_n 2, 1) := by decide +kernel
theorem dX4_addKey_27 : decode cX4_addKey 27 = .ok (.ifCond .eq 7, 3) := by decide +kernel
theorem dX4_addKey_30 : decode cX4_addKey 30 = .ok (.iconst 1, 1) := by decide +kernel
theorem dX4_addKey_31 : decode cX4_addKey 31 = .ok (.goto 4, 3) := by decide +kernel
theorem dX4_addKey_34 : decode cX4_addKey 34 = .ok (.iconst 0, 1) := by decide +kernel
theorem dX4_addKey_35 : decode cX4_addKey 35 = .ok (.iastore, 1) := by decide +kernel
theorem dX4_addKey_36 : decode cX4_addKey 36 = .ok (.aload_n 0, 1) := by decide +kernel
theorem dX4_addKey_37 : decode cX4_addKey 37 = .ok (.dup, 1) := by decide +kernel
theorem dX4_addKey_38 : decode cX4_addKey 38 = .ok (.getfield 42, 3) := by decide +kernel
theorem dX4_addKey_41 : decode cX4_addKey 41 = .ok (.iconst 1, 1) := by decide +kernel
theorem dX4_addKey_42 : decode cX4_addKey 42 = .ok (.iadd, 1) := by decide +kernel
theorem dX4_addKey_43 : decode cX4_addKey 43 = .ok (.putfield 42, 3) := by decide +kernel
theorem dX4_addKey_46 : decode cX4_addKey 46 = .ok (.return_, 1) := by decide +kernel
theorem dX4_hasRound_0 : decode cX4_hasRound 0 = .ok (.iload_n 1, 1) := by decide +kernel
theorem dX4_hasRound_1 : decode cX4_hasRound 1 = .ok (.ifCond .lt 15, 3) := by decide +kernel
theorem dX4_hasRound_4 : decode cX4_hasRound 4 = .ok (.iload_n 1, 1) := by decide +kernel
theorem dX4_hasRound_5 : decode cX4_hasRound 5 = .ok (.aload_n 0, 1) := by decide +kernel
theorem dX4_hasRound_6 : decode cX4_hasRound 6 = .ok (.getfield 31, 3) := by decide +kernel
theorem dX4_hasRound_9 : decode cX4_hasRound 9 = .ok (.if_icmp .ge 7, 3) := by decide +kernel
theorem dX4_hasRound_12 : decode cX4_hasRound 12 = .ok (.iconst 1, 1) := by decide +kernel
theorem dX4_hasRound_13 : decode cX4_hasRound 13 = .ok (.goto 4, 3) := by decide +kernel
theorem dX4_hasRound_16 : decode cX4_hasRound 16 = .ok (.iconst 0, 1) := by decide +kernel
theorem dX4_hasRound_17 : decode cX4_hasRound 17 = .ok (.ireturn, 1) := by decide +kernel
theorem dX4_hasRoute_0 : decode cX4_hasRoute 0 = .ok (.aload_n 0, 1) := by decide +kernel
theorem dX4_hasRoute_1 : decode cX4_hasRoute 1 = .ok (.iload_n 1, 1) := by decide +kernel
theorem dX4_hasRoute_2 : decode cX4_hasRoute 2 = .ok (.invokevirtual 59, 3) := by decide +kernel
theorem dX4_hasRoute_5 : decode cX4_hasRoute 5 = .ok (.ifCond .eq 25, 3) := by decide +kernel
theorem dX4_hasRoute_8 : decode cX4_hasRoute 8 = .ok (.iload_n 2, 1) := by decide +kernel
theorem dX4_hasRoute_9 : decode cX4_hasRoute 9 = .ok (.ifCond .lt 21, 3) := by decide +kernel
theorem dX4_hasRoute_12 : decode cX4_hasRoute 12 = .ok (.iload_n 2, 1) := by decide +kernel
theorem dX4_hasRoute_13 : decode cX4_hasRoute 13 = .ok (.aload_n 0, 1) := by decide +kernel
theorem dX4_hasRoute_14 : decode cX4_hasRoute 14 = .ok (.getfield 9, 3) := by decide +kernel
theorem dX4_hasRoute_17 : decode cX4_hasRoute 17 = .ok (.iload_n 1, 1) := by decide +kernel
theorem dX4_hasRoute_18 : decode cX4_hasRoute 18 = .ok (.iconst 4, 1) := by decide +kernel
theorem dX4_hasRoute_19 : decode cX4_hasRoute 19 = .ok (.imul, 1) := by decide +kernel
theorem dX4_hasRoute_20 : decode cX4_hasRoute 20 = .ok (.iconst 0, 1) := by decide +kernel
theorem dX4_hasRoute_21 : decode cX4_hasRoute 21 = .ok (.iadd, 1) := by decide +kernel
theorem dX4_hasRoute_22 : decode cX4_hasRoute 22 = .ok (.iaload, 1) := by decide +kernel
theorem dX4_hasRoute_23 : decode cX4_hasRoute 23 = .ok (.if_icmp .ge 7, 3) := by decide +kernel
theorem dX4_hasRoute_26 : decode cX4_hasRoute 26 = .ok (.iconst 1, 1) := by decide +kernel
theorem dX4_hasRoute_27 : decode cX4_hasRoute 27 = .ok (.goto 4, 3) := by decide +kernel
theorem dX4_hasRoute_30 : decode cX4_hasRoute 30 = .ok (.iconst 0, 1) := by decide +kernel
theorem dX4_hasRoute_31 : decode cX4_hasRoute 31 = .ok (.ireturn, 1) := by decide +kernel
theorem dX4_shapeOf_0 : decode cX4_shapeOf 0 = .ok (.aload_n 0, 1) := by decide +kernel
theorem dX4_shapeOf_1 : decode cX4_shapeOf 1 = .ok (.iload_n 1, 1) := by decide +kernel
theorem dX4_shapeOf_2 : decode cX4_shapeOf 2 = .ok (.invokevirtual 59, 3) := by decide +kernel
theorem dX4_shapeOf_5 : decode cX4_shapeOf 5 = .ok (.ifCond .eq 25, 3) := by decide +kernel
theorem dX4_shapeOf_8 : decode cX4_shapeOf 8 = .ok (.iload_n 2, 1) := by decide +kernel
theorem dX4_shapeOf_9 : decode cX4_shapeOf 9 = .ok (.ifCond .lt 21, 3) := by decide +kernel
theorem dX4_shapeOf_12 : decode cX4_shapeOf 12 = .ok (.iload_n 2, 1) := by decide +kernel
theorem dX4_shapeOf_13 : decode cX4_shapeOf 13 = .ok (.iconst 4, 1) := by decide +kernel
theorem dX4_shapeOf_14 : decode cX4_shapeOf 14 = .ok (.if_icmp .ge 16, 3) := by decide +kernel
theorem dX4_shapeOf_17 : decode cX4_shapeOf 17 = .ok (.aload_n 0, 1) := by decide +kernel
theorem dX4_shapeOf_18 : decode cX4_shapeOf 18 = .ok (.getfield 9, 3) := by decide +kernel
theorem dX4_shapeOf_21 : decode cX4_shapeOf 21 = .ok (.iload_n 1, 1) := by decide +kernel
theorem dX4_shapeOf_22 : decode cX4_shapeOf 22 = .ok (.iconst 4, 1) := by decide +kernel
theorem dX4_shapeOf_23 : decode cX4_shapeOf 23 = .ok (.imul, 1) := by decide +kernel
theorem dX4_shapeOf_24 : decode cX4_shapeOf 24 = .ok (.iload_n 2, 1) := by decide +kernel
theorem dX4_shapeOf_25 : decode cX4_shapeOf 25 = .ok (.iadd, 1) := by decide +kernel
theorem dX4_shapeOf_26 : decode cX4_shapeOf 26 = .ok (.iaload, 1) := by decide +kernel
theorem dX4_shapeOf_27 : decode cX4_shapeOf 27 = .ok (.goto 4, 3) := by decide +kernel
theorem dX4_shapeOf_30 : decode cX4_shapeOf 30 = .ok (.iconst 0, 1) := by decide +kernel
theorem dX4_shapeOf_31 : decode cX4_shapeOf 31 = .ok (.ireturn, 1) := by decide +kernel
theorem dX6_kind_0 : decode cX6_kind 0 = .ok (.aload_n 0, 1) := by decide +kernel
theorem dX6_kind_1 : decode cX6_kind 1 = .ok (.getfield 9, 3) := by decide +kernel
theorem dX6_kind_4 : decode cX6_kind 4 = .ok (.aload_n 0, 1) := by decide +kernel
theorem dX6_kind_5 : decode cX6_kind 5 = .ok (.getfield 21, 3) := by decide +kernel
theorem dX6_kind_8 : decode cX6_kind 8 = .ok (.iaload, 1) := by decide +kernel
theorem dX6_kind_9 : decode cX6_kind 9 = .ok (.ireturn, 1) := by decide +kernel
theorem dX6_split_0 : decode cX6_split 0 = .ok (.aload_n 0, 1) := by decide +kernel
theorem dX6_split_1 : decode cX6_split 1 = .ok (.iconst 0, 1) := by decide +kernel
theorem dX6_split_2 : decode cX6_split 2 = .ok (.putfield 21, 3) := by decide +kernel
theorem dX6_split_5 : decode cX6_split 5 = .ok (.aload_n 0, 1) := by decide +kernel
theorem dX6_split_6 : decode cX6_split 6 = .ok (.iconst 0, 1) := by decide +kernel
theorem dX6_split_7 : decode cX6_split 7 = .ok (.putfield 25, 3) := by decide +kernel
theorem dX6_split_10 : decode cX6_split 10 = .ok (.iconst 0, 1) := by decide +kernel
theorem dX6_split_11 : decode cX6_split 11 = .ok (.istore_n 3, 1) := by decide +kernel
theorem dX6_split_12 : decode cX6_split 12 = .ok (.iconst 0, 1) := by decide +kernel
theorem dX6_split_13 : decode cX6_split 13 = .ok (.istore 4, 2) := by decide +kernel
theorem dX6_split_15 : decode cX6_split 15 = .ok (.iload 4, 2) := by decide +kernel
theorem dX6_split_17 : decode cX6_split 17 = .ok (.iload_n 2, 1) := by decide +kernel
theorem dX6_split_18 : decode cX6_split 18 = .ok (.if_icmp .ge 127, 3) := by decide +kernel
theorem dX6_split_21 : decode cX6_split 21 = .ok (.iload_n 3, 1) := by decide +kernel
theorem dX6_split_22 : decode cX6_split 22 = .ok (.iload_n 2, 1) := by decide +kernel
theorem dX6_split_23 : decode cX6_split 23 = .ok (.if_icmp .ge 122, 3) := by decide +kernel
theorem dX6_split_26 : decode cX6_split 26 = .ok (.aload_n 1, 1) := by decide +kernel
theorem dX6_split_27 : decode cX6_split 27 = .ok (.iload_n 3, 1) := by decide +kernel
theorem dX6_split_28 : decode cX6_split 28 = .ok (.iaload, 1) := by decide +kernel
theorem dX6_split_29 : decode cX6_split 29 = .ok (.istore 5, 2) := by decide +kernel
theorem dX6_split_31 : decode cX6_split 31 = .ok (.iload 5, 2) := by decide +kernel
theorem dX6_split_33 : decode cX6_split 33 = .ok (.bipush 32, 2) := by decide +kernel
theorem dX6_split_35 : decode cX6_split 35 = .ok (.if_icmp .eq 10, 3) := by decide +kernel
theorem dX6_split_38 : decode cX6_split 38 = .ok (.iload 5, 2) := by decide +kernel
theorem dX6_split_40 : decode cX6_split 40 = .ok (.bipush 10, 2) := by decide +kernel
theorem dX6_split_42 : decode cX6_split 42 = .ok (.if_icmp .ne 9, 3) := by decide +kernel
theorem dX6_split_45 : decode cX6_split 45 = .ok (.iinc 3 1, 3) := by decide +kernel
theorem dX6_split_48 : decode cX6_split 48 = .ok (.goto 66, 3) := by decide +kernel
theorem dX6_split_51 : decode cX6_split 51 = .ok (.iload 5, 2) := by decide +kernel
theorem dX6_split_53 : decode cX6_split 53 = .ok (.invokestatic 28, 3) := by decide +kernel
theorem dX6_split_56 : decode cX6_split 56 = .ok (.ifCond .eq 14, 3) := by decide +kernel
theorem dX6_split_59 : decode cX6_split 59 = .ok (.aload_n 0, 1) := by decide +kernel
theorem dX6_split_60 : decode cX6_split 60 = .ok (.aload_n 1, 1) := by decide +kernel
theorem dX6_split_61 : decode cX6_split 61 = .ok (.iload_n 3, 1) := by decide +kernel
theorem dX6_split_62 : decode cX6_split 62 = .ok (.iload_n 2, 1) := by decide +kernel
theorem dX6_split_63 : decode cX6_split 63 = .ok (.invokevirtual 32, 3) := by decide +kernel
theorem dX6_split_66 : decode cX6_split 66 = .ok (.istore_n 3, 1) := by decide +kernel
theorem dX6_split_67 : decode cX6_split 67 = .ok (.goto 47, 3) := by decide +kernel
theorem dX6_split_70 : decode cX6_split 70 = .ok (.iload 5, 2) := by decide +kernel
theorem dX6_split_72 : decode cX6_split 72 = .ok (.invokestatic 36, 3) := by decide +kernel
theorem dX6_split_75 : decode cX6_split 75 = .ok (.ifCond .eq 14, 3) := by decide +kernel
theorem dX6_split_78 : decode cX6_split 78 = .ok (.aload_n 0, 1) := by decide +kernel
theorem dX6_split_79 : decode cX6_split 79 = .ok (.aload_n 1, 1) := by decide +kernel
theorem dX6_split_80 : decode cX6_split 80 = .ok (.iload_n 3, 1) := by decide +kernel
theorem dX6_split_81 : decode cX6_split 81 = .ok (.iload_n 2, 1) := by decide +kernel
theorem dX6_split_82 : decode cX6_split 82 = .ok (.invokevirtual 39, 3) := by decide +kernel
theorem dX6_split_85 : decode cX6_split 85 = .ok (.istore_n 3, 1) := by decide +kernel
theorem dX6_split_86 : decode cX6_split 86 = .ok (.goto 28, 3) := by decide +kernel
theorem dX6_split_89 : decode cX6_split 89 = .ok (.aload_n 0, 1) := by decide +kernel
theorem dX6_split_90 : decode cX6_split 90 = .ok (.iload 5, 2) := by decide +kernel
theorem dX6_split_92 : decode cX6_split 92 = .ok (.invokestatic 42, 3) := by decide +kernel
theorem dX6_split_95 : decode cX6_split 95 = .ok (.ifCond .eq 8, 3) := by decide +kernel
theorem dX6_split_98 : decode cX6_split 98 = .ok (.iload 5, 2) := by decide +kernel
theorem dX6_split_100 : decode cX6_split 100 = .ok (.goto 6, 3) := by decide +kernel
theorem dX6_split_103 : decode cX6_split 103 = .ok (.sipush 257, 3) := by decide +kernel
theorem dX6_split_106 : decode cX6_split 106 = .ok (.iload_n 3, 1) := by decide +kernel
theorem dX6_split_107 : decode cX6_split 107 = .ok (.iconst 0, 1) := by decide +kernel
theorem dX6_split_108 : decode cX6_split 108 = .ok (.invokevirtual 45, 3) := by decide +kernel
theorem dX6_split_111 : decode cX6_split 111 = .ok (.iinc 3 1, 3) := by decide +kernel
theorem dX6_split_114 : decode cX6_split 114 = .ok (.aload_n 0, 1) := by decide +kernel
theorem dX6_split_115 : decode cX6_split 115 = .ok (.getfield 25, 3) := by decide +kernel
theorem dX6_split_118 : decode cX6_split 118 = .ok (.ifCond .le 21, 3) := by decide +kernel
theorem dX6_split_121 : decode cX6_split 121 = .ok (.aload_n 0, 1) := by decide +kernel
theorem dX6_split_122 : decode cX6_split 122 = .ok (.getfield 9, 3) := by decide +kernel
theorem dX6_split_125 : decode cX6_split 125 = .ok (.aload_n 0, 1) := by decide +kernel
theorem dX6_split_126 : decode cX6_split 126 = .ok (.getfield 25, 3) := by decide +kernel
theorem dX6_split_129 : decode cX6_split 129 = .ok (.iconst 1, 1) := by decide +kernel
theorem dX6_split_130 : decode cX6_split 130 = .ok (.isub, 1) := by decide +kernel
theorem dX6_split_131 : decode cX6_split 131 = .ok (.iaload, 1) := by decide +kernel
theorem dX6_split_132 : decode cX6_split 132 = .ok (.sipush 257, 3) := by decide +kernel
theorem dX6_split_135 : decode cX6_split 135 = .ok (.if_icmp .ne 4, 3) := by decide +kernel
theorem dX6_split_138 : decode cX6_split 138 = .ok (.return_, 1) := by decide +kernel
theorem dX6_split_139 : decode cX6_split 139 = .ok (.iinc 4 1, 3) := by decide +kernel
theorem dX6_split_142 : decode cX6_split 142 = .ok (.goto (-127), 3) := by decide +kernel
theorem dX6_split_145 : decode cX6_split 145 = .ok (.aload_n 0, 1) := by decide +kernel
theorem dX6_split_146 : decode cX6_split 146 = .ok (.sipush 256, 3) := by decide +kernel
theorem dX6_split_149 : decode cX6_split 149 = .ok (.iload_n 2, 1) := by decide +kernel
theorem dX6_split_150 : decode cX6_split 150 = .ok (.iconst 0, 1) := by decide +kernel
theorem dX6_split_151 : decode cX6_split 151 = .ok (.invokevirtual 45, 3) := by decide +kernel
theorem dX6_split_154 : decode cX6_split 154 = .ok (.return_, 1) := by decide +kernel
theorem dX6_put_0 : decode cX6_put 0 = .ok (.aload_n 0, 1) := by decide +kernel
theorem dX6_put_1 : decode cX6_put 1 = .ok (.getfield 25, 3) := by decide +kernel
theorem dX6_put_4 : decode cX6_put 4 = .ok (.aload_n 0, 1) := by decide +kernel
theorem dX6_put_5 : decode cX6_put 5 = .ok (.getfield 9, 3) := by decide +kernel
theorem dX6_put_8 : decode cX6_put 8 = .ok (.arraylength, 1) := by decide +kernel
theorem dX6_put_9 : decode cX6_put 9 = .ok (.if_icmp .ge 43, 3) := by decide +kernel
theorem dX6_put_12 : decode cX6_put 12 = .ok (.aload_n 0, 1) := by decide +kernel
theorem dX6_put_13 : decode cX6_put 13 = .ok (.getfield 9, 3) := by decide +kernel
theorem dX6_put_16 : decode cX6_put 16 = .ok (.aload_n 0, 1) := by decide +kernel
theorem dX6_put_17 : decode cX6_put 17 = .ok (.getfield 25, 3) := by decide +kernel
theorem dX6_put_20 : decode cX6_put 20 = .ok (.iload_n 1, 1) := by decide +kernel
theorem dX6_put_21 : decode cX6_put 21 = .ok (.iastore, 1) := by decide +kernel
theorem dX6_put_22 : decode cX6_put 22 = .ok (.aload_n 0, 1) := by decide +kernel
theorem dX6_put_23 : decode cX6_put 23 = .ok (.getfield 15, 3) := by decide +kernel
theorem dX6_put_26 : decode cX6_put 26 = .ok (.aload_n 0, 1) := by decide +kernel
theorem dX6_put_27 : decode cX6_put 27 = .ok (.getfield 25, 3) := by decide +kernel
theorem dX6_put_30 : decode cX6_put 30 = .ok (.iload_n 2, 1) := by decide +kernel
theorem dX6_put_31 : decode cX6_put 31 = .ok (.iastore, 1) := by decide +kernel
theorem dX6_put_32 : decode cX6_put 32 = .ok (.aload_n 0, 1) := by decide +kernel
theorem dX6_put_33 : decode cX6_put 33 = .ok (.getfield 18, 3) := by decide +kernel
theorem dX6_put_36 : decode cX6_put 36 = .ok (.aload_n 0, 1) := by decide +kernel
theorem dX6_put_37 : decode cX6_put 37 = .ok (.getfield 25, 3) := by decide +kernel
theorem dX6_put_40 : decode cX6_put 40 = .ok (.iload_n 3, 1) := by decide +kernel
theorem dX6_put_41 : decode cX6_put 41 = .ok (.iastore, 1) := by decide +kernel
theorem dX6_put_42 : decode cX6_put 42 = .ok (.aload_n 0, 1) := by decide +kernel
theorem dX6_put_43 : decode cX6_put 43 = .ok (.dup, 1) := by decide +kernel
theorem dX6_put_44 : decode cX6_put 44 = .ok (.getfield 25, 3) := by decide +kernel
theorem dX6_put_47 : decode cX6_put 47 = .ok (.iconst 1, 1) := by decide +kernel
theorem dX6_put_48 : decode cX6_put 48 = .ok (.iadd, 1) := by decide +kernel
theorem dX6_put_49 : decode cX6_put 49 = .ok (.putfield 25, 3) := by decide +kernel
theorem dX6_put_52 : decode cX6_put 52 = .ok (.return_, 1) := by decide +kernel
theorem dX7_clear_0 : decode cX7_clear 0 = .ok (.aload_n 0, 1) := by decide +kernel
theorem dX7_clear_1 : decode cX7_clear 1 = .ok (.iconst 0, 1) := by decide +kernel
theorem dX7_clear_2 : decode cX7_clear 2 = .ok (.putfield 36, 3) := by decide +kernel
theorem dX7_clear_5 : decode cX7_clear 5 = .ok (.aload_n 0, 1) := by decide +kernel
theorem dX7_clear_6 : decode cX7_clear 6 = .ok (.getfield 33, 3) := by decide +kernel
theorem dX7_clear_9 : decode cX7_clear 9 = .ok (.iconst 0, 1) := by decide +kernel
theorem dX7_clear_10 : decode cX7_clear 10 = .ok (.invokestatic 40, 3) := by decide +kernel
theorem dX7_clear_13 : decode cX7_clear 13 = .ok (.return_, 1) := by decide +kernel
theorem dX7_knows_0 : decode cX7_knows 0 = .ok (.iload_n 1, 1) := by decide +kernel
theorem dX7_knows_1 : decode cX7_knows 1 = .ok (.ifCond .lt 15, 3) := by decide +kernel
theorem dX7_knows_4 : decode cX7_knows 4 = .ok (.iload_n 1, 1) := by decide +kernel
theorem dX7_knows_5 : decode cX7_knows 5 = .ok (.aload_n 0, 1) := by decide +kernel
theorem dX7_knows_6 : decode cX7_knows 6 = .ok (.getfield 36, 3) := by decide +kernel
theorem dX7_knows_9 : decode cX7_knows 9 = .ok (.if_icmp .ge 7, 3) := by decide +kernel
theorem dX7_knows_12 : decode cX7_knows 12 = .ok (.iconst 1, 1) := by decide +kernel
theorem dX7_knows_13 : decode cX7_knows 13 = .ok (.goto 4, 3) := by decide +kernel
theorem dX7_knows_16 : decode cX7_knows 16 = .ok (.iconst 0, 1) := by decide +kernel
theorem dX7_knows_17 : decode cX7_knows 17 = .ok (.ireturn, 1) := by decide +kernel
theorem dX7_openOf_0 : decode cX7_openOf 0 = .ok (.aload_n 0, 1) := by decide +kernel
theorem dX7_openOf_1 : decode cX7_openOf 1 = .ok (.getfield 33, 3) := by decide +kernel
theorem dX7_openOf_4 : decode cX7_openOf 4 = .ok (.iload_n 1, 1) := by decide +kernel
theorem dX7_openOf_5 : decode cX7_openOf 5 = .ok (.iaload, 1) := by decide +kernel
theorem dX7_openOf_6 : decode cX7_openOf 6 = .ok (.iconst 1, 1) := by decide +kernel
theorem dX7_openOf_7 : decode cX7_openOf 7 = .ok (.isub, 1) := by decide +kernel
theorem dX7_openOf_8 : decode cX7_openOf 8 = .ok (.ireturn, 1) := by decide +kernel
theorem dX7_anyOpen_0 : decode cX7_anyOpen 0 = .ok (.iconst 0, 1) := by decide +kernel
theorem dX7_anyOpen_1 : decode cX7_anyOpen 1 = .ok (.istore_n 1, 1) := by decide +kernel
theorem dX7_anyOpen_2 : decode cX7_anyOpen 2 = .ok (.iload_n 1, 1) := by decide +kernel
theorem dX7_anyOpen_3 : decode cX7_anyOpen 3 = .ok (.bipush 16, 2) := by decide +kernel
theorem dX7_anyOpen_5 : decode cX7_anyOpen 5 = .ok (.if_icmp .ge 20, 3) := by decide +kernel
theorem dX7_anyOpen_8 : decode cX7_anyOpen 8 = .ok (.aload_n 0, 1) := by decide +kernel
theorem dX7_anyOpen_9 : decode cX7_anyOpen 9 = .ok (.getfield 33, 3) := by decide +kernel
theorem dX7_anyOpen_12 : decode cX7_anyOpen 12 = .ok (.iload_n 1, 1) := by decide +kernel
theorem dX7_anyOpen_13 : decode cX7_anyOpen 13 = .ok (.iaload, 1) := by decide +kernel
theorem dX7_anyOpen_14 : decode cX7_anyOpen 14 = .ok (.ifCond .le 5, 3) := by decide +kernel
theorem dX7_anyOpen_17 : decode cX7_anyOpen 17 = .ok (.iconst 1, 1) := by decide +kernel
theorem dX7_anyOpen_18 : decode cX7_anyOpen 18 = .ok (.ireturn, 1) := by decide +kernel
theorem dX7_anyOpen_19 : decode cX7_anyOpen 19 = .ok (.iinc 1 1, 3) := by decide +kernel
theorem dX7_anyOpen_22 : decode cX7_anyOpen 22 = .ok (.goto (-20), 3) := by decide +kernel
theorem dX7_anyOpen_25 : decode cX7_anyOpen 25 = .ok (.iconst 0, 1) := by decide +kernel
theorem dX7_anyOpen_26 : decode cX7_anyOpen 26 = .ok (.ireturn, 1) := by decide +kernel
theorem dX7_endOverdue_0 : decode cX7_endOverdue 0 = .ok (.iconst 0, 1) := by decide +kernel
theorem dX7_endOverdue_1 : decode cX7_endOverdue 1 = .ok (.istore_n 3, 1) := by decide +kernel
theorem dX7_endOverdue_2 : decode cX7_endOverdue 2 = .ok (.iload_n 3, 1) := by decide +kernel
theorem dX7_endOverdue_3 : decode cX7_endOverdue 3 = .ok (.bipush 16, 2) := by decide +kernel
theorem dX7_endOverdue_5 : decode cX7_endOverdue 5 = .ok (.if_icmp .ge 51, 3) := by decide +kernel
theorem dX7_endOverdue_8 : decode cX7_endOverdue 8 = .ok (.aload_n 0, 1) := by decide +kernel
theorem dX7_endOverdue_9 : decode cX7_endOverdue 9 = .ok (.iload_n 3, 1) := by decide +kernel
theorem dX7_endOverdue_10 : decode cX7_endOverdue 10 = .ok (.invokevirtual 46, 3) := by decide +kernel
theorem dX7_endOverdue_13 : decode cX7_endOverdue 13 = .ok (.istore 4, 2) := by decide +kernel
theorem dX7_endOverdue_15 : decode cX7_endOverdue 15 = .ok (.iload 4, 2) := by decide +kernel
theorem dX7_endOverdue_17 : decode cX7_endOverdue 17 = .ok (.iconst (-1), 1) := by decide +kernel
theorem dX7_endOverdue_18 : decode cX7_endOverdue 18 = .ok (.if_icmp .eq 32, 3) := by decide +kernel
theorem dX7_endOverdue_21 : decode cX7_endOverdue 21 = .ok (.iload_n 1, 1) := by decide +kernel
theorem dX7_endOverdue_22 : decode cX7_endOverdue 22 = .ok (.aload_n 0, 1) := by decide +kernel
theorem dX7_endOverdue_23 : decode cX7_endOverdue 23 = .ok (.getfield 21, 3) := by decide +kernel
theorem dX7_endOverdue_26 : decode cX7_endOverdue 26 = .ok (.iload 4, 2) := by decide +kernel
theorem dX7_endOverdue_28 : decode cX7_endOverdue 28 = .ok (.iaload, 1) := by decide +kernel
theorem dX7_endOverdue_29 : decode cX7_endOverdue 29 = .ok (.iload_n 2, 1) := by decide +kernel
theorem dX7_endOverdue_30 : decode cX7_endOverdue 30 = .ok (.iadd, 1) := by decide +kernel
theorem dX7_endOverdue_31 : decode cX7_endOverdue 31 = .ok (.if_icmp .lt 19, 3) := by decide +kernel
theorem dX7_endOverdue_34 : decode cX7_endOverdue 34 = .ok (.aload_n 0, 1) := by decide +kernel
theorem dX7_endOverdue_35 : decode cX7_endOverdue 35 = .ok (.iload 4, 2) := by decide +kernel
theorem dX7_endOverdue_37 : decode cX7_endOverdue 37 = .ok (.aload_n 0, 1) := by decide +kernel
theorem dX7_endOverdue_38 : decode cX7_endOverdue 38 = .ok (.getfield 21, 3) := by decide +kernel
theorem dX7_endOverdue_41 : decode cX7_endOverdue 41 = .ok (.iload 4, 2) := by decide +kernel
theorem dX7_endOverdue_43 : decode cX7_endOverdue 43 = .ok (.iaload, 1) := by decide +kernel
theorem dX7_endOverdue_44 : decode cX7_endOverdue 44 = .ok (.iload_n 2, 1) := by decide +kernel
theorem dX7_endOverdue_45 : decode cX7_endOverdue 45 = .ok (.iadd, 1) := by decide +kernel
theorem dX7_endOverdue_46 : decode cX7_endOverdue 46 = .ok (.iconst 3, 1) := by decide +kernel
theorem dX7_endOverdue_47 : decode cX7_endOverdue 47 = .ok (.invokevirtual 50, 3) := by decide +kernel
theorem dX7_endOverdue_50 : decode cX7_endOverdue 50 = .ok (.iinc 3 1, 3) := by decide +kernel
theorem dX7_endOverdue_53 : decode cX7_endOverdue 53 = .ok (.goto (-51), 3) := by decide +kernel
theorem dX7_endOverdue_56 : decode cX7_endOverdue 56 = .ok (.return_, 1) := by decide +kernel
theorem dX8_clear_0 : decode cX8_clear 0 = .ok (.aload_n 0, 1) := by decide +kernel
theorem dX8_clear_1 : decode cX8_clear 1 = .ok (.getfield 9, 3) := by decide +kernel
theorem dX8_clear_4 : decode cX8_clear 4 = .ok (.bipush 10, 2) := by decide +kernel
theorem dX8_clear_6 : decode cX8_clear 6 = .ok (.invokestatic 21, 3) := by decide +kernel
theorem dX8_clear_9 : decode cX8_clear 9 = .ok (.aload_n 0, 1) := by decide +kernel
theorem dX8_clear_10 : decode cX8_clear 10 = .ok (.getfield 15, 3) := by decide +kernel
theorem dX8_clear_13 : decode cX8_clear 13 = .ok (.iconst 0, 1) := by decide +kernel
theorem dX8_clear_14 : decode cX8_clear 14 = .ok (.invokestatic 21, 3) := by decide +kernel
theorem dX8_clear_17 : decode cX8_clear 17 = .ok (.aload_n 0, 1) := by decide +kernel
theorem dX8_clear_18 : decode cX8_clear 18 = .ok (.getfield 18, 3) := by decide +kernel
theorem dX8_clear_21 : decode cX8_clear 21 = .ok (.iconst 0, 1) := by decide +kernel
theorem dX8_clear_22 : decode cX8_clear 22 = .ok (.invokestatic 21, 3) := by decide +kernel
theorem dX8_clear_25 : decode cX8_clear 25 = .ok (.return_, 1) := by decide +kernel
theorem dX9_clear_0 : decode cX9_clear 0 = .ok (.aload_n 0, 1) := by decide +kernel
theorem dX9_clear_1 : decode cX9_clear 1 = .ok (.getfield 9, 3) := by decide +kernel
theorem dX9_clear_4 : decode cX9_clear 4 = .ok (.iconst 0, 1) := by decide +kernel
theorem dX9_clear_5 : decode cX9_clear 5 = .ok (.invokestatic 21, 3) := by decide +kernel
theorem dX9_clear_8 : decode cX9_clear 8 = .ok (.return_, 1) := by decide +kernel
theorem dX10_status_0 : decode cX10_status 0 = .ok (.aload_n 0, 1) := by decide +kernel
theorem dX10_status_1 : decode cX10_status 1 = .ok (.getfield 71, 3) := by decide +kernel
theorem dX10_status_4 : decode cX10_status 4 = .ok (.ireturn, 1) := by decide +kernel
theorem dX10_feed_0 : decode cX10_feed 0 = .ok (.aload_n 0, 1) := by decide +kernel
theorem dX10_feed_1 : decode cX10_feed 1 = .ok (.getfield 81, 3) := by decide +kernel
theorem dX10_feed_4 : decode cX10_feed 4 = .ok (.bipush 20, 2) := by decide +kernel
theorem dX10_feed_6 : decode cX10_feed 6 = .ok (.iadd, 1) := by decide +kernel
theorem dX10_feed_7 : decode cX10_feed 7 = .ok (.sipush 700, 3) := by decide +kernel
theorem dX10_feed_10 : decode cX10_feed 10 = .ok (.if_icmp .le 5, 3) := by decide +kernel
theorem dX10_feed_13 : decode cX10_feed 13 = .ok (.iconst (-1), 1) := by decide +kernel
theorem dX10_feed_14 : decode cX10_feed 14 = .ok (.ireturn, 1) := by decide +kernel
theorem dX10_feed_15 : decode cX10_feed 15 = .ok (.aload_n 0, 1) := by decide +kernel
theorem dX10_feed_16 : decode cX10_feed 16 = .ok (.iload_n 1, 1) := by decide +kernel
theorem dX10_feed_17 : decode cX10_feed 17 = .ok (.invokevirtual 84, 3) := by decide +kernel
theorem dX10_feed_20 : decode cX10_feed 20 = .ok (.aload_n 0, 1) := by decide +kernel
theorem dX10_feed_21 : decode cX10_feed 21 = .ok (.iload_n 2, 1) := by decide +kernel
theorem dX10_feed_22 : decode cX10_feed 22 = .ok (.invokevirtual 84, 3) := by decide +kernel
theorem dX10_feed_25 : decode cX10_feed 25 = .ok (.aload_n 0, 1) := by decide +kernel
theorem dX10_feed_26 : decode cX10_feed 26 = .ok (.iload_n 3, 1) := by decide +kernel
theorem dX10_feed_27 : decode cX10_feed 27 = .ok (.invokevirtual 84, 3) := by decide +kernel
theorem dX10_feed_30 : decode cX10_feed 30 = .ok (.aload_n 0, 1) := by decide +kernel
theorem dX10_feed_31 : decode cX10_feed 31 = .ok (.iload 4, 2) := by decide +kernel
theorem dX10_feed_33 : decode cX10_feed 33 = .ok (.invokevirtual 84, 3) := by decide +kernel
theorem dX10_feed_36 : decode cX10_feed 36 = .ok (.aload_n 0, 1) := by decide +kernel
theorem dX10_feed_37 : decode cX10_feed 37 = .ok (.iload 5, 2) := by decide +kernel
theorem dX10_feed_39 : decode cX10_feed 39 = .ok (.invokevirtual 84, 3) := by decide +kernel
theorem dX10_feed_42 : decode cX10_feed 42 = .ok (.aload_n 0, 1) := by decide +kernel
theorem dX10_feed_43 : decode cX10_feed 43 = .ok (.getfield 81, 3) := by decide +kernel
theorem dX10_feed_46 : decode cX10_feed 46 = .ok (.ireturn, 1) := by decide +kernel
theorem dX10_load_0 : decode cX10_load 0 = .ok (.iload_n 1, 1) := by decide +kernel
theorem dX10_load_1 : decode cX10_load 1 = .ok (.ifCond .lt 11, 3) := by decide +kernel
theorem dX10_load_4 : decode cX10_load 4 = .ok (.iload_n 1, 1) := by decide +kernel
theorem dX10_load_5 : decode cX10_load 5 = .ok (.aload_n 0, 1) := by decide +kernel
theorem dX10_load_6 : decode cX10_load 6 = .ok (.getfield 81, 3) := by decide +kernel
theorem dX10_load_9 : decode cX10_load 9 = .ok (.if_icmp .le 9, 3) := by decide +kernel
theorem dX10_load_12 : decode cX10_load 12 = .ok (.aload_n 0, 1) := by decide +kernel
theorem dX10_load_13 : decode cX10_load 13 = .ok (.iconst 2, 1) := by decide +kernel
theorem dX10_load_14 : decode cX10_load 14 = .ok (.invokevirtual 88, 3) := by decide +kernel
theorem dX10_load_17 : decode cX10_load 17 = .ok (.ireturn, 1) := by decide +kernel
theorem dX10_load_18 : decode cX10_load 18 = .ok (.aload_n 0, 1) := by decide +kernel
theorem dX10_load_19 : decode cX10_load 19 = .ok (.getfield 23, 3) := by decide +kernel
theorem dX10_load_22 : decode cX10_load 22 = .ok (.aload_n 0, 1) := by decide +kernel
theorem dX10_load_23 : decode cX10_load 23 = .ok (.getfield 9, 3) := by decide +kernel
theorem dX10_load_26 : decode cX10_load 26 = .ok (.iload_n 1, 1) := by decide +kernel
theorem dX10_load_27 : decode cX10_load 27 = .ok (.invokevirtual 92, 3) := by decide +kernel
theorem dX10_load_30 : decode cX10_load 30 = .ok (.aload_n 0, 1) := by decide +kernel
theorem dX10_load_31 : decode cX10_load 31 = .ok (.iconst 0, 1) := by decide +kernel
theorem dX10_load_32 : decode cX10_load 32 = .ok (.putfield 81, 3) := by decide +kernel
theorem dX10_load_35 : decode cX10_load 35 = .ok (.aload_n 0, 1) := by decide +kernel
theorem dX10_load_36 : decode cX10_load 36 = .ok (.aload_n 0, 1) := by decide +kernel
theorem dX10_load_37 : decode cX10_load 37 = .ok (.getfield 23, 3) := by decide +kernel
theorem dX10_load_40 : decode cX10_load 40 = .ok (.getfield 96, 3) := by decide +kernel
theorem dX10_load_43 : decode cX10_load 43 = .ok (.putfield 75, 3) := by decide +kernel
theorem dX10_load_46 : decode cX10_load 46 = .ok (.aload_n 0, 1) := by decide +kernel
theorem dX10_load_47 : decode cX10_load 47 = .ok (.aload_n 0, 1) := by decide +kernel
theorem dX10_load_48 : decode cX10_load 48 = .ok (.getfield 23, 3) := by decide +kernel
theorem dX10_load_51 : decode cX10_load 51 = .ok (.getfield 99, 3) := by decide +kernel
theorem dX10_load_54 : decode cX10_load 54 = .ok (.putfield 78, 3) := by decide +kernel
theorem dX10_load_57 : decode cX10_load 57 = .ok (.aload_n 0, 1) := by decide +kernel
theorem dX10_load_58 : decode cX10_load 58 = .ok (.getfield 75, 3) := by decide +kernel
theorem dX10_load_61 : decode cX10_load 61 = .ok (.ifCond .eq 10, 3) := by decide +kernel
theorem dX10_load_64 : decode cX10_load 64 = .ok (.aload_n 0, 1) := by decide +kernel
theorem dX10_load_65 : decode cX10_load 65 = .ok (.bipush 10, 2) := by decide +kernel
theorem dX10_load_67 : decode cX10_load 67 = .ok (.invokevirtual 88, 3) := by decide +kernel
theorem dX10_load_70 : decode cX10_load 70 = .ok (.ireturn, 1) := by decide +kernel
theorem dX10_load_71 : decode cX10_load 71 = .ok (.aload_n 0, 1) := by decide +kernel
theorem dX10_load_72 : decode cX10_load 72 = .ok (.getfield 16, 3) := by decide +kernel
theorem dX10_load_75 : decode cX10_load 75 = .ok (.aload_n 0, 1) := by decide +kernel
theorem dX10_load_76 : decode cX10_load 76 = .ok (.getfield 23, 3) := by decide +kernel
theorem dX10_load_79 : decode cX10_load 79 = .ok (.getfield 100, 3) := by decide +kernel
theorem dX10_load_82 : decode cX10_load 82 = .ok (.invokevirtual 103, 3) := by decide +kernel
theorem dX10_load_85 : decode cX10_load 85 = .ok (.aload_n 0, 1) := by decide +kernel
theorem dX10_load_86 : decode cX10_load 86 = .ok (.getfield 30, 3) := by decide +kernel
theorem dX10_load_89 : decode cX10_load 89 = .ok (.invokevirtual 107, 3) := by decide +kernel
theorem dX10_load_92 : decode cX10_load 92 = .ok (.aload_n 0, 1) := by decide +kernel
theorem dX10_load_93 : decode cX10_load 93 = .ok (.getfield 37, 3) := by decide +kernel
theorem dX10_load_96 : decode cX10_load 96 = .ok (.invokevirtual 110, 3) := by decide +kernel
theorem dX10_load_99 : decode cX10_load 99 = .ok (.aload_n 0, 1) := by decide +kernel
theorem dX10_load_100 : decode cX10_load 100 = .ok (.getfield 44, 3) := by decide +kernel
theorem dX10_load_103 : decode cX10_load 103 = .ok (.invokevirtual 111, 3) := by decide +kernel
theorem dX10_load_106 : decode cX10_load 106 = .ok (.aload_n 0, 1) := by decide +kernel
theorem dX10_load_107 : decode cX10_load 107 = .ok (.getfield 51, 3) := by decide +kernel
theorem dX10_load_110 : decode cX10_load 110 = .ok (.invokevirtual 112, 3) := by decide +kernel
theorem dX10_load_113 : decode cX10_load 113 = .ok (.aload_n 0, 1) := by decide +kernel
theorem dX10_load_114 : decode cX10_load 114 = .ok (.getfield 58, 3) := by decide +kernel
theorem dX10_load_117 : decode cX10_load 117 = .ok (.invokevirtual 113, 3) := by decide +kernel
theorem dX10_load_120 : decode cX10_load 120 = .ok (.aload_n 0, 1) := by decide +kernel
theorem dX10_load_121 : decode cX10_load 121 = .ok (.iconst 0, 1) := by decide +kernel
theorem dX10_load_122 : decode cX10_load 122 = .ok (.putfield 114, 3) := by decide +kernel
theorem dX10_load_125 : decode cX10_load 125 = .ok (.aload_n 0, 1) := by decide +kernel
theorem dX10_load_126 : decode cX10_load 126 = .ok (.aload_n 0, 1) := by decide +kernel
theorem dX10_load_127 : decode cX10_load 127 = .ok (.getfield 16, 3) := by decide +kernel
theorem dX10_load_130 : decode cX10_load 130 = .ok (.getfield 117, 3) := by decide +kernel
theorem dX10_load_133 : decode cX10_load 133 = .ok (.invokevirtual 120, 3) := by decide +kernel
theorem dX10_load_136 : decode cX10_load 136 = .ok (.ireturn, 1) := by decide +kernel
theorem dX10_fault_0 : decode cX10_fault 0 = .ok (.iload_n 1, 1) := by decide +kernel
theorem dX10_fault_1 : decode cX10_fault 1 = .ok (.ifCond .ne 8, 3) := by decide +kernel
theorem dX10_fault_4 : decode cX10_fault 4 = .ok (.aload_n 0, 1) := by decide +kernel
theorem dX10_fault_5 : decode cX10_fault 5 = .ok (.getfield 75, 3) := by decide +kernel
theorem dX10_fault_8 : decode cX10_fault 8 = .ok (.ireturn, 1) := by decide +kernel
theorem dX10_fault_9 : decode cX10_fault 9 = .ok (.iload_n 1, 1) := by decide +kernel
theorem dX10_fault_10 : decode cX10_fault 10 = .ok (.iconst 1, 1) := by decide +kernel
theorem dX10_fault_11 : decode cX10_fault 11 = .ok (.if_icmp .ne 10, 3) := by decide +kernel
theorem dX10_fault_14 : decode cX10_fault 14 = .ok (.aload_n 0, 1) := by decide +kernel
theorem dX10_fault_15 : decode cX10_fault 15 = .ok (.getfield 78, 3) := by decide +kernel
theorem dX10_fault_18 : decode cX10_fault 18 = .ok (.goto 4, 3) := by decide +kernel
theorem dX10_fault_21 : decode cX10_fault 21 = .ok (.iconst (-1), 1) := by decide +kernel
theorem dX10_fault_22 : decode cX10_fault 22 = .ok (.ireturn, 1) := by decide +kernel
theorem dX10_climber_0 : decode cX10_climber 0 = .ok (.aload_n 0, 1) := by decide +kernel
theorem dX10_climber_1 : decode cX10_climber 1 = .ok (.getfield 16, 3) := by decide +kernel
theorem dX10_climber_4 : decode cX10_climber 4 = .ok (.getfield 117, 3) := by decide +kernel
theorem dX10_climber_7 : decode cX10_climber 7 = .ok (.ifCond .ne 9, 3) := by decide +kernel
theorem dX10_climber_10 : decode cX10_climber 10 = .ok (.aload_n 0, 1) := by decide +kernel
theorem dX10_climber_11 : decode cX10_climber 11 = .ok (.iconst 1, 1) := by decide +kernel
theorem dX10_climber_12 : decode cX10_climber 12 = .ok (.invokevirtual 88, 3) := by decide +kernel
theorem dX10_climber_15 : decode cX10_climber 15 = .ok (.ireturn, 1) := by decide +kernel
theorem dX10_climber_16 : decode cX10_climber 16 = .ok (.aload_n 0, 1) := by decide +kernel
theorem dX10_climber_17 : decode cX10_climber 17 = .ok (.getfield 37, 3) := by decide +kernel
theorem dX10_climber_20 : decode cX10_climber 20 = .ok (.getfield 123, 3) := by decide +kernel
theorem dX10_climber_23 : decode cX10_climber 23 = .ok (.bipush 16, 2) := by decide +kernel
theorem dX10_climber_25 : decode cX10_climber 25 = .ok (.if_icmp .lt 9, 3) := by decide +kernel
theorem dX10_climber_28 : decode cX10_climber 28 = .ok (.aload_n 0, 1) := by decide +kernel
theorem dX10_climber_29 : decode cX10_climber 29 = .ok (.iconst 3, 1) := by decide +kernel
theorem dX10_climber_30 : decode cX10_climber 30 = .ok (.invokevirtual 88, 3) := by decide +kernel
theorem dX10_climber_33 : decode cX10_climber 33 = .ok (.ireturn, 1) := by decide +kernel
theorem dX10_climber_34 : decode cX10_climber 34 = .ok (.aload_n 0, 1) := by decide +kernel
theorem dX10_climber_35 : decode cX10_climber 35 = .ok (.getfield 44, 3) := by decide +kernel
theorem dX10_climber_38 : decode cX10_climber 38 = .ok (.getfield 126, 3) := by decide +kernel
theorem dX10_climber_41 : decode cX10_climber 41 = .ok (.ifCond .gt 13, 3) := by decide +kernel
theorem dX10_climber_44 : decode cX10_climber 44 = .ok (.aload_n 0, 1) := by decide +kernel
theorem dX10_climber_45 : decode cX10_climber 45 = .ok (.getfield 37, 3) := by decide +kernel
theorem dX10_climber_48 : decode cX10_climber 48 = .ok (.getfield 129, 3) := by decide +kernel
theorem dX10_climber_51 : decode cX10_climber 51 = .ok (.ifCond .le 10, 3) := by decide +kernel
theorem dX10_climber_54 : decode cX10_climber 54 = .ok (.aload_n 0, 1) := by decide +kernel
theorem dX10_climber_55 : decode cX10_climber 55 = .ok (.bipush 10, 2) := by decide +kernel
theorem dX10_climber_57 : decode cX10_climber 57 = .ok (.invokevirtual 88, 3) := by decide +kernel
theorem dX10_climber_60 : decode cX10_climber 60 = .ok (.ireturn, 1) := by decide +kernel
theorem dX10_climber_61 : decode cX10_climber 61 = .ok (.aload_n 0, 1) := by decide +kernel
theorem dX10_climber_62 : decode cX10_climber 62 = .ok (.aload_n 0, 1) := by decide +kernel
theorem dX10_climber_63 : decode cX10_climber 63 = .ok (.getfield 37, 3) := by decide +kernel
theorem dX10_climber_66 : decode cX10_climber 66 = .ok (.invokevirtual 132, 3) := by decide +kernel
theorem dX10_climber_69 : decode cX10_climber 69 = .ok (.invokevirtual 120, 3) := by decide +kernel
theorem dX10_climber_72 : decode cX10_climber 72 = .ok (.ireturn, 1) := by decide +kernel
theorem dX10_route_0 : decode cX10_route 0 = .ok (.aload_n 0, 1) := by decide +kernel
theorem dX10_route_1 : decode cX10_route 1 = .ok (.getfield 16, 3) := by decide +kernel
theorem dX10_route_4 : decode cX10_route 4 = .ok (.iload_n 1, 1) := by decide +kernel
theorem dX10_route_5 : decode cX10_route 5 = .ok (.iload_n 2, 1) := by decide +kernel
theorem dX10_route_6 : decode cX10_route 6 = .ok (.invokevirtual 136, 3) := by decide +kernel
theorem dX10_route_9 : decode cX10_route 9 = .ok (.ifCond .ne 9, 3) := by decide +kernel
theorem dX10_route_12 : decode cX10_route 12 = .ok (.aload_n 0, 1) := by decide +kernel
theorem dX10_route_13 : decode cX10_route 13 = .ok (.iconst 1, 1) := by decide +kernel
theorem dX10_route_14 : decode cX10_route 14 = .ok (.invokevirtual 140, 3) := by decide +kernel
theorem dX10_route_17 : decode cX10_route 17 = .ok (.ireturn, 1) := by decide +kernel
theorem dX10_route_18 : decode cX10_route 18 = .ok (.iload_n 3, 1) := by decide +kernel
theorem dX10_route_19 : decode cX10_route 19 = .ok (.iconst 2, 1) := by decide +kernel
theorem dX10_route_20 : decode cX10_route 20 = .ok (.if_icmp .lt 22, 3) := by decide +kernel
theorem dX10_route_23 : decode cX10_route 23 = .ok (.iload_n 3, 1) := by decide +kernel
theorem dX10_route_24 : decode cX10_route 24 = .ok (.bipush 60, 2) := by decide +kernel
theorem dX10_route_26 : decode cX10_route 26 = .ok (.if_icmp .gt 16, 3) := by decide +kernel
theorem dX10_route_29 : decode cX10_route 29 = .ok (.iload_n 3, 1) := by decide +kernel
theorem dX10_route_30 : decode cX10_route 30 = .ok (.iload 4, 2) := by decide +kernel
theorem dX10_route_32 : decode cX10_route 32 = .ok (.iload 5, 2) := by decide +kernel
theorem dX10_route_34 : decode cX10_route 34 = .ok (.iload 6, 2) := by decide +kernel
theorem dX10_route_36 : decode cX10_route 36 = .ok (.invokestatic 144, 3) := by decide +kernel
theorem dX10_route_39 : decode cX10_route 39 = .ok (.ifCond .ne 9, 3) := by decide +kernel
theorem dX10_route_42 : decode cX10_route 42 = .ok (.aload_n 0, 1) := by decide +kernel
theorem dX10_route_43 : decode cX10_route 43 = .ok (.iconst 2, 1) := by decide +kernel
theorem dX10_route_44 : decode cX10_route 44 = .ok (.invokevirtual 140, 3) := by decide +kernel
theorem dX10_route_47 : decode cX10_route 47 = .ok (.ireturn, 1) := by decide +kernel
theorem dX10_route_48 : decode cX10_route 48 = .ok (.aload_n 0, 1) := by decide +kernel
theorem dX10_route_49 : decode cX10_route 49 = .ok (.getfield 30, 3) := by decide +kernel
theorem dX10_route_52 : decode cX10_route 52 = .ok (.iload_n 1, 1) := by decide +kernel
theorem dX10_route_53 : decode cX10_route 53 = .ok (.iload_n 2, 1) := by decide +kernel
theorem dX10_route_54 : decode cX10_route 54 = .ok (.invokevirtual 148, 3) := by decide +kernel
theorem dX10_route_57 : decode cX10_route 57 = .ok (.ifCond .le 10, 3) := by decide +kernel
theorem dX10_route_60 : decode cX10_route 60 = .ok (.aload_n 0, 1) := by decide +kernel
theorem dX10_route_61 : decode cX10_route 61 = .ok (.bipush 10, 2) := by decide +kernel
theorem dX10_route_63 : decode cX10_route 63 = .ok (.invokevirtual 140, 3) := by decide +kernel
theorem dX10_route_66 : decode cX10_route 66 = .ok (.ireturn, 1) := by decide +kernel
theorem dX10_route_67 : decode cX10_route 67 = .ok (.aload_n 0, 1) := by decide +kernel
theorem dX10_route_68 : decode cX10_route 68 = .ok (.getfield 30, 3) := by decide +kernel
theorem dX10_route_71 : decode cX10_route 71 = .ok (.iload_n 1, 1) := by decide +kernel
theorem dX10_route_72 : decode cX10_route 72 = .ok (.iload_n 2, 1) := by decide +kernel
theorem dX10_route_73 : decode cX10_route 73 = .ok (.iload_n 3, 1) := by decide +kernel
theorem dX10_route_74 : decode cX10_route 74 = .ok (.invokevirtual 152, 3) := by decide +kernel
theorem dX10_route_77 : decode cX10_route 77 = .ok (.aload_n 0, 1) := by decide +kernel
theorem dX10_route_78 : decode cX10_route 78 = .ok (.getfield 30, 3) := by decide +kernel
theorem dX10_route_81 : decode cX10_route 81 = .ok (.iload_n 1, 1) := by decide +kernel
theorem dX10_route_82 : decode cX10_route 82 = .ok (.iload_n 2, 1) := by decide +kernel
theorem dX10_route_83 : decode cX10_route 83 = .ok (.iconst 0, 1) := by decide +kernel
theorem dX10_route_84 : decode cX10_route 84 = .ok (.iload 4, 2) := by decide +kernel
theorem dX10_route_86 : decode cX10_route 86 = .ok (.invokevirtual 156, 3) := by decide +kernel
theorem dX10_route_89 : decode cX10_route 89 = .ok (.aload_n 0, 1) := by decide +kernel
theorem dX10_route_90 : decode cX10_route 90 = .ok (.getfield 30, 3) := by decide +kernel
theorem dX10_route_93 : decode cX10_route 93 = .ok (.iload_n 1, 1) := by decide +kernel
theorem dX10_route_94 : decode cX10_route 94 = .ok (.iload_n 2, 1) := by decide +kernel
theorem dX10_route_95 : decode cX10_route 95 = .ok (.iconst 1, 1) := by decide +kernel
theorem dX10_route_96 : decode cX10_route 96 = .ok (.iload 5, 2) := by decide +kernel
theorem dX10_route_98 : decode cX10_route 98 = .ok (.invokevirtual 156, 3) := by decide +kernel
theorem dX10_route_101 : decode cX10_route 101 = .ok (.aload_n 0, 1) := by decide +kernel
theorem dX10_route_102 : decode cX10_route 102 = .ok (.getfield 30, 3) := by decide +kernel
theorem dX10_route_105 : decode cX10_route 105 = .ok (.iload_n 1, 1) := by decide +kernel
theorem dX10_route_106 : decode cX10_route 106 = .ok (.iload_n 2, 1) := by decide +kernel
theorem dX10_route_107 : decode cX10_route 107 = .ok (.iconst 2, 1) := by decide +kernel
theorem dX10_route_108 : decode cX10_route 108 = .ok (.iload 6, 2) := by decide +kernel
theorem dX10_route_110 : decode cX10_route 110 = .ok (.invokevirtual 156, 3) := by decide +kernel
theorem dX10_route_113 : decode cX10_route 113 = .ok (.aload_n 0, 1) := by decide +kernel
theorem dX10_route_114 : decode cX10_route 114 = .ok (.invokevirtual 160, 3) := by decide +kernel
theorem dX10_route_117 : decode cX10_route 117 = .ok (.ireturn, 1) := by decide +kernel
theorem dX10_told_0 : decode cX10_told 0 = .ok (.iload_n 2, 1) := by decide +kernel
theorem dX10_told_1 : decode cX10_told 1 = .ok (.iconst (-1), 1) := by decide +kernel
theorem dX10_told_2 : decode cX10_told 2 = .ok (.if_icmp .ne 7, 3) := by decide +kernel
theorem dX10_told_5 : decode cX10_told 5 = .ok (.iconst 1, 1) := by decide +kernel
theorem dX10_told_6 : decode cX10_told 6 = .ok (.goto 4, 3) := by decide +kernel
theorem dX10_told_9 : decode cX10_told 9 = .ok (.iconst 0, 1) := by decide +kernel
theorem dX10_told_10 : decode cX10_told 10 = .ok (.istore 4, 2) := by decide +kernel
theorem dX10_told_12 : decode cX10_told 12 = .ok (.iload 4, 2) := by decide +kernel
theorem dX10_told_14 : decode cX10_told 14 = .ok (.ifCond .eq 17, 3) := by decide +kernel
theorem dX10_told_17 : decode cX10_told 17 = .ok (.aload_n 0, 1) := by decide +kernel
theorem dX10_told_18 : decode cX10_told 18 = .ok (.getfield 16, 3) := by decide +kernel
theorem dX10_told_21 : decode cX10_told 21 = .ok (.iload_n 1, 1) := by decide +kernel
theorem dX10_told_22 : decode cX10_told 22 = .ok (.invokevirtual 164, 3) := by decide +kernel
theorem dX10_told_25 : decode cX10_told 25 = .ok (.ifCond .ne 24, 3) := by decide +kernel
theorem dX10_told_28 : decode cX10_told 28 = .ok (.goto 15, 3) := by decide +kernel
theorem dX10_told_31 : decode cX10_told 31 = .ok (.aload_n 0, 1) := by decide +kernel
theorem dX10_told_32 : decode cX10_told 32 = .ok (.getfield 16, 3) := by decide +kernel
theorem dX10_told_35 : decode cX10_told 35 = .ok (.iload_n 1, 1) := by decide +kernel
theorem dX10_told_36 : decode cX10_told 36 = .ok (.iload_n 2, 1) := by decide +kernel
theorem dX10_told_37 : decode cX10_told 37 = .ok (.invokevirtual 136, 3) := by decide +kernel
theorem dX10_told_40 : decode cX10_told 40 = .ok (.ifCond .ne 9, 3) := by decide +kernel
theorem dX10_told_43 : decode cX10_told 43 = .ok (.aload_n 0, 1) := by decide +kernel
theorem dX10_told_44 : decode cX10_told 44 = .ok (.iconst 1, 1) := by decide +kernel
theorem dX10_told_45 : decode cX10_told 45 = .ok (.invokevirtual 88, 3) := by decide +kernel
theorem dX10_told_48 : decode cX10_told 48 = .ok (.ireturn, 1) := by decide +kernel
theorem dX10_told_49 : decode cX10_told 49 = .ok (.iload_n 3, 1) := by decide +kernel
theorem dX10_told_50 : decode cX10_told 50 = .ok (.ifCond .lt 8, 3) := by decide +kernel
theorem dX10_told_53 : decode cX10_told 53 = .ok (.iload_n 3, 1) := by decide +kernel
theorem dX10_told_54 : decode cX10_told 54 = .ok (.iconst 4, 1) := by decide +kernel
theorem dX10_told_55 : decode cX10_told 55 = .ok (.if_icmp .le 9, 3) := by decide +kernel
theorem dX10_told_58 : decode cX10_told 58 = .ok (.aload_n 0, 1) := by decide +kernel
theorem dX10_told_59 : decode cX10_told 59 = .ok (.iconst 2, 1) := by decide +kernel
theorem dX10_told_60 : decode cX10_told 60 = .ok (.invokevirtual 88, 3) := by decide +kernel
theorem dX10_told_63 : decode cX10_told 63 = .ok (.ireturn, 1) := by decide +kernel
theorem dX10_told_64 : decode cX10_told 64 = .ok (.iload 4, 2) := by decide +kernel
theorem dX10_told_66 : decode cX10_told 66 = .ok (.ifCond .eq 33, 3) := by decide +kernel
theorem dX10_told_69 : decode cX10_told 69 = .ok (.aload_n 0, 1) := by decide +kernel
theorem dX10_told_70 : decode cX10_told 70 = .ok (.iload_n 3, 1) := by decide +kernel
theorem dX10_told_71 : decode cX10_told 71 = .ok (.iconst 4, 1) := by decide +kernel
theorem dX10_told_72 : decode cX10_told 72 = .ok (.if_icmp .ne 14, 3) := by decide +kernel
theorem dX10_told_75 : decode cX10_told 75 = .ok (.aload_n 0, 1) := by decide +kernel
theorem dX10_told_76 : decode cX10_told 76 = .ok (.getfield 37, 3) := by decide +kernel
theorem dX10_told_79 : decode cX10_told 79 = .ok (.iload_n 1, 1) := by decide +kernel
theorem dX10_told_80 : decode cX10_told 80 = .ok (.invokevirtual 167, 3) := by decide +kernel
theorem dX10_told_83 : decode cX10_told 83 = .ok (.goto 12, 3) := by decide +kernel
theorem dX10_told_86 : decode cX10_told 86 = .ok (.aload_n 0, 1) := by decide +kernel
theorem dX10_told_87 : decode cX10_told 87 = .ok (.getfield 16, 3) := by decide +kernel
theorem dX10_told_90 : decode cX10_told 90 = .ok (.iload_n 1, 1) := by decide +kernel
theorem dX10_told_91 : decode cX10_told 91 = .ok (.iload_n 3, 1) := by decide +kernel
theorem dX10_told_92 : decode cX10_told 92 = .ok (.invokevirtual 170, 3) := by decide +kernel
theorem dX10_told_95 : decode cX10_told 95 = .ok (.invokevirtual 120, 3) := by decide +kernel
theorem dX10_told_98 : decode cX10_told 98 = .ok (.ireturn, 1) := by decide +kernel
theorem dX10_told_99 : decode cX10_told 99 = .ok (.iload_n 3, 1) := by decide +kernel
theorem dX10_told_100 : decode cX10_told 100 = .ok (.ifCond .ne 17, 3) := by decide +kernel
theorem dX10_told_103 : decode cX10_told 103 = .ok (.aload_n 0, 1) := by decide +kernel
theorem dX10_told_104 : decode cX10_told 104 = .ok (.aload_n 0, 1) := by decide +kernel
theorem dX10_told_105 : decode cX10_told 105 = .ok (.getfield 30, 3) := by decide +kernel
theorem dX10_told_108 : decode cX10_told 108 = .ok (.iload_n 1, 1) := by decide +kernel
theorem dX10_told_109 : decode cX10_told 109 = .ok (.iload_n 2, 1) := by decide +kernel
theorem dX10_told_110 : decode cX10_told 110 = .ok (.invokevirtual 173, 3) := by decide +kernel
theorem dX10_told_113 : decode cX10_told 113 = .ok (.invokevirtual 120, 3) := by decide +kernel
theorem dX10_told_116 : decode cX10_told 116 = .ok (.ireturn, 1) := by decide +kernel
theorem dX10_told_117 : decode cX10_told 117 = .ok (.aload_n 0, 1) := by decide +kernel
theorem dX10_told_118 : decode cX10_told 118 = .ok (.iload_n 3, 1) := by decide +kernel
theorem dX10_told_119 : decode cX10_told 119 = .ok (.iconst 4, 1) := by decide +kernel
theorem dX10_told_120 : decode cX10_told 120 = .ok (.if_icmp .ne 15, 3) := by decide +kernel
theorem dX10_told_123 : decode cX10_told 123 = .ok (.aload_n 0, 1) := by decide +kernel
theorem dX10_told_124 : decode cX10_told 124 = .ok (.getfield 30, 3) := by decide +kernel
theorem dX10_told_127 : decode cX10_told 127 = .ok (.iload_n 1, 1) := by decide +kernel
theorem dX10_told_128 : decode cX10_told 128 = .ok (.iload_n 2, 1) := by decide +kernel
theorem dX10_told_129 : decode cX10_told 129 = .ok (.invokevirtual 148, 3) := by decide +kernel
theorem dX10_told_132 : decode cX10_told 132 = .ok (.goto 15, 3) := by decide +kernel
theorem dX10_told_135 : decode cX10_told 135 = .ok (.aload_n 0, 1) := by decide +kernel
theorem dX10_told_136 : decode cX10_told 136 = .ok (.getfield 30, 3) := by decide +kernel
theorem dX10_told_139 : decode cX10_told 139 = .ok (.iload_n 1, 1) := by decide +kernel
theorem dX10_told_140 : decode cX10_told 140 = .ok (.iload_n 2, 1) := by decide +kernel
theorem dX10_told_141 : decode cX10_told 141 = .ok (.iload_n 3, 1) := by decide +kernel
theorem dX10_told_142 : decode cX10_told 142 = .ok (.iconst 1, 1) := by decide +kernel
theorem dX10_told_143 : decode cX10_told 143 = .ok (.isub, 1) := by decide +kernel
theorem dX10_told_144 : decode cX10_told 144 = .ok (.invokevirtual 176, 3) := by decide +kernel
theorem dX10_told_147 : decode cX10_told 147 = .ok (.invokevirtual 120, 3) := by decide +kernel
theorem dX10_told_150 : decode cX10_told 150 = .ok (.ireturn, 1) := by decide +kernel
theorem dX10_begin_0 : decode cX10_begin 0 = .ok (.iconst 1, 1) := by decide +kernel
theorem dX10_begin_1 : decode cX10_begin 1 = .ok (.istore 4, 2) := by decide +kernel
theorem dX10_begin_3 : decode cX10_begin 3 = .ok (.aload_n 0, 1) := by decide +kernel
theorem dX10_begin_4 : decode cX10_begin 4 = .ok (.getfield 37, 3) := by decide +kernel
theorem dX10_begin_7 : decode cX10_begin 7 = .ok (.iload_n 1, 1) := by decide +kernel
theorem dX10_begin_8 : decode cX10_begin 8 = .ok (.invokevirtual 180, 3) := by decide +kernel
theorem dX10_begin_11 : decode cX10_begin 11 = .ok (.ifCond .eq 28, 3) := by decide +kernel
theorem dX10_begin_14 : decode cX10_begin 14 = .ok (.aload_n 0, 1) := by decide +kernel
theorem dX10_begin_15 : decode cX10_begin 15 = .ok (.getfield 16, 3) := by decide +kernel
theorem dX10_begin_18 : decode cX10_begin 18 = .ok (.aload_n 0, 1) := by decide +kernel
theorem dX10_begin_19 : decode cX10_begin 19 = .ok (.getfield 37, 3) := by decide +kernel
theorem dX10_begin_22 : decode cX10_begin 22 = .ok (.getfield 129, 3) := by decide +kernel
theorem dX10_begin_25 : decode cX10_begin 25 = .ok (.iload_n 2, 1) := by decide +kernel
theorem dX10_begin_26 : decode cX10_begin 26 = .ok (.invokevirtual 136, 3) := by decide +kernel
theorem dX10_begin_29 : decode cX10_begin 29 = .ok (.ifCond .eq 10, 3) := by decide +kernel
theorem dX10_begin_32 : decode cX10_begin 32 = .ok (.aload_n 0, 1) := by decide +kernel
theorem dX10_begin_33 : decode cX10_begin 33 = .ok (.iload_n 3, 1) := by decide +kernel
theorem dX10_begin_34 : decode cX10_begin 34 = .ok (.invokevirtual 183, 3) := by decide +kernel
theorem dX10_begin_37 : decode cX10_begin 37 = .ok (.istore 4, 2) := by decide +kernel
theorem dX10_begin_39 : decode cX10_begin 39 = .ok (.iload 4, 2) := by decide +kernel
theorem dX10_begin_41 : decode cX10_begin 41 = .ok (.ifCond .ne 11, 3) := by decide +kernel
theorem dX10_begin_44 : decode cX10_begin 44 = .ok (.aload_n 0, 1) := by decide +kernel
theorem dX10_begin_45 : decode cX10_begin 45 = .ok (.iload_n 1, 1) := by decide +kernel
theorem dX10_begin_46 : decode cX10_begin 46 = .ok (.iload_n 2, 1) := by decide +kernel
theorem dX10_begin_47 : decode cX10_begin 47 = .ok (.invokevirtual 186, 3) := by decide +kernel
theorem dX10_begin_50 : decode cX10_begin 50 = .ok (.istore 4, 2) := by decide +kernel
theorem dX10_begin_52 : decode cX10_begin 52 = .ok (.iload 4, 2) := by decide +kernel
theorem dX10_begin_54 : decode cX10_begin 54 = .ok (.ifCond .eq 10, 3) := by decide +kernel
theorem dX10_begin_57 : decode cX10_begin 57 = .ok (.aload_n 0, 1) := by decide +kernel
theorem dX10_begin_58 : decode cX10_begin 58 = .ok (.iload 4, 2) := by decide +kernel
theorem dX10_begin_60 : decode cX10_begin 60 = .ok (.invokevirtual 88, 3) := by decide +kernel
theorem dX10_begin_63 : decode cX10_begin 63 = .ok (.ireturn, 1) := by decide +kernel
theorem dX10_begin_64 : decode cX10_begin 64 = .ok (.aload_n 0, 1) := by decide +kernel
theorem dX10_begin_65 : decode cX10_begin 65 = .ok (.getfield 30, 3) := by decide +kernel
theorem dX10_begin_68 : decode cX10_begin 68 = .ok (.aload_n 0, 1) := by decide +kernel
theorem dX10_begin_69 : decode cX10_begin 69 = .ok (.getfield 37, 3) := by decide +kernel
theorem dX10_begin_72 : decode cX10_begin 72 = .ok (.getfield 129, 3) := by decide +kernel
theorem dX10_begin_75 : decode cX10_begin 75 = .ok (.iload_n 2, 1) := by decide +kernel
theorem dX10_begin_76 : decode cX10_begin 76 = .ok (.invokevirtual 189, 3) := by decide +kernel
theorem dX10_begin_79 : decode cX10_begin 79 = .ok (.aload_n 0, 1) := by decide +kernel
theorem dX10_begin_80 : decode cX10_begin 80 = .ok (.aload_n 0, 1) := by decide +kernel
theorem dX10_begin_81 : decode cX10_begin 81 = .ok (.getfield 44, 3) := by decide +kernel
theorem dX10_begin_84 : decode cX10_begin 84 = .ok (.iload_n 1, 1) := by decide +kernel
theorem dX10_begin_85 : decode cX10_begin 85 = .ok (.aload_n 0, 1) := by decide +kernel
theorem dX10_begin_86 : decode cX10_begin 86 = .ok (.getfield 37, 3) := by decide +kernel
theorem dX10_begin_89 : decode cX10_begin 89 = .ok (.getfield 129, 3) := by decide +kernel
theorem dX10_begin_92 : decode cX10_begin 92 = .ok (.iload_n 2, 1) := by decide +kernel
theorem dX10_begin_93 : decode cX10_begin 93 = .ok (.aload_n 0, 1) := by decide +kernel
theorem dX10_begin_94 : decode cX10_begin 94 = .ok (.getfield 114, 3) := by decide +kernel
theorem dX10_begin_97 : decode cX10_begin 97 = .ok (.invokevirtual 193, 3) := by decide +kernel
theorem dX10_begin_100 : decode cX10_begin 100 = .ok (.invokevirtual 120, 3) := by decide +kernel
theorem dX10_begin_103 : decode cX10_begin 103 = .ok (.ireturn, 1) := by decide +kernel
theorem dX10_reach_0 : decode cX10_reach 0 = .ok (.iconst 1, 1) := by decide +kernel
theorem dX10_reach_1 : decode cX10_reach 1 = .ok (.istore 4, 2) := by decide +kernel
theorem dX10_reach_3 : decode cX10_reach 3 = .ok (.aload_n 0, 1) := by decide +kernel
theorem dX10_reach_4 : decode cX10_reach 4 = .ok (.getfield 37, 3) := by decide +kernel
theorem dX10_reach_7 : decode cX10_reach 7 = .ok (.iload_n 1, 1) := by decide +kernel
theorem dX10_reach_8 : decode cX10_reach 8 = .ok (.invokevirtual 180, 3) := by decide +kernel
theorem dX10_reach_11 : decode cX10_reach 11 = .ok (.ifCond .eq 25, 3) := by decide +kernel
theorem dX10_reach_14 : decode cX10_reach 14 = .ok (.iload_n 2, 1) := by decide +kernel
theorem dX10_reach_15 : decode cX10_reach 15 = .ok (.iconst 1, 1) := by decide +kernel
theorem dX10_reach_16 : decode cX10_reach 16 = .ok (.if_icmp .lt 9, 3) := by decide +kernel
theorem dX10_reach_19 : decode cX10_reach 19 = .ok (.iload_n 2, 1) := by decide +kernel
theorem dX10_reach_20 : decode cX10_reach 20 = .ok (.bipush 60, 2) := by decide +kernel
theorem dX10_reach_22 : decode cX10_reach 22 = .ok (.if_icmp .le 7, 3) := by decide +kernel
theorem dX10_reach_25 : decode cX10_reach 25 = .ok (.iconst 2, 1) := by decide +kernel
theorem dX10_reach_26 : decode cX10_reach 26 = .ok (.goto 8, 3) := by decide +kernel
theorem dX10_reach_29 : decode cX10_reach 29 = .ok (.aload_n 0, 1) := by decide +kernel
theorem dX10_reach_30 : decode cX10_reach 30 = .ok (.iload_n 3, 1) := by decide +kernel
theorem dX10_reach_31 : decode cX10_reach 31 = .ok (.invokevirtual 183, 3) := by decide +kernel
theorem dX10_reach_34 : decode cX10_reach 34 = .ok (.istore 4, 2) := by decide +kernel
theorem dX10_reach_36 : decode cX10_reach 36 = .ok (.iload 4, 2) := by decide +kernel
theorem dX10_reach_38 : decode cX10_reach 38 = .ok (.ifCond .eq 10, 3) := by decide +kernel
theorem dX10_reach_41 : decode cX10_reach 41 = .ok (.aload_n 0, 1) := by decide +kernel
theorem dX10_reach_42 : decode cX10_reach 42 = .ok (.iload 4, 2) := by decide +kernel
theorem dX10_reach_44 : decode cX10_reach 44 = .ok (.invokevirtual 88, 3) := by decide +kernel
theorem dX10_reach_47 : decode cX10_reach 47 = .ok (.ireturn, 1) := by decide +kernel
theorem dX10_reach_48 : decode cX10_reach 48 = .ok (.aload_n 0, 1) := by decide +kernel
theorem dX10_reach_49 : decode cX10_reach 49 = .ok (.getfield 44, 3) := by decide +kernel
theorem dX10_reach_52 : decode cX10_reach 52 = .ok (.iload_n 1, 1) := by decide +kernel
theorem dX10_reach_53 : decode cX10_reach 53 = .ok (.invokevirtual 197, 3) := by decide +kernel
theorem dX10_reach_56 : decode cX10_reach 56 = .ok (.istore 5, 2) := by decide +kernel
theorem dX10_reach_58 : decode cX10_reach 58 = .ok (.iload 5, 2) := by decide +kernel
theorem dX10_reach_60 : decode cX10_reach 60 = .ok (.iconst (-1), 1) := by decide +kernel
theorem dX10_reach_61 : decode cX10_reach 61 = .ok (.if_icmp .ne 9, 3) := by decide +kernel
theorem dX10_reach_64 : decode cX10_reach 64 = .ok (.aload_n 0, 1) := by decide +kernel
theorem dX10_reach_65 : decode cX10_reach 65 = .ok (.iconst 5, 1) := by decide +kernel
theorem dX10_reach_66 : decode cX10_reach 66 = .ok (.invokevirtual 88, 3) := by decide +kernel
theorem dX10_reach_69 : decode cX10_reach 69 = .ok (.ireturn, 1) := by decide +kernel
theorem dX10_reach_70 : decode cX10_reach 70 = .ok (.aload_n 0, 1) := by decide +kernel
theorem dX10_reach_71 : decode cX10_reach 71 = .ok (.getfield 30, 3) := by decide +kernel
theorem dX10_reach_74 : decode cX10_reach 74 = .ok (.aload_n 0, 1) := by decide +kernel
theorem dX10_reach_75 : decode cX10_reach 75 = .ok (.getfield 44, 3) := by decide +kernel
theorem dX10_reach_78 : decode cX10_reach 78 = .ok (.getfield 200, 3) := by decide +kernel
theorem dX10_reach_81 : decode cX10_reach 81 = .ok (.iload 5, 2) := by decide +kernel
theorem dX10_reach_83 : decode cX10_reach 83 = .ok (.iaload, 1) := by decide +kernel
theorem dX10_reach_84 : decode cX10_reach 84 = .ok (.aload_n 0, 1) := by decide +kernel
theorem dX10_reach_85 : decode cX10_reach 85 = .ok (.getfield 44, 3) := by decide +kernel
theorem dX10_reach_88 : decode cX10_reach 88 = .ok (.getfield 203, 3) := by decide +kernel
theorem dX10_reach_91 : decode cX10_reach 91 = .ok (.iload 5, 2) := by decide +kernel
theorem dX10_reach_93 : decode cX10_reach 93 = .ok (.iaload, 1) := by decide +kernel
theorem dX10_reach_94 : decode cX10_reach 94 = .ok (.invokevirtual 173, 3) := by decide +kernel
theorem dX10_reach_97 : decode cX10_reach 97 = .ok (.istore 6, 2) := by decide +kernel
theorem dX10_reach_99 : decode cX10_reach 99 = .ok (.iload_n 2, 1) := by decide +kernel
theorem dX10_reach_100 : decode cX10_reach 100 = .ok (.aload_n 0, 1) := by decide +kernel
theorem dX10_reach_101 : decode cX10_reach 101 = .ok (.getfield 44, 3) := by decide +kernel
theorem dX10_reach_104 : decode cX10_reach 104 = .ok (.getfield 206, 3) := by decide +kernel
theorem dX10_reach_107 : decode cX10_reach 107 = .ok (.iload 5, 2) := by decide +kernel
theorem dX10_reach_109 : decode cX10_reach 109 = .ok (.iaload, 1) := by decide +kernel
theorem dX10_reach_110 : decode cX10_reach 110 = .ok (.if_icmp .le 9, 3) := by decide +kernel
theorem dX10_reach_113 : decode cX10_reach 113 = .ok (.iload_n 2, 1) := by decide +kernel
theorem dX10_reach_114 : decode cX10_reach 114 = .ok (.iload 6, 2) := by decide +kernel
theorem dX10_reach_116 : decode cX10_reach 116 = .ok (.if_icmp .le 10, 3) := by decide +kernel
theorem dX10_reach_119 : decode cX10_reach 119 = .ok (.aload_n 0, 1) := by decide +kernel
theorem dX10_reach_120 : decode cX10_reach 120 = .ok (.bipush 10, 2) := by decide +kernel
theorem dX10_reach_122 : decode cX10_reach 122 = .ok (.invokevirtual 88, 3) := by decide +kernel
theorem dX10_reach_125 : decode cX10_reach 125 = .ok (.ireturn, 1) := by decide +kernel
theorem dX10_reach_126 : decode cX10_reach 126 = .ok (.aload_n 0, 1) := by decide +kernel
theorem dX10_reach_127 : decode cX10_reach 127 = .ok (.getfield 44, 3) := by decide +kernel
theorem dX10_reach_130 : decode cX10_reach 130 = .ok (.getfield 206, 3) := by decide +kernel
theorem dX10_reach_133 : decode cX10_reach 133 = .ok (.iload 5, 2) := by decide +kernel
theorem dX10_reach_135 : decode cX10_reach 135 = .ok (.iload_n 2, 1) := by decide +kernel
theorem dX10_reach_136 : decode cX10_reach 136 = .ok (.iastore, 1) := by decide +kernel
theorem dX10_reach_137 : decode cX10_reach 137 = .ok (.iload_n 2, 1) := by decide +kernel
theorem dX10_reach_138 : decode cX10_reach 138 = .ok (.iload 6, 2) := by decide +kernel
theorem dX10_reach_140 : decode cX10_reach 140 = .ok (.if_icmp .ge 9, 3) := by decide +kernel
theorem dX10_reach_143 : decode cX10_reach 143 = .ok (.aload_n 0, 1) := by decide +kernel
theorem dX10_reach_144 : decode cX10_reach 144 = .ok (.iconst 0, 1) := by decide +kernel
theorem dX10_reach_145 : decode cX10_reach 145 = .ok (.invokevirtual 120, 3) := by decide +kernel
theorem dX10_reach_148 : decode cX10_reach 148 = .ok (.ireturn, 1) := by decide +kernel
theorem dX10_reach_149 : decode cX10_reach 149 = .ok (.aload_n 0, 1) := by decide +kernel
theorem dX10_reach_150 : decode cX10_reach 150 = .ok (.getfield 44, 3) := by decide +kernel
theorem dX10_reach_153 : decode cX10_reach 153 = .ok (.iload 5, 2) := by decide +kernel
theorem dX10_reach_155 : decode cX10_reach 155 = .ok (.aload_n 0, 1) := by decide +kernel
theorem dX10_reach_156 : decode cX10_reach 156 = .ok (.getfield 114, 3) := by decide +kernel
theorem dX10_reach_159 : decode cX10_reach 159 = .ok (.iconst 1, 1) := by decide +kernel
theorem dX10_reach_160 : decode cX10_reach 160 = .ok (.invokevirtual 209, 3) := by decide +kernel
theorem dX10_reach_163 : decode cX10_reach 163 = .ok (.aload_n 0, 1) := by decide +kernel
theorem dX10_reach_164 : decode cX10_reach 164 = .ok (.iconst 1, 1) := by decide +kernel
theorem dX10_reach_165 : decode cX10_reach 165 = .ok (.invokevirtual 120, 3) := by decide +kernel
theorem dX10_reach_168 : decode cX10_reach 168 = .ok (.ireturn, 1) := by decide +kernel
theorem dX10_fall_0 : decode cX10_fall 0 = .ok (.aload_n 0, 1) := by decide +kernel
theorem dX10_fall_1 : decode cX10_fall 1 = .ok (.getfield 37, 3) := by decide +kernel
theorem dX10_fall_4 : decode cX10_fall 4 = .ok (.iload_n 1, 1) := by decide +kernel
theorem dX10_fall_5 : decode cX10_fall 5 = .ok (.invokevirtual 180, 3) := by decide +kernel
theorem dX10_fall_8 : decode cX10_fall 8 = .ok (.ifCond .eq 11, 3) := by decide +kernel
theorem dX10_fall_11 : decode cX10_fall 11 = .ok (.aload_n 0, 1) := by decide +kernel
theorem dX10_fall_12 : decode cX10_fall 12 = .ok (.iload_n 2, 1) := by decide +kernel
theorem dX10_fall_13 : decode cX10_fall 13 = .ok (.invokevirtual 183, 3) := by decide +kernel
theorem dX10_fall_16 : decode cX10_fall 16 = .ok (.goto 4, 3) := by decide +kernel
theorem dX10_fall_19 : decode cX10_fall 19 = .ok (.iconst 1, 1) := by decide +kernel
theorem dX10_fall_20 : decode cX10_fall 20 = .ok (.istore 4, 2) := by decide +kernel
theorem dX10_fall_22 : decode cX10_fall 22 = .ok (.iload 4, 2) := by decide +kernel
theorem dX10_fall_24 : decode cX10_fall 24 = .ok (.ifCond .eq 10, 3) := by decide +kernel
theorem dX10_fall_27 : decode cX10_fall 27 = .ok (.aload_n 0, 1) := by decide +kernel
theorem dX10_fall_28 : decode cX10_fall 28 = .ok (.iload 4, 2) := by decide +kernel
theorem dX10_fall_30 : decode cX10_fall 30 = .ok (.invokevirtual 140, 3) := by decide +kernel
theorem dX10_fall_33 : decode cX10_fall 33 = .ok (.ireturn, 1) := by decide +kernel
theorem dX10_fall_34 : decode cX10_fall 34 = .ok (.aload_n 0, 1) := by decide +kernel
theorem dX10_fall_35 : decode cX10_fall 35 = .ok (.getfield 44, 3) := by decide +kernel
theorem dX10_fall_38 : decode cX10_fall 38 = .ok (.iload_n 1, 1) := by decide +kernel
theorem dX10_fall_39 : decode cX10_fall 39 = .ok (.invokevirtual 197, 3) := by decide +kernel
theorem dX10_fall_42 : decode cX10_fall 42 = .ok (.istore 5, 2) := by decide +kernel
theorem dX10_fall_44 : decode cX10_fall 44 = .ok (.iload 5, 2) := by decide +kernel
theorem dX10_fall_46 : decode cX10_fall 46 = .ok (.iconst (-1), 1) := by decide +kernel
theorem dX10_fall_47 : decode cX10_fall 47 = .ok (.if_icmp .ne 9, 3) := by decide +kernel
theorem dX10_fall_50 : decode cX10_fall 50 = .ok (.aload_n 0, 1) := by decide +kernel
theorem dX10_fall_51 : decode cX10_fall 51 = .ok (.iconst 5, 1) := by decide +kernel
theorem dX10_fall_52 : decode cX10_fall 52 = .ok (.invokevirtual 140, 3) := by decide +kernel
theorem dX10_fall_55 : decode cX10_fall 55 = .ok (.ireturn, 1) := by decide +kernel
theorem dX10_fall_56 : decode cX10_fall 56 = .ok (.aload_n 0, 1) := by decide +kernel
theorem dX10_fall_57 : decode cX10_fall 57 = .ok (.getfield 44, 3) := by decide +kernel
theorem dX10_fall_60 : decode cX10_fall 60 = .ok (.iload 5, 2) := by decide +kernel
theorem dX10_fall_62 : decode cX10_fall 62 = .ok (.aload_n 0, 1) := by decide +kernel
theorem dX10_fall_63 : decode cX10_fall 63 = .ok (.getfield 114, 3) := by decide +kernel
theorem dX10_fall_66 : decode cX10_fall 66 = .ok (.iload_n 3, 1) := by decide +kernel
theorem dX10_fall_67 : decode cX10_fall 67 = .ok (.ifCond .eq 7, 3) := by decide +kernel
theorem dX10_fall_70 : decode cX10_fall 70 = .ok (.iconst 4, 1) := by decide +kernel
theorem dX10_fall_71 : decode cX10_fall 71 = .ok (.goto 4, 3) := by decide +kernel
theorem dX10_fall_74 : decode cX10_fall 74 = .ok (.iconst 2, 1) := by decide +kernel
theorem dX10_fall_75 : decode cX10_fall 75 = .ok (.invokevirtual 209, 3) := by decide +kernel
theorem dX10_fall_78 : decode cX10_fall 78 = .ok (.aload_n 0, 1) := by decide +kernel
theorem dX10_fall_79 : decode cX10_fall 79 = .ok (.invokevirtual 160, 3) := by decide +kernel
theorem dX10_fall_82 : decode cX10_fall 82 = .ok (.ireturn, 1) := by decide +kernel
theorem dX10_out_0 : decode cX10_out 0 = .ok (.aload_n 0, 1) := by decide +kernel
theorem dX10_out_1 : decode cX10_out 1 = .ok (.getfield 37, 3) := by decide +kernel
theorem dX10_out_4 : decode cX10_out 4 = .ok (.iload_n 1, 1) := by decide +kernel
theorem dX10_out_5 : decode cX10_out 5 = .ok (.invokevirtual 180, 3) := by decide +kernel
theorem dX10_out_8 : decode cX10_out 8 = .ok (.ifCond .eq 11, 3) := by decide +kernel
theorem dX10_out_11 : decode cX10_out 11 = .ok (.aload_n 0, 1) := by decide +kernel
theorem dX10_out_12 : decode cX10_out 12 = .ok (.iload_n 2, 1) := by decide +kernel
theorem dX10_out_13 : decode cX10_out 13 = .ok (.invokevirtual 183, 3) := by decide +kernel
theorem dX10_out_16 : decode cX10_out 16 = .ok (.goto 4, 3) := by decide +kernel
theorem dX10_out_19 : decode cX10_out 19 = .ok (.iconst 1, 1) := by decide +kernel
theorem dX10_out_20 : decode cX10_out 20 = .ok (.istore 4, 2) := by decide +kernel
theorem dX10_out_22 : decode cX10_out 22 = .ok (.iload 4, 2) := by decide +kernel
theorem dX10_out_24 : decode cX10_out 24 = .ok (.ifCond .eq 10, 3) := by decide +kernel
theorem dX10_out_27 : decode cX10_out 27 = .ok (.aload_n 0, 1) := by decide +kernel
theorem dX10_out_28 : decode cX10_out 28 = .ok (.iload 4, 2) := by decide +kernel
theorem dX10_out_30 : decode cX10_out 30 = .ok (.invokevirtual 140, 3) := by decide +kernel
theorem dX10_out_33 : decode cX10_out 33 = .ok (.ireturn, 1) := by decide +kernel
theorem dX10_out_34 : decode cX10_out 34 = .ok (.aload_n 0, 1) := by decide +kernel
theorem dX10_out_35 : decode cX10_out 35 = .ok (.getfield 58, 3) := by decide +kernel
theorem dX10_out_38 : decode cX10_out 38 = .ok (.iload_n 1, 1) := by decide +kernel
theorem dX10_out_39 : decode cX10_out 39 = .ok (.invokevirtual 212, 3) := by decide +kernel
theorem dX10_out_42 : decode cX10_out 42 = .ok (.iload_n 3, 1) := by decide +kernel
theorem dX10_out_43 : decode cX10_out 43 = .ok (.if_icmp .ne 10, 3) := by decide +kernel
theorem dX10_out_46 : decode cX10_out 46 = .ok (.aload_n 0, 1) := by decide +kernel
theorem dX10_out_47 : decode cX10_out 47 = .ok (.bipush 10, 2) := by decide +kernel
theorem dX10_out_49 : decode cX10_out 49 = .ok (.invokevirtual 140, 3) := by decide +kernel
theorem dX10_out_52 : decode cX10_out 52 = .ok (.ireturn, 1) := by decide +kernel
theorem dX10_out_53 : decode cX10_out 53 = .ok (.iload_n 3, 1) := by decide +kernel
theorem dX10_out_54 : decode cX10_out 54 = .ok (.ifCond .ne 20, 3) := by decide +kernel
theorem dX10_out_57 : decode cX10_out 57 = .ok (.aload_n 0, 1) := by decide +kernel
theorem dX10_out_58 : decode cX10_out 58 = .ok (.getfield 58, 3) := by decide +kernel
theorem dX10_out_61 : decode cX10_out 61 = .ok (.iload_n 1, 1) := by decide +kernel
theorem dX10_out_62 : decode cX10_out 62 = .ok (.aload_n 0, 1) := by decide +kernel
theorem dX10_out_63 : decode cX10_out 63 = .ok (.getfield 114, 3) := by decide +kernel
theorem dX10_out_66 : decode cX10_out 66 = .ok (.invokevirtual 215, 3) := by decide +kernel
theorem dX10_out_69 : decode cX10_out 69 = .ok (.aload_n 0, 1) := by decide +kernel
theorem dX10_out_70 : decode cX10_out 70 = .ok (.invokevirtual 160, 3) := by decide +kernel
theorem dX10_out_73 : decode cX10_out 73 = .ok (.ireturn, 1) := by decide +kernel
theorem dX10_out_74 : decode cX10_out 74 = .ok (.aload_n 0, 1) := by decide +kernel
theorem dX10_out_75 : decode cX10_out 75 = .ok (.getfield 58, 3) := by decide +kernel
theorem dX10_out_78 : decode cX10_out 78 = .ok (.getfield 218, 3) := by decide +kernel
theorem dX10_out_81 : decode cX10_out 81 = .ok (.iload_n 1, 1) := by decide +kernel
theorem dX10_out_82 : decode cX10_out 82 = .ok (.iaload, 1) := by decide +kernel
theorem dX10_out_83 : decode cX10_out 83 = .ok (.bipush 20, 2) := by decide +kernel
theorem dX10_out_85 : decode cX10_out 85 = .ok (.if_icmp .lt 9, 3) := by decide +kernel
theorem dX10_out_88 : decode cX10_out 88 = .ok (.aload_n 0, 1) := by decide +kernel
theorem dX10_out_89 : decode cX10_out 89 = .ok (.iconst 3, 1) := by decide +kernel
theorem dX10_out_90 : decode cX10_out 90 = .ok (.invokevirtual 140, 3) := by decide +kernel
theorem dX10_out_93 : decode cX10_out 93 = .ok (.ireturn, 1) := by decide +kernel
theorem dX10_out_94 : decode cX10_out 94 = .ok (.aload_n 0, 1) := by decide +kernel
theorem dX10_out_95 : decode cX10_out 95 = .ok (.getfield 58, 3) := by decide +kernel
theorem dX10_out_98 : decode cX10_out 98 = .ok (.iload_n 1, 1) := by decide +kernel
theorem dX10_out_99 : decode cX10_out 99 = .ok (.aload_n 0, 1) := by decide +kernel
theorem dX10_out_100 : decode cX10_out 100 = .ok (.getfield 114, 3) := by decide +kernel
theorem dX10_out_103 : decode cX10_out 103 = .ok (.invokevirtual 221, 3) := by decide +kernel
theorem dX10_out_106 : decode cX10_out 106 = .ok (.aload_n 0, 1) := by decide +kernel
theorem dX10_out_107 : decode cX10_out 107 = .ok (.invokevirtual 160, 3) := by decide +kernel
theorem dX10_out_110 : decode cX10_out 110 = .ok (.ireturn, 1) := by decide +kernel
theorem dX10_clock_0 : decode cX10_clock 0 = .ok (.aload_n 0, 1) := by decide +kernel
theorem dX10_clock_1 : decode cX10_clock 1 = .ok (.iload_n 1, 1) := by decide +kernel
theorem dX10_clock_2 : decode cX10_clock 2 = .ok (.invokevirtual 183, 3) := by decide +kernel
theorem dX10_clock_5 : decode cX10_clock 5 = .ok (.istore_n 2, 1) := by decide +kernel
theorem dX10_clock_6 : decode cX10_clock 6 = .ok (.iload_n 2, 1) := by decide +kernel
theorem dX10_clock_7 : decode cX10_clock 7 = .ok (.ifCond .ne 10, 3) := by decide +kernel
theorem dX10_clock_10 : decode cX10_clock 10 = .ok (.aload_n 0, 1) := by decide +kernel
theorem dX10_clock_11 : decode cX10_clock 11 = .ok (.invokevirtual 160, 3) := by decide +kernel
theorem dX10_clock_14 : decode cX10_clock 14 = .ok (.goto 8, 3) := by decide +kernel
theorem dX10_clock_17 : decode cX10_clock 17 = .ok (.aload_n 0, 1) := by decide +kernel
theorem dX10_clock_18 : decode cX10_clock 18 = .ok (.iload_n 2, 1) := by decide +kernel
theorem dX10_clock_19 : decode cX10_clock 19 = .ok (.invokevirtual 140, 3) := by decide +kernel
theorem dX10_clock_22 : decode cX10_clock 22 = .ok (.ireturn, 1) := by decide +kernel
theorem dX10_now_0 : decode cX10_now 0 = .ok (.aload_n 0, 1) := by decide +kernel
theorem dX10_now_1 : decode cX10_now 1 = .ok (.aload_n 0, 1) := by decide +kernel
theorem dX10_now_2 : decode cX10_now 2 = .ok (.getfield 114, 3) := by decide +kernel
theorem dX10_now_5 : decode cX10_now 5 = .ok (.invokevirtual 120, 3) := by decide +kernel
theorem dX10_now_8 : decode cX10_now 8 = .ok (.ireturn, 1) := by decide +kernel
theorem dX10_tried_0 : decode cX10_tried 0 = .ok (.aload_n 0, 1) := by decide +kernel
theorem dX10_tried_1 : decode cX10_tried 1 = .ok (.getfield 44, 3) := by decide +kernel
theorem dX10_tried_4 : decode cX10_tried 4 = .ok (.iload_n 1, 1) := by decide +kernel
theorem dX10_tried_5 : decode cX10_tried 5 = .ok (.invokevirtual 224, 3) := by decide +kernel
theorem dX10_tried_8 : decode cX10_tried 8 = .ok (.ifCond .ne 9, 3) := by decide +kernel
theorem dX10_tried_11 : decode cX10_tried 11 = .ok (.aload_n 0, 1) := by decide +kernel
theorem dX10_tried_12 : decode cX10_tried 12 = .ok (.iconst 1, 1) := by decide +kernel
theorem dX10_tried_13 : decode cX10_tried 13 = .ok (.invokevirtual 88, 3) := by decide +kernel
theorem dX10_tried_16 : decode cX10_tried 16 = .ok (.ireturn, 1) := by decide +kernel
theorem dX10_tried_17 : decode cX10_tried 17 = .ok (.iload_n 2, 1) := by decide +kernel
theorem dX10_tried_18 : decode cX10_tried 18 = .ok (.tableswitch 140 0 6 #[42, 56, 70, 84, 98, 112, 126], 42) := by decide +kernel
theorem dX10_tried_60 : decode cX10_tried 60 = .ok (.aload_n 0, 1) := by decide +kernel
theorem dX10_tried_61 : decode cX10_tried 61 = .ok (.aload_n 0, 1) := by decide +kernel
theorem dX10_tried_62 : decode cX10_tried 62 = .ok (.getfield 44, 3) := by decide +kernel
theorem dX10_tried_65 : decode cX10_tried 65 = .ok (.getfield 225, 3) := by decide +kernel
theorem dX10_tried_68 : decode cX10_tried 68 = .ok (.iload_n 1, 1) := by decide +kernel
theorem dX10_tried_69 : decode cX10_tried 69 = .ok (.iaload, 1) := by decide +kernel
theorem dX10_tried_70 : decode cX10_tried 70 = .ok (.invokevirtual 120, 3) := by decide +kernel
theorem dX10_tried_73 : decode cX10_tried 73 = .ok (.ireturn, 1) := by decide +kernel
theorem dX10_tried_74 : decode cX10_tried 74 = .ok (.aload_n 0, 1) := by decide +kernel
theorem dX10_tried_75 : decode cX10_tried 75 = .ok (.aload_n 0, 1) := by decide +kernel
theorem dX10_tried_76 : decode cX10_tried 76 = .ok (.getfield 44, 3) := by decide +kernel
theorem dX10_tried_79 : decode cX10_tried 79 = .ok (.getfield 200, 3) := by decide +kernel
theorem dX10_tried_82 : decode cX10_tried 82 = .ok (.iload_n 1, 1) := by decide +kernel
theorem dX10_tried_83 : decode cX10_tried 83 = .ok (.iaload, 1) := by decide +kernel
theorem dX10_tried_84 : decode cX10_tried 84 = .ok (.invokevirtual 120, 3) := by decide +kernel
theorem dX10_tried_87 : decode cX10_tried 87 = .ok (.ireturn, 1) := by decide +kernel
theorem dX10_tried_88 : decode cX10_tried 88 = .ok (.aload_n 0, 1) := by decide +kernel
theorem dX10_tried_89 : decode cX10_tried 89 = .ok (.aload_n 0, 1) := by decide +kernel
theorem dX10_tried_90 : decode cX10_tried 90 = .ok (.getfield 44, 3) := by decide +kernel
theorem dX10_tried_93 : decode cX10_tried 93 = .ok (.getfield 203, 3) := by decide +kernel
theorem dX10_tried_96 : decode cX10_tried 96 = .ok (.iload_n 1, 1) := by decide +kernel
theorem dX10_tried_97 : decode cX10_tried 97 = .ok (.iaload, 1) := by decide +kernel
theorem dX10_tried_98 : decode cX10_tried 98 = .ok (.invokevirtual 120, 3) := by decide +kernel
theorem dX10_tried_101 : decode cX10_tried 101 = .ok (.ireturn, 1) := by decide +kernel
theorem dX10_tried_102 : decode cX10_tried 102 = .ok (.aload_n 0, 1) := by decide +kernel
theorem dX10_tried_103 : decode cX10_tried 103 = .ok (.aload_n 0, 1) := by decide +kernel
theorem dX10_tried_104 : decode cX10_tried 104 = .ok (.getfield 44, 3) := by decide +kernel
theorem dX10_tried_107 : decode cX10_tried 107 = .ok (.getfield 228, 3) := by decide +kernel
theorem dX10_tried_110 : decode cX10_tried 110 = .ok (.iload_n 1, 1) := by decide +kernel
theorem dX10_tried_111 : decode cX10_tried 111 = .ok (.iaload, 1) := by decide +kernel
theorem dX10_tried_112 : decode cX10_tried 112 = .ok (.invokevirtual 120, 3) := by decide +kernel
theorem dX10_tried_115 : decode cX10_tried 115 = .ok (.ireturn, 1) := by decide +kernel
theorem dX10_tried_116 : decode cX10_tried 116 = .ok (.aload_n 0, 1) := by decide +kernel
theorem dX10_tried_117 : decode cX10_tried 117 = .ok (.aload_n 0, 1) := by decide +kernel
theorem dX10_tried_118 : decode cX10_tried 118 = .ok (.getfield 44, 3) := by decide +kernel
theorem dX10_tried_121 : decode cX10_tried 121 = .ok (.getfield 231, 3) := by decide +kernel
theorem dX10_tried_124 : decode cX10_tried 124 = .ok (.iload_n 1, 1) := by decide +kernel
theorem dX10_tried_125 : decode cX10_tried 125 = .ok (.iaload, 1) := by decide +kernel
theorem dX10_tried_126 : decode cX10_tried 126 = .ok (.invokevirtual 120, 3) := by decide +kernel
theorem dX10_tried_129 : decode cX10_tried 129 = .ok (.ireturn, 1) := by decide +kernel
theorem dX10_tried_130 : decode cX10_tried 130 = .ok (.aload_n 0, 1) := by decide +kernel
theorem dX10_tried_131 : decode cX10_tried 131 = .ok (.aload_n 0, 1) := by decide +kernel
theorem dX10_tried_132 : decode cX10_tried 132 = .ok (.getfield 44, 3) := by decide +kernel
theorem dX10_tried_135 : decode cX10_tried 135 = .ok (.getfield 206, 3) := by decide +kernel
theorem dX10_tried_138 : decode cX10_tried 138 = .ok (.iload_n 1, 1) := by decide +kernel
theorem dX10_tried_139 : decode cX10_tried 139 = .ok (.iaload, 1) := by decide +kernel
theorem dX10_tried_140 : decode cX10_tried 140 = .ok (.invokevirtual 120, 3) := by decide +kernel
theorem dX10_tried_143 : decode cX10_tried 143 = .ok (.ireturn, 1) := by decide +kernel
theorem dX10_tried_144 : decode cX10_tried 144 = .ok (.aload_n 0, 1) := by decide +kernel
theorem dX10_tried_145 : decode cX10_tried 145 = .ok (.aload_n 0, 1) := by decide +kernel
theorem dX10_tried_146 : decode cX10_tried 146 = .ok (.getfield 44, 3) := by decide +kernel
theorem dX10_tried_149 : decode cX10_tried 149 = .ok (.getfield 234, 3) := by decide +kernel
theorem dX10_tried_152 : decode cX10_tried 152 = .ok (.iload_n 1, 1) := by decide +kernel
theorem dX10_tried_153 : decode cX10_tried 153 = .ok (.iaload, 1) := by decide +kernel
theorem dX10_tried_154 : decode cX10_tried 154 = .ok (.invokevirtual 120, 3) := by decide +kernel
theorem dX10_tried_157 : decode cX10_tried 157 = .ok (.ireturn, 1) := by decide +kernel
theorem dX10_tried_158 : decode cX10_tried 158 = .ok (.aload_n 0, 1) := by decide +kernel
theorem dX10_tried_159 : decode cX10_tried 159 = .ok (.iconst 2, 1) := by decide +kernel
theorem dX10_tried_160 : decode cX10_tried 160 = .ok (.invokevirtual 88, 3) := by decide +kernel
theorem dX10_tried_163 : decode cX10_tried 163 = .ok (.ireturn, 1) := by decide +kernel
theorem dX10_seen_0 : decode cX10_seen 0 = .ok (.aload_n 0, 1) := by decide +kernel
theorem dX10_seen_1 : decode cX10_seen 1 = .ok (.getfield 37, 3) := by decide +kernel
theorem dX10_seen_4 : decode cX10_seen 4 = .ok (.iload_n 1, 1) := by decide +kernel
theorem dX10_seen_5 : decode cX10_seen 5 = .ok (.invokevirtual 180, 3) := by decide +kernel
theorem dX10_seen_8 : decode cX10_seen 8 = .ok (.ifCond .eq 21, 3) := by decide +kernel
theorem dX10_seen_11 : decode cX10_seen 11 = .ok (.aload_n 0, 1) := by decide +kernel
theorem dX10_seen_12 : decode cX10_seen 12 = .ok (.getfield 16, 3) := by decide +kernel
theorem dX10_seen_15 : decode cX10_seen 15 = .ok (.aload_n 0, 1) := by decide +kernel
theorem dX10_seen_16 : decode cX10_seen 16 = .ok (.getfield 37, 3) := by decide +kernel
theorem dX10_seen_19 : decode cX10_seen 19 = .ok (.getfield 129, 3) := by decide +kernel
theorem dX10_seen_22 : decode cX10_seen 22 = .ok (.iload_n 2, 1) := by decide +kernel
theorem dX10_seen_23 : decode cX10_seen 23 = .ok (.invokevirtual 136, 3) := by decide +kernel
theorem dX10_seen_26 : decode cX10_seen 26 = .ok (.ifCond .ne 9, 3) := by decide +kernel
theorem dX10_seen_29 : decode cX10_seen 29 = .ok (.aload_n 0, 1) := by decide +kernel
theorem dX10_seen_30 : decode cX10_seen 30 = .ok (.iconst 1, 1) := by decide +kernel
theorem dX10_seen_31 : decode cX10_seen 31 = .ok (.invokevirtual 88, 3) := by decide +kernel
theorem dX10_seen_34 : decode cX10_seen 34 = .ok (.ireturn, 1) := by decide +kernel
theorem dX10_seen_35 : decode cX10_seen 35 = .ok (.aload_n 0, 1) := by decide +kernel
theorem dX10_seen_36 : decode cX10_seen 36 = .ok (.aload_n 0, 1) := by decide +kernel
theorem dX10_seen_37 : decode cX10_seen 37 = .ok (.iload_n 1, 1) := by decide +kernel
theorem dX10_seen_38 : decode cX10_seen 38 = .ok (.iload_n 2, 1) := by decide +kernel
theorem dX10_seen_39 : decode cX10_seen 39 = .ok (.invokevirtual 237, 3) := by decide +kernel
theorem dX10_seen_42 : decode cX10_seen 42 = .ok (.ifCond .eq 7, 3) := by decide +kernel
theorem dX10_seen_45 : decode cX10_seen 45 = .ok (.iconst 1, 1) := by decide +kernel
theorem dX10_seen_46 : decode cX10_seen 46 = .ok (.goto 4, 3) := by decide +kernel
theorem dX10_seen_49 : decode cX10_seen 49 = .ok (.iconst 0, 1) := by decide +kernel
theorem dX10_seen_50 : decode cX10_seen 50 = .ok (.invokevirtual 120, 3) := by decide +kernel
theorem dX10_seen_53 : decode cX10_seen 53 = .ok (.ireturn, 1) := by decide +kernel
theorem dX10_ready_0 : decode cX10_ready 0 = .ok (.aload_n 0, 1) := by decide +kernel
theorem dX10_ready_1 : decode cX10_ready 1 = .ok (.getfield 37, 3) := by decide +kernel
theorem dX10_ready_4 : decode cX10_ready 4 = .ok (.iload_n 1, 1) := by decide +kernel
theorem dX10_ready_5 : decode cX10_ready 5 = .ok (.invokevirtual 180, 3) := by decide +kernel
theorem dX10_ready_8 : decode cX10_ready 8 = .ok (.ifCond .ne 9, 3) := by decide +kernel
theorem dX10_ready_11 : decode cX10_ready 11 = .ok (.aload_n 0, 1) := by decide +kernel
theorem dX10_ready_12 : decode cX10_ready 12 = .ok (.iconst 1, 1) := by decide +kernel
theorem dX10_ready_13 : decode cX10_ready 13 = .ok (.invokevirtual 88, 3) := by decide +kernel
theorem dX10_ready_16 : decode cX10_ready 16 = .ok (.ireturn, 1) := by decide +kernel
theorem dX10_ready_17 : decode cX10_ready 17 = .ok (.aload_n 0, 1) := by decide +kernel
theorem dX10_ready_18 : decode cX10_ready 18 = .ok (.getfield 44, 3) := by decide +kernel
theorem dX10_ready_21 : decode cX10_ready 21 = .ok (.iload_n 1, 1) := by decide +kernel
theorem dX10_ready_22 : decode cX10_ready 22 = .ok (.invokevirtual 197, 3) := by decide +kernel
theorem dX10_ready_25 : decode cX10_ready 25 = .ok (.iconst (-1), 1) := by decide +kernel
theorem dX10_ready_26 : decode cX10_ready 26 = .ok (.if_icmp .eq 9, 3) := by decide +kernel
theorem dX10_ready_29 : decode cX10_ready 29 = .ok (.aload_n 0, 1) := by decide +kernel
theorem dX10_ready_30 : decode cX10_ready 30 = .ok (.iconst 5, 1) := by decide +kernel
theorem dX10_ready_31 : decode cX10_ready 31 = .ok (.invokevirtual 88, 3) := by decide +kernel
theorem dX10_ready_34 : decode cX10_ready 34 = .ok (.ireturn, 1) := by decide +kernel
theorem dX10_ready_35 : decode cX10_ready 35 = .ok (.aload_n 0, 1) := by decide +kernel
theorem dX10_ready_36 : decode cX10_ready 36 = .ok (.aload_n 0, 1) := by decide +kernel
theorem dX10_ready_37 : decode cX10_ready 37 = .ok (.getfield 114, 3) := by decide +kernel
theorem dX10_ready_40 : decode cX10_ready 40 = .ok (.aload_n 0, 1) := by decide +kernel
theorem dX10_ready_41 : decode cX10_ready 41 = .ok (.iload_n 1, 1) := by decide +kernel
theorem dX10_ready_42 : decode cX10_ready 42 = .ok (.invokevirtual 240, 3) := by decide +kernel
theorem dX10_ready_45 : decode cX10_ready 45 = .ok (.invokestatic 243, 3) := by decide +kernel
theorem dX10_ready_48 : decode cX10_ready 48 = .ok (.invokevirtual 120, 3) := by decide +kernel
theorem dX10_ready_51 : decode cX10_ready 51 = .ok (.ireturn, 1) := by decide +kernel
theorem dX10_appeal_0 : decode cX10_appeal 0 = .ok (.aload_n 0, 1) := by decide +kernel
theorem dX10_appeal_1 : decode cX10_appeal 1 = .ok (.getfield 44, 3) := by decide +kernel
theorem dX10_appeal_4 : decode cX10_appeal 4 = .ok (.iload_n 1, 1) := by decide +kernel
theorem dX10_appeal_5 : decode cX10_appeal 5 = .ok (.invokevirtual 224, 3) := by decide +kernel
theorem dX10_appeal_8 : decode cX10_appeal 8 = .ok (.ifCond .ne 9, 3) := by decide +kernel
theorem dX10_appeal_11 : decode cX10_appeal 11 = .ok (.aload_n 0, 1) := by decide +kernel
theorem dX10_appeal_12 : decode cX10_appeal 12 = .ok (.iconst 1, 1) := by decide +kernel
theorem dX10_appeal_13 : decode cX10_appeal 13 = .ok (.invokevirtual 140, 3) := by decide +kernel
theorem dX10_appeal_16 : decode cX10_appeal 16 = .ok (.ireturn, 1) := by decide +kernel
theorem dX10_appeal_17 : decode cX10_appeal 17 = .ok (.aload_n 0, 1) := by decide +kernel
theorem dX10_appeal_18 : decode cX10_appeal 18 = .ok (.getfield 30, 3) := by decide +kernel
theorem dX10_appeal_21 : decode cX10_appeal 21 = .ok (.aload_n 0, 1) := by decide +kernel
theorem dX10_appeal_22 : decode cX10_appeal 22 = .ok (.getfield 44, 3) := by decide +kernel
theorem dX10_appeal_25 : decode cX10_appeal 25 = .ok (.getfield 200, 3) := by decide +kernel
theorem dX10_appeal_28 : decode cX10_appeal 28 = .ok (.iload_n 1, 1) := by decide +kernel
theorem dX10_appeal_29 : decode cX10_appeal 29 = .ok (.iaload, 1) := by decide +kernel
theorem dX10_appeal_30 : decode cX10_appeal 30 = .ok (.aload_n 0, 1) := by decide +kernel
theorem dX10_appeal_31 : decode cX10_appeal 31 = .ok (.getfield 44, 3) := by decide +kernel
theorem dX10_appeal_34 : decode cX10_appeal 34 = .ok (.getfield 203, 3) := by decide +kernel
theorem dX10_appeal_37 : decode cX10_appeal 37 = .ok (.iload_n 1, 1) := by decide +kernel
theorem dX10_appeal_38 : decode cX10_appeal 38 = .ok (.iaload, 1) := by decide +kernel
theorem dX10_appeal_39 : decode cX10_appeal 39 = .ok (.invokevirtual 173, 3) := by decide +kernel
theorem dX10_appeal_42 : decode cX10_appeal 42 = .ok (.istore 4, 2) := by decide +kernel
theorem dX10_appeal_44 : decode cX10_appeal 44 = .ok (.iload_n 2, 1) := by decide +kernel
theorem dX10_appeal_45 : decode cX10_appeal 45 = .ok (.ifCond .lt 16, 3) := by decide +kernel
theorem dX10_appeal_48 : decode cX10_appeal 48 = .ok (.iload_n 2, 1) := by decide +kernel
theorem dX10_appeal_49 : decode cX10_appeal 49 = .ok (.iload 4, 2) := by decide +kernel
theorem dX10_appeal_51 : decode cX10_appeal 51 = .ok (.if_icmp .gt 10, 3) := by decide +kernel
theorem dX10_appeal_54 : decode cX10_appeal 54 = .ok (.iload_n 3, 1) := by decide +kernel
theorem dX10_appeal_55 : decode cX10_appeal 55 = .ok (.invokestatic 248, 3) := by decide +kernel
theorem dX10_appeal_58 : decode cX10_appeal 58 = .ok (.ifCond .ne 9, 3) := by decide +kernel
theorem dX10_appeal_61 : decode cX10_appeal 61 = .ok (.aload_n 0, 1) := by decide +kernel
theorem dX10_appeal_62 : decode cX10_appeal 62 = .ok (.iconst 2, 1) := by decide +kernel
theorem dX10_appeal_63 : decode cX10_appeal 63 = .ok (.invokevirtual 140, 3) := by decide +kernel
theorem dX10_appeal_66 : decode cX10_appeal 66 = .ok (.ireturn, 1) := by decide +kernel
theorem dX10_appeal_67 : decode cX10_appeal 67 = .ok (.aload_n 0, 1) := by decide +kernel
theorem dX10_appeal_68 : decode cX10_appeal 68 = .ok (.getfield 44, 3) := by decide +kernel
theorem dX10_appeal_71 : decode cX10_appeal 71 = .ok (.getfield 234, 3) := by decide +kernel
theorem dX10_appeal_74 : decode cX10_appeal 74 = .ok (.iload_n 1, 1) := by decide +kernel
theorem dX10_appeal_75 : decode cX10_appeal 75 = .ok (.iaload, 1) := by decide +kernel
theorem dX10_appeal_76 : decode cX10_appeal 76 = .ok (.ifCond .eq 16, 3) := by decide +kernel
theorem dX10_appeal_79 : decode cX10_appeal 79 = .ok (.aload_n 0, 1) := by decide +kernel
theorem dX10_appeal_80 : decode cX10_appeal 80 = .ok (.getfield 44, 3) := by decide +kernel
theorem dX10_appeal_83 : decode cX10_appeal 83 = .ok (.getfield 234, 3) := by decide +kernel
theorem dX10_appeal_86 : decode cX10_appeal 86 = .ok (.iload_n 1, 1) := by decide +kernel
theorem dX10_appeal_87 : decode cX10_appeal 87 = .ok (.iaload, 1) := by decide +kernel
theorem dX10_appeal_88 : decode cX10_appeal 88 = .ok (.iconst 4, 1) := by decide +kernel
theorem dX10_appeal_89 : decode cX10_appeal 89 = .ok (.if_icmp .ne 10, 3) := by decide +kernel
theorem dX10_appeal_92 : decode cX10_appeal 92 = .ok (.aload_n 0, 1) := by decide +kernel
theorem dX10_appeal_93 : decode cX10_appeal 93 = .ok (.bipush 10, 2) := by decide +kernel
theorem dX10_appeal_95 : decode cX10_appeal 95 = .ok (.invokevirtual 140, 3) := by decide +kernel
theorem dX10_appeal_98 : decode cX10_appeal 98 = .ok (.ireturn, 1) := by decide +kernel
theorem dX10_appeal_99 : decode cX10_appeal 99 = .ok (.aload_n 0, 1) := by decide +kernel
theorem dX10_appeal_100 : decode cX10_appeal 100 = .ok (.getfield 51, 3) := by decide +kernel
theorem dX10_appeal_103 : decode cX10_appeal 103 = .ok (.getfield 251, 3) := by decide +kernel
theorem dX10_appeal_106 : decode cX10_appeal 106 = .ok (.bipush 40, 2) := by decide +kernel
theorem dX10_appeal_108 : decode cX10_appeal 108 = .ok (.if_icmp .lt 9, 3) := by decide +kernel
theorem dX10_appeal_111 : decode cX10_appeal 111 = .ok (.aload_n 0, 1) := by decide +kernel
theorem dX10_appeal_112 : decode cX10_appeal 112 = .ok (.iconst 3, 1) := by decide +kernel
theorem dX10_appeal_113 : decode cX10_appeal 113 = .ok (.invokevirtual 140, 3) := by decide +kernel
theorem dX10_appeal_116 : decode cX10_appeal 116 = .ok (.ireturn, 1) := by decide +kernel
theorem dX10_appeal_117 : decode cX10_appeal 117 = .ok (.aload_n 0, 1) := by decide +kernel
theorem dX10_appeal_118 : decode cX10_appeal 118 = .ok (.getfield 51, 3) := by decide +kernel
theorem dX10_appeal_121 : decode cX10_appeal 121 = .ok (.iload_n 1, 1) := by decide +kernel
theorem dX10_appeal_122 : decode cX10_appeal 122 = .ok (.iload_n 2, 1) := by decide +kernel
theorem dX10_appeal_123 : decode cX10_appeal 123 = .ok (.iload_n 3, 1) := by decide +kernel
theorem dX10_appeal_124 : decode cX10_appeal 124 = .ok (.invokevirtual 252, 3) := by decide +kernel
theorem dX10_appeal_127 : decode cX10_appeal 127 = .ok (.aload_n 0, 1) := by decide +kernel
theorem dX10_appeal_128 : decode cX10_appeal 128 = .ok (.invokevirtual 160, 3) := by decide +kernel
theorem dX10_appeal_131 : decode cX10_appeal 131 = .ok (.ireturn, 1) := by decide +kernel
theorem dX10_of_0 : decode cX10_of 0 = .ok (.aload_n 0, 1) := by decide +kernel
theorem dX10_of_1 : decode cX10_of 1 = .ok (.getfield 16, 3) := by decide +kernel
theorem dX10_of_4 : decode cX10_of 4 = .ok (.iload_n 1, 1) := by decide +kernel
theorem dX10_of_5 : decode cX10_of 5 = .ok (.iload_n 2, 1) := by decide +kernel
theorem dX10_of_6 : decode cX10_of 6 = .ok (.invokevirtual 136, 3) := by decide +kernel
theorem dX10_of_9 : decode cX10_of 9 = .ok (.ifCond .eq 14, 3) := by decide +kernel
theorem dX10_of_12 : decode cX10_of 12 = .ok (.aload_n 0, 1) := by decide +kernel
theorem dX10_of_13 : decode cX10_of 13 = .ok (.getfield 37, 3) := by decide +kernel
theorem dX10_of_16 : decode cX10_of 16 = .ok (.iload_n 3, 1) := by decide +kernel
theorem dX10_of_17 : decode cX10_of 17 = .ok (.invokevirtual 180, 3) := by decide +kernel
theorem dX10_of_20 : decode cX10_of 20 = .ok (.ifCond .ne 9, 3) := by decide +kernel
theorem dX10_of_23 : decode cX10_of 23 = .ok (.aload_n 0, 1) := by decide +kernel
theorem dX10_of_24 : decode cX10_of 24 = .ok (.iconst 1, 1) := by decide +kernel
theorem dX10_of_25 : decode cX10_of 25 = .ok (.invokevirtual 88, 3) := by decide +kernel
theorem dX10_of_28 : decode cX10_of 28 = .ok (.ireturn, 1) := by decide +kernel
theorem dX10_of_29 : decode cX10_of 29 = .ok (.iload 4, 2) := by decide +kernel
theorem dX10_of_31 : decode cX10_of 31 = .ok (.invokestatic 248, 3) := by decide +kernel
theorem dX10_of_34 : decode cX10_of 34 = .ok (.ifCond .eq 15, 3) := by decide +kernel
theorem dX10_of_37 : decode cX10_of 37 = .ok (.iload 5, 2) := by decide +kernel
theorem dX10_of_39 : decode cX10_of 39 = .ok (.ifCond .lt 10, 3) := by decide +kernel
theorem dX10_of_42 : decode cX10_of 42 = .ok (.iload 5, 2) := by decide +kernel
theorem dX10_of_44 : decode cX10_of 44 = .ok (.bipush 6, 2) := by decide +kernel
theorem dX10_of_46 : decode cX10_of 46 = .ok (.if_icmp .le 9, 3) := by decide +kernel
theorem dX10_of_49 : decode cX10_of 49 = .ok (.aload_n 0, 1) := by decide +kernel
theorem dX10_of_50 : decode cX10_of 50 = .ok (.iconst 2, 1) := by decide +kernel
theorem dX10_of_51 : decode cX10_of 51 = .ok (.invokevirtual 88, 3) := by decide +kernel
theorem dX10_of_54 : decode cX10_of 54 = .ok (.ireturn, 1) := by decide +kernel
theorem dX10_of_55 : decode cX10_of 55 = .ok (.aload_n 0, 1) := by decide +kernel
theorem dX10_of_56 : decode cX10_of 56 = .ok (.getfield 67, 3) := by decide +kernel
theorem dX10_of_59 : decode cX10_of 59 = .ok (.iload 4, 2) := by decide +kernel
theorem dX10_of_61 : decode cX10_of 61 = .ok (.invokevirtual 255, 3) := by decide +kernel
theorem dX10_of_64 : decode cX10_of 64 = .ok (.aload_n 0, 1) := by decide +kernel
theorem dX10_of_65 : decode cX10_of 65 = .ok (.getfield 67, 3) := by decide +kernel
theorem dX10_of_68 : decode cX10_of 68 = .ok (.iload_n 1, 1) := by decide +kernel
theorem dX10_of_69 : decode cX10_of 69 = .ok (.iload_n 3, 1) := by decide +kernel
theorem dX10_of_70 : decode cX10_of 70 = .ok (.iload_n 2, 1) := by decide +kernel
theorem dX10_of_71 : decode cX10_of 71 = .ok (.invokevirtual 258, 3) := by decide +kernel
theorem dX10_of_74 : decode cX10_of 74 = .ok (.aload_n 0, 1) := by decide +kernel
theorem dX10_of_75 : decode cX10_of 75 = .ok (.iload 5, 2) := by decide +kernel
theorem dX10_of_77 : decode cX10_of 77 = .ok (.bipush 6, 2) := by decide +kernel
theorem dX10_of_79 : decode cX10_of 79 = .ok (.if_icmp .ne 20, 3) := by decide +kernel
theorem dX10_of_82 : decode cX10_of 82 = .ok (.aload_n 0, 1) := by decide +kernel
theorem dX10_of_83 : decode cX10_of 83 = .ok (.getfield 16, 3) := by decide +kernel
theorem dX10_of_86 : decode cX10_of 86 = .ok (.aload_n 0, 1) := by decide +kernel
theorem dX10_of_87 : decode cX10_of 87 = .ok (.getfield 67, 3) := by decide +kernel
theorem dX10_of_90 : decode cX10_of 90 = .ok (.getfield 261, 3) := by decide +kernel
theorem dX10_of_93 : decode cX10_of 93 = .ok (.invokevirtual 264, 3) := by decide +kernel
theorem dX10_of_96 : decode cX10_of 96 = .ok (.goto 13, 3) := by decide +kernel
theorem dX10_of_99 : decode cX10_of 99 = .ok (.aload_n 0, 1) := by decide +kernel
theorem dX10_of_100 : decode cX10_of 100 = .ok (.getfield 67, 3) := by decide +kernel
theorem dX10_of_103 : decode cX10_of 103 = .ok (.getfield 261, 3) := by decide +kernel
theorem dX10_of_106 : decode cX10_of 106 = .ok (.iload 5, 2) := by decide +kernel
theorem dX10_of_108 : decode cX10_of 108 = .ok (.iaload, 1) := by decide +kernel
theorem dX10_of_109 : decode cX10_of 109 = .ok (.invokevirtual 120, 3) := by decide +kernel
theorem dX10_of_112 : decode cX10_of 112 = .ok (.ireturn, 1) := by decide +kernel
theorem dX10_key_0 : decode cX10_key 0 = .ok (.aload_n 0, 1) := by decide +kernel
theorem dX10_key_1 : decode cX10_key 1 = .ok (.getfield 16, 3) := by decide +kernel
theorem dX10_key_4 : decode cX10_key 4 = .ok (.iload_n 1, 1) := by decide +kernel
theorem dX10_key_5 : decode cX10_key 5 = .ok (.invokevirtual 164, 3) := by decide +kernel
theorem dX10_key_8 : decode cX10_key 8 = .ok (.ifCond .eq 32, 3) := by decide +kernel
theorem dX10_key_11 : decode cX10_key 11 = .ok (.aload_n 0, 1) := by decide +kernel
theorem dX10_key_12 : decode cX10_key 12 = .ok (.getfield 37, 3) := by decide +kernel
theorem dX10_key_15 : decode cX10_key 15 = .ok (.iload_n 1, 1) := by decide +kernel
theorem dX10_key_16 : decode cX10_key 16 = .ok (.iload_n 2, 1) := by decide +kernel
theorem dX10_key_17 : decode cX10_key 17 = .ok (.invokevirtual 268, 3) := by decide +kernel
theorem dX10_key_20 : decode cX10_key 20 = .ok (.ifCond .eq 20, 3) := by decide +kernel
theorem dX10_key_23 : decode cX10_key 23 = .ok (.iload 4, 2) := by decide +kernel
theorem dX10_key_25 : decode cX10_key 25 = .ok (.ifCond .lt 15, 3) := by decide +kernel
theorem dX10_key_28 : decode cX10_key 28 = .ok (.iload 4, 2) := by decide +kernel
theorem dX10_key_30 : decode cX10_key 30 = .ok (.aload_n 0, 1) := by decide +kernel
theorem dX10_key_31 : decode cX10_key 31 = .ok (.getfield 16, 3) := by decide +kernel
theorem dX10_key_34 : decode cX10_key 34 = .ok (.getfield 271, 3) := by decide +kernel
theorem dX10_key_37 : decode cX10_key 37 = .ok (.if_icmp .lt 10, 3) := by decide +kernel
theorem dX10_key_40 : decode cX10_key 40 = .ok (.aload_n 0, 1) := by decide +kernel
theorem dX10_key_41 : decode cX10_key 41 = .ok (.iconst 1, 1) := by decide +kernel
theorem dX10_key_42 : decode cX10_key 42 = .ok (.invokevirtual 88, 3) := by decide +kernel
theorem dX10_key_45 : decode cX10_key 45 = .ok (.i2l, 1) := by decide +kernel
theorem dX10_key_46 : decode cX10_key 46 = .ok (.lreturn, 1) := by decide +kernel
theorem dX10_key_47 : decode cX10_key 47 = .ok (.iload_n 3, 1) := by decide +kernel
theorem dX10_key_48 : decode cX10_key 48 = .ok (.invokestatic 248, 3) := by decide +kernel
theorem dX10_key_51 : decode cX10_key 51 = .ok (.ifCond .ne 10, 3) := by decide +kernel
theorem dX10_key_54 : decode cX10_key 54 = .ok (.aload_n 0, 1) := by decide +kernel
theorem dX10_key_55 : decode cX10_key 55 = .ok (.iconst 2, 1) := by decide +kernel
theorem dX10_key_56 : decode cX10_key 56 = .ok (.invokevirtual 88, 3) := by decide +kernel
theorem dX10_key_59 : decode cX10_key 59 = .ok (.i2l, 1) := by decide +kernel
theorem dX10_key_60 : decode cX10_key 60 = .ok (.lreturn, 1) := by decide +kernel
theorem dX10_key_61 : decode cX10_key 61 = .ok (.aload_n 0, 1) := by decide +kernel
theorem dX10_key_62 : decode cX10_key 62 = .ok (.getfield 67, 3) := by decide +kernel
theorem dX10_key_65 : decode cX10_key 65 = .ok (.iload_n 3, 1) := by decide +kernel
theorem dX10_key_66 : decode cX10_key 66 = .ok (.invokevirtual 255, 3) := by decide +kernel
theorem dX10_key_69 : decode cX10_key 69 = .ok (.aload_n 0, 1) := by decide +kernel
theorem dX10_key_70 : decode cX10_key 70 = .ok (.getfield 67, 3) := by decide +kernel
theorem dX10_key_73 : decode cX10_key 73 = .ok (.iload_n 1, 1) := by decide +kernel
theorem dX10_key_74 : decode cX10_key 74 = .ok (.iload_n 2, 1) := by decide +kernel
theorem dX10_key_75 : decode cX10_key 75 = .ok (.invokevirtual 274, 3) := by decide +kernel
theorem dX10_key_78 : decode cX10_key 78 = .ok (.aload_n 0, 1) := by decide +kernel
theorem dX10_key_79 : decode cX10_key 79 = .ok (.iconst 0, 1) := by decide +kernel
theorem dX10_key_80 : decode cX10_key 80 = .ok (.putfield 71, 3) := by decide +kernel
theorem dX10_key_83 : decode cX10_key 83 = .ok (.aload_n 0, 1) := by decide +kernel
theorem dX10_key_84 : decode cX10_key 84 = .ok (.getfield 67, 3) := by decide +kernel
theorem dX10_key_87 : decode cX10_key 87 = .ok (.iload_n 1, 1) := by decide +kernel
theorem dX10_key_88 : decode cX10_key 88 = .ok (.iload_n 2, 1) := by decide +kernel
theorem dX10_key_89 : decode cX10_key 89 = .ok (.iload 4, 2) := by decide +kernel
theorem dX10_key_91 : decode cX10_key 91 = .ok (.invokevirtual 277, 3) := by decide +kernel
theorem dX10_key_94 : decode cX10_key 94 = .ok (.lreturn, 1) := by decide +kernel
theorem dX10_rank_0 : decode cX10_rank 0 = .ok (.aload_n 0, 1) := by decide +kernel
theorem dX10_rank_1 : decode cX10_rank 1 = .ok (.getfield 16, 3) := by decide +kernel
theorem dX10_rank_4 : decode cX10_rank 4 = .ok (.iload_n 1, 1) := by decide +kernel
theorem dX10_rank_5 : decode cX10_rank 5 = .ok (.invokevirtual 164, 3) := by decide +kernel
theorem dX10_rank_8 : decode cX10_rank 8 = .ok (.ifCond .eq 15, 3) := by decide +kernel
theorem dX10_rank_11 : decode cX10_rank 11 = .ok (.aload_n 0, 1) := by decide +kernel
theorem dX10_rank_12 : decode cX10_rank 12 = .ok (.getfield 37, 3) := by decide +kernel
theorem dX10_rank_15 : decode cX10_rank 15 = .ok (.iload_n 1, 1) := by decide +kernel
theorem dX10_rank_16 : decode cX10_rank 16 = .ok (.iload_n 2, 1) := by decide +kernel
theorem dX10_rank_17 : decode cX10_rank 17 = .ok (.invokevirtual 268, 3) := by decide +kernel
theorem dX10_rank_20 : decode cX10_rank 20 = .ok (.ifCond .ne 9, 3) := by decide +kernel
theorem dX10_rank_23 : decode cX10_rank 23 = .ok (.aload_n 0, 1) := by decide +kernel
theorem dX10_rank_24 : decode cX10_rank 24 = .ok (.iconst 1, 1) := by decide +kernel
theorem dX10_rank_25 : decode cX10_rank 25 = .ok (.invokevirtual 88, 3) := by decide +kernel
theorem dX10_rank_28 : decode cX10_rank 28 = .ok (.ireturn, 1) := by decide +kernel
theorem dX10_rank_29 : decode cX10_rank 29 = .ok (.iload_n 3, 1) := by decide +kernel
theorem dX10_rank_30 : decode cX10_rank 30 = .ok (.invokestatic 248, 3) := by decide +kernel
theorem dX10_rank_33 : decode cX10_rank 33 = .ok (.ifCond .ne 9, 3) := by decide +kernel
theorem dX10_rank_36 : decode cX10_rank 36 = .ok (.aload_n 0, 1) := by decide +kernel
theorem dX10_rank_37 : decode cX10_rank 37 = .ok (.iconst 2, 1) := by decide +kernel
theorem dX10_rank_38 : decode cX10_rank 38 = .ok (.invokevirtual 88, 3) := by decide +kernel
theorem dX10_rank_41 : decode cX10_rank 41 = .ok (.ireturn, 1) := by decide +kernel
theorem dX10_rank_42 : decode cX10_rank 42 = .ok (.aload_n 0, 1) := by decide +kernel
theorem dX10_rank_43 : decode cX10_rank 43 = .ok (.getfield 67, 3) := by decide +kernel
theorem dX10_rank_46 : decode cX10_rank 46 = .ok (.iload_n 1, 1) := by decide +kernel
theorem dX10_rank_47 : decode cX10_rank 47 = .ok (.iload_n 3, 1) := by decide +kernel
theorem dX10_rank_48 : decode cX10_rank 48 = .ok (.invokevirtual 281, 3) := by decide +kernel
theorem dX10_rank_51 : decode cX10_rank 51 = .ok (.aload_n 0, 1) := by decide +kernel
theorem dX10_rank_52 : decode cX10_rank 52 = .ok (.aload_n 0, 1) := by decide +kernel
theorem dX10_rank_53 : decode cX10_rank 53 = .ok (.getfield 67, 3) := by decide +kernel
theorem dX10_rank_56 : decode cX10_rank 56 = .ok (.getfield 284, 3) := by decide +kernel
theorem dX10_rank_59 : decode cX10_rank 59 = .ok (.iload_n 2, 1) := by decide +kernel
theorem dX10_rank_60 : decode cX10_rank 60 = .ok (.iaload, 1) := by decide +kernel
theorem dX10_rank_61 : decode cX10_rank 61 = .ok (.invokevirtual 120, 3) := by decide +kernel
theorem dX10_rank_64 : decode cX10_rank 64 = .ok (.ireturn, 1) := by decide +kernel
theorem dX10_advance_0 : decode cX10_advance 0 = .ok (.iload_n 1, 1) := by decide +kernel
theorem dX10_advance_1 : decode cX10_advance 1 = .ok (.iconst 1, 1) := by decide +kernel
theorem dX10_advance_2 : decode cX10_advance 2 = .ok (.if_icmp .lt 16, 3) := by decide +kernel
theorem dX10_advance_5 : decode cX10_advance 5 = .ok (.iload_n 1, 1) := by decide +kernel
theorem dX10_advance_6 : decode cX10_advance 6 = .ok (.bipush 16, 2) := by decide +kernel
theorem dX10_advance_8 : decode cX10_advance 8 = .ok (.if_icmp .gt 10, 3) := by decide +kernel
theorem dX10_advance_11 : decode cX10_advance 11 = .ok (.iload_n 2, 1) := by decide +kernel
theorem dX10_advance_12 : decode cX10_advance 12 = .ok (.invokestatic 248, 3) := by decide +kernel
theorem dX10_advance_15 : decode cX10_advance 15 = .ok (.ifCond .ne 9, 3) := by decide +kernel
theorem dX10_advance_18 : decode cX10_advance 18 = .ok (.aload_n 0, 1) := by decide +kernel
theorem dX10_advance_19 : decode cX10_advance 19 = .ok (.iconst 2, 1) := by decide +kernel
theorem dX10_advance_20 : decode cX10_advance 20 = .ok (.invokevirtual 88, 3) := by decide +kernel
theorem dX10_advance_23 : decode cX10_advance 23 = .ok (.ireturn, 1) := by decide +kernel
theorem dX10_advance_24 : decode cX10_advance 24 = .ok (.aload_n 0, 1) := by decide +kernel
theorem dX10_advance_25 : decode cX10_advance 25 = .ok (.getfield 44, 3) := by decide +kernel
theorem dX10_advance_28 : decode cX10_advance 28 = .ok (.invokevirtual 287, 3) := by decide +kernel
theorem dX10_advance_31 : decode cX10_advance 31 = .ok (.ifCond .eq 9, 3) := by decide +kernel
theorem dX10_advance_34 : decode cX10_advance 34 = .ok (.aload_n 0, 1) := by decide +kernel
theorem dX10_advance_35 : decode cX10_advance 35 = .ok (.iconst 5, 1) := by decide +kernel
theorem dX10_advance_36 : decode cX10_advance 36 = .ok (.invokevirtual 88, 3) := by decide +kernel
theorem dX10_advance_39 : decode cX10_advance 39 = .ok (.ireturn, 1) := by decide +kernel
theorem dX10_advance_40 : decode cX10_advance 40 = .ok (.aload_n 0, 1) := by decide +kernel
theorem dX10_advance_41 : decode cX10_advance 41 = .ok (.getfield 37, 3) := by decide +kernel
theorem dX10_advance_44 : decode cX10_advance 44 = .ok (.getfield 123, 3) := by decide +kernel
theorem dX10_advance_47 : decode cX10_advance 47 = .ok (.ifCond .eq 22, 3) := by decide +kernel
theorem dX10_advance_50 : decode cX10_advance 50 = .ok (.aload_n 0, 1) := by decide +kernel
theorem dX10_advance_51 : decode cX10_advance 51 = .ok (.getfield 37, 3) := by decide +kernel
theorem dX10_advance_54 : decode cX10_advance 54 = .ok (.getfield 129, 3) := by decide +kernel
theorem dX10_advance_57 : decode cX10_advance 57 = .ok (.iconst 1, 1) := by decide +kernel
theorem dX10_advance_58 : decode cX10_advance 58 = .ok (.iadd, 1) := by decide +kernel
theorem dX10_advance_59 : decode cX10_advance 59 = .ok (.aload_n 0, 1) := by decide +kernel
theorem dX10_advance_60 : decode cX10_advance 60 = .ok (.getfield 16, 3) := by decide +kernel
theorem dX10_advance_63 : decode cX10_advance 63 = .ok (.getfield 117, 3) := by decide +kernel
theorem dX10_advance_66 : decode cX10_advance 66 = .ok (.if_icmp .lt 10, 3) := by decide +kernel
theorem dX10_advance_69 : decode cX10_advance 69 = .ok (.aload_n 0, 1) := by decide +kernel
theorem dX10_advance_70 : decode cX10_advance 70 = .ok (.bipush 10, 2) := by decide +kernel
theorem dX10_advance_72 : decode cX10_advance 72 = .ok (.invokevirtual 88, 3) := by decide +kernel
theorem dX10_advance_75 : decode cX10_advance 75 = .ok (.ireturn, 1) := by decide +kernel
theorem dX10_advance_76 : decode cX10_advance 76 = .ok (.aload_n 0, 1) := by decide +kernel
theorem dX10_advance_77 : decode cX10_advance 77 = .ok (.getfield 67, 3) := by decide +kernel
theorem dX10_advance_80 : decode cX10_advance 80 = .ok (.aload_n 0, 1) := by decide +kernel
theorem dX10_advance_81 : decode cX10_advance 81 = .ok (.getfield 37, 3) := by decide +kernel
theorem dX10_advance_84 : decode cX10_advance 84 = .ok (.getfield 129, 3) := by decide +kernel
theorem dX10_advance_87 : decode cX10_advance 87 = .ok (.iload_n 2, 1) := by decide +kernel
theorem dX10_advance_88 : decode cX10_advance 88 = .ok (.invokevirtual 281, 3) := by decide +kernel
theorem dX10_advance_91 : decode cX10_advance 91 = .ok (.aload_n 0, 1) := by decide +kernel
theorem dX10_advance_92 : decode cX10_advance 92 = .ok (.getfield 37, 3) := by decide +kernel
theorem dX10_advance_95 : decode cX10_advance 95 = .ok (.aload_n 0, 1) := by decide +kernel
theorem dX10_advance_96 : decode cX10_advance 96 = .ok (.getfield 67, 3) := by decide +kernel
theorem dX10_advance_99 : decode cX10_advance 99 = .ok (.getfield 284, 3) := by decide +kernel
theorem dX10_advance_102 : decode cX10_advance 102 = .ok (.iload_n 1, 1) := by decide +kernel
theorem dX10_advance_103 : decode cX10_advance 103 = .ok (.iload_n 2, 1) := by decide +kernel
theorem dX10_advance_104 : decode cX10_advance 104 = .ok (.invokevirtual 290, 3) := by decide +kernel
theorem dX10_advance_107 : decode cX10_advance 107 = .ok (.istore_n 3, 1) := by decide +kernel
theorem dX10_advance_108 : decode cX10_advance 108 = .ok (.aload_n 0, 1) := by decide +kernel
theorem dX10_advance_109 : decode cX10_advance 109 = .ok (.getfield 58, 3) := by decide +kernel
theorem dX10_advance_112 : decode cX10_advance 112 = .ok (.invokevirtual 113, 3) := by decide +kernel
theorem dX10_advance_115 : decode cX10_advance 115 = .ok (.aload_n 0, 1) := by decide +kernel
theorem dX10_advance_116 : decode cX10_advance 116 = .ok (.iload_n 3, 1) := by decide +kernel
theorem dX10_advance_117 : decode cX10_advance 117 = .ok (.invokevirtual 120, 3) := by decide +kernel
theorem dX10_advance_120 : decode cX10_advance 120 = .ok (.ireturn, 1) := by decide +kernel
theorem dX10_order_0 : decode cX10_order 0 = .ok (.aload_n 0, 1) := by decide +kernel
theorem dX10_order_1 : decode cX10_order 1 = .ok (.getfield 16, 3) := by decide +kernel
theorem dX10_order_4 : decode cX10_order 4 = .ok (.iload_n 1, 1) := by decide +kernel
theorem dX10_order_5 : decode cX10_order 5 = .ok (.invokevirtual 164, 3) := by decide +kernel
theorem dX10_order_8 : decode cX10_order 8 = .ok (.ifCond .eq 19, 3) := by decide +kernel
theorem dX10_order_11 : decode cX10_order 11 = .ok (.iload_n 2, 1) := by decide +kernel
theorem dX10_order_12 : decode cX10_order 12 = .ok (.ifCond .lt 15, 3) := by decide +kernel
theorem dX10_order_15 : decode cX10_order 15 = .ok (.iload_n 2, 1) := by decide +kernel
theorem dX10_order_16 : decode cX10_order 16 = .ok (.aload_n 0, 1) := by decide +kernel
theorem dX10_order_17 : decode cX10_order 17 = .ok (.getfield 37, 3) := by decide +kernel
theorem dX10_order_20 : decode cX10_order 20 = .ok (.iload_n 1, 1) := by decide +kernel
theorem dX10_order_21 : decode cX10_order 21 = .ok (.invokevirtual 167, 3) := by decide +kernel
theorem dX10_order_24 : decode cX10_order 24 = .ok (.if_icmp .lt 9, 3) := by decide +kernel
theorem dX10_order_27 : decode cX10_order 27 = .ok (.aload_n 0, 1) := by decide +kernel
theorem dX10_order_28 : decode cX10_order 28 = .ok (.iconst 1, 1) := by decide +kernel
theorem dX10_order_29 : decode cX10_order 29 = .ok (.invokevirtual 88, 3) := by decide +kernel
theorem dX10_order_32 : decode cX10_order 32 = .ok (.ireturn, 1) := by decide +kernel
theorem dX10_order_33 : decode cX10_order 33 = .ok (.iload_n 1, 1) := by decide +kernel
theorem dX10_order_34 : decode cX10_order 34 = .ok (.ifCond .ne 9, 3) := by decide +kernel
theorem dX10_order_37 : decode cX10_order 37 = .ok (.aload_n 0, 1) := by decide +kernel
theorem dX10_order_38 : decode cX10_order 38 = .ok (.iload_n 2, 1) := by decide +kernel
theorem dX10_order_39 : decode cX10_order 39 = .ok (.invokevirtual 120, 3) := by decide +kernel
theorem dX10_order_42 : decode cX10_order 42 = .ok (.ireturn, 1) := by decide +kernel
theorem dX10_order_43 : decode cX10_order 43 = .ok (.aload_n 0, 1) := by decide +kernel
theorem dX10_order_44 : decode cX10_order 44 = .ok (.getfield 67, 3) := by decide +kernel
theorem dX10_order_47 : decode cX10_order 47 = .ok (.iload_n 1, 1) := by decide +kernel
theorem dX10_order_48 : decode cX10_order 48 = .ok (.iconst 1, 1) := by decide +kernel
theorem dX10_order_49 : decode cX10_order 49 = .ok (.isub, 1) := by decide +kernel
theorem dX10_order_50 : decode cX10_order 50 = .ok (.aload_n 0, 1) := by decide +kernel
theorem dX10_order_51 : decode cX10_order 51 = .ok (.getfield 37, 3) := by decide +kernel
theorem dX10_order_54 : decode cX10_order 54 = .ok (.iload_n 1, 1) := by decide +kernel
theorem dX10_order_55 : decode cX10_order 55 = .ok (.invokevirtual 294, 3) := by decide +kernel
theorem dX10_order_58 : decode cX10_order 58 = .ok (.invokevirtual 281, 3) := by decide +kernel
theorem dX10_order_61 : decode cX10_order 61 = .ok (.aload_n 0, 1) := by decide +kernel
theorem dX10_order_62 : decode cX10_order 62 = .ok (.aload_n 0, 1) := by decide +kernel
theorem dX10_order_63 : decode cX10_order 63 = .ok (.getfield 67, 3) := by decide +kernel
theorem dX10_order_66 : decode cX10_order 66 = .ok (.iload_n 1, 1) := by decide +kernel
theorem dX10_order_67 : decode cX10_order 67 = .ok (.iload_n 2, 1) := by decide +kernel
theorem dX10_order_68 : decode cX10_order 68 = .ok (.invokevirtual 297, 3) := by decide +kernel
theorem dX10_order_71 : decode cX10_order 71 = .ok (.invokevirtual 120, 3) := by decide +kernel
theorem dX10_order_74 : decode cX10_order 74 = .ok (.ireturn, 1) := by decide +kernel
theorem dX10_parts_0 : decode cX10_parts 0 = .ok (.aload_n 0, 1) := by decide +kernel
theorem dX10_parts_1 : decode cX10_parts 1 = .ok (.getfield 16, 3) := by decide +kernel
theorem dX10_parts_4 : decode cX10_parts 4 = .ok (.iload_n 1, 1) := by decide +kernel
theorem dX10_parts_5 : decode cX10_parts 5 = .ok (.invokevirtual 164, 3) := by decide +kernel
theorem dX10_parts_8 : decode cX10_parts 8 = .ok (.ifCond .ne 9, 3) := by decide +kernel
theorem dX10_parts_11 : decode cX10_parts 11 = .ok (.aload_n 0, 1) := by decide +kernel
theorem dX10_parts_12 : decode cX10_parts 12 = .ok (.iconst 1, 1) := by decide +kernel
theorem dX10_parts_13 : decode cX10_parts 13 = .ok (.invokevirtual 88, 3) := by decide +kernel
theorem dX10_parts_16 : decode cX10_parts 16 = .ok (.ireturn, 1) := by decide +kernel
theorem dX10_parts_17 : decode cX10_parts 17 = .ok (.iload_n 2, 1) := by decide +kernel
theorem dX10_parts_18 : decode cX10_parts 18 = .ok (.ifCond .lt 25, 3) := by decide +kernel
theorem dX10_parts_21 : decode cX10_parts 21 = .ok (.iload_n 2, 1) := by decide +kernel
theorem dX10_parts_22 : decode cX10_parts 22 = .ok (.iconst 1, 1) := by decide +kernel
theorem dX10_parts_23 : decode cX10_parts 23 = .ok (.aload_n 0, 1) := by decide +kernel
theorem dX10_parts_24 : decode cX10_parts 24 = .ok (.getfield 16, 3) := by decide +kernel
theorem dX10_parts_27 : decode cX10_parts 27 = .ok (.iload_n 1, 1) := by decide +kernel
theorem dX10_parts_28 : decode cX10_parts 28 = .ok (.iconst 0, 1) := by decide +kernel
theorem dX10_parts_29 : decode cX10_parts 29 = .ok (.invokevirtual 170, 3) := by decide +kernel
theorem dX10_parts_32 : decode cX10_parts 32 = .ok (.ishl, 1) := by decide +kernel
theorem dX10_parts_33 : decode cX10_parts 33 = .ok (.if_icmp .ge 10, 3) := by decide +kernel
theorem dX10_parts_36 : decode cX10_parts 36 = .ok (.iload_n 3, 1) := by decide +kernel
theorem dX10_parts_37 : decode cX10_parts 37 = .ok (.invokestatic 248, 3) := by decide +kernel
theorem dX10_parts_40 : decode cX10_parts 40 = .ok (.ifCond .ne 9, 3) := by decide +kernel
theorem dX10_parts_43 : decode cX10_parts 43 = .ok (.aload_n 0, 1) := by decide +kernel
theorem dX10_parts_44 : decode cX10_parts 44 = .ok (.iconst 2, 1) := by decide +kernel
theorem dX10_parts_45 : decode cX10_parts 45 = .ok (.invokevirtual 88, 3) := by decide +kernel
theorem dX10_parts_48 : decode cX10_parts 48 = .ok (.ireturn, 1) := by decide +kernel
theorem dX10_parts_49 : decode cX10_parts 49 = .ok (.aload_n 0, 1) := by decide +kernel
theorem dX10_parts_50 : decode cX10_parts 50 = .ok (.getfield 67, 3) := by decide +kernel
theorem dX10_parts_53 : decode cX10_parts 53 = .ok (.iload_n 1, 1) := by decide +kernel
theorem dX10_parts_54 : decode cX10_parts 54 = .ok (.iload_n 3, 1) := by decide +kernel
theorem dX10_parts_55 : decode cX10_parts 55 = .ok (.invokevirtual 300, 3) := by decide +kernel
theorem dX10_parts_58 : decode cX10_parts 58 = .ok (.aload_n 0, 1) := by decide +kernel
theorem dX10_parts_59 : decode cX10_parts 59 = .ok (.aload_n 0, 1) := by decide +kernel
theorem dX10_parts_60 : decode cX10_parts 60 = .ok (.getfield 67, 3) := by decide +kernel
theorem dX10_parts_63 : decode cX10_parts 63 = .ok (.iload_n 1, 1) := by decide +kernel
theorem dX10_parts_64 : decode cX10_parts 64 = .ok (.iload_n 2, 1) := by decide +kernel
theorem dX10_parts_65 : decode cX10_parts 65 = .ok (.invokevirtual 303, 3) := by decide +kernel
theorem dX10_parts_68 : decode cX10_parts 68 = .ok (.invokevirtual 120, 3) := by decide +kernel
theorem dX10_parts_71 : decode cX10_parts 71 = .ok (.ireturn, 1) := by decide +kernel
theorem dX10_choose_0 : decode cX10_choose 0 = .ok (.aload_n 0, 1) := by decide +kernel
theorem dX10_choose_1 : decode cX10_choose 1 = .ok (.getfield 16, 3) := by decide +kernel
theorem dX10_choose_4 : decode cX10_choose 4 = .ok (.iload_n 1, 1) := by decide +kernel
theorem dX10_choose_5 : decode cX10_choose 5 = .ok (.invokevirtual 164, 3) := by decide +kernel
theorem dX10_choose_8 : decode cX10_choose 8 = .ok (.ifCond .ne 9, 3) := by decide +kernel
theorem dX10_choose_11 : decode cX10_choose 11 = .ok (.aload_n 0, 1) := by decide +kernel
theorem dX10_choose_12 : decode cX10_choose 12 = .ok (.iconst 1, 1) := by decide +kernel
theorem dX10_choose_13 : decode cX10_choose 13 = .ok (.invokevirtual 88, 3) := by decide +kernel
theorem dX10_choose_16 : decode cX10_choose 16 = .ok (.ireturn, 1) := by decide +kernel
theorem dX10_choose_17 : decode cX10_choose 17 = .ok (.aload_n 0, 1) := by decide +kernel
theorem dX10_choose_18 : decode cX10_choose 18 = .ok (.getfield 16, 3) := by decide +kernel
theorem dX10_choose_21 : decode cX10_choose 21 = .ok (.iload_n 1, 1) := by decide +kernel
theorem dX10_choose_22 : decode cX10_choose 22 = .ok (.iconst 0, 1) := by decide +kernel
theorem dX10_choose_23 : decode cX10_choose 23 = .ok (.invokevirtual 170, 3) := by decide +kernel
theorem dX10_choose_26 : decode cX10_choose 26 = .ok (.istore 4, 2) := by decide +kernel
theorem dX10_choose_28 : decode cX10_choose 28 = .ok (.iload_n 2, 1) := by decide +kernel
theorem dX10_choose_29 : decode cX10_choose 29 = .ok (.iconst 1, 1) := by decide +kernel
theorem dX10_choose_30 : decode cX10_choose 30 = .ok (.if_icmp .lt 16, 3) := by decide +kernel
theorem dX10_choose_33 : decode cX10_choose 33 = .ok (.iload_n 2, 1) := by decide +kernel
theorem dX10_choose_34 : decode cX10_choose 34 = .ok (.iload 4, 2) := by decide +kernel
theorem dX10_choose_36 : decode cX10_choose 36 = .ok (.if_icmp .gt 10, 3) := by decide +kernel
theorem dX10_choose_39 : decode cX10_choose 39 = .ok (.iload_n 3, 1) := by decide +kernel
theorem dX10_choose_40 : decode cX10_choose 40 = .ok (.invokestatic 248, 3) := by decide +kernel
theorem dX10_choose_43 : decode cX10_choose 43 = .ok (.ifCond .ne 9, 3) := by decide +kernel
theorem dX10_choose_46 : decode cX10_choose 46 = .ok (.aload_n 0, 1) := by decide +kernel
theorem dX10_choose_47 : decode cX10_choose 47 = .ok (.iconst 2, 1) := by decide +kernel
theorem dX10_choose_48 : decode cX10_choose 48 = .ok (.invokevirtual 88, 3) := by decide +kernel
theorem dX10_choose_51 : decode cX10_choose 51 = .ok (.ireturn, 1) := by decide +kernel
theorem dX10_choose_52 : decode cX10_choose 52 = .ok (.aload_n 0, 1) := by decide +kernel
theorem dX10_choose_53 : decode cX10_choose 53 = .ok (.getfield 67, 3) := by decide +kernel
theorem dX10_choose_56 : decode cX10_choose 56 = .ok (.iload_n 1, 1) := by decide +kernel
theorem dX10_choose_57 : decode cX10_choose 57 = .ok (.iload_n 3, 1) := by decide +kernel
theorem dX10_choose_58 : decode cX10_choose 58 = .ok (.invokevirtual 300, 3) := by decide +kernel
theorem dX10_choose_61 : decode cX10_choose 61 = .ok (.aload_n 0, 1) := by decide +kernel
theorem dX10_choose_62 : decode cX10_choose 62 = .ok (.aload_n 0, 1) := by decide +kernel
theorem dX10_choose_63 : decode cX10_choose 63 = .ok (.getfield 67, 3) := by decide +kernel
theorem dX10_choose_66 : decode cX10_choose 66 = .ok (.iload_n 1, 1) := by decide +kernel
theorem dX10_choose_67 : decode cX10_choose 67 = .ok (.iload 4, 2) := by decide +kernel
theorem dX10_choose_69 : decode cX10_choose 69 = .ok (.iload_n 2, 1) := by decide +kernel
theorem dX10_choose_70 : decode cX10_choose 70 = .ok (.invokevirtual 306, 3) := by decide +kernel
theorem dX10_choose_73 : decode cX10_choose 73 = .ok (.invokevirtual 120, 3) := by decide +kernel
theorem dX10_choose_76 : decode cX10_choose 76 = .ok (.ireturn, 1) := by decide +kernel
theorem dX10_refuse_0 : decode cX10_refuse 0 = .ok (.aload_n 0, 1) := by decide +kernel
theorem dX10_refuse_1 : decode cX10_refuse 1 = .ok (.iload_n 1, 1) := by decide +kernel
theorem dX10_refuse_2 : decode cX10_refuse 2 = .ok (.putfield 71, 3) := by decide +kernel
theorem dX10_refuse_5 : decode cX10_refuse 5 = .ok (.iconst (-1), 1) := by decide +kernel
theorem dX10_refuse_6 : decode cX10_refuse 6 = .ok (.ireturn, 1) := by decide +kernel
theorem dX10_answer_0 : decode cX10_answer 0 = .ok (.aload_n 0, 1) := by decide +kernel
theorem dX10_answer_1 : decode cX10_answer 1 = .ok (.iconst 0, 1) := by decide +kernel
theorem dX10_answer_2 : decode cX10_answer 2 = .ok (.putfield 71, 3) := by decide +kernel
theorem dX10_answer_5 : decode cX10_answer 5 = .ok (.iload_n 1, 1) := by decide +kernel
theorem dX10_answer_6 : decode cX10_answer 6 = .ok (.ireturn, 1) := by decide +kernel
theorem dX10_deny_0 : decode cX10_deny 0 = .ok (.aload_n 0, 1) := by decide +kernel
theorem dX10_deny_1 : decode cX10_deny 1 = .ok (.iload_n 1, 1) := by decide +kernel
theorem dX10_deny_2 : decode cX10_deny 2 = .ok (.putfield 71, 3) := by decide +kernel
theorem dX10_deny_5 : decode cX10_deny 5 = .ok (.iconst 0, 1) := by decide +kernel
theorem dX10_deny_6 : decode cX10_deny 6 = .ok (.ireturn, 1) := by decide +kernel
theorem dX10_grant_0 : decode cX10_grant 0 = .ok (.aload_n 0, 1) := by decide +kernel
theorem dX10_grant_1 : decode cX10_grant 1 = .ok (.iconst 0, 1) := by decide +kernel
theorem dX10_grant_2 : decode cX10_grant 2 = .ok (.putfield 71, 3) := by decide +kernel
theorem dX10_grant_5 : decode cX10_grant 5 = .ok (.iconst 1, 1) := by decide +kernel
theorem dX10_grant_6 : decode cX10_grant 6 = .ok (.ireturn, 1) := by decide +kernel
theorem dX10_isDay_0 : decode cX10_isDay 0 = .ok (.iload_n 0, 1) := by decide +kernel
theorem dX10_isDay_1 : decode cX10_isDay 1 = .ok (.ifCond .lt 14, 3) := by decide +kernel
theorem dX10_isDay_4 : decode cX10_isDay 4 = .ok (.iload_n 0, 1) := by decide +kernel
theorem dX10_isDay_5 : decode cX10_isDay 5 = .ok (.sipush 999, 3) := by decide +kernel
theorem dX10_isDay_8 : decode cX10_isDay 8 = .ok (.if_icmp .gt 7, 3) := by decide +kernel
theorem dX10_isDay_11 : decode cX10_isDay 11 = .ok (.iconst 1, 1) := by decide +kernel
theorem dX10_isDay_12 : decode cX10_isDay 12 = .ok (.goto 4, 3) := by decide +kernel
theorem dX10_isDay_15 : decode cX10_isDay 15 = .ok (.iconst 0, 1) := by decide +kernel
theorem dX10_isDay_16 : decode cX10_isDay 16 = .ok (.ireturn, 1) := by decide +kernel
theorem dX10_putOnTape_0 : decode cX10_putOnTape 0 = .ok (.bipush 24, 2) := by decide +kernel
theorem dX10_putOnTape_2 : decode cX10_putOnTape 2 = .ok (.istore_n 2, 1) := by decide +kernel
theorem dX10_putOnTape_3 : decode cX10_putOnTape 3 = .ok (.iload_n 2, 1) := by decide +kernel
theorem dX10_putOnTape_4 : decode cX10_putOnTape 4 = .ok (.ifCond .lt 45, 3) := by decide +kernel
theorem dX10_putOnTape_7 : decode cX10_putOnTape 7 = .ok (.aload_n 0, 1) := by decide +kernel
theorem dX10_putOnTape_8 : decode cX10_putOnTape 8 = .ok (.getfield 81, 3) := by decide +kernel
theorem dX10_putOnTape_11 : decode cX10_putOnTape 11 = .ok (.sipush 700, 3) := by decide +kernel
theorem dX10_putOnTape_14 : decode cX10_putOnTape 14 = .ok (.if_icmp .ge 29, 3) := by decide +kernel
theorem dX10_putOnTape_17 : decode cX10_putOnTape 17 = .ok (.aload_n 0, 1) := by decide +kernel
theorem dX10_putOnTape_18 : decode cX10_putOnTape 18 = .ok (.getfield 9, 3) := by decide +kernel
theorem dX10_putOnTape_21 : decode cX10_putOnTape 21 = .ok (.aload_n 0, 1) := by decide +kernel
theorem dX10_putOnTape_22 : decode cX10_putOnTape 22 = .ok (.getfield 81, 3) := by decide +kernel
theorem dX10_putOnTape_25 : decode cX10_putOnTape 25 = .ok (.iload_n 1, 1) := by decide +kernel
theorem dX10_putOnTape_26 : decode cX10_putOnTape 26 = .ok (.iload_n 2, 1) := by decide +kernel
theorem dX10_putOnTape_27 : decode cX10_putOnTape 27 = .ok (.iushr, 1) := by decide +kernel
theorem dX10_putOnTape_28 : decode cX10_putOnTape 28 = .ok (.sipush 255, 3) := by decide +kernel
theorem dX10_putOnTape_31 : decode cX10_putOnTape 31 = .ok (.iand, 1) := by decide +kernel
theorem dX10_putOnTape_32 : decode cX10_putOnTape 32 = .ok (.iastore, 1) := by decide +kernel
theorem dX10_putOnTape_33 : decode cX10_putOnTape 33 = .ok (.aload_n 0, 1) := by decide +kernel
theorem dX10_putOnTape_34 : decode cX10_putOnTape 34 = .ok (.dup, 1) := by decide +kernel
theorem dX10_putOnTape_35 : decode cX10_putOnTape 35 = .ok (.getfield 81, 3) := by decide +kernel
theorem dX10_putOnTape_38 : decode cX10_putOnTape 38 = .ok (.iconst 1, 1) := by decide +kernel
theorem dX10_putOnTape_39 : decode cX10_putOnTape 39 = .ok (.iadd, 1) := by decide +kernel
theorem dX10_putOnTape_40 : decode cX10_putOnTape 40 = .ok (.putfield 81, 3) := by decide +kernel
theorem dX10_putOnTape_43 : decode cX10_putOnTape 43 = .ok (.iinc 2 (-8), 3) := by decide +kernel
theorem dX10_putOnTape_46 : decode cX10_putOnTape 46 = .ok (.goto (-43), 3) := by decide +kernel
theorem dX10_putOnTape_49 : decode cX10_putOnTape 49 = .ok (.return_, 1) := by decide +kernel
theorem dX10_passTo_0 : decode cX10_passTo 0 = .ok (.iload_n 1, 1) := by decide +kernel
theorem dX10_passTo_1 : decode cX10_passTo 1 = .ok (.ifCond .lt 10, 3) := by decide +kernel
theorem dX10_passTo_4 : decode cX10_passTo 4 = .ok (.iload_n 1, 1) := by decide +kernel
theorem dX10_passTo_5 : decode cX10_passTo 5 = .ok (.ldc_w 313, 3) := by decide +kernel
theorem dX10_passTo_8 : decode cX10_passTo 8 = .ok (.if_icmp .le 5, 3) := by decide +kernel
theorem dX10_passTo_11 : decode cX10_passTo 11 = .ok (.iconst 2, 1) := by decide +kernel
theorem dX10_passTo_12 : decode cX10_passTo 12 = .ok (.ireturn, 1) := by decide +kernel
theorem dX10_passTo_13 : decode cX10_passTo 13 = .ok (.iload_n 1, 1) := by decide +kernel
theorem dX10_passTo_14 : decode cX10_passTo 14 = .ok (.aload_n 0, 1) := by decide +kernel
theorem dX10_passTo_15 : decode cX10_passTo 15 = .ok (.getfield 114, 3) := by decide +kernel
theorem dX10_passTo_18 : decode cX10_passTo 18 = .ok (.if_icmp .ge 6, 3) := by decide +kernel
theorem dX10_passTo_21 : decode cX10_passTo 21 = .ok (.bipush 9, 2) := by decide +kernel
theorem dX10_passTo_23 : decode cX10_passTo 23 = .ok (.ireturn, 1) := by decide +kernel
theorem dX10_passTo_24 : decode cX10_passTo 24 = .ok (.aload_n 0, 1) := by decide +kernel
theorem dX10_passTo_25 : decode cX10_passTo 25 = .ok (.iload_n 1, 1) := by decide +kernel
theorem dX10_passTo_26 : decode cX10_passTo 26 = .ok (.putfield 114, 3) := by decide +kernel
theorem dX10_passTo_29 : decode cX10_passTo 29 = .ok (.aload_n 0, 1) := by decide +kernel
theorem dX10_passTo_30 : decode cX10_passTo 30 = .ok (.getfield 44, 3) := by decide +kernel
theorem dX10_passTo_33 : decode cX10_passTo 33 = .ok (.iload_n 1, 1) := by decide +kernel
theorem dX10_passTo_34 : decode cX10_passTo 34 = .ok (.aload_n 0, 1) := by decide +kernel
theorem dX10_passTo_35 : decode cX10_passTo 35 = .ok (.getfield 16, 3) := by decide +kernel
theorem dX10_passTo_38 : decode cX10_passTo 38 = .ok (.aload_n 0, 1) := by decide +kernel
theorem dX10_passTo_39 : decode cX10_passTo 39 = .ok (.getfield 37, 3) := by decide +kernel
theorem dX10_passTo_42 : decode cX10_passTo 42 = .ok (.getfield 129, 3) := by decide +kernel
theorem dX10_passTo_45 : decode cX10_passTo 45 = .ok (.iconst 2, 1) := by decide +kernel
theorem dX10_passTo_46 : decode cX10_passTo 46 = .ok (.invokevirtual 170, 3) := by decide +kernel
theorem dX10_passTo_49 : decode cX10_passTo 49 = .ok (.invokevirtual 314, 3) := by decide +kernel
theorem dX10_passTo_52 : decode cX10_passTo 52 = .ok (.iconst 0, 1) := by decide +kernel
theorem dX10_passTo_53 : decode cX10_passTo 53 = .ok (.ireturn, 1) := by decide +kernel
