theorem dX1_read_0 : decode cX1_read 0 = .ok (.aload_n 2, 1) := by decide +kernel
theorem dX1_read_1 : decode cX1_read 1 = .ok (.iconst 0, 1) := by decide +kernel
theorem dX1_read_2 : decode cX1_read 2 = .ok (.putfield 15, 3) := by decide +kernel
theorem dX1_read_5 : decode cX1_read 5 = .ok (.aload_n 0, 1) := by decide +kernel
theorem dX1_read_6 : decode cX1_read 6 = .ok (.iconst 0, 1) := by decide +kernel
theorem dX1_read_7 : decode cX1_read 7 = .ok (.putfield 21, 3) := by decide +kernel
theorem dX1_read_10 : decode cX1_read 10 = .ok (.aload_n 0, 1) := by decide +kernel
theorem dX1_read_11 : decode cX1_read 11 = .ok (.iconst 0, 1) := by decide +kernel
theorem dX1_read_12 : decode cX1_read 12 = .ok (.putfield 24, 3) := by decide +kernel
theorem dX1_read_15 : decode cX1_read 15 = .ok (.aload_n 0, 1) := by decide +kernel
theorem dX1_read_16 : decode cX1_read 16 = .ok (.iconst 0, 1) := by decide +kernel
theorem dX1_read_17 : decode cX1_read 17 = .ok (.putfield 27, 3) := by decide +kernel
theorem dX1_read_20 : decode cX1_read 20 = .ok (.aload_n 0, 1) := by decide +kernel
theorem dX1_read_21 : decode cX1_read 21 = .ok (.iconst 0, 1) := by decide +kernel
theorem dX1_read_22 : decode cX1_read 22 = .ok (.putfield 30, 3) := by decide +kernel
theorem dX1_read_25 : decode cX1_read 25 = .ok (.aload_n 0, 1) := by decide +kernel
theorem dX1_read_26 : decode cX1_read 26 = .ok (.iconst 0, 1) := by decide +kernel
theorem dX1_read_27 : decode cX1_read 27 = .ok (.putfield 31, 3) := by decide +kernel
theorem dX1_read_30 : decode cX1_read 30 = .ok (.iconst 0, 1) := by decide +kernel
theorem dX1_read_31 : decode cX1_read 31 = .ok (.istore_n 3, 1) := by decide +kernel
theorem dX1_read_32 : decode cX1_read 32 = .ok (.iconst 0, 1) := by decide +kernel
theorem dX1_read_33 : decode cX1_read 33 = .ok (.istore 4, 2) := by decide +kernel
theorem dX1_read_35 : decode cX1_read 35 = .ok (.iload 4, 2) := by decide +kernel
theorem dX1_read_37 : decode cX1_read 37 = .ok (.sipush 700, 3) := by decide +kernel
theorem dX1_read_40 : decode cX1_read 40 = .ok (.if_icmp .gt 79, 3) := by decide +kernel
theorem dX1_read_43 : decode cX1_read 43 = .ok (.aload_n 0, 1) := by decide +kernel
theorem dX1_read_44 : decode cX1_read 44 = .ok (.getfield 31, 3) := by decide +kernel
theorem dX1_read_47 : decode cX1_read 47 = .ok (.ifCond .ne 72, 3) := by decide +kernel
theorem dX1_read_50 : decode cX1_read 50 = .ok (.iload_n 3, 1) := by decide +kernel
theorem dX1_read_51 : decode cX1_read 51 = .ok (.ifCond .eq 28, 3) := by decide +kernel
theorem dX1_read_54 : decode cX1_read 54 = .ok (.aload_n 1, 1) := by decide +kernel
theorem dX1_read_55 : decode cX1_read 55 = .ok (.invokevirtual 34, 3) := by decide +kernel
theorem dX1_read_58 : decode cX1_read 58 = .ok (.bipush 59, 2) := by decide +kernel
theorem dX1_read_60 : decode cX1_read 60 = .ok (.if_icmp .ne 19, 3) := by decide +kernel
theorem dX1_read_63 : decode cX1_read 63 = .ok (.aload_n 0, 1) := by decide +kernel
theorem dX1_read_64 : decode cX1_read 64 = .ok (.getfield 27, 3) := by decide +kernel
theorem dX1_read_67 : decode cX1_read 67 = .ok (.ifCond .ne 12, 3) := by decide +kernel
theorem dX1_read_70 : decode cX1_read 70 = .ok (.aload_n 0, 1) := by decide +kernel
theorem dX1_read_71 : decode cX1_read 71 = .ok (.bipush 7, 2) := by decide +kernel
theorem dX1_read_73 : decode cX1_read 73 = .ok (.aload_n 2, 1) := by decide +kernel
theorem dX1_read_74 : decode cX1_read 74 = .ok (.invokevirtual 40, 3) := by decide +kernel
theorem dX1_read_77 : decode cX1_read 77 = .ok (.iconst 0, 1) := by decide +kernel
theorem dX1_read_78 : decode cX1_read 78 = .ok (.ireturn, 1) := by decide +kernel
theorem dX1_read_79 : decode cX1_read 79 = .ok (.iload_n 3, 1) := by decide +kernel
theorem dX1_read_80 : decode cX1_read 80 = .ok (.ifCond .eq 15, 3) := by decide +kernel
theorem dX1_read_83 : decode cX1_read 83 = .ok (.aload_n 0, 1) := by decide +kernel
theorem dX1_read_84 : decode cX1_read 84 = .ok (.aload_n 1, 1) := by decide +kernel
theorem dX1_read_85 : decode cX1_read 85 = .ok (.invokevirtual 34, 3) := by decide +kernel
theorem dX1_read_88 : decode cX1_read 88 = .ok (.aload_n 2, 1) := by decide +kernel
theorem dX1_read_89 : decode cX1_read 89 = .ok (.invokevirtual 44, 3) := by decide +kernel
theorem dX1_read_92 : decode cX1_read 92 = .ok (.goto 9, 3) := by decide +kernel
theorem dX1_read_95 : decode cX1_read 95 = .ok (.aload_n 0, 1) := by decide +kernel
theorem dX1_read_96 : decode cX1_read 96 = .ok (.aload_n 1, 1) := by decide +kernel
theorem dX1_read_97 : decode cX1_read 97 = .ok (.aload_n 2, 1) := by decide +kernel
theorem dX1_read_98 : decode cX1_read 98 = .ok (.invokevirtual 48, 3) := by decide +kernel
theorem dX1_read_101 : decode cX1_read 101 = .ok (.istore_n 3, 1) := by decide +kernel
theorem dX1_read_102 : decode cX1_read 102 = .ok (.aload_n 0, 1) := by decide +kernel
theorem dX1_read_103 : decode cX1_read 103 = .ok (.getfield 31, 3) := by decide +kernel
theorem dX1_read_106 : decode cX1_read 106 = .ok (.ifCond .ne 7, 3) := by decide +kernel
theorem dX1_read_109 : decode cX1_read 109 = .ok (.aload_n 1, 1) := by decide +kernel
theorem dX1_read_110 : decode cX1_read 110 = .ok (.invokevirtual 52, 3) := by decide +kernel
theorem dX1_read_113 : decode cX1_read 113 = .ok (.iinc 4 1, 3) := by decide +kernel
theorem dX1_read_116 : decode cX1_read 116 = .ok (.goto (-81), 3) := by decide +kernel
theorem dX1_read_119 : decode cX1_read 119 = .ok (.aload_n 0, 1) := by decide +kernel
theorem dX1_read_120 : decode cX1_read 120 = .ok (.getfield 31, 3) := by decide +kernel
theorem dX1_read_123 : decode cX1_read 123 = .ok (.ireturn, 1) := by decide +kernel
theorem dX1_readFactor_0 : decode cX1_readFactor 0 = .ok (.aload_n 1, 1) := by decide +kernel
theorem dX1_readFactor_1 : decode cX1_readFactor 1 = .ok (.invokevirtual 34, 3) := by decide +kernel
theorem dX1_readFactor_4 : decode cX1_readFactor 4 = .ok (.istore_n 3, 1) := by decide +kernel
theorem dX1_readFactor_5 : decode cX1_readFactor 5 = .ok (.iload_n 3, 1) := by decide +kernel
theorem dX1_readFactor_6 : decode cX1_readFactor 6 = .ok (.sipush 272, 3) := by decide +kernel
theorem dX1_readFactor_9 : decode cX1_readFactor 9 = .ok (.isub, 1) := by decide +kernel
theorem dX1_readFactor_10 : decode cX1_readFactor 10 = .ok (.istore 4, 2) := by decide +kernel
theorem dX1_readFactor_12 : decode cX1_readFactor 12 = .ok (.iload_n 3, 1) := by decide +kernel
theorem dX1_readFactor_13 : decode cX1_readFactor 13 = .ok (.sipush 258, 3) := by decide +kernel
theorem dX1_readFactor_16 : decode cX1_readFactor 16 = .ok (.if_icmp .eq 15, 3) := by decide +kernel
theorem dX1_readFactor_19 : decode cX1_readFactor 19 = .ok (.iload 4, 2) := by decide +kernel
theorem dX1_readFactor_21 : decode cX1_readFactor 21 = .ok (.ifCond .lt 43, 3) := by decide +kernel
theorem dX1_readFactor_24 : decode cX1_readFactor 24 = .ok (.iload 4, 2) := by decide +kernel
theorem dX1_readFactor_26 : decode cX1_readFactor 26 = .ok (.bipush 6, 2) := by decide +kernel
theorem dX1_readFactor_28 : decode cX1_readFactor 28 = .ok (.if_icmp .ge 36, 3) := by decide +kernel
theorem dX1_readFactor_31 : decode cX1_readFactor 31 = .ok (.aload_n 0, 1) := by decide +kernel
theorem dX1_readFactor_32 : decode cX1_readFactor 32 = .ok (.invokevirtual 55, 3) := by decide +kernel
theorem dX1_readFactor_35 : decode cX1_readFactor 35 = .ok (.aload_n 2, 1) := by decide +kernel
theorem dX1_readFactor_36 : decode cX1_readFactor 36 = .ok (.iload_n 3, 1) := by decide +kernel
theorem dX1_readFactor_37 : decode cX1_readFactor 37 = .ok (.sipush 258, 3) := by decide +kernel
theorem dX1_readFactor_40 : decode cX1_readFactor 40 = .ok (.if_icmp .ne 8, 3) := by decide +kernel
theorem dX1_readFactor_43 : decode cX1_readFactor 43 = .ok (.bipush 6, 2) := by decide +kernel
theorem dX1_readFactor_45 : decode cX1_readFactor 45 = .ok (.goto 5, 3) := by decide +kernel
theorem dX1_readFactor_48 : decode cX1_readFactor 48 = .ok (.iload 4, 2) := by decide +kernel
theorem dX1_readFactor_50 : decode cX1_readFactor 50 = .ok (.aload_n 1, 1) := by decide +kernel
theorem dX1_readFactor_51 : decode cX1_readFactor 51 = .ok (.invokevirtual 58, 3) := by decide +kernel
theorem dX1_readFactor_54 : decode cX1_readFactor 54 = .ok (.invokevirtual 61, 3) := by decide +kernel
theorem dX1_readFactor_57 : decode cX1_readFactor 57 = .ok (.aload_n 0, 1) := by decide +kernel
theorem dX1_readFactor_58 : decode cX1_readFactor 58 = .ok (.aload_n 2, 1) := by decide +kernel
theorem dX1_readFactor_59 : decode cX1_readFactor 59 = .ok (.invokevirtual 65, 3) := by decide +kernel
theorem dX1_readFactor_62 : decode cX1_readFactor 62 = .ok (.iconst 1, 1) := by decide +kernel
theorem dX1_readFactor_63 : decode cX1_readFactor 63 = .ok (.ireturn, 1) := by decide +kernel
theorem dX1_readFactor_64 : decode cX1_readFactor 64 = .ok (.iload_n 3, 1) := by decide +kernel
theorem dX1_readFactor_65 : decode cX1_readFactor 65 = .ok (.bipush 40, 2) := by decide +kernel
theorem dX1_readFactor_67 : decode cX1_readFactor 67 = .ok (.if_icmp .ne 22, 3) := by decide +kernel
theorem dX1_readFactor_70 : decode cX1_readFactor 70 = .ok (.aload_n 0, 1) := by decide +kernel
theorem dX1_readFactor_71 : decode cX1_readFactor 71 = .ok (.bipush 11, 2) := by decide +kernel
theorem dX1_readFactor_73 : decode cX1_readFactor 73 = .ok (.invokevirtual 69, 3) := by decide +kernel
theorem dX1_readFactor_76 : decode cX1_readFactor 76 = .ok (.aload_n 0, 1) := by decide +kernel
theorem dX1_readFactor_77 : decode cX1_readFactor 77 = .ok (.dup, 1) := by decide +kernel
theorem dX1_readFactor_78 : decode cX1_readFactor 78 = .ok (.getfield 27, 3) := by decide +kernel
theorem dX1_readFactor_81 : decode cX1_readFactor 81 = .ok (.iconst 1, 1) := by decide +kernel
theorem dX1_readFactor_82 : decode cX1_readFactor 82 = .ok (.iadd, 1) := by decide +kernel
theorem dX1_readFactor_83 : decode cX1_readFactor 83 = .ok (.putfield 27, 3) := by decide +kernel
theorem dX1_readFactor_86 : decode cX1_readFactor 86 = .ok (.goto 27, 3) := by decide +kernel
theorem dX1_readFactor_89 : decode cX1_readFactor 89 = .ok (.iload_n 3, 1) := by decide +kernel
theorem dX1_readFactor_90 : decode cX1_readFactor 90 = .ok (.bipush 45, 2) := by decide +kernel
theorem dX1_readFactor_92 : decode cX1_readFactor 92 = .ok (.if_icmp .ne 16, 3) := by decide +kernel
theorem dX1_readFactor_95 : decode cX1_readFactor 95 = .ok (.aload_n 0, 1) := by decide +kernel
theorem dX1_readFactor_96 : decode cX1_readFactor 96 = .ok (.invokevirtual 55, 3) := by decide +kernel
theorem dX1_readFactor_99 : decode cX1_readFactor 99 = .ok (.aload_n 0, 1) := by decide +kernel
theorem dX1_readFactor_100 : decode cX1_readFactor 100 = .ok (.bipush 10, 2) := by decide +kernel
theorem dX1_readFactor_102 : decode cX1_readFactor 102 = .ok (.invokevirtual 69, 3) := by decide +kernel
theorem dX1_readFactor_105 : decode cX1_readFactor 105 = .ok (.goto 8, 3) := by decide +kernel
theorem dX1_readFactor_108 : decode cX1_readFactor 108 = .ok (.aload_n 0, 1) := by decide +kernel
theorem dX1_readFactor_109 : decode cX1_readFactor 109 = .ok (.iload_n 3, 1) := by decide +kernel
theorem dX1_readFactor_110 : decode cX1_readFactor 110 = .ok (.invokevirtual 73, 3) := by decide +kernel
theorem dX1_readFactor_113 : decode cX1_readFactor 113 = .ok (.iconst 0, 1) := by decide +kernel
theorem dX1_readFactor_114 : decode cX1_readFactor 114 = .ok (.ireturn, 1) := by decide +kernel
theorem dX1_readBehindFactor_0 : decode cX1_readBehindFactor 0 = .ok (.iload_n 1, 1) := by decide +kernel
theorem dX1_readBehindFactor_1 : decode cX1_readBehindFactor 1 = .ok (.tableswitch 69 41 45 #[62, 53, 35, 69, 44], 35) := by decide +kernel
theorem dX1_readBehindFactor_36 : decode cX1_readBehindFactor 36 = .ok (.aload_n 0, 1) := by decide +kernel
theorem dX1_readBehindFactor_37 : decode cX1_readBehindFactor 37 = .ok (.bipush 7, 2) := by decide +kernel
theorem dX1_readBehindFactor_39 : decode cX1_readBehindFactor 39 = .ok (.aload_n 2, 1) := by decide +kernel
theorem dX1_readBehindFactor_40 : decode cX1_readBehindFactor 40 = .ok (.invokevirtual 76, 3) := by decide +kernel
theorem dX1_readBehindFactor_43 : decode cX1_readBehindFactor 43 = .ok (.iconst 0, 1) := by decide +kernel
theorem dX1_readBehindFactor_44 : decode cX1_readBehindFactor 44 = .ok (.ireturn, 1) := by decide +kernel
theorem dX1_readBehindFactor_45 : decode cX1_readBehindFactor 45 = .ok (.aload_n 0, 1) := by decide +kernel
theorem dX1_readBehindFactor_46 : decode cX1_readBehindFactor 46 = .ok (.bipush 8, 2) := by decide +kernel
theorem dX1_readBehindFactor_48 : decode cX1_readBehindFactor 48 = .ok (.aload_n 2, 1) := by decide +kernel
theorem dX1_readBehindFactor_49 : decode cX1_readBehindFactor 49 = .ok (.invokevirtual 76, 3) := by decide +kernel
theorem dX1_readBehindFactor_52 : decode cX1_readBehindFactor 52 = .ok (.iconst 0, 1) := by decide +kernel
theorem dX1_readBehindFactor_53 : decode cX1_readBehindFactor 53 = .ok (.ireturn, 1) := by decide +kernel
theorem dX1_readBehindFactor_54 : decode cX1_readBehindFactor 54 = .ok (.aload_n 0, 1) := by decide +kernel
theorem dX1_readBehindFactor_55 : decode cX1_readBehindFactor 55 = .ok (.bipush 9, 2) := by decide +kernel
theorem dX1_readBehindFactor_57 : decode cX1_readBehindFactor 57 = .ok (.aload_n 2, 1) := by decide +kernel
theorem dX1_readBehindFactor_58 : decode cX1_readBehindFactor 58 = .ok (.invokevirtual 76, 3) := by decide +kernel
theorem dX1_readBehindFactor_61 : decode cX1_readBehindFactor 61 = .ok (.iconst 0, 1) := by decide +kernel
theorem dX1_readBehindFactor_62 : decode cX1_readBehindFactor 62 = .ok (.ireturn, 1) := by decide +kernel
theorem dX1_readBehindFactor_63 : decode cX1_readBehindFactor 63 = .ok (.aload_n 0, 1) := by decide +kernel
theorem dX1_readBehindFactor_64 : decode cX1_readBehindFactor 64 = .ok (.aload_n 2, 1) := by decide +kernel
theorem dX1_readBehindFactor_65 : decode cX1_readBehindFactor 65 = .ok (.invokevirtual 79, 3) := by decide +kernel
theorem dX1_readBehindFactor_68 : decode cX1_readBehindFactor 68 = .ok (.iconst 1, 1) := by decide +kernel
theorem dX1_readBehindFactor_69 : decode cX1_readBehindFactor 69 = .ok (.ireturn, 1) := by decide +kernel
theorem dX1_readBehindFactor_70 : decode cX1_readBehindFactor 70 = .ok (.aload_n 0, 1) := by decide +kernel
theorem dX1_readBehindFactor_71 : decode cX1_readBehindFactor 71 = .ok (.iload_n 1, 1) := by decide +kernel
theorem dX1_readBehindFactor_72 : decode cX1_readBehindFactor 72 = .ok (.invokevirtual 73, 3) := by decide +kernel
theorem dX1_readBehindFactor_75 : decode cX1_readBehindFactor 75 = .ok (.iconst 1, 1) := by decide +kernel
theorem dX1_readBehindFactor_76 : decode cX1_readBehindFactor 76 = .ok (.ireturn, 1) := by decide +kernel
theorem dX1_refuseToken_0 : decode cX1_refuseToken 0 = .ok (.aload_n 0, 1) := by decide +kernel
theorem dX1_refuseToken_1 : decode cX1_refuseToken 1 = .ok (.iload_n 1, 1) := by decide +kernel
theorem dX1_refuseToken_2 : decode cX1_refuseToken 2 = .ok (.sipush 257, 3) := by decide +kernel
theorem dX1_refuseToken_5 : decode cX1_refuseToken 5 = .ok (.if_icmp .ne 7, 3) := by decide +kernel
theorem dX1_refuseToken_8 : decode cX1_refuseToken 8 = .ok (.iconst 1, 1) := by decide +kernel
theorem dX1_refuseToken_9 : decode cX1_refuseToken 9 = .ok (.goto 4, 3) := by decide +kernel
theorem dX1_refuseToken_12 : decode cX1_refuseToken 12 = .ok (.iconst 2, 1) := by decide +kernel
theorem dX1_refuseToken_13 : decode cX1_refuseToken 13 = .ok (.putfield 31, 3) := by decide +kernel
theorem dX1_refuseToken_16 : decode cX1_refuseToken 16 = .ok (.return_, 1) := by decide +kernel
theorem dX1_countItem_0 : decode cX1_countItem 0 = .ok (.aload_n 0, 1) := by decide +kernel
theorem dX1_countItem_1 : decode cX1_countItem 1 = .ok (.dup, 1) := by decide +kernel
theorem dX1_countItem_2 : decode cX1_countItem 2 = .ok (.getfield 30, 3) := by decide +kernel
theorem dX1_countItem_5 : decode cX1_countItem 5 = .ok (.iconst 1, 1) := by decide +kernel
theorem dX1_countItem_6 : decode cX1_countItem 6 = .ok (.iadd, 1) := by decide +kernel
theorem dX1_countItem_7 : decode cX1_countItem 7 = .ok (.putfield 30, 3) := by decide +kernel
theorem dX1_countItem_10 : decode cX1_countItem 10 = .ok (.aload_n 0, 1) := by decide +kernel
theorem dX1_countItem_11 : decode cX1_countItem 11 = .ok (.getfield 30, 3) := by decide +kernel
theorem dX1_countItem_14 : decode cX1_countItem 14 = .ok (.bipush 40, 2) := by decide +kernel
theorem dX1_countItem_16 : decode cX1_countItem 16 = .ok (.if_icmp .le 8, 3) := by decide +kernel
theorem dX1_countItem_19 : decode cX1_countItem 19 = .ok (.aload_n 0, 1) := by decide +kernel
theorem dX1_countItem_20 : decode cX1_countItem 20 = .ok (.iconst 3, 1) := by decide +kernel
theorem dX1_countItem_21 : decode cX1_countItem 21 = .ok (.putfield 31, 3) := by decide +kernel
theorem dX1_countItem_24 : decode cX1_countItem 24 = .ok (.return_, 1) := by decide +kernel
theorem dX1_nest_0 : decode cX1_nest 0 = .ok (.aload_n 0, 1) := by decide +kernel
theorem dX1_nest_1 : decode cX1_nest 1 = .ok (.dup, 1) := by decide +kernel
theorem dX1_nest_2 : decode cX1_nest 2 = .ok (.getfield 24, 3) := by decide +kernel
theorem dX1_nest_5 : decode cX1_nest 5 = .ok (.iconst 1, 1) := by decide +kernel
theorem dX1_nest_6 : decode cX1_nest 6 = .ok (.iadd, 1) := by decide +kernel
theorem dX1_nest_7 : decode cX1_nest 7 = .ok (.putfield 24, 3) := by decide +kernel
theorem dX1_nest_10 : decode cX1_nest 10 = .ok (.aload_n 0, 1) := by decide +kernel
theorem dX1_nest_11 : decode cX1_nest 11 = .ok (.getfield 24, 3) := by decide +kernel
theorem dX1_nest_14 : decode cX1_nest 14 = .ok (.bipush 8, 2) := by decide +kernel
theorem dX1_nest_16 : decode cX1_nest 16 = .ok (.if_icmp .le 8, 3) := by decide +kernel
theorem dX1_nest_19 : decode cX1_nest 19 = .ok (.aload_n 0, 1) := by decide +kernel
theorem dX1_nest_20 : decode cX1_nest 20 = .ok (.iconst 3, 1) := by decide +kernel
theorem dX1_nest_21 : decode cX1_nest 21 = .ok (.putfield 31, 3) := by decide +kernel
theorem dX1_nest_24 : decode cX1_nest 24 = .ok (.aload_n 0, 1) := by decide +kernel
theorem dX1_nest_25 : decode cX1_nest 25 = .ok (.iload_n 1, 1) := by decide +kernel
theorem dX1_nest_26 : decode cX1_nest 26 = .ok (.invokevirtual 82, 3) := by decide +kernel
theorem dX1_nest_29 : decode cX1_nest 29 = .ok (.return_, 1) := by decide +kernel
theorem dX1_await_0 : decode cX1_await 0 = .ok (.aload_n 0, 1) := by decide +kernel
theorem dX1_await_1 : decode cX1_await 1 = .ok (.getfield 21, 3) := by decide +kernel
theorem dX1_await_4 : decode cX1_await 4 = .ok (.aload_n 0, 1) := by decide +kernel
theorem dX1_await_5 : decode cX1_await 5 = .ok (.getfield 9, 3) := by decide +kernel
theorem dX1_await_8 : decode cX1_await 8 = .ok (.arraylength, 1) := by decide +kernel
theorem dX1_await_9 : decode cX1_await 9 = .ok (.if_icmp .ge 23, 3) := by decide +kernel
theorem dX1_await_12 : decode cX1_await 12 = .ok (.aload_n 0, 1) := by decide +kernel
theorem dX1_await_13 : decode cX1_await 13 = .ok (.getfield 9, 3) := by decide +kernel
theorem dX1_await_16 : decode cX1_await 16 = .ok (.aload_n 0, 1) := by decide +kernel
theorem dX1_await_17 : decode cX1_await 17 = .ok (.getfield 21, 3) := by decide +kernel
theorem dX1_await_20 : decode cX1_await 20 = .ok (.iload_n 1, 1) := by decide +kernel
theorem dX1_await_21 : decode cX1_await 21 = .ok (.iastore, 1) := by decide +kernel
theorem dX1_await_22 : decode cX1_await 22 = .ok (.aload_n 0, 1) := by decide +kernel
theorem dX1_await_23 : decode cX1_await 23 = .ok (.dup, 1) := by decide +kernel
theorem dX1_await_24 : decode cX1_await 24 = .ok (.getfield 21, 3) := by decide +kernel
theorem dX1_await_27 : decode cX1_await 27 = .ok (.iconst 1, 1) := by decide +kernel
theorem dX1_await_28 : decode cX1_await 28 = .ok (.iadd, 1) := by decide +kernel
theorem dX1_await_29 : decode cX1_await 29 = .ok (.putfield 21, 3) := by decide +kernel
theorem dX1_await_32 : decode cX1_await 32 = .ok (.return_, 1) := by decide +kernel
theorem dX1_putSign_0 : decode cX1_putSign 0 = .ok (.aload_n 0, 1) := by decide +kernel
theorem dX1_putSign_1 : decode cX1_putSign 1 = .ok (.invokevirtual 55, 3) := by decide +kernel
theorem dX1_putSign_4 : decode cX1_putSign 4 = .ok (.aload_n 0, 1) := by decide +kernel
theorem dX1_putSign_5 : decode cX1_putSign 5 = .ok (.iload_n 1, 1) := by decide +kernel
theorem dX1_putSign_6 : decode cX1_putSign 6 = .ok (.aload_n 2, 1) := by decide +kernel
theorem dX1_putSign_7 : decode cX1_putSign 7 = .ok (.invokevirtual 40, 3) := by decide +kernel
theorem dX1_putSign_10 : decode cX1_putSign 10 = .ok (.aload_n 0, 1) := by decide +kernel
theorem dX1_putSign_11 : decode cX1_putSign 11 = .ok (.iload_n 1, 1) := by decide +kernel
theorem dX1_putSign_12 : decode cX1_putSign 12 = .ok (.invokevirtual 82, 3) := by decide +kernel
theorem dX1_putSign_15 : decode cX1_putSign 15 = .ok (.return_, 1) := by decide +kernel
theorem dX1_closeParen_0 : decode cX1_closeParen 0 = .ok (.aload_n 0, 1) := by decide +kernel
theorem dX1_closeParen_1 : decode cX1_closeParen 1 = .ok (.getfield 27, 3) := by decide +kernel
theorem dX1_closeParen_4 : decode cX1_closeParen 4 = .ok (.ifCond .ne 10, 3) := by decide +kernel
theorem dX1_closeParen_7 : decode cX1_closeParen 7 = .ok (.aload_n 0, 1) := by decide +kernel
theorem dX1_closeParen_8 : decode cX1_closeParen 8 = .ok (.bipush 41, 2) := by decide +kernel
theorem dX1_closeParen_10 : decode cX1_closeParen 10 = .ok (.invokevirtual 73, 3) := by decide +kernel
theorem dX1_closeParen_13 : decode cX1_closeParen 13 = .ok (.return_, 1) := by decide +kernel
theorem dX1_closeParen_14 : decode cX1_closeParen 14 = .ok (.aload_n 0, 1) := by decide +kernel
theorem dX1_closeParen_15 : decode cX1_closeParen 15 = .ok (.bipush 7, 2) := by decide +kernel
theorem dX1_closeParen_17 : decode cX1_closeParen 17 = .ok (.aload_n 1, 1) := by decide +kernel
theorem dX1_closeParen_18 : decode cX1_closeParen 18 = .ok (.invokevirtual 40, 3) := by decide +kernel
theorem dX1_closeParen_21 : decode cX1_closeParen 21 = .ok (.aload_n 0, 1) := by decide +kernel
theorem dX1_closeParen_22 : decode cX1_closeParen 22 = .ok (.iconst 0, 1) := by decide +kernel
theorem dX1_closeParen_23 : decode cX1_closeParen 23 = .ok (.aload_n 0, 1) := by decide +kernel
theorem dX1_closeParen_24 : decode cX1_closeParen 24 = .ok (.getfield 21, 3) := by decide +kernel
theorem dX1_closeParen_27 : decode cX1_closeParen 27 = .ok (.iconst 1, 1) := by decide +kernel
theorem dX1_closeParen_28 : decode cX1_closeParen 28 = .ok (.isub, 1) := by decide +kernel
theorem dX1_closeParen_29 : decode cX1_closeParen 29 = .ok (.invokestatic 85, 3) := by decide +kernel
theorem dX1_closeParen_32 : decode cX1_closeParen 32 = .ok (.putfield 21, 3) := by decide +kernel
theorem dX1_closeParen_35 : decode cX1_closeParen 35 = .ok (.aload_n 0, 1) := by decide +kernel
theorem dX1_closeParen_36 : decode cX1_closeParen 36 = .ok (.dup, 1) := by decide +kernel
theorem dX1_closeParen_37 : decode cX1_closeParen 37 = .ok (.getfield 27, 3) := by decide +kernel
theorem dX1_closeParen_40 : decode cX1_closeParen 40 = .ok (.iconst 1, 1) := by decide +kernel
theorem dX1_closeParen_41 : decode cX1_closeParen 41 = .ok (.isub, 1) := by decide +kernel
theorem dX1_closeParen_42 : decode cX1_closeParen 42 = .ok (.putfield 27, 3) := by decide +kernel
theorem dX1_closeParen_45 : decode cX1_closeParen 45 = .ok (.aload_n 0, 1) := by decide +kernel
theorem dX1_closeParen_46 : decode cX1_closeParen 46 = .ok (.dup, 1) := by decide +kernel
theorem dX1_closeParen_47 : decode cX1_closeParen 47 = .ok (.getfield 24, 3) := by decide +kernel
theorem dX1_closeParen_50 : decode cX1_closeParen 50 = .ok (.iconst 1, 1) := by decide +kernel
theorem dX1_closeParen_51 : decode cX1_closeParen 51 = .ok (.isub, 1) := by decide +kernel
theorem dX1_closeParen_52 : decode cX1_closeParen 52 = .ok (.putfield 24, 3) := by decide +kernel
theorem dX1_closeParen_55 : decode cX1_closeParen 55 = .ok (.aload_n 0, 1) := by decide +kernel
theorem dX1_closeParen_56 : decode cX1_closeParen 56 = .ok (.aload_n 1, 1) := by decide +kernel
theorem dX1_closeParen_57 : decode cX1_closeParen 57 = .ok (.invokevirtual 65, 3) := by decide +kernel
theorem dX1_closeParen_60 : decode cX1_closeParen 60 = .ok (.return_, 1) := by decide +kernel
theorem dX1_releaseNegations_0 : decode cX1_releaseNegations 0 = .ok (.aload_n 0, 1) := by decide +kernel
theorem dX1_releaseNegations_1 : decode cX1_releaseNegations 1 = .ok (.getfield 21, 3) := by decide +kernel
theorem dX1_releaseNegations_4 : decode cX1_releaseNegations 4 = .ok (.ifCond .le 49, 3) := by decide +kernel
theorem dX1_releaseNegations_7 : decode cX1_releaseNegations 7 = .ok (.aload_n 0, 1) := by decide +kernel
theorem dX1_releaseNegations_8 : decode cX1_releaseNegations 8 = .ok (.getfield 9, 3) := by decide +kernel
theorem dX1_releaseNegations_11 : decode cX1_releaseNegations 11 = .ok (.aload_n 0, 1) := by decide +kernel
theorem dX1_releaseNegations_12 : decode cX1_releaseNegations 12 = .ok (.getfield 21, 3) := by decide +kernel
theorem dX1_releaseNegations_15 : decode cX1_releaseNegations 15 = .ok (.iconst 1, 1) := by decide +kernel
theorem dX1_releaseNegations_16 : decode cX1_releaseNegations 16 = .ok (.isub, 1) := by decide +kernel
theorem dX1_releaseNegations_17 : decode cX1_releaseNegations 17 = .ok (.iaload, 1) := by decide +kernel
theorem dX1_releaseNegations_18 : decode cX1_releaseNegations 18 = .ok (.bipush 10, 2) := by decide +kernel
theorem dX1_releaseNegations_20 : decode cX1_releaseNegations 20 = .ok (.if_icmp .ne 33, 3) := by decide +kernel
theorem dX1_releaseNegations_23 : decode cX1_releaseNegations 23 = .ok (.aload_n 0, 1) := by decide +kernel
theorem dX1_releaseNegations_24 : decode cX1_releaseNegations 24 = .ok (.dup, 1) := by decide +kernel
theorem dX1_releaseNegations_25 : decode cX1_releaseNegations 25 = .ok (.getfield 21, 3) := by decide +kernel
theorem dX1_releaseNegations_28 : decode cX1_releaseNegations 28 = .ok (.iconst 1, 1) := by decide +kernel
theorem dX1_releaseNegations_29 : decode cX1_releaseNegations 29 = .ok (.isub, 1) := by decide +kernel
theorem dX1_releaseNegations_30 : decode cX1_releaseNegations 30 = .ok (.putfield 21, 3) := by decide +kernel
theorem dX1_releaseNegations_33 : decode cX1_releaseNegations 33 = .ok (.aload_n 0, 1) := by decide +kernel
theorem dX1_releaseNegations_34 : decode cX1_releaseNegations 34 = .ok (.dup, 1) := by decide +kernel
theorem dX1_releaseNegations_35 : decode cX1_releaseNegations 35 = .ok (.getfield 24, 3) := by decide +kernel
theorem dX1_releaseNegations_38 : decode cX1_releaseNegations 38 = .ok (.iconst 1, 1) := by decide +kernel
theorem dX1_releaseNegations_39 : decode cX1_releaseNegations 39 = .ok (.isub, 1) := by decide +kernel
theorem dX1_releaseNegations_40 : decode cX1_releaseNegations 40 = .ok (.putfield 24, 3) := by decide +kernel
theorem dX1_releaseNegations_43 : decode cX1_releaseNegations 43 = .ok (.aload_n 1, 1) := by decide +kernel
theorem dX1_releaseNegations_44 : decode cX1_releaseNegations 44 = .ok (.bipush 10, 2) := by decide +kernel
theorem dX1_releaseNegations_46 : decode cX1_releaseNegations 46 = .ok (.iconst 0, 1) := by decide +kernel
theorem dX1_releaseNegations_47 : decode cX1_releaseNegations 47 = .ok (.invokevirtual 61, 3) := by decide +kernel
theorem dX1_releaseNegations_50 : decode cX1_releaseNegations 50 = .ok (.goto (-50), 3) := by decide +kernel
theorem dX1_releaseNegations_53 : decode cX1_releaseNegations 53 = .ok (.return_, 1) := by decide +kernel
theorem dX1_release_0 : decode cX1_release 0 = .ok (.aload_n 0, 1) := by decide +kernel
theorem dX1_release_1 : decode cX1_release 1 = .ok (.getfield 21, 3) := by decide +kernel
theorem dX1_release_4 : decode cX1_release 4 = .ok (.ifCond .le 68, 3) := by decide +kernel
theorem dX1_release_7 : decode cX1_release 7 = .ok (.aload_n 0, 1) := by decide +kernel
theorem dX1_release_8 : decode cX1_release 8 = .ok (.getfield 9, 3) := by decide +kernel
theorem dX1_release_11 : decode cX1_release 11 = .ok (.aload_n 0, 1) := by decide +kernel
theorem dX1_release_12 : decode cX1_release 12 = .ok (.getfield 21, 3) := by decide +kernel
theorem dX1_release_15 : decode cX1_release 15 = .ok (.iconst 1, 1) := by decide +kernel
theorem dX1_release_16 : decode cX1_release 16 = .ok (.isub, 1) := by decide +kernel
theorem dX1_release_17 : decode cX1_release 17 = .ok (.iaload, 1) := by decide +kernel
theorem dX1_release_18 : decode cX1_release 18 = .ok (.bipush 11, 2) := by decide +kernel
theorem dX1_release_20 : decode cX1_release 20 = .ok (.if_icmp .eq 52, 3) := by decide +kernel
theorem dX1_release_23 : decode cX1_release 23 = .ok (.iload_n 1, 1) := by decide +kernel
theorem dX1_release_24 : decode cX1_release 24 = .ok (.bipush 9, 2) := by decide +kernel
theorem dX1_release_26 : decode cX1_release 26 = .ok (.if_icmp .ne 19, 3) := by decide +kernel
theorem dX1_release_29 : decode cX1_release 29 = .ok (.aload_n 0, 1) := by decide +kernel
theorem dX1_release_30 : decode cX1_release 30 = .ok (.getfield 9, 3) := by decide +kernel
theorem dX1_release_33 : decode cX1_release 33 = .ok (.aload_n 0, 1) := by decide +kernel
theorem dX1_release_34 : decode cX1_release 34 = .ok (.getfield 21, 3) := by decide +kernel
theorem dX1_release_37 : decode cX1_release 37 = .ok (.iconst 1, 1) := by decide +kernel
theorem dX1_release_38 : decode cX1_release 38 = .ok (.isub, 1) := by decide +kernel
theorem dX1_release_39 : decode cX1_release 39 = .ok (.iaload, 1) := by decide +kernel
theorem dX1_release_40 : decode cX1_release 40 = .ok (.bipush 9, 2) := by decide +kernel
theorem dX1_release_42 : decode cX1_release 42 = .ok (.if_icmp .ne 30, 3) := by decide +kernel
theorem dX1_release_45 : decode cX1_release 45 = .ok (.aload_n 0, 1) := by decide +kernel
theorem dX1_release_46 : decode cX1_release 46 = .ok (.dup, 1) := by decide +kernel
theorem dX1_release_47 : decode cX1_release 47 = .ok (.getfield 21, 3) := by decide +kernel
theorem dX1_release_50 : decode cX1_release 50 = .ok (.iconst 1, 1) := by decide +kernel
theorem dX1_release_51 : decode cX1_release 51 = .ok (.isub, 1) := by decide +kernel
theorem dX1_release_52 : decode cX1_release 52 = .ok (.putfield 21, 3) := by decide +kernel
theorem dX1_release_55 : decode cX1_release 55 = .ok (.aload_n 2, 1) := by decide +kernel
theorem dX1_release_56 : decode cX1_release 56 = .ok (.aload_n 0, 1) := by decide +kernel
theorem dX1_release_57 : decode cX1_release 57 = .ok (.getfield 9, 3) := by decide +kernel
theorem dX1_release_60 : decode cX1_release 60 = .ok (.aload_n 0, 1) := by decide +kernel
theorem dX1_release_61 : decode cX1_release 61 = .ok (.getfield 21, 3) := by decide +kernel
theorem dX1_release_64 : decode cX1_release 64 = .ok (.iaload, 1) := by decide +kernel
theorem dX1_release_65 : decode cX1_release 65 = .ok (.iconst 0, 1) := by decide +kernel
theorem dX1_release_66 : decode cX1_release 66 = .ok (.invokevirtual 61, 3) := by decide +kernel
theorem dX1_release_69 : decode cX1_release 69 = .ok (.goto (-69), 3) := by decide +kernel
theorem dX1_release_72 : decode cX1_release 72 = .ok (.return_, 1) := by decide +kernel
theorem dX4_addItem_0 : decode cX4_addItem 0 = .ok (.aload_n 0, 1) := by decide +kernel
theorem dX4_addItem_1 : decode cX4_addItem 1 = .ok (.getfield 35, 3) := by decide +kernel
theorem dX4_addItem_4 : decode cX4_addItem 4 = .ok (.bipush 40, 2) := by decide +kernel
theorem dX4_addItem_6 : decode cX4_addItem 6 = .ok (.if_icmp .ge 33, 3) := by decide +kernel
theorem dX4_addItem_9 : decode cX4_addItem 9 = .ok (.aload_n 0, 1) := by decide +kernel
theorem dX4_addItem_10 : decode cX4_addItem 10 = .ok (.getfield 15, 3) := by decide +kernel
theorem dX4_addItem_13 : decode cX4_addItem 13 = .ok (.aload_n 0, 1) := by decide +kernel
theorem dX4_addItem_14 : decode cX4_addItem 14 = .ok (.getfield 35, 3) := by decide +kernel
theorem dX4_addItem_17 : decode cX4_addItem 17 = .ok (.iload_n 1, 1) := by decide +kernel
theorem dX4_addItem_18 : decode cX4_addItem 18 = .ok (.iastore, 1) := by decide +kernel
theorem dX4_addItem_19 : decode cX4_addItem 19 = .ok (.aload_n 0, 1) := by decide +kernel
theorem dX4_addItem_20 : decode cX4_addItem 20 = .ok (.getfield 18, 3) := by decide +kernel
theorem dX4_addItem_23 : decode cX4_addItem 23 = .ok (.aload_n 0, 1) := by decide +kernel
theorem dX4_addItem_24 : decode cX4_addItem 24 = .ok (.getfield 35, 3) := by decide +kernel
theorem dX4_addItem_27 : decode cX4_addItem 27 = .ok (.iload_n 2, 1) := by decide +kernel
theorem dX4_addItem_28 : decode cX4_addItem 28 = .ok (.iastore, 1) := by decide +kernel
theorem dX4_addItem_29 : decode cX4_addItem 29 = .ok (.aload_n 0, 1) := by decide +kernel
theorem dX4_addItem_30 : decode cX4_addItem 30 = .ok (.dup, 1) := by decide +kernel
theorem dX4_addItem_31 : decode cX4_addItem 31 = .ok (.getfield 35, 3) := by decide +kernel
theorem dX4_addItem_34 : decode cX4_addItem 34 = .ok (.iconst 1, 1) := by decide +kernel
theorem dX4_addItem_35 : decode cX4_addItem 35 = .ok (.iadd, 1) := by decide +kernel
theorem dX4_addItem_36 : decode cX4_addItem 36 = .ok (.putfield 35, 3) := by decide +kernel
theorem dX4_addItem_39 : decode cX4_addItem 39 = .ok (.return_, 1) := by decide +kernel
theorem dX6_kind_0 : decode cX6_kind 0 = .ok (.aload_n 0, 1) := by decide +kernel
theorem dX6_kind_1 : decode cX6_kind 1 = .ok (.getfield 9, 3) := by decide +kernel
theorem dX6_kind_4 : decode cX6_kind 4 = .ok (.aload_n 0, 1) := by decide +kernel
theorem dX6_kind_5 : decode cX6_kind 5 = .ok (.getfield 21, 3) := by decide +kernel
theorem dX6_kind_8 : decode cX6_kind 8 = .ok (.iaload, 1) := by decide +kernel
theorem dX6_kind_9 : decode cX6_kind 9 = .ok (.ireturn, 1) := by decide +kernel
theorem dX6_place_0 : decode cX6_place 0 = .ok (.aload_n 0, 1) := by decide +kernel
theorem dX6_place_1 : decode cX6_place 1 = .ok (.getfield 15, 3) := by decide +kernel
theorem dX6_place_4 : decode cX6_place 4 = .ok (.aload_n 0, 1) := by decide +kernel
theorem dX6_place_5 : decode cX6_place 5 = .ok (.getfield 21, 3) := by decide +kernel
theorem dX6_place_8 : decode cX6_place 8 = .ok (.iaload, 1) := by decide +kernel
theorem dX6_place_9 : decode cX6_place 9 = .ok (.ireturn, 1) := by decide +kernel
theorem dX6_value_0 : decode cX6_value 0 = .ok (.aload_n 0, 1) := by decide +kernel
theorem dX6_value_1 : decode cX6_value 1 = .ok (.getfield 18, 3) := by decide +kernel
theorem dX6_value_4 : decode cX6_value 4 = .ok (.aload_n 0, 1) := by decide +kernel
theorem dX6_value_5 : decode cX6_value 5 = .ok (.getfield 21, 3) := by decide +kernel
theorem dX6_value_8 : decode cX6_value 8 = .ok (.iaload, 1) := by decide +kernel
theorem dX6_value_9 : decode cX6_value 9 = .ok (.ireturn, 1) := by decide +kernel
theorem dX6_step_0 : decode cX6_step 0 = .ok (.aload_n 0, 1) := by decide +kernel
theorem dX6_step_1 : decode cX6_step 1 = .ok (.getfield 21, 3) := by decide +kernel
theorem dX6_step_4 : decode cX6_step 4 = .ok (.iconst 1, 1) := by decide +kernel
theorem dX6_step_5 : decode cX6_step 5 = .ok (.iadd, 1) := by decide +kernel
theorem dX6_step_6 : decode cX6_step 6 = .ok (.aload_n 0, 1) := by decide +kernel
theorem dX6_step_7 : decode cX6_step 7 = .ok (.getfield 25, 3) := by decide +kernel
theorem dX6_step_10 : decode cX6_step 10 = .ok (.if_icmp .ge 13, 3) := by decide +kernel
theorem dX6_step_13 : decode cX6_step 13 = .ok (.aload_n 0, 1) := by decide +kernel
theorem dX6_step_14 : decode cX6_step 14 = .ok (.dup, 1) := by decide +kernel
theorem dX6_step_15 : decode cX6_step 15 = .ok (.getfield 21, 3) := by decide +kernel
theorem dX6_step_18 : decode cX6_step 18 = .ok (.iconst 1, 1) := by decide +kernel
theorem dX6_step_19 : decode cX6_step 19 = .ok (.iadd, 1) := by decide +kernel
theorem dX6_step_20 : decode cX6_step 20 = .ok (.putfield 21, 3) := by decide +kernel
theorem dX6_step_23 : decode cX6_step 23 = .ok (.return_, 1) := by decide +kernel
