theorem dX3_note_0 : decode cX3_note 0 = .ok (.aload_n 0, 1) := by decide +kernel
theorem dX3_note_1 : decode cX3_note 1 = .ok (.getfield 32, 3) := by decide +kernel
theorem dX3_note_4 : decode cX3_note 4 = .ok (.ifCond .ne 23, 3) := by decide +kernel
theorem dX3_note_7 : decode cX3_note 7 = .ok (.iload_n 1, 1) := by decide +kernel
theorem dX3_note_8 : decode cX3_note 8 = .ok (.ifCond .eq 19, 3) := by decide +kernel
theorem dX3_note_11 : decode cX3_note 11 = .ok (.aload_n 0, 1) := by decide +kernel
theorem dX3_note_12 : decode cX3_note 12 = .ok (.iload_n 1, 1) := by decide +kernel
theorem dX3_note_13 : decode cX3_note 13 = .ok (.putfield 32, 3) := by decide +kernel
theorem dX3_note_16 : decode cX3_note 16 = .ok (.aload_n 0, 1) := by decide +kernel
theorem dX3_note_17 : decode cX3_note 17 = .ok (.aload_n 0, 1) := by decide +kernel
theorem dX3_note_18 : decode cX3_note 18 = .ok (.getfield 12, 3) := by decide +kernel
theorem dX3_note_21 : decode cX3_note 21 = .ok (.invokevirtual 94, 3) := by decide +kernel
theorem dX3_note_24 : decode cX3_note 24 = .ok (.putfield 36, 3) := by decide +kernel
theorem dX3_note_27 : decode cX3_note 27 = .ok (.return_, 1) := by decide +kernel
theorem dX3_refuseIf_0 : decode cX3_refuseIf 0 = .ok (.iload_n 1, 1) := by decide +kernel
theorem dX3_refuseIf_1 : decode cX3_refuseIf 1 = .ok (.ifCond .eq 8, 3) := by decide +kernel
theorem dX3_refuseIf_4 : decode cX3_refuseIf 4 = .ok (.aload_n 0, 1) := by decide +kernel
theorem dX3_refuseIf_5 : decode cX3_refuseIf 5 = .ok (.iload_n 2, 1) := by decide +kernel
theorem dX3_refuseIf_6 : decode cX3_refuseIf 6 = .ok (.invokevirtual 78, 3) := by decide +kernel
theorem dX3_refuseIf_9 : decode cX3_refuseIf 9 = .ok (.return_, 1) := by decide +kernel
theorem dX3_refuseToken_0 : decode cX3_refuseToken 0 = .ok (.aload_n 0, 1) := by decide +kernel
theorem dX3_refuseToken_1 : decode cX3_refuseToken 1 = .ok (.aload_n 0, 1) := by decide +kernel
theorem dX3_refuseToken_2 : decode cX3_refuseToken 2 = .ok (.getfield 12, 3) := by decide +kernel
theorem dX3_refuseToken_5 : decode cX3_refuseToken 5 = .ok (.invokevirtual 56, 3) := by decide +kernel
theorem dX3_refuseToken_8 : decode cX3_refuseToken 8 = .ok (.sipush 257, 3) := by decide +kernel
theorem dX3_refuseToken_11 : decode cX3_refuseToken 11 = .ok (.if_icmp .ne 7, 3) := by decide +kernel
theorem dX3_refuseToken_14 : decode cX3_refuseToken 14 = .ok (.iconst 1, 1) := by decide +kernel
theorem dX3_refuseToken_15 : decode cX3_refuseToken 15 = .ok (.goto 4, 3) := by decide +kernel
theorem dX3_refuseToken_18 : decode cX3_refuseToken 18 = .ok (.iconst 2, 1) := by decide +kernel
theorem dX3_refuseToken_19 : decode cX3_refuseToken 19 = .ok (.invokevirtual 78, 3) := by decide +kernel
theorem dX3_refuseToken_22 : decode cX3_refuseToken 22 = .ok (.return_, 1) := by decide +kernel
theorem dX3_goOn_0 : decode cX3_goOn 0 = .ok (.aload_n 0, 1) := by decide +kernel
theorem dX3_goOn_1 : decode cX3_goOn 1 = .ok (.getfield 32, 3) := by decide +kernel
theorem dX3_goOn_4 : decode cX3_goOn 4 = .ok (.ifCond .ne 10, 3) := by decide +kernel
theorem dX3_goOn_7 : decode cX3_goOn 7 = .ok (.aload_n 0, 1) := by decide +kernel
theorem dX3_goOn_8 : decode cX3_goOn 8 = .ok (.getfield 12, 3) := by decide +kernel
theorem dX3_goOn_11 : decode cX3_goOn 11 = .ok (.invokevirtual 97, 3) := by decide +kernel
theorem dX3_goOn_14 : decode cX3_goOn 14 = .ok (.aload_n 0, 1) := by decide +kernel
theorem dX3_goOn_15 : decode cX3_goOn 15 = .ok (.getfield 32, 3) := by decide +kernel
theorem dX3_goOn_18 : decode cX3_goOn 18 = .ok (.ifCond .ne 7, 3) := by decide +kernel
theorem dX3_goOn_21 : decode cX3_goOn 21 = .ok (.iconst 1, 1) := by decide +kernel
theorem dX3_goOn_22 : decode cX3_goOn 22 = .ok (.goto 4, 3) := by decide +kernel
theorem dX3_goOn_25 : decode cX3_goOn 25 = .ok (.iconst 0, 1) := by decide +kernel
theorem dX3_goOn_26 : decode cX3_goOn 26 = .ok (.ireturn, 1) := by decide +kernel
theorem dX3_pass_0 : decode cX3_pass 0 = .ok (.aload_n 0, 1) := by decide +kernel
theorem dX3_pass_1 : decode cX3_pass 1 = .ok (.getfield 12, 3) := by decide +kernel
theorem dX3_pass_4 : decode cX3_pass 4 = .ok (.invokevirtual 56, 3) := by decide +kernel
theorem dX3_pass_7 : decode cX3_pass 7 = .ok (.iload_n 1, 1) := by decide +kernel
theorem dX3_pass_8 : decode cX3_pass 8 = .ok (.if_icmp .eq 7, 3) := by decide +kernel
theorem dX3_pass_11 : decode cX3_pass 11 = .ok (.aload_n 0, 1) := by decide +kernel
theorem dX3_pass_12 : decode cX3_pass 12 = .ok (.invokevirtual 88, 3) := by decide +kernel
theorem dX3_pass_15 : decode cX3_pass 15 = .ok (.aload_n 0, 1) := by decide +kernel
theorem dX3_pass_16 : decode cX3_pass 16 = .ok (.invokevirtual 70, 3) := by decide +kernel
theorem dX3_pass_19 : decode cX3_pass 19 = .ok (.pop, 1) := by decide +kernel
theorem dX3_pass_20 : decode cX3_pass 20 = .ok (.return_, 1) := by decide +kernel
theorem dX3_readKeys_0 : decode cX3_readKeys 0 = .ok (.aload_n 0, 1) := by decide +kernel
theorem dX3_readKeys_1 : decode cX3_readKeys 1 = .ok (.getfield 21, 3) := by decide +kernel
theorem dX3_readKeys_4 : decode cX3_readKeys 4 = .ok (.iconst 0, 1) := by decide +kernel
theorem dX3_readKeys_5 : decode cX3_readKeys 5 = .ok (.putfield 116, 3) := by decide +kernel
theorem dX3_readKeys_8 : decode cX3_readKeys 8 = .ok (.iconst 0, 1) := by decide +kernel
theorem dX3_readKeys_9 : decode cX3_readKeys 9 = .ok (.istore_n 1, 1) := by decide +kernel
theorem dX3_readKeys_10 : decode cX3_readKeys 10 = .ok (.iload_n 1, 1) := by decide +kernel
theorem dX3_readKeys_11 : decode cX3_readKeys 11 = .ok (.iconst 4, 1) := by decide +kernel
theorem dX3_readKeys_12 : decode cX3_readKeys 12 = .ok (.if_icmp .gt 33, 3) := by decide +kernel
theorem dX3_readKeys_15 : decode cX3_readKeys 15 = .ok (.aload_n 0, 1) := by decide +kernel
theorem dX3_readKeys_16 : decode cX3_readKeys 16 = .ok (.invokevirtual 70, 3) := by decide +kernel
theorem dX3_readKeys_19 : decode cX3_readKeys 19 = .ok (.ifCond .eq 26, 3) := by decide +kernel
theorem dX3_readKeys_22 : decode cX3_readKeys 22 = .ok (.aload_n 0, 1) := by decide +kernel
theorem dX3_readKeys_23 : decode cX3_readKeys 23 = .ok (.invokevirtual 119, 3) := by decide +kernel
theorem dX3_readKeys_26 : decode cX3_readKeys 26 = .ok (.aload_n 0, 1) := by decide +kernel
theorem dX3_readKeys_27 : decode cX3_readKeys 27 = .ok (.getfield 12, 3) := by decide +kernel
theorem dX3_readKeys_30 : decode cX3_readKeys 30 = .ok (.invokevirtual 56, 3) := by decide +kernel
theorem dX3_readKeys_33 : decode cX3_readKeys 33 = .ok (.bipush 44, 2) := by decide +kernel
theorem dX3_readKeys_35 : decode cX3_readKeys 35 = .ok (.if_icmp .eq 4, 3) := by decide +kernel
theorem dX3_readKeys_38 : decode cX3_readKeys 38 = .ok (.return_, 1) := by decide +kernel
theorem dX3_readKeys_39 : decode cX3_readKeys 39 = .ok (.iinc 1 1, 3) := by decide +kernel
theorem dX3_readKeys_42 : decode cX3_readKeys 42 = .ok (.goto (-32), 3) := by decide +kernel
theorem dX3_readKeys_45 : decode cX3_readKeys 45 = .ok (.return_, 1) := by decide +kernel
theorem dX3_readKey_0 : decode cX3_readKey 0 = .ok (.aload_n 0, 1) := by decide +kernel
theorem dX3_readKey_1 : decode cX3_readKey 1 = .ok (.getfield 12, 3) := by decide +kernel
theorem dX3_readKey_4 : decode cX3_readKey 4 = .ok (.invokevirtual 56, 3) := by decide +kernel
theorem dX3_readKey_7 : decode cX3_readKey 7 = .ok (.sipush 267, 3) := by decide +kernel
theorem dX3_readKey_10 : decode cX3_readKey 10 = .ok (.if_icmp .ne 7, 3) := by decide +kernel
theorem dX3_readKey_13 : decode cX3_readKey 13 = .ok (.iconst 1, 1) := by decide +kernel
theorem dX3_readKey_14 : decode cX3_readKey 14 = .ok (.goto 4, 3) := by decide +kernel
theorem dX3_readKey_17 : decode cX3_readKey 17 = .ok (.iconst 0, 1) := by decide +kernel
theorem dX3_readKey_18 : decode cX3_readKey 18 = .ok (.istore_n 1, 1) := by decide +kernel
theorem dX3_readKey_19 : decode cX3_readKey 19 = .ok (.iload_n 1, 1) := by decide +kernel
theorem dX3_readKey_20 : decode cX3_readKey 20 = .ok (.ifCond .ne 20, 3) := by decide +kernel
theorem dX3_readKey_23 : decode cX3_readKey 23 = .ok (.aload_n 0, 1) := by decide +kernel
theorem dX3_readKey_24 : decode cX3_readKey 24 = .ok (.getfield 12, 3) := by decide +kernel
theorem dX3_readKey_27 : decode cX3_readKey 27 = .ok (.invokevirtual 56, 3) := by decide +kernel
theorem dX3_readKey_30 : decode cX3_readKey 30 = .ok (.sipush 266, 3) := by decide +kernel
theorem dX3_readKey_33 : decode cX3_readKey 33 = .ok (.if_icmp .eq 7, 3) := by decide +kernel
theorem dX3_readKey_36 : decode cX3_readKey 36 = .ok (.aload_n 0, 1) := by decide +kernel
theorem dX3_readKey_37 : decode cX3_readKey 37 = .ok (.invokevirtual 88, 3) := by decide +kernel
theorem dX3_readKey_40 : decode cX3_readKey 40 = .ok (.aload_n 0, 1) := by decide +kernel
theorem dX3_readKey_41 : decode cX3_readKey 41 = .ok (.aload_n 0, 1) := by decide +kernel
theorem dX3_readKey_42 : decode cX3_readKey 42 = .ok (.getfield 21, 3) := by decide +kernel
theorem dX3_readKey_45 : decode cX3_readKey 45 = .ok (.getfield 116, 3) := by decide +kernel
theorem dX3_readKey_48 : decode cX3_readKey 48 = .ok (.iconst 4, 1) := by decide +kernel
theorem dX3_readKey_49 : decode cX3_readKey 49 = .ok (.if_icmp .lt 7, 3) := by decide +kernel
theorem dX3_readKey_52 : decode cX3_readKey 52 = .ok (.iconst 1, 1) := by decide +kernel
theorem dX3_readKey_53 : decode cX3_readKey 53 = .ok (.goto 4, 3) := by decide +kernel
theorem dX3_readKey_56 : decode cX3_readKey 56 = .ok (.iconst 0, 1) := by decide +kernel
theorem dX3_readKey_57 : decode cX3_readKey 57 = .ok (.iconst 3, 1) := by decide +kernel
theorem dX3_readKey_58 : decode cX3_readKey 58 = .ok (.invokevirtual 66, 3) := by decide +kernel
theorem dX3_readKey_61 : decode cX3_readKey 61 = .ok (.aload_n 0, 1) := by decide +kernel
theorem dX3_readKey_62 : decode cX3_readKey 62 = .ok (.invokevirtual 70, 3) := by decide +kernel
theorem dX3_readKey_65 : decode cX3_readKey 65 = .ok (.ifCond .ne 4, 3) := by decide +kernel
theorem dX3_readKey_68 : decode cX3_readKey 68 = .ok (.return_, 1) := by decide +kernel
theorem dX3_readKey_69 : decode cX3_readKey 69 = .ok (.aload_n 0, 1) := by decide +kernel
theorem dX3_readKey_70 : decode cX3_readKey 70 = .ok (.getfield 12, 3) := by decide +kernel
theorem dX3_readKey_73 : decode cX3_readKey 73 = .ok (.invokevirtual 56, 3) := by decide +kernel
theorem dX3_readKey_76 : decode cX3_readKey 76 = .ok (.sipush 268, 3) := by decide +kernel
theorem dX3_readKey_79 : decode cX3_readKey 79 = .ok (.isub, 1) := by decide +kernel
theorem dX3_readKey_80 : decode cX3_readKey 80 = .ok (.istore_n 2, 1) := by decide +kernel
theorem dX3_readKey_81 : decode cX3_readKey 81 = .ok (.iload_n 2, 1) := by decide +kernel
theorem dX3_readKey_82 : decode cX3_readKey 82 = .ok (.ifCond .lt 8, 3) := by decide +kernel
theorem dX3_readKey_85 : decode cX3_readKey 85 = .ok (.iload_n 2, 1) := by decide +kernel
theorem dX3_readKey_86 : decode cX3_readKey 86 = .ok (.iconst 3, 1) := by decide +kernel
theorem dX3_readKey_87 : decode cX3_readKey 87 = .ok (.if_icmp .le 10, 3) := by decide +kernel
theorem dX3_readKey_90 : decode cX3_readKey 90 = .ok (.aload_n 0, 1) := by decide +kernel
theorem dX3_readKey_91 : decode cX3_readKey 91 = .ok (.invokevirtual 88, 3) := by decide +kernel
theorem dX3_readKey_94 : decode cX3_readKey 94 = .ok (.goto 12, 3) := by decide +kernel
theorem dX3_readKey_97 : decode cX3_readKey 97 = .ok (.aload_n 0, 1) := by decide +kernel
theorem dX3_readKey_98 : decode cX3_readKey 98 = .ok (.getfield 21, 3) := by decide +kernel
theorem dX3_readKey_101 : decode cX3_readKey 101 = .ok (.iload_n 2, 1) := by decide +kernel
theorem dX3_readKey_102 : decode cX3_readKey 102 = .ok (.iload_n 1, 1) := by decide +kernel
theorem dX3_readKey_103 : decode cX3_readKey 103 = .ok (.invokevirtual 122, 3) := by decide +kernel
theorem dX3_readKey_106 : decode cX3_readKey 106 = .ok (.aload_n 0, 1) := by decide +kernel
theorem dX3_readKey_107 : decode cX3_readKey 107 = .ok (.invokevirtual 70, 3) := by decide +kernel
theorem dX3_readKey_110 : decode cX3_readKey 110 = .ok (.pop, 1) := by decide +kernel
theorem dX3_readKey_111 : decode cX3_readKey 111 = .ok (.return_, 1) := by decide +kernel
theorem dX3_readTies_0 : decode cX3_readTies 0 = .ok (.aload_n 0, 1) := by decide +kernel
theorem dX3_readTies_1 : decode cX3_readTies 1 = .ok (.invokevirtual 70, 3) := by decide +kernel
theorem dX3_readTies_4 : decode cX3_readTies 4 = .ok (.ifCond .eq 51, 3) := by decide +kernel
theorem dX3_readTies_7 : decode cX3_readTies 7 = .ok (.aload_n 0, 1) := by decide +kernel
theorem dX3_readTies_8 : decode cX3_readTies 8 = .ok (.getfield 21, 3) := by decide +kernel
theorem dX3_readTies_11 : decode cX3_readTies 11 = .ok (.aload_n 0, 1) := by decide +kernel
theorem dX3_readTies_12 : decode cX3_readTies 12 = .ok (.getfield 12, 3) := by decide +kernel
theorem dX3_readTies_15 : decode cX3_readTies 15 = .ok (.invokevirtual 56, 3) := by decide +kernel
theorem dX3_readTies_18 : decode cX3_readTies 18 = .ok (.sipush 264, 3) := by decide +kernel
theorem dX3_readTies_21 : decode cX3_readTies 21 = .ok (.if_icmp .ne 7, 3) := by decide +kernel
theorem dX3_readTies_24 : decode cX3_readTies 24 = .ok (.iconst 1, 1) := by decide +kernel
theorem dX3_readTies_25 : decode cX3_readTies 25 = .ok (.goto 4, 3) := by decide +kernel
theorem dX3_readTies_28 : decode cX3_readTies 28 = .ok (.iconst 0, 1) := by decide +kernel
theorem dX3_readTies_29 : decode cX3_readTies 29 = .ok (.putfield 126, 3) := by decide +kernel
theorem dX3_readTies_32 : decode cX3_readTies 32 = .ok (.aload_n 0, 1) := by decide +kernel
theorem dX3_readTies_33 : decode cX3_readTies 33 = .ok (.aload_n 0, 1) := by decide +kernel
theorem dX3_readTies_34 : decode cX3_readTies 34 = .ok (.getfield 21, 3) := by decide +kernel
theorem dX3_readTies_37 : decode cX3_readTies 37 = .ok (.getfield 126, 3) := by decide +kernel
theorem dX3_readTies_40 : decode cX3_readTies 40 = .ok (.ifCond .eq 9, 3) := by decide +kernel
theorem dX3_readTies_43 : decode cX3_readTies 43 = .ok (.sipush 264, 3) := by decide +kernel
theorem dX3_readTies_46 : decode cX3_readTies 46 = .ok (.goto 6, 3) := by decide +kernel
theorem dX3_readTies_49 : decode cX3_readTies 49 = .ok (.sipush 265, 3) := by decide +kernel
theorem dX3_readTies_52 : decode cX3_readTies 52 = .ok (.invokevirtual 91, 3) := by decide +kernel
theorem dX3_readTies_55 : decode cX3_readTies 55 = .ok (.return_, 1) := by decide +kernel
theorem dX4_addKey_0 : decode cX4_addKey 0 = .ok (.aload_n 0, 1) := by decide +kernel
theorem dX4_addKey_1 : decode cX4_addKey 1 = .ok (.getfield 42, 3) := by decide +kernel
theorem dX4_addKey_4 : decode cX4_addKey 4 = .ok (.iconst 4, 1) := by decide +kernel
theorem dX4_addKey_5 : decode cX4_addKey 5 = .ok (.if_icmp .ge 41, 3) := by decide +kernel
theorem dX4_addKey_8 : decode cX4_addKey 8 = .ok (.aload_n 0, 1) := by decide +kernel
theorem dX4_addKey_9 : decode cX4_addKey 9 = .ok (.getfield 21, 3) := by decide +kernel
theorem dX4_addKey_12 : decode cX4_addKey 12 = .ok (.aload_n 0, 1) := by decide +kernel
theorem dX4_addKey_13 : decode cX4_addKey 13 = .ok (.getfield 42, 3) := by decide +kernel
theorem dX4_addKey_16 : decode cX4_addKey 16 = .ok (.iload_n 1, 1) := by decide +kernel
theorem dX4_addKey_17 : decode cX4_addKey 17 = .ok (.iastore, 1) := by decide +kernel
theorem dX4_addKey_18 : decode cX4_addKey 18 = .ok (.aload_n 0, 1) := by decide +kernel
theorem dX4_addKey_19 : decode cX4_addKey 19 = .ok (.getfield 24, 3) := by decide +kernel
theorem dX4_addKey_22 : decode cX4_addKey 22 = .ok (.aload_n 0, 1) := by decide +kernel
theorem dX4_addKey_23 : decode cX4_addKey 23 = .ok (.getfield 42, 3) := by decide +kernel
theorem dX4_addKey_26 : decode cX4_addKey 26 = .ok (.iload_n 2, 1) := by decide +kernel
theorem dX4_addKey_27 : decode cX4_addKey 27 = .ok (.ifCond .eq 7, 3) := by decide +kernel
theorem dX4_addKey_30 : decode cX4_addKey 30 = .ok (.iconst 1, 1) := by decide +kernel
theorem dX4_addKey_31 : decode cX4_addKey 31 = .ok (.goto 4, 3) := by decide +kernel
theorem dX4_addKey_34 : decode cX4_addKey 34 = .ok (.iconst 0, 1) := by decide +kernel
theorem dX4_addKey_35 : decode cX4_addKey 35 = .ok (.iastore, 1) := by decide +kernel
theorem dX4_addKey_36 : decode cX4_addKey 36 = .ok (.aload_n 0, 1) := by decide +kernel
theorem dX4_addKey_37 : decode cX4_addKey 37 = .ok (.dup, 1) := by decide +kernel
theorem dX4_addKey_38 : decode cX4_addKey 38 = .ok (.getfield 42, 3) := by decide +kernel
theorem dX4_addKey_41 : decode cX4_addKey 41 = .ok (.iconst 1, 1) := by decide +kernel
theorem dX4_addKey_42 : decode cX4_addKey 42 = .ok (.iadd, 1) := by decide +kernel
theorem dX4_addKey_43 : decode cX4_addKey 43 = .ok (.putfield 42, 3) := by decide +kernel
theorem dX4_addKey_46 : decode cX4_addKey 46 = .ok (.return_, 1) := by decide +kernel
