section
theorem dG_dX11_keyOf_0 : (decode cX11_keyOf 0 = .ok (.lconst 0, 1)) ∧ (decode cX11_keyOf 1 = .ok (.lstore 5, 2)) ∧ (decode cX11_keyOf 3 = .ok (.ldc2_w 370, 3)) ∧ (decode cX11_keyOf 6 = .ok (.lstore 7, 2)) ∧ (decode cX11_keyOf 8 = .ok (.iconst 0, 1)) ∧ (decode cX11_keyOf 9 = .ok (.istore 9, 2)) ∧ (decode cX11_keyOf 11 = .ok (.iload 9, 2)) ∧ (decode cX11_keyOf 13 = .ok (.aload_n 0, 1)) ∧ (decode cX11_keyOf 14 = .ok (.getfield 20, 3)) ∧ (decode cX11_keyOf 17 = .ok (.iload_n 1, 1)) ∧ (decode cX11_keyOf 18 = .ok (.iaload, 1)) ∧ (decode cX11_keyOf 19 = .ok (.if_icmp .ge 79, 3)) := by decide +kernel
theorem dX11_keyOf_0 : decode cX11_keyOf 0 = .ok (.lconst 0, 1) := dG_dX11_keyOf_0.1
theorem dX11_keyOf_1 : decode cX11_keyOf 1 = .ok (.lstore 5, 2) := dG_dX11_keyOf_0.2.1
theorem dX11_keyOf_3 : decode cX11_keyOf 3 = .ok (.ldc2_w 370, 3) := dG_dX11_keyOf_0.2.2.1
theorem dX11_keyOf_6 : decode cX11_keyOf 6 = .ok (.lstore 7, 2) := dG_dX11_keyOf_0.2.2.2.1
theorem dX11_keyOf_8 : decode cX11_keyOf 8 = .ok (.iconst 0, 1) := dG_dX11_keyOf_0.2.2.2.2.1
theorem dX11_keyOf_9 : decode cX11_keyOf 9 = .ok (.istore 9, 2) := dG_dX11_keyOf_0.2.2.2.2.2.1
theorem dX11_keyOf_11 : decode cX11_keyOf 11 = .ok (.iload 9, 2) := dG_dX11_keyOf_0.2.2.2.2.2.2.1
theorem dX11_keyOf_13 : decode cX11_keyOf 13 = .ok (.aload_n 0, 1) := dG_dX11_keyOf_0.2.2.2.2.2.2.2.1
theorem dX11_keyOf_14 : decode cX11_keyOf 14 = .ok (.getfield 20, 3) := dG_dX11_keyOf_0.2.2.2.2.2.2.2.2.1
theorem dX11_keyOf_17 : decode cX11_keyOf 17 = .ok (.iload_n 1, 1) := dG_dX11_keyOf_0.2.2.2.2.2.2.2.2.2.1
theorem dX11_keyOf_18 : decode cX11_keyOf 18 = .ok (.iaload, 1) := dG_dX11_keyOf_0.2.2.2.2.2.2.2.2.2.2.1
theorem dX11_keyOf_19 : decode cX11_keyOf 19 = .ok (.if_icmp .ge 79, 3) := dG_dX11_keyOf_0.2.2.2.2.2.2.2.2.2.2.2
theorem dG_dX11_keyOf_22 : (decode cX11_keyOf 22 = .ok (.aload_n 0, 1)) ∧ (decode cX11_keyOf 23 = .ok (.iload_n 1, 1)) ∧ (decode cX11_keyOf 24 = .ok (.iload 9, 2)) ∧ (decode cX11_keyOf 26 = .ok (.iload_n 2, 1)) ∧ (decode cX11_keyOf 27 = .ok (.iload_n 3, 1)) ∧ (decode cX11_keyOf 28 = .ok (.invokevirtual 387, 3)) ∧ (decode cX11_keyOf 31 = .ok (.istore 10, 2)) ∧ (decode cX11_keyOf 33 = .ok (.lload 7, 2)) ∧ (decode cX11_keyOf 35 = .ok (.iload 10, 2)) ∧ (decode cX11_keyOf 37 = .ok (.i2l, 1)) ∧ (decode cX11_keyOf 38 = .ok (.invokestatic 377, 3)) ∧ (decode cX11_keyOf 41 = .ok (.lstore 7, 2)) := by decide +kernel
theorem dX11_keyOf_22 : decode cX11_keyOf 22 = .ok (.aload_n 0, 1) := dG_dX11_keyOf_22.1
theorem dX11_keyOf_23 : decode cX11_keyOf 23 = .ok (.iload_n 1, 1) := dG_dX11_keyOf_22.2.1
theorem dX11_keyOf_24 : decode cX11_keyOf 24 = .ok (.iload 9, 2) := dG_dX11_keyOf_22.2.2.1
theorem dX11_keyOf_26 : decode cX11_keyOf 26 = .ok (.iload_n 2, 1) := dG_dX11_keyOf_22.2.2.2.1
theorem dX11_keyOf_27 : decode cX11_keyOf 27 = .ok (.iload_n 3, 1) := dG_dX11_keyOf_22.2.2.2.2.1
theorem dX11_keyOf_28 : decode cX11_keyOf 28 = .ok (.invokevirtual 387, 3) := dG_dX11_keyOf_22.2.2.2.2.2.1
theorem dX11_keyOf_31 : decode cX11_keyOf 31 = .ok (.istore 10, 2) := dG_dX11_keyOf_22.2.2.2.2.2.2.1
theorem dX11_keyOf_33 : decode cX11_keyOf 33 = .ok (.lload 7, 2) := dG_dX11_keyOf_22.2.2.2.2.2.2.2.1
theorem dX11_keyOf_35 : decode cX11_keyOf 35 = .ok (.iload 10, 2) := dG_dX11_keyOf_22.2.2.2.2.2.2.2.2.1
theorem dX11_keyOf_37 : decode cX11_keyOf 37 = .ok (.i2l, 1) := dG_dX11_keyOf_22.2.2.2.2.2.2.2.2.2.1
theorem dX11_keyOf_38 : decode cX11_keyOf 38 = .ok (.invokestatic 377, 3) := dG_dX11_keyOf_22.2.2.2.2.2.2.2.2.2.2.1
theorem dX11_keyOf_41 : decode cX11_keyOf 41 = .ok (.lstore 7, 2) := dG_dX11_keyOf_22.2.2.2.2.2.2.2.2.2.2.2
theorem dG_dX11_keyOf_43 : (decode cX11_keyOf 43 = .ok (.lload 5, 2)) ∧ (decode cX11_keyOf 45 = .ok (.aload_n 0, 1)) ∧ (decode cX11_keyOf 46 = .ok (.getfield 57, 3)) ∧ (decode cX11_keyOf 49 = .ok (.iload 4, 2)) ∧ (decode cX11_keyOf 51 = .ok (.iaload, 1)) ∧ (decode cX11_keyOf 52 = .ok (.ifCond .ne 9, 3)) ∧ (decode cX11_keyOf 55 = .ok (.iload 10, 2)) ∧ (decode cX11_keyOf 57 = .ok (.i2l, 1)) ∧ (decode cX11_keyOf 58 = .ok (.goto 31, 3)) ∧ (decode cX11_keyOf 61 = .ok (.aload_n 0, 1)) ∧ (decode cX11_keyOf 62 = .ok (.getfield 57, 3)) ∧ (decode cX11_keyOf 65 = .ok (.iload 4, 2)) := by decide +kernel
theorem dX11_keyOf_43 : decode cX11_keyOf 43 = .ok (.lload 5, 2) := dG_dX11_keyOf_43.1
theorem dX11_keyOf_45 : decode cX11_keyOf 45 = .ok (.aload_n 0, 1) := dG_dX11_keyOf_43.2.1
theorem dX11_keyOf_46 : decode cX11_keyOf 46 = .ok (.getfield 57, 3) := dG_dX11_keyOf_43.2.2.1
theorem dX11_keyOf_49 : decode cX11_keyOf 49 = .ok (.iload 4, 2) := dG_dX11_keyOf_43.2.2.2.1
theorem dX11_keyOf_51 : decode cX11_keyOf 51 = .ok (.iaload, 1) := dG_dX11_keyOf_43.2.2.2.2.1
theorem dX11_keyOf_52 : decode cX11_keyOf 52 = .ok (.ifCond .ne 9, 3) := dG_dX11_keyOf_43.2.2.2.2.2.1
theorem dX11_keyOf_55 : decode cX11_keyOf 55 = .ok (.iload 10, 2) := dG_dX11_keyOf_43.2.2.2.2.2.2.1
theorem dX11_keyOf_57 : decode cX11_keyOf 57 = .ok (.i2l, 1) := dG_dX11_keyOf_43.2.2.2.2.2.2.2.1
theorem dX11_keyOf_58 : decode cX11_keyOf 58 = .ok (.goto 31, 3) := dG_dX11_keyOf_43.2.2.2.2.2.2.2.2.1
theorem dX11_keyOf_61 : decode cX11_keyOf 61 = .ok (.aload_n 0, 1) := dG_dX11_keyOf_43.2.2.2.2.2.2.2.2.2.1
theorem dX11_keyOf_62 : decode cX11_keyOf 62 = .ok (.getfield 57, 3) := dG_dX11_keyOf_43.2.2.2.2.2.2.2.2.2.2.1
theorem dX11_keyOf_65 : decode cX11_keyOf 65 = .ok (.iload 4, 2) := dG_dX11_keyOf_43.2.2.2.2.2.2.2.2.2.2.2
theorem dG_dX11_keyOf_67 : (decode cX11_keyOf 67 = .ok (.iaload, 1)) ∧ (decode cX11_keyOf 68 = .ok (.iconst 2, 1)) ∧ (decode cX11_keyOf 69 = .ok (.if_icmp .ne 13, 3)) ∧ (decode cX11_keyOf 72 = .ok (.aload_n 0, 1)) ∧ (decode cX11_keyOf 73 = .ok (.getfield 133, 3)) ∧ (decode cX11_keyOf 76 = .ok (.iconst 0, 1)) ∧ (decode cX11_keyOf 77 = .ok (.iaload, 1)) ∧ (decode cX11_keyOf 78 = .ok (.i2l, 1)) ∧ (decode cX11_keyOf 79 = .ok (.goto 10, 3)) ∧ (decode cX11_keyOf 82 = .ok (.aload_n 0, 1)) ∧ (decode cX11_keyOf 83 = .ok (.getfield 133, 3)) ∧ (decode cX11_keyOf 86 = .ok (.iconst 1, 1)) := by decide +kernel
theorem dX11_keyOf_67 : decode cX11_keyOf 67 = .ok (.iaload, 1) := dG_dX11_keyOf_67.1
theorem dX11_keyOf_68 : decode cX11_keyOf 68 = .ok (.iconst 2, 1) := dG_dX11_keyOf_67.2.1
theorem dX11_keyOf_69 : decode cX11_keyOf 69 = .ok (.if_icmp .ne 13, 3) := dG_dX11_keyOf_67.2.2.1
theorem dX11_keyOf_72 : decode cX11_keyOf 72 = .ok (.aload_n 0, 1) := dG_dX11_keyOf_67.2.2.2.1
theorem dX11_keyOf_73 : decode cX11_keyOf 73 = .ok (.getfield 133, 3) := dG_dX11_keyOf_67.2.2.2.2.1
theorem dX11_keyOf_76 : decode cX11_keyOf 76 = .ok (.iconst 0, 1) := dG_dX11_keyOf_67.2.2.2.2.2.1
theorem dX11_keyOf_77 : decode cX11_keyOf 77 = .ok (.iaload, 1) := dG_dX11_keyOf_67.2.2.2.2.2.2.1
theorem dX11_keyOf_78 : decode cX11_keyOf 78 = .ok (.i2l, 1) := dG_dX11_keyOf_67.2.2.2.2.2.2.2.1
theorem dX11_keyOf_79 : decode cX11_keyOf 79 = .ok (.goto 10, 3) := dG_dX11_keyOf_67.2.2.2.2.2.2.2.2.1
theorem dX11_keyOf_82 : decode cX11_keyOf 82 = .ok (.aload_n 0, 1) := dG_dX11_keyOf_67.2.2.2.2.2.2.2.2.2.1
theorem dX11_keyOf_83 : decode cX11_keyOf 83 = .ok (.getfield 133, 3) := dG_dX11_keyOf_67.2.2.2.2.2.2.2.2.2.2.1
theorem dX11_keyOf_86 : decode cX11_keyOf 86 = .ok (.iconst 1, 1) := dG_dX11_keyOf_67.2.2.2.2.2.2.2.2.2.2.2
theorem dG_dX11_keyOf_87 : (decode cX11_keyOf 87 = .ok (.iaload, 1)) ∧ (decode cX11_keyOf 88 = .ok (.i2l, 1)) ∧ (decode cX11_keyOf 89 = .ok (.ladd, 1)) ∧ (decode cX11_keyOf 90 = .ok (.lstore 5, 2)) ∧ (decode cX11_keyOf 92 = .ok (.iinc 9 1, 3)) ∧ (decode cX11_keyOf 95 = .ok (.goto (-84), 3)) ∧ (decode cX11_keyOf 98 = .ok (.aload_n 0, 1)) ∧ (decode cX11_keyOf 99 = .ok (.getfield 57, 3)) ∧ (decode cX11_keyOf 102 = .ok (.iload 4, 2)) ∧ (decode cX11_keyOf 104 = .ok (.iaload, 1)) ∧ (decode cX11_keyOf 105 = .ok (.iconst 1, 1)) ∧ (decode cX11_keyOf 106 = .ok (.if_icmp .ne 8, 3)) := by decide +kernel
theorem dX11_keyOf_87 : decode cX11_keyOf 87 = .ok (.iaload, 1) := dG_dX11_keyOf_87.1
theorem dX11_keyOf_88 : decode cX11_keyOf 88 = .ok (.i2l, 1) := dG_dX11_keyOf_87.2.1
theorem dX11_keyOf_89 : decode cX11_keyOf 89 = .ok (.ladd, 1) := dG_dX11_keyOf_87.2.2.1
theorem dX11_keyOf_90 : decode cX11_keyOf 90 = .ok (.lstore 5, 2) := dG_dX11_keyOf_87.2.2.2.1
theorem dX11_keyOf_92 : decode cX11_keyOf 92 = .ok (.iinc 9 1, 3) := dG_dX11_keyOf_87.2.2.2.2.1
theorem dX11_keyOf_95 : decode cX11_keyOf 95 = .ok (.goto (-84), 3) := dG_dX11_keyOf_87.2.2.2.2.2.1
theorem dX11_keyOf_98 : decode cX11_keyOf 98 = .ok (.aload_n 0, 1) := dG_dX11_keyOf_87.2.2.2.2.2.2.1
theorem dX11_keyOf_99 : decode cX11_keyOf 99 = .ok (.getfield 57, 3) := dG_dX11_keyOf_87.2.2.2.2.2.2.2.1
theorem dX11_keyOf_102 : decode cX11_keyOf 102 = .ok (.iload 4, 2) := dG_dX11_keyOf_87.2.2.2.2.2.2.2.2.1
theorem dX11_keyOf_104 : decode cX11_keyOf 104 = .ok (.iaload, 1) := dG_dX11_keyOf_87.2.2.2.2.2.2.2.2.2.1
theorem dX11_keyOf_105 : decode cX11_keyOf 105 = .ok (.iconst 1, 1) := dG_dX11_keyOf_87.2.2.2.2.2.2.2.2.2.2.1
theorem dX11_keyOf_106 : decode cX11_keyOf 106 = .ok (.if_icmp .ne 8, 3) := dG_dX11_keyOf_87.2.2.2.2.2.2.2.2.2.2.2
theorem dG_dX11_keyOf_109 : (decode cX11_keyOf 109 = .ok (.lload 7, 2)) ∧ (decode cX11_keyOf 111 = .ok (.goto 5, 3)) ∧ (decode cX11_keyOf 114 = .ok (.lload 5, 2)) ∧ (decode cX11_keyOf 116 = .ok (.lreturn, 1)) ∧ (decode cX11_key 0 = .ok (.aload_n 0, 1)) ∧ (decode cX11_key 1 = .ok (.iconst 0, 1)) ∧ (decode cX11_key 2 = .ok (.putfield 146, 3)) ∧ (decode cX11_key 5 = .ok (.aload_n 0, 1)) ∧ (decode cX11_key 6 = .ok (.iconst 0, 1)) ∧ (decode cX11_key 7 = .ok (.putfield 149, 3)) ∧ (decode cX11_key 10 = .ok (.aload_n 0, 1)) ∧ (decode cX11_key 11 = .ok (.iload_n 1, 1)) := by decide +kernel
theorem dX11_keyOf_109 : decode cX11_keyOf 109 = .ok (.lload 7, 2) := dG_dX11_keyOf_109.1
theorem dX11_keyOf_111 : decode cX11_keyOf 111 = .ok (.goto 5, 3) := dG_dX11_keyOf_109.2.1
theorem dX11_keyOf_114 : decode cX11_keyOf 114 = .ok (.lload 5, 2) := dG_dX11_keyOf_109.2.2.1
theorem dX11_keyOf_116 : decode cX11_keyOf 116 = .ok (.lreturn, 1) := dG_dX11_keyOf_109.2.2.2.1
theorem dX11_key_0 : decode cX11_key 0 = .ok (.aload_n 0, 1) := dG_dX11_keyOf_109.2.2.2.2.1
theorem dX11_key_1 : decode cX11_key 1 = .ok (.iconst 0, 1) := dG_dX11_keyOf_109.2.2.2.2.2.1
theorem dX11_key_2 : decode cX11_key 2 = .ok (.putfield 146, 3) := dG_dX11_keyOf_109.2.2.2.2.2.2.1
theorem dX11_key_5 : decode cX11_key 5 = .ok (.aload_n 0, 1) := dG_dX11_keyOf_109.2.2.2.2.2.2.2.1
theorem dX11_key_6 : decode cX11_key 6 = .ok (.iconst 0, 1) := dG_dX11_keyOf_109.2.2.2.2.2.2.2.2.1
theorem dX11_key_7 : decode cX11_key 7 = .ok (.putfield 149, 3) := dG_dX11_keyOf_109.2.2.2.2.2.2.2.2.2.1
theorem dX11_key_10 : decode cX11_key 10 = .ok (.aload_n 0, 1) := dG_dX11_keyOf_109.2.2.2.2.2.2.2.2.2.2.1
theorem dX11_key_11 : decode cX11_key 11 = .ok (.iload_n 1, 1) := dG_dX11_keyOf_109.2.2.2.2.2.2.2.2.2.2.2
theorem dG_dX11_key_12 : (decode cX11_key 12 = .ok (.iload_n 2, 1)) ∧ (decode cX11_key 13 = .ok (.invokevirtual 391, 3)) ∧ (decode cX11_key 16 = .ok (.ifCond .eq 17, 3)) ∧ (decode cX11_key 19 = .ok (.iload 4, 2)) ∧ (decode cX11_key 21 = .ok (.ifCond .lt 12, 3)) ∧ (decode cX11_key 24 = .ok (.iload 4, 2)) ∧ (decode cX11_key 26 = .ok (.aload_n 0, 1)) ∧ (decode cX11_key 27 = .ok (.getfield 307, 3)) ∧ (decode cX11_key 30 = .ok (.if_icmp .lt 10, 3)) ∧ (decode cX11_key 33 = .ok (.aload_n 0, 1)) ∧ (decode cX11_key 34 = .ok (.iconst 1, 1)) ∧ (decode cX11_key 35 = .ok (.invokevirtual 295, 3)) := by decide +kernel
theorem dX11_key_12 : decode cX11_key 12 = .ok (.iload_n 2, 1) := dG_dX11_key_12.1
theorem dX11_key_13 : decode cX11_key 13 = .ok (.invokevirtual 391, 3) := dG_dX11_key_12.2.1
theorem dX11_key_16 : decode cX11_key 16 = .ok (.ifCond .eq 17, 3) := dG_dX11_key_12.2.2.1
theorem dX11_key_19 : decode cX11_key 19 = .ok (.iload 4, 2) := dG_dX11_key_12.2.2.2.1
theorem dX11_key_21 : decode cX11_key 21 = .ok (.ifCond .lt 12, 3) := dG_dX11_key_12.2.2.2.2.1
theorem dX11_key_24 : decode cX11_key 24 = .ok (.iload 4, 2) := dG_dX11_key_12.2.2.2.2.2.1
theorem dX11_key_26 : decode cX11_key 26 = .ok (.aload_n 0, 1) := dG_dX11_key_12.2.2.2.2.2.2.1
theorem dX11_key_27 : decode cX11_key 27 = .ok (.getfield 307, 3) := dG_dX11_key_12.2.2.2.2.2.2.2.1
theorem dX11_key_30 : decode cX11_key 30 = .ok (.if_icmp .lt 10, 3) := dG_dX11_key_12.2.2.2.2.2.2.2.2.1
theorem dX11_key_33 : decode cX11_key 33 = .ok (.aload_n 0, 1) := dG_dX11_key_12.2.2.2.2.2.2.2.2.2.1
theorem dX11_key_34 : decode cX11_key 34 = .ok (.iconst 1, 1) := dG_dX11_key_12.2.2.2.2.2.2.2.2.2.2.1
theorem dX11_key_35 : decode cX11_key 35 = .ok (.invokevirtual 295, 3) := dG_dX11_key_12.2.2.2.2.2.2.2.2.2.2.2
theorem dG_dX11_key_38 : (decode cX11_key 38 = .ok (.i2l, 1)) ∧ (decode cX11_key 39 = .ok (.lreturn, 1)) ∧ (decode cX11_key 40 = .ok (.iload_n 3, 1)) ∧ (decode cX11_key 41 = .ok (.invokestatic 364, 3)) ∧ (decode cX11_key 44 = .ok (.ifCond .ne 10, 3)) ∧ (decode cX11_key 47 = .ok (.aload_n 0, 1)) ∧ (decode cX11_key 48 = .ok (.iconst 2, 1)) ∧ (decode cX11_key 49 = .ok (.invokevirtual 295, 3)) ∧ (decode cX11_key 52 = .ok (.i2l, 1)) ∧ (decode cX11_key 53 = .ok (.lreturn, 1)) ∧ (decode cX11_key 54 = .ok (.aload_n 0, 1)) ∧ (decode cX11_key 55 = .ok (.iload_n 1, 1)) := by decide +kernel
theorem dX11_key_38 : decode cX11_key 38 = .ok (.i2l, 1) := dG_dX11_key_38.1
theorem dX11_key_39 : decode cX11_key 39 = .ok (.lreturn, 1) := dG_dX11_key_38.2.1
theorem dX11_key_40 : decode cX11_key 40 = .ok (.iload_n 3, 1) := dG_dX11_key_38.2.2.1
theorem dX11_key_41 : decode cX11_key 41 = .ok (.invokestatic 364, 3) := dG_dX11_key_38.2.2.2.1
theorem dX11_key_44 : decode cX11_key 44 = .ok (.ifCond .ne 10, 3) := dG_dX11_key_38.2.2.2.2.1
theorem dX11_key_47 : decode cX11_key 47 = .ok (.aload_n 0, 1) := dG_dX11_key_38.2.2.2.2.2.1
theorem dX11_key_48 : decode cX11_key 48 = .ok (.iconst 2, 1) := dG_dX11_key_38.2.2.2.2.2.2.1
theorem dX11_key_49 : decode cX11_key 49 = .ok (.invokevirtual 295, 3) := dG_dX11_key_38.2.2.2.2.2.2.2.1
theorem dX11_key_52 : decode cX11_key 52 = .ok (.i2l, 1) := dG_dX11_key_38.2.2.2.2.2.2.2.2.1
theorem dX11_key_53 : decode cX11_key 53 = .ok (.lreturn, 1) := dG_dX11_key_38.2.2.2.2.2.2.2.2.2.1
theorem dX11_key_54 : decode cX11_key 54 = .ok (.aload_n 0, 1) := dG_dX11_key_38.2.2.2.2.2.2.2.2.2.2.1
theorem dX11_key_55 : decode cX11_key 55 = .ok (.iload_n 1, 1) := dG_dX11_key_38.2.2.2.2.2.2.2.2.2.2.2
theorem dG_dX11_key_56 : (decode cX11_key 56 = .ok (.iload_n 2, 1)) ∧ (decode cX11_key 57 = .ok (.iload_n 3, 1)) ∧ (decode cX11_key 58 = .ok (.iload 4, 2)) ∧ (decode cX11_key 60 = .ok (.invokevirtual 393, 3)) ∧ (decode cX11_key 63 = .ok (.lreturn, 1)) ∧ (decode cX11_isAhead 0 = .ok (.iload_n 1, 1)) ∧ (decode cX11_isAhead 1 = .ok (.istore 5, 2)) ∧ (decode cX11_isAhead 3 = .ok (.iload 5, 2)) ∧ (decode cX11_isAhead 5 = .ok (.ifCond .lt 115, 3)) ∧ (decode cX11_isAhead 8 = .ok (.iconst 0, 1)) ∧ (decode cX11_isAhead 9 = .ok (.istore 6, 2)) ∧ (decode cX11_isAhead 11 = .ok (.iload 6, 2)) := by decide +kernel
theorem dX11_key_56 : decode cX11_key 56 = .ok (.iload_n 2, 1) := dG_dX11_key_56.1
theorem dX11_key_57 : decode cX11_key 57 = .ok (.iload_n 3, 1) := dG_dX11_key_56.2.1
theorem dX11_key_58 : decode cX11_key 58 = .ok (.iload 4, 2) := dG_dX11_key_56.2.2.1
theorem dX11_key_60 : decode cX11_key 60 = .ok (.invokevirtual 393, 3) := dG_dX11_key_56.2.2.2.1
theorem dX11_key_63 : decode cX11_key 63 = .ok (.lreturn, 1) := dG_dX11_key_56.2.2.2.2.1
theorem dX11_isAhead_0 : decode cX11_isAhead 0 = .ok (.iload_n 1, 1) := dG_dX11_key_56.2.2.2.2.2.1
theorem dX11_isAhead_1 : decode cX11_isAhead 1 = .ok (.istore 5, 2) := dG_dX11_key_56.2.2.2.2.2.2.1
theorem dX11_isAhead_3 : decode cX11_isAhead 3 = .ok (.iload 5, 2) := dG_dX11_key_56.2.2.2.2.2.2.2.1
theorem dX11_isAhead_5 : decode cX11_isAhead 5 = .ok (.ifCond .lt 115, 3) := dG_dX11_key_56.2.2.2.2.2.2.2.2.1
theorem dX11_isAhead_8 : decode cX11_isAhead 8 = .ok (.iconst 0, 1) := dG_dX11_key_56.2.2.2.2.2.2.2.2.2.1
theorem dX11_isAhead_9 : decode cX11_isAhead 9 = .ok (.istore 6, 2) := dG_dX11_key_56.2.2.2.2.2.2.2.2.2.2.1
theorem dX11_isAhead_11 : decode cX11_isAhead 11 = .ok (.iload 6, 2) := dG_dX11_key_56.2.2.2.2.2.2.2.2.2.2.2
theorem dG_dX11_isAhead_13 : (decode cX11_isAhead 13 = .ok (.aload_n 0, 1)) ∧ (decode cX11_isAhead 14 = .ok (.getfield 307, 3)) ∧ (decode cX11_isAhead 17 = .ok (.if_icmp .ge 83, 3)) ∧ (decode cX11_isAhead 20 = .ok (.aload_n 0, 1)) ∧ (decode cX11_isAhead 21 = .ok (.iload 5, 2)) ∧ (decode cX11_isAhead 23 = .ok (.iload_n 2, 1)) ∧ (decode cX11_isAhead 24 = .ok (.iload 4, 2)) ∧ (decode cX11_isAhead 26 = .ok (.iload 6, 2)) ∧ (decode cX11_isAhead 28 = .ok (.invokevirtual 393, 3)) ∧ (decode cX11_isAhead 31 = .ok (.lstore 7, 2)) ∧ (decode cX11_isAhead 33 = .ok (.aload_n 0, 1)) ∧ (decode cX11_isAhead 34 = .ok (.iload 5, 2)) := by decide +kernel
theorem dX11_isAhead_13 : decode cX11_isAhead 13 = .ok (.aload_n 0, 1) := dG_dX11_isAhead_13.1
theorem dX11_isAhead_14 : decode cX11_isAhead 14 = .ok (.getfield 307, 3) := dG_dX11_isAhead_13.2.1
theorem dX11_isAhead_17 : decode cX11_isAhead 17 = .ok (.if_icmp .ge 83, 3) := dG_dX11_isAhead_13.2.2.1
theorem dX11_isAhead_20 : decode cX11_isAhead 20 = .ok (.aload_n 0, 1) := dG_dX11_isAhead_13.2.2.2.1
theorem dX11_isAhead_21 : decode cX11_isAhead 21 = .ok (.iload 5, 2) := dG_dX11_isAhead_13.2.2.2.2.1
theorem dX11_isAhead_23 : decode cX11_isAhead 23 = .ok (.iload_n 2, 1) := dG_dX11_isAhead_13.2.2.2.2.2.1
theorem dX11_isAhead_24 : decode cX11_isAhead 24 = .ok (.iload 4, 2) := dG_dX11_isAhead_13.2.2.2.2.2.2.1
theorem dX11_isAhead_26 : decode cX11_isAhead 26 = .ok (.iload 6, 2) := dG_dX11_isAhead_13.2.2.2.2.2.2.2.1
theorem dX11_isAhead_28 : decode cX11_isAhead 28 = .ok (.invokevirtual 393, 3) := dG_dX11_isAhead_13.2.2.2.2.2.2.2.2.1
theorem dX11_isAhead_31 : decode cX11_isAhead 31 = .ok (.lstore 7, 2) := dG_dX11_isAhead_13.2.2.2.2.2.2.2.2.2.1
theorem dX11_isAhead_33 : decode cX11_isAhead 33 = .ok (.aload_n 0, 1) := dG_dX11_isAhead_13.2.2.2.2.2.2.2.2.2.2.1
theorem dX11_isAhead_34 : decode cX11_isAhead 34 = .ok (.iload 5, 2) := dG_dX11_isAhead_13.2.2.2.2.2.2.2.2.2.2.2
theorem dG_dX11_isAhead_36 : (decode cX11_isAhead 36 = .ok (.iload_n 3, 1)) ∧ (decode cX11_isAhead 37 = .ok (.iload 4, 2)) ∧ (decode cX11_isAhead 39 = .ok (.iload 6, 2)) ∧ (decode cX11_isAhead 41 = .ok (.invokevirtual 393, 3)) ∧ (decode cX11_isAhead 44 = .ok (.lstore 9, 2)) ∧ (decode cX11_isAhead 46 = .ok (.lload 7, 2)) ∧ (decode cX11_isAhead 48 = .ok (.lload 9, 2)) ∧ (decode cX11_isAhead 50 = .ok (.lcmp, 1)) ∧ (decode cX11_isAhead 51 = .ok (.ifCond .eq 43, 3)) ∧ (decode cX11_isAhead 54 = .ok (.aload_n 0, 1)) ∧ (decode cX11_isAhead 55 = .ok (.getfield 63, 3)) ∧ (decode cX11_isAhead 58 = .ok (.iload 6, 2)) := by decide +kernel
theorem dX11_isAhead_36 : decode cX11_isAhead 36 = .ok (.iload_n 3, 1) := dG_dX11_isAhead_36.1
theorem dX11_isAhead_37 : decode cX11_isAhead 37 = .ok (.iload 4, 2) := dG_dX11_isAhead_36.2.1
theorem dX11_isAhead_39 : decode cX11_isAhead 39 = .ok (.iload 6, 2) := dG_dX11_isAhead_36.2.2.1
theorem dX11_isAhead_41 : decode cX11_isAhead 41 = .ok (.invokevirtual 393, 3) := dG_dX11_isAhead_36.2.2.2.1
theorem dX11_isAhead_44 : decode cX11_isAhead 44 = .ok (.lstore 9, 2) := dG_dX11_isAhead_36.2.2.2.2.1
theorem dX11_isAhead_46 : decode cX11_isAhead 46 = .ok (.lload 7, 2) := dG_dX11_isAhead_36.2.2.2.2.2.1
theorem dX11_isAhead_48 : decode cX11_isAhead 48 = .ok (.lload 9, 2) := dG_dX11_isAhead_36.2.2.2.2.2.2.1
theorem dX11_isAhead_50 : decode cX11_isAhead 50 = .ok (.lcmp, 1) := dG_dX11_isAhead_36.2.2.2.2.2.2.2.1
theorem dX11_isAhead_51 : decode cX11_isAhead 51 = .ok (.ifCond .eq 43, 3) := dG_dX11_isAhead_36.2.2.2.2.2.2.2.2.1
theorem dX11_isAhead_54 : decode cX11_isAhead 54 = .ok (.aload_n 0, 1) := dG_dX11_isAhead_36.2.2.2.2.2.2.2.2.2.1
theorem dX11_isAhead_55 : decode cX11_isAhead 55 = .ok (.getfield 63, 3) := dG_dX11_isAhead_36.2.2.2.2.2.2.2.2.2.2.1
theorem dX11_isAhead_58 : decode cX11_isAhead 58 = .ok (.iload 6, 2) := dG_dX11_isAhead_36.2.2.2.2.2.2.2.2.2.2.2
theorem dG_dX11_isAhead_60 : (decode cX11_isAhead 60 = .ok (.baload, 1)) ∧ (decode cX11_isAhead 61 = .ok (.ifCond .eq 19, 3)) ∧ (decode cX11_isAhead 64 = .ok (.lload 7, 2)) ∧ (decode cX11_isAhead 66 = .ok (.lload 9, 2)) ∧ (decode cX11_isAhead 68 = .ok (.lcmp, 1)) ∧ (decode cX11_isAhead 69 = .ok (.ifCond .ge 7, 3)) ∧ (decode cX11_isAhead 72 = .ok (.iconst 1, 1)) ∧ (decode cX11_isAhead 73 = .ok (.goto 20, 3)) ∧ (decode cX11_isAhead 76 = .ok (.iconst 0, 1)) ∧ (decode cX11_isAhead 77 = .ok (.goto 16, 3)) ∧ (decode cX11_isAhead 80 = .ok (.lload 7, 2)) ∧ (decode cX11_isAhead 82 = .ok (.lload 9, 2)) := by decide +kernel
theorem dX11_isAhead_60 : decode cX11_isAhead 60 = .ok (.baload, 1) := dG_dX11_isAhead_60.1
theorem dX11_isAhead_61 : decode cX11_isAhead 61 = .ok (.ifCond .eq 19, 3) := dG_dX11_isAhead_60.2.1
theorem dX11_isAhead_64 : decode cX11_isAhead 64 = .ok (.lload 7, 2) := dG_dX11_isAhead_60.2.2.1
theorem dX11_isAhead_66 : decode cX11_isAhead 66 = .ok (.lload 9, 2) := dG_dX11_isAhead_60.2.2.2.1
theorem dX11_isAhead_68 : decode cX11_isAhead 68 = .ok (.lcmp, 1) := dG_dX11_isAhead_60.2.2.2.2.1
theorem dX11_isAhead_69 : decode cX11_isAhead 69 = .ok (.ifCond .ge 7, 3) := dG_dX11_isAhead_60.2.2.2.2.2.1
theorem dX11_isAhead_72 : decode cX11_isAhead 72 = .ok (.iconst 1, 1) := dG_dX11_isAhead_60.2.2.2.2.2.2.1
theorem dX11_isAhead_73 : decode cX11_isAhead 73 = .ok (.goto 20, 3) := dG_dX11_isAhead_60.2.2.2.2.2.2.2.1
theorem dX11_isAhead_76 : decode cX11_isAhead 76 = .ok (.iconst 0, 1) := dG_dX11_isAhead_60.2.2.2.2.2.2.2.2.1
theorem dX11_isAhead_77 : decode cX11_isAhead 77 = .ok (.goto 16, 3) := dG_dX11_isAhead_60.2.2.2.2.2.2.2.2.2.1
theorem dX11_isAhead_80 : decode cX11_isAhead 80 = .ok (.lload 7, 2) := dG_dX11_isAhead_60.2.2.2.2.2.2.2.2.2.2.1
theorem dX11_isAhead_82 : decode cX11_isAhead 82 = .ok (.lload 9, 2) := dG_dX11_isAhead_60.2.2.2.2.2.2.2.2.2.2.2
theorem dG_dX11_isAhead_84 : (decode cX11_isAhead 84 = .ok (.lcmp, 1)) ∧ (decode cX11_isAhead 85 = .ok (.ifCond .le 7, 3)) ∧ (decode cX11_isAhead 88 = .ok (.iconst 1, 1)) ∧ (decode cX11_isAhead 89 = .ok (.goto 4, 3)) ∧ (decode cX11_isAhead 92 = .ok (.iconst 0, 1)) ∧ (decode cX11_isAhead 93 = .ok (.ireturn, 1)) ∧ (decode cX11_isAhead 94 = .ok (.iinc 6 1, 3)) ∧ (decode cX11_isAhead 97 = .ok (.goto (-86), 3)) ∧ (decode cX11_isAhead 100 = .ok (.aload_n 0, 1)) ∧ (decode cX11_isAhead 101 = .ok (.getfield 310, 3)) ∧ (decode cX11_isAhead 104 = .ok (.ifCond .eq 10, 3)) ∧ (decode cX11_isAhead 107 = .ok (.iload 5, 2)) := by decide +kernel
theorem dX11_isAhead_84 : decode cX11_isAhead 84 = .ok (.lcmp, 1) := dG_dX11_isAhead_84.1
theorem dX11_isAhead_85 : decode cX11_isAhead 85 = .ok (.ifCond .le 7, 3) := dG_dX11_isAhead_84.2.1
theorem dX11_isAhead_88 : decode cX11_isAhead 88 = .ok (.iconst 1, 1) := dG_dX11_isAhead_84.2.2.1
theorem dX11_isAhead_89 : decode cX11_isAhead 89 = .ok (.goto 4, 3) := dG_dX11_isAhead_84.2.2.2.1
theorem dX11_isAhead_92 : decode cX11_isAhead 92 = .ok (.iconst 0, 1) := dG_dX11_isAhead_84.2.2.2.2.1
theorem dX11_isAhead_93 : decode cX11_isAhead 93 = .ok (.ireturn, 1) := dG_dX11_isAhead_84.2.2.2.2.2.1
theorem dX11_isAhead_94 : decode cX11_isAhead 94 = .ok (.iinc 6 1, 3) := dG_dX11_isAhead_84.2.2.2.2.2.2.1
theorem dX11_isAhead_97 : decode cX11_isAhead 97 = .ok (.goto (-86), 3) := dG_dX11_isAhead_84.2.2.2.2.2.2.2.1
theorem dX11_isAhead_100 : decode cX11_isAhead 100 = .ok (.aload_n 0, 1) := dG_dX11_isAhead_84.2.2.2.2.2.2.2.2.1
theorem dX11_isAhead_101 : decode cX11_isAhead 101 = .ok (.getfield 310, 3) := dG_dX11_isAhead_84.2.2.2.2.2.2.2.2.2.1
theorem dX11_isAhead_104 : decode cX11_isAhead 104 = .ok (.ifCond .eq 10, 3) := dG_dX11_isAhead_84.2.2.2.2.2.2.2.2.2.2.1
theorem dX11_isAhead_107 : decode cX11_isAhead 107 = .ok (.iload 5, 2) := dG_dX11_isAhead_84.2.2.2.2.2.2.2.2.2.2.2
theorem dG_dX11_isAhead_109 : (decode cX11_isAhead 109 = .ok (.iconst 1, 1)) ∧ (decode cX11_isAhead 110 = .ok (.isub, 1)) ∧ (decode cX11_isAhead 111 = .ok (.goto 4, 3)) ∧ (decode cX11_isAhead 114 = .ok (.iconst (-1), 1)) ∧ (decode cX11_isAhead 115 = .ok (.istore 5, 2)) ∧ (decode cX11_isAhead 117 = .ok (.goto (-114), 3)) ∧ (decode cX11_isAhead 120 = .ok (.iconst 0, 1)) ∧ (decode cX11_isAhead 121 = .ok (.ireturn, 1)) ∧ (decode cX11_rankOf 0 = .ok (.iconst 1, 1)) ∧ (decode cX11_rankOf 1 = .ok (.istore 4, 2)) ∧ (decode cX11_rankOf 3 = .ok (.iconst 0, 1)) ∧ (decode cX11_rankOf 4 = .ok (.istore 5, 2)) := by decide +kernel
theorem dX11_isAhead_109 : decode cX11_isAhead 109 = .ok (.iconst 1, 1) := dG_dX11_isAhead_109.1
theorem dX11_isAhead_110 : decode cX11_isAhead 110 = .ok (.isub, 1) := dG_dX11_isAhead_109.2.1
theorem dX11_isAhead_111 : decode cX11_isAhead 111 = .ok (.goto 4, 3) := dG_dX11_isAhead_109.2.2.1
theorem dX11_isAhead_114 : decode cX11_isAhead 114 = .ok (.iconst (-1), 1) := dG_dX11_isAhead_109.2.2.2.1
theorem dX11_isAhead_115 : decode cX11_isAhead 115 = .ok (.istore 5, 2) := dG_dX11_isAhead_109.2.2.2.2.1
theorem dX11_isAhead_117 : decode cX11_isAhead 117 = .ok (.goto (-114), 3) := dG_dX11_isAhead_109.2.2.2.2.2.1
theorem dX11_isAhead_120 : decode cX11_isAhead 120 = .ok (.iconst 0, 1) := dG_dX11_isAhead_109.2.2.2.2.2.2.1
theorem dX11_isAhead_121 : decode cX11_isAhead 121 = .ok (.ireturn, 1) := dG_dX11_isAhead_109.2.2.2.2.2.2.2.1
theorem dX11_rankOf_0 : decode cX11_rankOf 0 = .ok (.iconst 1, 1) := dG_dX11_isAhead_109.2.2.2.2.2.2.2.2.1
theorem dX11_rankOf_1 : decode cX11_rankOf 1 = .ok (.istore 4, 2) := dG_dX11_isAhead_109.2.2.2.2.2.2.2.2.2.1
theorem dX11_rankOf_3 : decode cX11_rankOf 3 = .ok (.iconst 0, 1) := dG_dX11_isAhead_109.2.2.2.2.2.2.2.2.2.2.1
theorem dX11_rankOf_4 : decode cX11_rankOf 4 = .ok (.istore 5, 2) := dG_dX11_isAhead_109.2.2.2.2.2.2.2.2.2.2.2
theorem dG_dX11_rankOf_6 : (decode cX11_rankOf 6 = .ok (.iload 5, 2)) ∧ (decode cX11_rankOf 8 = .ok (.aload_n 0, 1)) ∧ (decode cX11_rankOf 9 = .ok (.getfield 313, 3)) ∧ (decode cX11_rankOf 12 = .ok (.if_icmp .ge 52, 3)) ∧ (decode cX11_rankOf 15 = .ok (.iload 4, 2)) ∧ (decode cX11_rankOf 17 = .ok (.iload 5, 2)) ∧ (decode cX11_rankOf 19 = .ok (.iload_n 2, 1)) ∧ (decode cX11_rankOf 20 = .ok (.if_icmp .eq 34, 3)) ∧ (decode cX11_rankOf 23 = .ok (.aload_n 0, 1)) ∧ (decode cX11_rankOf 24 = .ok (.getfield 85, 3)) ∧ (decode cX11_rankOf 27 = .ok (.bipush 16, 2)) ∧ (decode cX11_rankOf 29 = .ok (.iload_n 1, 1)) := by decide +kernel
theorem dX11_rankOf_6 : decode cX11_rankOf 6 = .ok (.iload 5, 2) := dG_dX11_rankOf_6.1
theorem dX11_rankOf_8 : decode cX11_rankOf 8 = .ok (.aload_n 0, 1) := dG_dX11_rankOf_6.2.1
theorem dX11_rankOf_9 : decode cX11_rankOf 9 = .ok (.getfield 313, 3) := dG_dX11_rankOf_6.2.2.1
theorem dX11_rankOf_12 : decode cX11_rankOf 12 = .ok (.if_icmp .ge 52, 3) := dG_dX11_rankOf_6.2.2.2.1
theorem dX11_rankOf_15 : decode cX11_rankOf 15 = .ok (.iload 4, 2) := dG_dX11_rankOf_6.2.2.2.2.1
theorem dX11_rankOf_17 : decode cX11_rankOf 17 = .ok (.iload 5, 2) := dG_dX11_rankOf_6.2.2.2.2.2.1
theorem dX11_rankOf_19 : decode cX11_rankOf 19 = .ok (.iload_n 2, 1) := dG_dX11_rankOf_6.2.2.2.2.2.2.1
theorem dX11_rankOf_20 : decode cX11_rankOf 20 = .ok (.if_icmp .eq 34, 3) := dG_dX11_rankOf_6.2.2.2.2.2.2.2.1
theorem dX11_rankOf_23 : decode cX11_rankOf 23 = .ok (.aload_n 0, 1) := dG_dX11_rankOf_6.2.2.2.2.2.2.2.2.1
theorem dX11_rankOf_24 : decode cX11_rankOf 24 = .ok (.getfield 85, 3) := dG_dX11_rankOf_6.2.2.2.2.2.2.2.2.2.1
theorem dX11_rankOf_27 : decode cX11_rankOf 27 = .ok (.bipush 16, 2) := dG_dX11_rankOf_6.2.2.2.2.2.2.2.2.2.2.1
theorem dX11_rankOf_29 : decode cX11_rankOf 29 = .ok (.iload_n 1, 1) := dG_dX11_rankOf_6.2.2.2.2.2.2.2.2.2.2.2
theorem dG_dX11_rankOf_30 : (decode cX11_rankOf 30 = .ok (.imul, 1)) ∧ (decode cX11_rankOf 31 = .ok (.iload 5, 2)) ∧ (decode cX11_rankOf 33 = .ok (.iadd, 1)) ∧ (decode cX11_rankOf 34 = .ok (.baload, 1)) ∧ (decode cX11_rankOf 35 = .ok (.ifCond .eq 19, 3)) ∧ (decode cX11_rankOf 38 = .ok (.aload_n 0, 1)) ∧ (decode cX11_rankOf 39 = .ok (.iload_n 1, 1)) ∧ (decode cX11_rankOf 40 = .ok (.iload 5, 2)) ∧ (decode cX11_rankOf 42 = .ok (.iload_n 2, 1)) ∧ (decode cX11_rankOf 43 = .ok (.iload_n 3, 1)) ∧ (decode cX11_rankOf 44 = .ok (.invokevirtual 397, 3)) ∧ (decode cX11_rankOf 47 = .ok (.ifCond .eq 7, 3)) := by decide +kernel
theorem dX11_rankOf_30 : decode cX11_rankOf 30 = .ok (.imul, 1) := dG_dX11_rankOf_30.1
theorem dX11_rankOf_31 : decode cX11_rankOf 31 = .ok (.iload 5, 2) := dG_dX11_rankOf_30.2.1
theorem dX11_rankOf_33 : decode cX11_rankOf 33 = .ok (.iadd, 1) := dG_dX11_rankOf_30.2.2.1
theorem dX11_rankOf_34 : decode cX11_rankOf 34 = .ok (.baload, 1) := dG_dX11_rankOf_30.2.2.2.1
theorem dX11_rankOf_35 : decode cX11_rankOf 35 = .ok (.ifCond .eq 19, 3) := dG_dX11_rankOf_30.2.2.2.2.1
theorem dX11_rankOf_38 : decode cX11_rankOf 38 = .ok (.aload_n 0, 1) := dG_dX11_rankOf_30.2.2.2.2.2.1
theorem dX11_rankOf_39 : decode cX11_rankOf 39 = .ok (.iload_n 1, 1) := dG_dX11_rankOf_30.2.2.2.2.2.2.1
theorem dX11_rankOf_40 : decode cX11_rankOf 40 = .ok (.iload 5, 2) := dG_dX11_rankOf_30.2.2.2.2.2.2.2.1
theorem dX11_rankOf_42 : decode cX11_rankOf 42 = .ok (.iload_n 2, 1) := dG_dX11_rankOf_30.2.2.2.2.2.2.2.2.1
theorem dX11_rankOf_43 : decode cX11_rankOf 43 = .ok (.iload_n 3, 1) := dG_dX11_rankOf_30.2.2.2.2.2.2.2.2.2.1
theorem dX11_rankOf_44 : decode cX11_rankOf 44 = .ok (.invokevirtual 397, 3) := dG_dX11_rankOf_30.2.2.2.2.2.2.2.2.2.2.1
theorem dX11_rankOf_47 : decode cX11_rankOf 47 = .ok (.ifCond .eq 7, 3) := dG_dX11_rankOf_30.2.2.2.2.2.2.2.2.2.2.2
theorem dG_dX11_rankOf_50 : (decode cX11_rankOf 50 = .ok (.iconst 1, 1)) ∧ (decode cX11_rankOf 51 = .ok (.goto 4, 3)) ∧ (decode cX11_rankOf 54 = .ok (.iconst 0, 1)) ∧ (decode cX11_rankOf 55 = .ok (.iadd, 1)) ∧ (decode cX11_rankOf 56 = .ok (.istore 4, 2)) ∧ (decode cX11_rankOf 58 = .ok (.iinc 5 1, 3)) ∧ (decode cX11_rankOf 61 = .ok (.goto (-55), 3)) ∧ (decode cX11_rankOf 64 = .ok (.iload 4, 2)) ∧ (decode cX11_rankOf 66 = .ok (.ireturn, 1)) ∧ (decode cX11_rank 0 = .ok (.aload_n 0, 1)) ∧ (decode cX11_rank 1 = .ok (.iconst 0, 1)) ∧ (decode cX11_rank 2 = .ok (.putfield 146, 3)) := by decide +kernel
theorem dX11_rankOf_50 : decode cX11_rankOf 50 = .ok (.iconst 1, 1) := dG_dX11_rankOf_50.1
theorem dX11_rankOf_51 : decode cX11_rankOf 51 = .ok (.goto 4, 3) := dG_dX11_rankOf_50.2.1
theorem dX11_rankOf_54 : decode cX11_rankOf 54 = .ok (.iconst 0, 1) := dG_dX11_rankOf_50.2.2.1
theorem dX11_rankOf_55 : decode cX11_rankOf 55 = .ok (.iadd, 1) := dG_dX11_rankOf_50.2.2.2.1
theorem dX11_rankOf_56 : decode cX11_rankOf 56 = .ok (.istore 4, 2) := dG_dX11_rankOf_50.2.2.2.2.1
theorem dX11_rankOf_58 : decode cX11_rankOf 58 = .ok (.iinc 5 1, 3) := dG_dX11_rankOf_50.2.2.2.2.2.1
theorem dX11_rankOf_61 : decode cX11_rankOf 61 = .ok (.goto (-55), 3) := dG_dX11_rankOf_50.2.2.2.2.2.2.1
theorem dX11_rankOf_64 : decode cX11_rankOf 64 = .ok (.iload 4, 2) := dG_dX11_rankOf_50.2.2.2.2.2.2.2.1
theorem dX11_rankOf_66 : decode cX11_rankOf 66 = .ok (.ireturn, 1) := dG_dX11_rankOf_50.2.2.2.2.2.2.2.2.1
theorem dX11_rank_0 : decode cX11_rank 0 = .ok (.aload_n 0, 1) := dG_dX11_rankOf_50.2.2.2.2.2.2.2.2.2.1
theorem dX11_rank_1 : decode cX11_rank 1 = .ok (.iconst 0, 1) := dG_dX11_rankOf_50.2.2.2.2.2.2.2.2.2.2.1
theorem dX11_rank_2 : decode cX11_rank 2 = .ok (.putfield 146, 3) := dG_dX11_rankOf_50.2.2.2.2.2.2.2.2.2.2.2
theorem dG_dX11_rank_5 : (decode cX11_rank 5 = .ok (.aload_n 0, 1)) ∧ (decode cX11_rank 6 = .ok (.iconst 0, 1)) ∧ (decode cX11_rank 7 = .ok (.putfield 149, 3)) ∧ (decode cX11_rank 10 = .ok (.aload_n 0, 1)) ∧ (decode cX11_rank 11 = .ok (.iload_n 1, 1)) ∧ (decode cX11_rank 12 = .ok (.iload_n 2, 1)) ∧ (decode cX11_rank 13 = .ok (.invokevirtual 391, 3)) ∧ (decode cX11_rank 16 = .ok (.ifCond .ne 9, 3)) ∧ (decode cX11_rank 19 = .ok (.aload_n 0, 1)) ∧ (decode cX11_rank 20 = .ok (.iconst 1, 1)) ∧ (decode cX11_rank 21 = .ok (.invokevirtual 295, 3)) ∧ (decode cX11_rank 24 = .ok (.ireturn, 1)) := by decide +kernel
theorem dX11_rank_5 : decode cX11_rank 5 = .ok (.aload_n 0, 1) := dG_dX11_rank_5.1
theorem dX11_rank_6 : decode cX11_rank 6 = .ok (.iconst 0, 1) := dG_dX11_rank_5.2.1
theorem dX11_rank_7 : decode cX11_rank 7 = .ok (.putfield 149, 3) := dG_dX11_rank_5.2.2.1
theorem dX11_rank_10 : decode cX11_rank 10 = .ok (.aload_n 0, 1) := dG_dX11_rank_5.2.2.2.1
theorem dX11_rank_11 : decode cX11_rank 11 = .ok (.iload_n 1, 1) := dG_dX11_rank_5.2.2.2.2.1
theorem dX11_rank_12 : decode cX11_rank 12 = .ok (.iload_n 2, 1) := dG_dX11_rank_5.2.2.2.2.2.1
theorem dX11_rank_13 : decode cX11_rank 13 = .ok (.invokevirtual 391, 3) := dG_dX11_rank_5.2.2.2.2.2.2.1
theorem dX11_rank_16 : decode cX11_rank 16 = .ok (.ifCond .ne 9, 3) := dG_dX11_rank_5.2.2.2.2.2.2.2.1
theorem dX11_rank_19 : decode cX11_rank 19 = .ok (.aload_n 0, 1) := dG_dX11_rank_5.2.2.2.2.2.2.2.2.1
theorem dX11_rank_20 : decode cX11_rank 20 = .ok (.iconst 1, 1) := dG_dX11_rank_5.2.2.2.2.2.2.2.2.2.1
theorem dX11_rank_21 : decode cX11_rank 21 = .ok (.invokevirtual 295, 3) := dG_dX11_rank_5.2.2.2.2.2.2.2.2.2.2.1
theorem dX11_rank_24 : decode cX11_rank 24 = .ok (.ireturn, 1) := dG_dX11_rank_5.2.2.2.2.2.2.2.2.2.2.2
theorem dG_dX11_rank_25 : (decode cX11_rank 25 = .ok (.iload_n 3, 1)) ∧ (decode cX11_rank 26 = .ok (.invokestatic 364, 3)) ∧ (decode cX11_rank 29 = .ok (.ifCond .ne 9, 3)) ∧ (decode cX11_rank 32 = .ok (.aload_n 0, 1)) ∧ (decode cX11_rank 33 = .ok (.iconst 2, 1)) ∧ (decode cX11_rank 34 = .ok (.invokevirtual 295, 3)) ∧ (decode cX11_rank 37 = .ok (.ireturn, 1)) ∧ (decode cX11_rank 38 = .ok (.aload_n 0, 1)) ∧ (decode cX11_rank 39 = .ok (.iload_n 1, 1)) ∧ (decode cX11_rank 40 = .ok (.iload_n 2, 1)) ∧ (decode cX11_rank 41 = .ok (.iload_n 3, 1)) ∧ (decode cX11_rank 42 = .ok (.invokevirtual 401, 3)) := by decide +kernel
theorem dX11_rank_25 : decode cX11_rank 25 = .ok (.iload_n 3, 1) := dG_dX11_rank_25.1
theorem dX11_rank_26 : decode cX11_rank 26 = .ok (.invokestatic 364, 3) := dG_dX11_rank_25.2.1
theorem dX11_rank_29 : decode cX11_rank 29 = .ok (.ifCond .ne 9, 3) := dG_dX11_rank_25.2.2.1
theorem dX11_rank_32 : decode cX11_rank 32 = .ok (.aload_n 0, 1) := dG_dX11_rank_25.2.2.2.1
theorem dX11_rank_33 : decode cX11_rank 33 = .ok (.iconst 2, 1) := dG_dX11_rank_25.2.2.2.2.1
theorem dX11_rank_34 : decode cX11_rank 34 = .ok (.invokevirtual 295, 3) := dG_dX11_rank_25.2.2.2.2.2.1
theorem dX11_rank_37 : decode cX11_rank 37 = .ok (.ireturn, 1) := dG_dX11_rank_25.2.2.2.2.2.2.1
theorem dX11_rank_38 : decode cX11_rank 38 = .ok (.aload_n 0, 1) := dG_dX11_rank_25.2.2.2.2.2.2.2.1
theorem dX11_rank_39 : decode cX11_rank 39 = .ok (.iload_n 1, 1) := dG_dX11_rank_25.2.2.2.2.2.2.2.2.1
theorem dX11_rank_40 : decode cX11_rank 40 = .ok (.iload_n 2, 1) := dG_dX11_rank_25.2.2.2.2.2.2.2.2.2.1
theorem dX11_rank_41 : decode cX11_rank 41 = .ok (.iload_n 3, 1) := dG_dX11_rank_25.2.2.2.2.2.2.2.2.2.2.1
theorem dX11_rank_42 : decode cX11_rank 42 = .ok (.invokevirtual 401, 3) := dG_dX11_rank_25.2.2.2.2.2.2.2.2.2.2.2
theorem dG_dX11_rank_45 : (decode cX11_rank 45 = .ok (.ireturn, 1)) ∧ (decode cX11_order 0 = .ok (.aload_n 0, 1)) ∧ (decode cX11_order 1 = .ok (.iconst 0, 1)) ∧ (decode cX11_order 2 = .ok (.putfield 146, 3)) ∧ (decode cX11_order 5 = .ok (.aload_n 0, 1)) ∧ (decode cX11_order 6 = .ok (.iconst 0, 1)) ∧ (decode cX11_order 7 = .ok (.putfield 149, 3)) ∧ (decode cX11_order 10 = .ok (.aload_n 0, 1)) ∧ (decode cX11_order 11 = .ok (.iload_n 1, 1)) ∧ (decode cX11_order 12 = .ok (.invokevirtual 325, 3)) ∧ (decode cX11_order 15 = .ok (.ifCond .eq 17, 3)) ∧ (decode cX11_order 18 = .ok (.iload_n 2, 1)) := by decide +kernel
theorem dX11_rank_45 : decode cX11_rank 45 = .ok (.ireturn, 1) := dG_dX11_rank_45.1
theorem dX11_order_0 : decode cX11_order 0 = .ok (.aload_n 0, 1) := dG_dX11_rank_45.2.1
theorem dX11_order_1 : decode cX11_order 1 = .ok (.iconst 0, 1) := dG_dX11_rank_45.2.2.1
theorem dX11_order_2 : decode cX11_order 2 = .ok (.putfield 146, 3) := dG_dX11_rank_45.2.2.2.1
theorem dX11_order_5 : decode cX11_order 5 = .ok (.aload_n 0, 1) := dG_dX11_rank_45.2.2.2.2.1
theorem dX11_order_6 : decode cX11_order 6 = .ok (.iconst 0, 1) := dG_dX11_rank_45.2.2.2.2.2.1
theorem dX11_order_7 : decode cX11_order 7 = .ok (.putfield 149, 3) := dG_dX11_rank_45.2.2.2.2.2.2.1
theorem dX11_order_10 : decode cX11_order 10 = .ok (.aload_n 0, 1) := dG_dX11_rank_45.2.2.2.2.2.2.2.1
theorem dX11_order_11 : decode cX11_order 11 = .ok (.iload_n 1, 1) := dG_dX11_rank_45.2.2.2.2.2.2.2.2.1
theorem dX11_order_12 : decode cX11_order 12 = .ok (.invokevirtual 325, 3) := dG_dX11_rank_45.2.2.2.2.2.2.2.2.2.1
theorem dX11_order_15 : decode cX11_order 15 = .ok (.ifCond .eq 17, 3) := dG_dX11_rank_45.2.2.2.2.2.2.2.2.2.2.1
theorem dX11_order_18 : decode cX11_order 18 = .ok (.iload_n 2, 1) := dG_dX11_rank_45.2.2.2.2.2.2.2.2.2.2.2
theorem dG_dX11_order_19 : (decode cX11_order 19 = .ok (.ifCond .lt 13, 3)) ∧ (decode cX11_order 22 = .ok (.iload_n 2, 1)) ∧ (decode cX11_order 23 = .ok (.aload_n 0, 1)) ∧ (decode cX11_order 24 = .ok (.getfield 91, 3)) ∧ (decode cX11_order 27 = .ok (.iload_n 1, 1)) ∧ (decode cX11_order 28 = .ok (.iaload, 1)) ∧ (decode cX11_order 29 = .ok (.if_icmp .lt 9, 3)) ∧ (decode cX11_order 32 = .ok (.aload_n 0, 1)) ∧ (decode cX11_order 33 = .ok (.iconst 1, 1)) ∧ (decode cX11_order 34 = .ok (.invokevirtual 295, 3)) ∧ (decode cX11_order 37 = .ok (.ireturn, 1)) ∧ (decode cX11_order 38 = .ok (.aload_n 0, 1)) := by decide +kernel
theorem dX11_order_19 : decode cX11_order 19 = .ok (.ifCond .lt 13, 3) := dG_dX11_order_19.1
theorem dX11_order_22 : decode cX11_order 22 = .ok (.iload_n 2, 1) := dG_dX11_order_19.2.1
theorem dX11_order_23 : decode cX11_order 23 = .ok (.aload_n 0, 1) := dG_dX11_order_19.2.2.1
theorem dX11_order_24 : decode cX11_order 24 = .ok (.getfield 91, 3) := dG_dX11_order_19.2.2.2.1
theorem dX11_order_27 : decode cX11_order 27 = .ok (.iload_n 1, 1) := dG_dX11_order_19.2.2.2.2.1
theorem dX11_order_28 : decode cX11_order 28 = .ok (.iaload, 1) := dG_dX11_order_19.2.2.2.2.2.1
theorem dX11_order_29 : decode cX11_order 29 = .ok (.if_icmp .lt 9, 3) := dG_dX11_order_19.2.2.2.2.2.2.1
theorem dX11_order_32 : decode cX11_order 32 = .ok (.aload_n 0, 1) := dG_dX11_order_19.2.2.2.2.2.2.2.1
theorem dX11_order_33 : decode cX11_order 33 = .ok (.iconst 1, 1) := dG_dX11_order_19.2.2.2.2.2.2.2.2.1
theorem dX11_order_34 : decode cX11_order 34 = .ok (.invokevirtual 295, 3) := dG_dX11_order_19.2.2.2.2.2.2.2.2.2.1
theorem dX11_order_37 : decode cX11_order 37 = .ok (.ireturn, 1) := dG_dX11_order_19.2.2.2.2.2.2.2.2.2.2.1
theorem dX11_order_38 : decode cX11_order 38 = .ok (.aload_n 0, 1) := dG_dX11_order_19.2.2.2.2.2.2.2.2.2.2.2
theorem dG_dX11_order_39 : (decode cX11_order 39 = .ok (.getfield 88, 3)) ∧ (decode cX11_order 42 = .ok (.bipush 16, 2)) ∧ (decode cX11_order 44 = .ok (.iload_n 1, 1)) ∧ (decode cX11_order 45 = .ok (.imul, 1)) ∧ (decode cX11_order 46 = .ok (.iload_n 2, 1)) ∧ (decode cX11_order 47 = .ok (.iadd, 1)) ∧ (decode cX11_order 48 = .ok (.iaload, 1)) ∧ (decode cX11_order 49 = .ok (.ireturn, 1)) := by decide +kernel
theorem dX11_order_39 : decode cX11_order 39 = .ok (.getfield 88, 3) := dG_dX11_order_39.1
theorem dX11_order_42 : decode cX11_order 42 = .ok (.bipush 16, 2) := dG_dX11_order_39.2.1
theorem dX11_order_44 : decode cX11_order 44 = .ok (.iload_n 1, 1) := dG_dX11_order_39.2.2.1
theorem dX11_order_45 : decode cX11_order 45 = .ok (.imul, 1) := dG_dX11_order_39.2.2.2.1
theorem dX11_order_46 : decode cX11_order 46 = .ok (.iload_n 2, 1) := dG_dX11_order_39.2.2.2.2.1
theorem dX11_order_47 : decode cX11_order 47 = .ok (.iadd, 1) := dG_dX11_order_39.2.2.2.2.2.1
theorem dX11_order_48 : decode cX11_order 48 = .ok (.iaload, 1) := dG_dX11_order_39.2.2.2.2.2.2.1
theorem dX11_order_49 : decode cX11_order 49 = .ok (.ireturn, 1) := dG_dX11_order_39.2.2.2.2.2.2.2
end

section
set_option maxHeartbeats 4000000 in
set_option maxRecDepth 100000 in
theorem y_keyOf (l : Launch) (D : va_G) (k : Nat → ClassId) (A : Nat → Prop) (ad : Nat → Nat) (hD : mdD A k ad) (v : gV) (f g : gF) (a1 : Int) (a2 : Int) (a3 : Int) (a4 : Int) (h_a1 : inR a1) (h_a2 : inR a2) (h_a3 : inR a3) (h_a4 : inR a4) (hrp : rpOk (v 13) (f 9)) (h1 : 0 ≤ a1 ∧ a1 ≤ 3) (h4 : 0 ≤ a4 ∧ a4 < 4) : GM l D k A (mdT k ad) yX11_keyOf cX11_keyOf 11 (some .long) 3 87 [.ref (ad 0), .int (iI a1), .int (iI a2), .int (iI a3), .int (iI a4)] v f g (fun r v1 f1 g1 => ∃ (z : Int) (a37_ : Int → Int) (b1_ : Int → Int), r = some (.long (iL z)) ∧ v = v1 ∧ (va_up f 37 a37_) = f1 ∧ (va_up g 1 b1_) = g1 ∧ (z = (kV (fun k => mcG ((f 9) k)) (f 10) (v 13) (gFd (f 24) (f 25) (f 26) (f 27) (f 28) (f 29) (f 30) (f 31) (f 32) (f 33) (f 18) (f 19) (v 25) (v 26) a3) ((f 1) a1) ((f 13) a4) a1 a2)) ∧ ((-5000000000) ≤ z ∧ z ≤ 5000000000)) := by
  refine GM.of (by decide) (Nat.le_of_ble_eq_true rfl) ?_
  intro p e s m args below meth c Q ls hQ C hml hr hlocks hP hl
  have hx := C.1
  have hb := C.2.1
  have hok := hP.2
  have hS : va_S A s.heap s.heap [] := va_S.rf
  have hl : lv_has ls 11 [(0, .ref (ad 0)), (1, .int (iI a1)), (2, .int (iI a2)), (3, .int (iI a3)), (4, .int (iI a4))] := hl
  have hP : gWd D (mdT k ad) v (va_up f 37 (f 37)) (va_up g 1 (g 1)) s.heap := by rw [va_id, va_id]; exact hP
  have hro : 0 ≤ (f 1) a1 ∧ (f 1) a1 ≤ 5 := hok.2 1 a1
  have hnu : ∀ k, 0 ≤ (f 10) k ∧ (f 10) k ≤ 999999 := fun k => hok.2 10 k
  have hit : ∀ k, 0 ≤ mcG ((f 9) k) ∧ mcG ((f 9) k) ≤ 11 := fun k => mcG_r (hok.2 9 k)
  have hFr : ∀ r t c i, (-2000000) ≤ gFd (f 24) (f 25) (f 26) (f 27) (f 28) (f 29) (f 30) (f 31) (f 32) (f 33) (f 18) (f 19) (v 25) (v 26) a3 r t c i ∧ gFd (f 24) (f 25) (f 26) (f 27) (f 28) (f 29) (f 30) (f 31) (f 32) (f 33) (f 18) (f 19) (v 25) (v 26) a3 r t c i ≤ 2000000 := fun r t c i => Fd_r (hok.2 29) (hok.2 32) (hok.2 28) (hok.2 27) (hok.1 25) i
  have hPr : ∀ r t c, (-1000000000) ≤ evR (fun k => mcG ((f 9) k)) (f 10) (gFd (f 24) (f 25) (f 26) (f 27) (f 28) (f 29) (f 30) (f 31) (f 32) (f 33) (f 18) (f 19) (v 25) (v 26) a3 r t c) (v 13) ∧ evR (fun k => mcG ((f 9) k)) (f 10) (gFd (f 24) (f 25) (f 26) (f 27) (f 28) (f 29) (f 30) (f 31) (f 32) (f 33) (f 18) (f 19) (v 25) (v 26) a3 r t c) (v 13) ≤ 1000000000 := fun r t c => pt_r hnu (fun k => (hit k).1) (hFr r t c)
  have r_1 : 0 ≤ (v 25) ∧ (v 25) ≤ 300 := hok.1 25
  refine lv_lconst (v := iL 0) hx hb dX11_keyOf_0 (by decide) ?_
  refine lv_lstore (lv' := [(5, .long (iL 0)), (0, .ref (ad 0)), (1, .int (iI a1)), (2, .int (iI a2)), (3, .int (iI a3)), (4, .int (iI a4))]) hx hb dX11_keyOf_1 hl (by decide) rfl (fun ls hl => ?_)
  refine lv_ldc2 (v := iL (-1000000000)) hx hb C.2.2.2.1 (C.2.2.1 _ (show Cond.constantLong RX11 370 (iL (-1000000000)) ∈ gWs from mD_X11_370)) dX11_keyOf_3 ?_
  refine lv_lstore (lv' := [(7, .long (iL (-1000000000))), (5, .long (iL 0)), (0, .ref (ad 0)), (1, .int (iI a1)), (2, .int (iI a2)), (3, .int (iI a3)), (4, .int (iI a4))]) hx hb dX11_keyOf_6 hl (by decide) rfl (fun ls hl => ?_)
  refine lv_iconst (v := iI 0) hx hb dX11_keyOf_8 rfl ?_
  refine lv_istore (lv' := [(9, .int (iI 0)), (7, .long (iL (-1000000000))), (5, .long (iL 0)), (0, .ref (ad 0)), (1, .int (iI a1)), (2, .int (iI a2)), (3, .int (iI a3)), (4, .int (iI a4))]) hx hb dX11_keyOf_9 hl (by decide) rfl (fun ls hl => ?_)
  have L_2 : ∀ (n : Nat) (y5 : Int) (y7 : Int) (x9 : Int) (c37_2 : Int → Int) (d1_2 : Int → Int) (H : Heap) (locs : List Loc) (ls : Array Slot), 5 - x9 < (n : Int) → (0 ≤ x9 ∧ x9 ≤ (f 1) a1) → (y7 = mxI (fun t => evR (fun k => mcG ((f 9) k)) (f 10) (gFd (f 24) (f 25) (f 26) (f 27) (f 28) (f 29) (f 30) (f 31) (f 32) (f 33) (f 18) (f 19) (v 25) (v 26) a3 a1 t a2) (v 13)) x9.toNat) → ((f 13) a4 = 0 → y5 = sumI (fun t => evR (fun k => mcG ((f 9) k)) (f 10) (gFd (f 24) (f 25) (f 26) (f 27) (f 28) (f 29) (f 30) (f 31) (f 32) (f 33) (f 18) (f 19) (v 25) (v 26) a3 a1 t a2) (v 13)) x9.toNat) → ((f 13) a4 = 2 → y5 = sumI (fun t => gFd (f 24) (f 25) (f 26) (f 27) (f 28) (f 29) (f 30) (f 31) (f 32) (f 33) (f 18) (f 19) (v 25) (v 26) a3 a1 t a2 0) x9.toNat) → ((f 13) a4 ≠ 0 → (f 13) a4 ≠ 2 → y5 = sumI (fun t => gFd (f 24) (f 25) (f 26) (f 27) (f 28) (f 29) (f 30) (f 31) (f 32) (f 33) (f 18) (f 19) (v 25) (v 26) a3 a1 t a2 1) x9.toNat) → gWd D (mdT k ad) v (va_up f 37 c37_2) (va_up g 1 d1_2) H → va_S A s.heap H locs → lv_has ls 11 [(0, .ref (ad 0)), (1, .int (iI a1)), (2, .int (iI a2)), (3, .int (iI a3)), (4, .int (iI a4)), (5, .long (iL y5)), (7, .long (iL y7)), (9, .int (iI x9))] → W p l e (gRm 3 87) s m args below meth c H locs 0 0 Q (F0 m 11 ls []) := by
    intro n
    induction n with
    | zero =>
      intro y5 y7 x9 c37_2 d1_2 H locs ls hn_2 i2_0 i2_1 i2_2 i2_3 i2_4 hP hS hl
      exfalso; omega
    | succ n ih_11 =>
      intro y5 y7 x9 c37_2 d1_2 H locs ls hn_2 i2_0 i2_1 i2_2 i2_3 i2_4 hP hS hl
      have hI1 := i2_1
      have hI2 := i2_2
      have hI3 := i2_3
      have hI4 := i2_4
      have hmr := mxI_r (g := (fun t => evR (fun k => mcG ((f 9) k)) (f 10) (gFd (f 24) (f 25) (f 26) (f 27) (f 28) (f 29) (f 30) (f 31) (f 32) (f 33) (f 18) (f 19) (v 25) (v 26) a3 a1 t a2) (v 13))) (fun t => hPr a1 t a2) x9.toNat
      refine lv_iload hx hb dX11_keyOf_11 (lv_at hl 7 rfl) ?_
      refine lv_aload_n hx hb dX11_keyOf_13 rfl (lv_at hl 0 rfl) ?_
      refine mdG_routes C hP mF_X11_20 dX11_keyOf_14 ?_
      refine lv_iload_n hx hb dX11_keyOf_17 rfl (lv_at hl 1 rfl) ?_
      refine mdL_routes C hP (by omega) (by omega) dX11_keyOf_18 ?_
      show W p l e (gRm 3 87) s m args below meth c _ _ 0 0 Q (F0 m 19 ls [.int (iI (f 1 a1)), .int (iI x9)])
      have r_3 : 0 ≤ (f 1 a1) ∧ (f 1 a1) ≤ 5 := hP.2.2 1 a1
      refine gi_cge (tgt := 98) hx hb dX11_keyOf_19 (by decide) (by omega) (by omega) (fun c_4 => ?_) (fun c_4 => ?_)
      · refine lv_aload_n hx hb dX11_keyOf_98 rfl (lv_at hl 0 rfl) ?_
        refine mdG_key C hP mF_X11_57 dX11_keyOf_99 ?_
        refine lv_iload hx hb dX11_keyOf_102 (lv_at hl 4 rfl) ?_
        refine mdL_key C hP (by omega) (by omega) dX11_keyOf_104 ?_
        show W p l e (gRm 3 87) s m args below meth c _ _ 0 0 Q (F0 m 105 ls [.int (iI (f 13 a4))])
        have r_5 : 0 ≤ (f 13 a4) ∧ (f 13 a4) ≤ 3 := hP.2.2 13 a4
        refine lv_iconst (v := iI 1) hx hb dX11_keyOf_105 rfl ?_
        refine gi_cne (tgt := 114) hx hb dX11_keyOf_106 (by decide) (by omega) (by decide) (fun c_6 => ?_) (fun c_6 => ?_)
        · refine lv_lload hx hb dX11_keyOf_114 (lv_at hl 5 rfl) ?_
          exact g_lret hQ C hr hlocks hP hS dX11_keyOf_116 ⟨y5, c37_2, d1_2, rfl, rfl, rfl, rfl, (by unfold kV; rw [show (f 1) a1 = x9 by omega]; first | (rw [if_neg (by omega), if_pos (by omega)]; exact hI1) | exact (if hk : (f 13) a4 = 0 then (by rw [if_pos hk]; exact hI2 hk) else if hk2 : (f 13) a4 = 2 then (by rw [if_neg hk, if_neg (by omega), if_pos hk2]; exact hI3 hk2) else (by rw [if_neg hk, if_neg (by omega), if_neg hk2]; exact hI4 hk hk2))), (kV_post (kd := (f 13) a4) (r := a1) (c := a2) (R := (f 1) a1) hPr hFr (by omega) (by unfold kV; rw [show (f 1) a1 = x9 by omega]; first | (rw [if_neg (by omega), if_pos (by omega)]; exact hI1) | exact (if hk : (f 13) a4 = 0 then (by rw [if_pos hk]; exact hI2 hk) else if hk2 : (f 13) a4 = 2 then (by rw [if_neg hk, if_neg (by omega), if_pos hk2]; exact hI3 hk2) else (by rw [if_neg hk, if_neg (by omega), if_neg hk2]; exact hI4 hk hk2))))⟩
        · refine lv_lload hx hb dX11_keyOf_109 (lv_at hl 6 rfl) ?_
          refine lv_goto (tgt := 116) hx hb dX11_keyOf_111 (by decide) ?_
          exact g_lret hQ C hr hlocks hP hS dX11_keyOf_116 ⟨y7, c37_2, d1_2, rfl, rfl, rfl, rfl, (by unfold kV; rw [show (f 1) a1 = x9 by omega]; first | (rw [if_neg (by omega), if_pos (by omega)]; exact hI1) | exact (if hk : (f 13) a4 = 0 then (by rw [if_pos hk]; exact hI2 hk) else if hk2 : (f 13) a4 = 2 then (by rw [if_neg hk, if_neg (by omega), if_pos hk2]; exact hI3 hk2) else (by rw [if_neg hk, if_neg (by omega), if_neg hk2]; exact hI4 hk hk2))), (kV_post (kd := (f 13) a4) (r := a1) (c := a2) (R := (f 1) a1) hPr hFr (by omega) (by unfold kV; rw [show (f 1) a1 = x9 by omega]; first | (rw [if_neg (by omega), if_pos (by omega)]; exact hI1) | exact (if hk : (f 13) a4 = 0 then (by rw [if_pos hk]; exact hI2 hk) else if hk2 : (f 13) a4 = 2 then (by rw [if_neg hk, if_neg (by omega), if_pos hk2]; exact hI3 hk2) else (by rw [if_neg hk, if_neg (by omega), if_neg hk2]; exact hI4 hk hk2))))⟩
      · refine lv_aload_n hx hb dX11_keyOf_22 rfl (lv_at hl 0 rfl) ?_
        refine lv_iload_n hx hb dX11_keyOf_23 rfl (lv_at hl 1 rfl) ?_
        refine lv_iload hx hb dX11_keyOf_24 (lv_at hl 7 rfl) ?_
        refine lv_iload_n hx hb dX11_keyOf_26 rfl (lv_at hl 2 rfl) ?_
        refine lv_iload_n hx hb dX11_keyOf_27 rfl (lv_at hl 3 rfl) ?_
        refine g_cv (As := [.int (iI a1), .int (iI x9), .int (iI a2), .int (iI a3)]) (rest := []) (n := 4) C hml (y_pointsOf l D k A ad hD v (va_up f 37 c37_2) (va_up g 1 d1_2) a1 x9 a2 a3 (by omega) (by omega) (by omega) (by omega) (show rpOk (v 13) (f 9) from hrp) (show 0 ≤ a1 ∧ a1 ≤ 3 from by omega) (show 0 ≤ x9 ∧ x9 ≤ 4 from by omega)) mM_X11_387 mI_X11_pointsOf mE_X11_pointsOf mN_X11 mC_X11_pointsOf (by decide +kernel) 0 (ci := 11) rfl rfl hP hS (fun _ h => h) ⟨Nat.le_of_ble_eq_true rfl, Nat.le_of_ble_eq_true rfl⟩ ⟨Nat.zero_le _, Nat.zero_le _⟩ hl.1 rfl rfl (Nat.le_of_ble_eq_true rfl) dX11_keyOf_28 (fun r_7 v_7 f_7 g_7 H locs hq_7 hP _ hS => ?_)
        obtain ⟨z_7, a37_7, b1_7, rfl, rfl, rfl, rfl, p0_7, p1_7, p2_7⟩ := hq_7
        show W p l e (gRm 3 87) s m args below meth c _ _ 0 0 Q (F0 m 31 ls [.int (iI z_7)])
        have hP : gWd D (mdT k ad) v (va_up f 37 a37_7) (va_up g 1 b1_7) H := ⟨hP.1, (gF_up (V := mdV) (F := mdF) ⟨hok.1, hok.2⟩ 37 (hP.2.2 37))⟩
        replace p0_7 : z_7 = (evR (fun k => mcG ((f 9) k)) (f 10) (gFd (f 24) (f 25) (f 26) (f 27) (f 28) (f 29) (f 30) (f 31) (f 32) (f 33) (f 18) (f 19) (v 25) (v 26) a3 a1 x9 a2) (v 13)) := p0_7
        replace p1_7 : (-1000000000) ≤ z_7 ∧ z_7 ≤ 1000000000 := p1_7
        replace p2_7 : a37_7 0 = gFd (f 24) (f 25) (f 26) (f 27) (f 28) (f 29) (f 30) (f 31) (f 32) (f 33) (f 18) (f 19) (v 25) (v 26) a3 a1 x9 a2 0 ∧ a37_7 1 = gFd (f 24) (f 25) (f 26) (f 27) (f 28) (f 29) (f 30) (f 31) (f 32) (f 33) (f 18) (f 19) (v 25) (v 26) a3 a1 x9 a2 1 ∧ a37_7 2 = gFd (f 24) (f 25) (f 26) (f 27) (f 28) (f 29) (f 30) (f 31) (f 32) (f 33) (f 18) (f 19) (v 25) (v 26) a3 a1 x9 a2 2 ∧ a37_7 3 = gFd (f 24) (f 25) (f 26) (f 27) (f 28) (f 29) (f 30) (f 31) (f 32) (f 33) (f 18) (f 19) (v 25) (v 26) a3 a1 x9 a2 3 ∧ a37_7 4 = gFd (f 24) (f 25) (f 26) (f 27) (f 28) (f 29) (f 30) (f 31) (f 32) (f 33) (f 18) (f 19) (v 25) (v 26) a3 a1 x9 a2 4 ∧ a37_7 5 = gFd (f 24) (f 25) (f 26) (f 27) (f 28) (f 29) (f 30) (f 31) (f 32) (f 33) (f 18) (f 19) (v 25) (v 26) a3 a1 x9 a2 5 := p2_7
        have hz_7 : inR z_7 := (by first | omega | (rw [p0_7]; split <;> omega))
        have hpt := p0_7
        have hF := p2_7
        clear p0_7
        refine lv_istore (lv' := [(10, .int (iI z_7)), (0, .ref (ad 0)), (1, .int (iI a1)), (2, .int (iI a2)), (3, .int (iI a3)), (4, .int (iI a4)), (5, .long (iL y5)), (7, .long (iL y7)), (9, .int (iI x9))]) hx hb dX11_keyOf_31 hl (by decide) rfl (fun ls hl => ?_)
        refine lv_lload hx hb dX11_keyOf_33 (lv_at hl 7 rfl) ?_
        refine lv_iload hx hb dX11_keyOf_35 (lv_at hl 0 rfl) ?_
        refine gi_i2l hx hb (by omega) dX11_keyOf_37 ?_
        refine gl_maxE C hml hl.1 mM_X11_377 (by omega) (by omega) (Nat.le_of_ble_eq_true rfl) (Nat.le_of_ble_eq_true rfl) dX11_keyOf_38 (fun x_8 hx_8 => ?_)
        refine lv_lstore (lv' := [(7, .long (iL x_8)), (10, .int (iI z_7)), (0, .ref (ad 0)), (1, .int (iI a1)), (2, .int (iI a2)), (3, .int (iI a3)), (4, .int (iI a4)), (5, .long (iL y5)), (9, .int (iI x9))]) hx hb dX11_keyOf_41 hl (by decide) rfl (fun ls hl => ?_)
        refine lv_lload hx hb dX11_keyOf_43 (lv_at hl 7 rfl) ?_
        refine lv_aload_n hx hb dX11_keyOf_45 rfl (lv_at hl 2 rfl) ?_
        refine mdG_key C hP mF_X11_57 dX11_keyOf_46 ?_
        refine lv_iload hx hb dX11_keyOf_49 (lv_at hl 6 rfl) ?_
        refine mdL_key C hP (by omega) (by omega) dX11_keyOf_51 ?_
        show W p l e (gRm 3 87) s m args below meth c _ _ 0 0 Q (F0 m 52 ls [.int (iI (f 13 a4)), .long (iL y5)])
        have r_9 : 0 ≤ (f 13 a4) ∧ (f 13 a4) ≤ 3 := hP.2.2 13 a4
        refine gi_zne (tgt := 61) hx hb dX11_keyOf_52 (by decide) (by omega) (fun c_10 => ?_) (fun c_10 => ?_)
        · refine lv_aload_n hx hb dX11_keyOf_61 rfl (lv_at hl 2 rfl) ?_
          refine mdG_key C hP mF_X11_57 dX11_keyOf_62 ?_
          refine lv_iload hx hb dX11_keyOf_65 (lv_at hl 6 rfl) ?_
          refine mdL_key C hP (by omega) (by omega) dX11_keyOf_67 ?_
          show W p l e (gRm 3 87) s m args below meth c _ _ 0 0 Q (F0 m 68 ls [.int (iI (f 13 a4)), .long (iL y5)])
          refine lv_iconst (v := iI 2) hx hb dX11_keyOf_68 rfl ?_
          refine gi_cne (tgt := 82) hx hb dX11_keyOf_69 (by decide) (by omega) (by decide) (fun c_11 => ?_) (fun c_11 => ?_)
          · refine lv_aload_n hx hb dX11_keyOf_82 rfl (lv_at hl 2 rfl) ?_
            refine mdG_facts C hP mF_X11_133 dX11_keyOf_83 ?_
            refine lv_iconst (v := iI 1) hx hb dX11_keyOf_86 rfl ?_
            refine mdL_facts C hP (by decide) (by decide) dX11_keyOf_87 ?_
            show W p l e (gRm 3 87) s m args below meth c _ _ 0 0 Q (F0 m 88 ls [.int (iI (a37_7 1)), .long (iL y5)])
            have r_12 : (-2000000) ≤ (a37_7 1) ∧ (a37_7 1) ≤ 2000000 := hP.2.2 37 1
            refine gi_i2l hx hb (by omega) dX11_keyOf_88 ?_
            refine gl_add (z := (y5 + (a37_7 1))) hx hb dX11_keyOf_89 rfl ?_
            refine lv_lstore (lv' := [(5, .long (iL (y5 + (a37_7 1)))), (7, .long (iL x_8)), (10, .int (iI z_7)), (0, .ref (ad 0)), (1, .int (iI a1)), (2, .int (iI a2)), (3, .int (iI a3)), (4, .int (iI a4)), (9, .int (iI x9))]) hx hb dX11_keyOf_90 hl (by decide) rfl (fun ls hl => ?_)
            refine lv_iinc (v := iI (x9 + 1)) (lv' := [(9, .int (iI (x9 + 1))), (5, .long (iL (y5 + (a37_7 1)))), (7, .long (iL x_8)), (10, .int (iI z_7)), (0, .ref (ad 0)), (1, .int (iI a1)), (2, .int (iI a2)), (3, .int (iI a3)), (4, .int (iI a4))]) hx hb dX11_keyOf_92 hl (k := 8) rfl (by show iI _ + iI 1 = _; rw [iI_add]) (by decide) rfl (fun ls hl => ?_)
            refine lv_goto (tgt := 11) hx hb dX11_keyOf_95 (by decide) ?_
            exact ih_11 (y5 + (a37_7 1)) x_8 (x9 + 1) a37_7 b1_7 _ _ _ (by omega) (by omega) (by rw [mxI_s (by omega), ← hI1, ← hpt]; split <;> omega) (fun h => by first | (exfalso; omega) | (rw [sumI_s (by omega), ← hI2 h, ← hpt])) (fun h => by first | (exfalso; omega) | (rw [sumI_s (by omega), ← hI3 h, ← hF.1])) (fun h h9 => by first | (exfalso; omega) | (rw [sumI_s (by omega), ← hI4 h h9, ← hF.2.1])) hP hS (lv_sub hl [4, 5, 6, 7, 8, 1, 2, 0] rfl)
          · refine lv_aload_n hx hb dX11_keyOf_72 rfl (lv_at hl 2 rfl) ?_
            refine mdG_facts C hP mF_X11_133 dX11_keyOf_73 ?_
            refine lv_iconst (v := iI 0) hx hb dX11_keyOf_76 rfl ?_
            refine mdL_facts C hP (by decide) (by decide) dX11_keyOf_77 ?_
            show W p l e (gRm 3 87) s m args below meth c _ _ 0 0 Q (F0 m 78 ls [.int (iI (a37_7 0)), .long (iL y5)])
            have r_13 : (-2000000) ≤ (a37_7 0) ∧ (a37_7 0) ≤ 2000000 := hP.2.2 37 0
            refine gi_i2l hx hb (by omega) dX11_keyOf_78 ?_
            refine lv_goto (tgt := 89) hx hb dX11_keyOf_79 (by decide) ?_
            refine gl_add (z := (y5 + (a37_7 0))) hx hb dX11_keyOf_89 rfl ?_
            refine lv_lstore (lv' := [(5, .long (iL (y5 + (a37_7 0)))), (7, .long (iL x_8)), (10, .int (iI z_7)), (0, .ref (ad 0)), (1, .int (iI a1)), (2, .int (iI a2)), (3, .int (iI a3)), (4, .int (iI a4)), (9, .int (iI x9))]) hx hb dX11_keyOf_90 hl (by decide) rfl (fun ls hl => ?_)
            refine lv_iinc (v := iI (x9 + 1)) (lv' := [(9, .int (iI (x9 + 1))), (5, .long (iL (y5 + (a37_7 0)))), (7, .long (iL x_8)), (10, .int (iI z_7)), (0, .ref (ad 0)), (1, .int (iI a1)), (2, .int (iI a2)), (3, .int (iI a3)), (4, .int (iI a4))]) hx hb dX11_keyOf_92 hl (k := 8) rfl (by show iI _ + iI 1 = _; rw [iI_add]) (by decide) rfl (fun ls hl => ?_)
            refine lv_goto (tgt := 11) hx hb dX11_keyOf_95 (by decide) ?_
            exact ih_11 (y5 + (a37_7 0)) x_8 (x9 + 1) a37_7 b1_7 _ _ _ (by omega) (by omega) (by rw [mxI_s (by omega), ← hI1, ← hpt]; split <;> omega) (fun h => by first | (exfalso; omega) | (rw [sumI_s (by omega), ← hI2 h, ← hpt])) (fun h => by first | (exfalso; omega) | (rw [sumI_s (by omega), ← hI3 h, ← hF.1])) (fun h h9 => by first | (exfalso; omega) | (rw [sumI_s (by omega), ← hI4 h h9, ← hF.2.1])) hP hS (lv_sub hl [4, 5, 6, 7, 8, 1, 2, 0] rfl)
        · refine lv_iload hx hb dX11_keyOf_55 (lv_at hl 1 rfl) ?_
          refine gi_i2l hx hb (by omega) dX11_keyOf_57 ?_
          refine lv_goto (tgt := 89) hx hb dX11_keyOf_58 (by decide) ?_
          refine gl_add (z := (y5 + z_7)) hx hb dX11_keyOf_89 rfl ?_
          refine lv_lstore (lv' := [(5, .long (iL (y5 + z_7))), (7, .long (iL x_8)), (10, .int (iI z_7)), (0, .ref (ad 0)), (1, .int (iI a1)), (2, .int (iI a2)), (3, .int (iI a3)), (4, .int (iI a4)), (9, .int (iI x9))]) hx hb dX11_keyOf_90 hl (by decide) rfl (fun ls hl => ?_)
          refine lv_iinc (v := iI (x9 + 1)) (lv' := [(9, .int (iI (x9 + 1))), (5, .long (iL (y5 + z_7))), (7, .long (iL x_8)), (10, .int (iI z_7)), (0, .ref (ad 0)), (1, .int (iI a1)), (2, .int (iI a2)), (3, .int (iI a3)), (4, .int (iI a4))]) hx hb dX11_keyOf_92 hl (k := 8) rfl (by show iI _ + iI 1 = _; rw [iI_add]) (by decide) rfl (fun ls hl => ?_)
          refine lv_goto (tgt := 11) hx hb dX11_keyOf_95 (by decide) ?_
          exact ih_11 (y5 + z_7) x_8 (x9 + 1) a37_7 b1_7 _ _ _ (by omega) (by omega) (by rw [mxI_s (by omega), ← hI1, ← hpt]; split <;> omega) (fun h => by first | (exfalso; omega) | (rw [sumI_s (by omega), ← hI2 h, ← hpt])) (fun h => by first | (exfalso; omega) | (rw [sumI_s (by omega), ← hI3 h, ← hF.1])) (fun h h9 => by first | (exfalso; omega) | (rw [sumI_s (by omega), ← hI4 h h9, ← hF.2.1])) hP hS (lv_sub hl [4, 5, 6, 7, 8, 1, 2, 0] rfl)
  exact L_2 6 0 (-1000000000) 0 (f 37) (g 1) _ _ _ (by omega) (by omega) rfl (fun _ => rfl) (fun _ => rfl) (fun _ _ => rfl) hP hS (lv_sub hl [3, 4, 5, 6, 7, 2, 1, 0] rfl)

set_option maxHeartbeats 4000000 in
set_option maxRecDepth 100000 in
theorem y_key (l : Launch) (D : va_G) (k : Nat → ClassId) (A : Nat → Prop) (ad : Nat → Nat) (hD : mdD A k ad) (v : gV) (f g : gF) (a1 : Int) (a2 : Int) (a3 : Int) (a4 : Int) (h_a1 : inR a1) (h_a2 : inR a2) (h_a3 : inR a3) (h_a4 : inR a4) (hrp : 0 < (v 12) → rpOk (v 13) (f 9)) : GM l D k A (mdT k ad) yX11_key cX11_key 5 (some .long) 4 117 [.ref (ad 0), .int (iI a1), .int (iI a2), .int (iI a3), .int (iI a4)] v f g (fun r v1 f1 g1 => ∃ (z : Int) (w0 : Int) (a37_ : Int → Int) (b1_ : Int → Int), r = some (.long (iL z)) ∧ (va_up (va_up v 0 w0) 1 0) = v1 ∧ (va_up f 37 a37_) = f1 ∧ (va_up g 1 b1_) = g1 ∧ (z = (if w0 ≠ 0 then (-1) else (kvF (fun k => mcG ((f 9) k)) (f 10) (f 13) (f 1) (v 13) (gFd (f 24) (f 25) (f 26) (f 27) (f 28) (f 29) (f 30) (f 31) (f 32) (f 33) (f 18) (f 19) (v 25) (v 26) a3)) a1 a2 a4)) ∧ ((-5000000000) ≤ z ∧ z ≤ 5000000000) ∧ (w0 = (if ¬ (((0 ≤ a1 ∧ a1 < (v 12)) ∧ (0 ≤ a2 ∧ a2 < (v 22)) ∧ (f 21) (16 * a1 + a2) ≠ 0) ∧ 0 ≤ a4 ∧ a4 < (v 14)) then 1 else if ¬ (0 ≤ a3 ∧ a3 ≤ 999) then 2 else 0))) := by
  refine GM.of (by decide) (Nat.le_of_ble_eq_true rfl) ?_
  intro p e s m args below meth c Q ls hQ C hml hr hlocks hP hl
  have hx := C.1
  have hb := C.2.1
  have hok := hP.2
  have hS : va_S A s.heap s.heap [] := va_S.rf
  have hl : lv_has ls 5 [(0, .ref (ad 0)), (1, .int (iI a1)), (2, .int (iI a2)), (3, .int (iI a3)), (4, .int (iI a4))] := hl
  have hP : gWd D (mdT k ad) (va_up (va_up v 0 (v 0)) 1 (v 1)) (va_up f 37 (f 37)) (va_up g 1 (g 1)) s.heap := by rw [va_id, va_id, va_id, va_id]; exact hP
  have r_1 : 0 ≤ (v 14) ∧ (v 14) ≤ 4 := hok.1 14
  refine lv_aload_n hx hb dX11_key_0 rfl (lv_at hl 0 rfl) ?_
  refine lv_iconst (v := iI 0) hx hb dX11_key_1 rfl ?_
  refine mdP_thrown (v1 := (va_up (va_up v 0 (v 0)) 1 0)) C hP hD hS mF_X11_146 (by decide) rfl (Or.inr (gF_up (V := mdV) (F := mdF) (gR_up (V := mdV) (F := mdF) (gR_up (V := mdV) (F := mdF) ⟨hok.1, hok.2⟩ 0 (hP.2.1 0)) 1 (show 0 ≤ 0 ∧ 0 ≤ 0 from by decide)) 37 (hP.2.2 37))) dX11_key_2 (fun H locs hP hS => ?_)
  refine lv_aload_n hx hb dX11_key_5 rfl (lv_at hl 0 rfl) ?_
  refine lv_iconst (v := iI 0) hx hb dX11_key_6 rfl ?_
  refine mdP_status (v1 := (va_up (va_up v 0 0) 1 0)) C hP hD hS mF_X11_149 (by decide) rfl (Or.inr (gF_up (V := mdV) (F := mdF) (gR_up (V := mdV) (F := mdF) (gR_up (V := mdV) (F := mdF) ⟨hok.1, hok.2⟩ 0 (show 0 ≤ 0 ∧ 0 ≤ 10 from by decide)) 1 (hP.2.1 1)) 37 (hP.2.2 37))) dX11_key_7 (fun H locs hP hS => ?_)
  refine lv_aload_n hx hb dX11_key_10 rfl (lv_at hl 0 rfl) ?_
  refine lv_iload_n hx hb dX11_key_11 rfl (lv_at hl 1 rfl) ?_
  refine lv_iload_n hx hb dX11_key_12 rfl (lv_at hl 2 rfl) ?_
  refine g_cv (As := [.int (iI a1), .int (iI a2)]) (rest := []) (n := 2) C hml (m_X11_isIn l D k A ad hD (va_up (va_up v 0 0) 1 0) (va_up f 37 (f 37)) (va_up g 1 (g 1)) a1 a2 (by omega) (by omega)) mM_X11_391 mI_X11_isIn mE_X11_isIn mN_X11 mC_X11_isIn (by decide +kernel) 0 (ci := 11) rfl rfl hP hS (fun _ h => h) ⟨Nat.le_of_ble_eq_true rfl, Nat.le_of_ble_eq_true rfl⟩ ⟨Nat.zero_le _, Nat.zero_le _⟩ hl.1 rfl rfl (Nat.le_of_ble_eq_true rfl) dX11_key_13 (fun r_2 v_2 f_2 g_2 H locs hq_2 hP _ hS => ?_)
  obtain ⟨z_2, rfl, rfl, rfl, rfl, p0_2, p1_2⟩ := hq_2
  show W p l e (gRm 4 117) s m args below meth c _ _ 0 0 Q (F0 m 16 ls [.int (iI z_2)])
  replace p0_2 : z_2 = (if (0 ≤ a1 ∧ a1 < (v 12)) ∧ (0 ≤ a2 ∧ a2 < (v 22)) ∧ (f 21) (16 * a1 + a2) ≠ 0 then 1 else 0) := p0_2
  have w_2 := gif (P := (0 ≤ a1 ∧ a1 < (v 12)) ∧ (0 ≤ a2 ∧ a2 < (v 22)) ∧ (f 21) (16 * a1 + a2) ≠ 0) p0_2
  clear p0_2
  replace p1_2 : z_2 = 1 → (0 ≤ a1 ∧ a1 ≤ 3) ∧ (0 ≤ a2 ∧ a2 ≤ 15) := p1_2
  have hz_2 : inR z_2 := (by first | omega | (rw [p0_2]; split <;> omega))
  refine gi_zeq (tgt := 33) hx hb dX11_key_16 (by decide) (by omega) (fun c_3 => ?_) (fun c_3 => ?_)
  · have vz_2 := gif0 w_2 c_3
    clear w_2
    refine lv_aload_n hx hb dX11_key_33 rfl (lv_at hl 0 rfl) ?_
    refine lv_iconst (v := iI 1) hx hb dX11_key_34 rfl ?_
    refine g_cv (As := [.int (iI 1)]) (rest := []) (n := 1) C hml (m_X11_refuse l D k A ad hD (va_up (va_up v 0 0) 1 0) (va_up f 37 (f 37)) (va_up g 1 (g 1)) 1 (by decide) (show 0 ≤ (1 : Int) ∧ (1 : Int) ≤ 10 from by omega)) mM_X11_295 mI_X11_refuse mE_X11_refuse mN_X11 mC_X11_refuse (by decide +kernel) 0 (ci := 11) rfl rfl hP hS (fun _ h => h) ⟨Nat.le_of_ble_eq_true rfl, Nat.le_of_ble_eq_true rfl⟩ ⟨Nat.zero_le _, Nat.zero_le _⟩ hl.1 rfl rfl (Nat.le_of_ble_eq_true rfl) dX11_key_35 (fun r_4 v_4 f_4 g_4 H locs hq_4 hP _ hS => ?_)
    obtain ⟨rfl, rfl, rfl, rfl⟩ := hq_4
    show W p l e (gRm 4 117) s m args below meth c _ _ 0 0 Q (F0 m 38 ls [.int (iI (-1))])
    have hP : gWd D (mdT k ad) (va_up (va_up v 0 (1 : Int)) 1 0) (va_up f 37 (f 37)) (va_up g 1 (g 1)) H := ⟨hP.1, (gF_up (V := mdV) (F := mdF) (gR_up (V := mdV) (F := mdF) (gR_up (V := mdV) (F := mdF) ⟨hok.1, hok.2⟩ 0 (hP.2.1 0)) 1 (hP.2.1 1)) 37 (hP.2.2 37))⟩
    refine gi_i2l hx hb (by decide) dX11_key_38 ?_
    exact g_lret hQ C hr hlocks hP hS dX11_key_39 ⟨(-1), (1 : Int), (f 37), (g 1), rfl, rfl, rfl, rfl, (by first | (rw [if_pos (by omega)]) | (rw [if_neg (by omega)]; exact hko)), (by first | omega | ((repeat' split) <;> omega)), (by first | omega | ((repeat' split) <;> omega))⟩
  · have vz_2 := gif1 w_2 c_3
    have voz_2 := gif1o w_2 c_3
    clear w_2
    refine lv_iload hx hb dX11_key_19 (lv_at hl 4 rfl) ?_
    refine gi_zlt (tgt := 33) hx hb dX11_key_21 (by decide) (by omega) (fun c_5 => ?_) (fun c_5 => ?_)
    · refine lv_aload_n hx hb dX11_key_33 rfl (lv_at hl 0 rfl) ?_
      refine lv_iconst (v := iI 1) hx hb dX11_key_34 rfl ?_
      refine g_cv (As := [.int (iI 1)]) (rest := []) (n := 1) C hml (m_X11_refuse l D k A ad hD (va_up (va_up v 0 0) 1 0) (va_up f 37 (f 37)) (va_up g 1 (g 1)) 1 (by decide) (show 0 ≤ (1 : Int) ∧ (1 : Int) ≤ 10 from by omega)) mM_X11_295 mI_X11_refuse mE_X11_refuse mN_X11 mC_X11_refuse (by decide +kernel) 0 (ci := 11) rfl rfl hP hS (fun _ h => h) ⟨Nat.le_of_ble_eq_true rfl, Nat.le_of_ble_eq_true rfl⟩ ⟨Nat.zero_le _, Nat.zero_le _⟩ hl.1 rfl rfl (Nat.le_of_ble_eq_true rfl) dX11_key_35 (fun r_6 v_6 f_6 g_6 H locs hq_6 hP _ hS => ?_)
      obtain ⟨rfl, rfl, rfl, rfl⟩ := hq_6
      show W p l e (gRm 4 117) s m args below meth c _ _ 0 0 Q (F0 m 38 ls [.int (iI (-1))])
      have hP : gWd D (mdT k ad) (va_up (va_up v 0 (1 : Int)) 1 0) (va_up f 37 (f 37)) (va_up g 1 (g 1)) H := ⟨hP.1, (gF_up (V := mdV) (F := mdF) (gR_up (V := mdV) (F := mdF) (gR_up (V := mdV) (F := mdF) ⟨hok.1, hok.2⟩ 0 (hP.2.1 0)) 1 (hP.2.1 1)) 37 (hP.2.2 37))⟩
      refine gi_i2l hx hb (by decide) dX11_key_38 ?_
      exact g_lret hQ C hr hlocks hP hS dX11_key_39 ⟨(-1), (1 : Int), (f 37), (g 1), rfl, rfl, rfl, rfl, (by first | (rw [if_pos (by omega)]) | (rw [if_neg (by omega)]; exact hko)), (by first | omega | ((repeat' split) <;> omega)), (by first | omega | ((repeat' split) <;> omega))⟩
    · refine lv_iload hx hb dX11_key_24 (lv_at hl 4 rfl) ?_
      refine lv_aload_n hx hb dX11_key_26 rfl (lv_at hl 0 rfl) ?_
      refine mdG_keys C hP mF_X11_307 dX11_key_27 ?_
      show W p l e (gRm 4 117) s m args below meth c _ _ 0 0 Q (F0 m 30 ls [.int (iI (v 14)), .int (iI a4)])
      refine gi_clt (tgt := 40) hx hb dX11_key_30 (by decide) (by omega) (by omega) (fun c_7 => ?_) (fun c_7 => ?_)
      · refine lv_iload_n hx hb dX11_key_40 rfl (lv_at hl 3 rfl) ?_
        refine g_cs (As := [.int (iI a3)]) (rest := []) (n := 1) C hml (m_X11_isDay l D k A ad hD (va_up (va_up v 0 0) 1 0) (va_up f 37 (f 37)) (va_up g 1 (g 1)) a3 (by omega)) mM_X11_364 mS_X11_isDay mN_X11 mC_X11_isDay (by decide +kernel) hP hS (fun _ h => h) ⟨Nat.le_of_ble_eq_true rfl, Nat.le_of_ble_eq_true rfl⟩ ⟨Nat.zero_le _, Nat.zero_le _⟩ hl.1 rfl rfl (Nat.le_of_ble_eq_true rfl) dX11_key_41 (fun r_8 v_8 f_8 g_8 H locs hq_8 hP _ hS => ?_)
        obtain ⟨z_8, rfl, rfl, rfl, rfl, p0_8⟩ := hq_8
        show W p l e (gRm 4 117) s m args below meth c _ _ 0 0 Q (F0 m 44 ls [.int (iI z_8)])
        replace p0_8 : z_8 = (if 0 ≤ a3 ∧ a3 ≤ 999 then 1 else 0) := p0_8
        have w_8 := gif (P := 0 ≤ a3 ∧ a3 ≤ 999) p0_8
        clear p0_8
        have hz_8 : inR z_8 := (by first | omega | (rw [p0_8]; split <;> omega))
        refine gi_zne (tgt := 54) hx hb dX11_key_44 (by decide) (by omega) (fun c_9 => ?_) (fun c_9 => ?_)
        · have vz_8 := gif1 w_8 c_9
          have voz_8 := gif1o w_8 c_9
          clear w_8
          refine lv_aload_n hx hb dX11_key_54 rfl (lv_at hl 0 rfl) ?_
          refine lv_iload_n hx hb dX11_key_55 rfl (lv_at hl 1 rfl) ?_
          refine lv_iload_n hx hb dX11_key_56 rfl (lv_at hl 2 rfl) ?_
          refine lv_iload_n hx hb dX11_key_57 rfl (lv_at hl 3 rfl) ?_
          refine lv_iload hx hb dX11_key_58 (lv_at hl 4 rfl) ?_
          refine g_cv (As := [.int (iI a1), .int (iI a2), .int (iI a3), .int (iI a4)]) (rest := []) (n := 4) C hml (y_keyOf l D k A ad hD (va_up (va_up v 0 0) 1 0) (va_up f 37 (f 37)) (va_up g 1 (g 1)) a1 a2 a3 a4 (by omega) (by omega) (by omega) (by omega) (show rpOk (v 13) (f 9) from hrp (by omega)) (show 0 ≤ a1 ∧ a1 ≤ 3 from by omega) (show 0 ≤ a4 ∧ a4 < 4 from by omega)) mM_X11_393 mI_X11_keyOf mE_X11_keyOf mN_X11 mC_X11_keyOf (by decide +kernel) 0 (ci := 11) rfl rfl hP hS (fun _ h => h) ⟨Nat.le_of_ble_eq_true rfl, Nat.le_of_ble_eq_true rfl⟩ ⟨Nat.zero_le _, Nat.zero_le _⟩ hl.1 rfl rfl (Nat.le_of_ble_eq_true rfl) dX11_key_60 (fun r_10 v_10 f_10 g_10 H locs hq_10 hP _ hS => ?_)
          obtain ⟨z_10, a37_10, b1_10, rfl, rfl, rfl, rfl, p0_10, p1_10⟩ := hq_10
          show W p l e (gRm 4 117) s m args below meth c _ _ 0 0 Q (F0 m 63 ls [.long (iL z_10)])
          have hP : gWd D (mdT k ad) (va_up (va_up v 0 0) 1 0) (va_up f 37 a37_10) (va_up g 1 b1_10) H := ⟨hP.1, (gF_up (V := mdV) (F := mdF) (gR_up (V := mdV) (F := mdF) (gR_up (V := mdV) (F := mdF) ⟨hok.1, hok.2⟩ 0 (hP.2.1 0)) 1 (hP.2.1 1)) 37 (hP.2.2 37))⟩
          replace p0_10 : z_10 = (kV (fun k => mcG ((f 9) k)) (f 10) (v 13) (gFd (f 24) (f 25) (f 26) (f 27) (f 28) (f 29) (f 30) (f 31) (f 32) (f 33) (f 18) (f 19) (v 25) (v 26) a3) ((f 1) a1) ((f 13) a4) a1 a2) := p0_10
          replace p1_10 : (-5000000000) ≤ z_10 ∧ z_10 ≤ 5000000000 := p1_10
          have hko := p0_10
          exact g_lret hQ C hr hlocks hP hS dX11_key_63 ⟨z_10, 0, a37_10, b1_10, rfl, rfl, rfl, rfl, (by first | (rw [if_pos (by omega)]) | (rw [if_neg (by omega)]; exact hko)), (by first | omega | ((repeat' split) <;> omega)), (by first | omega | ((repeat' split) <;> omega))⟩
        · have vz_8 := gif0 w_8 c_9
          clear w_8
          refine lv_aload_n hx hb dX11_key_47 rfl (lv_at hl 0 rfl) ?_
          refine lv_iconst (v := iI 2) hx hb dX11_key_48 rfl ?_
          refine g_cv (As := [.int (iI 2)]) (rest := []) (n := 1) C hml (m_X11_refuse l D k A ad hD (va_up (va_up v 0 0) 1 0) (va_up f 37 (f 37)) (va_up g 1 (g 1)) 2 (by decide) (show 0 ≤ (2 : Int) ∧ (2 : Int) ≤ 10 from by omega)) mM_X11_295 mI_X11_refuse mE_X11_refuse mN_X11 mC_X11_refuse (by decide +kernel) 0 (ci := 11) rfl rfl hP hS (fun _ h => h) ⟨Nat.le_of_ble_eq_true rfl, Nat.le_of_ble_eq_true rfl⟩ ⟨Nat.zero_le _, Nat.zero_le _⟩ hl.1 rfl rfl (Nat.le_of_ble_eq_true rfl) dX11_key_49 (fun r_11 v_11 f_11 g_11 H locs hq_11 hP _ hS => ?_)
          obtain ⟨rfl, rfl, rfl, rfl⟩ := hq_11
          show W p l e (gRm 4 117) s m args below meth c _ _ 0 0 Q (F0 m 52 ls [.int (iI (-1))])
          have hP : gWd D (mdT k ad) (va_up (va_up v 0 (2 : Int)) 1 0) (va_up f 37 (f 37)) (va_up g 1 (g 1)) H := ⟨hP.1, (gF_up (V := mdV) (F := mdF) (gR_up (V := mdV) (F := mdF) (gR_up (V := mdV) (F := mdF) ⟨hok.1, hok.2⟩ 0 (hP.2.1 0)) 1 (hP.2.1 1)) 37 (hP.2.2 37))⟩
          refine gi_i2l hx hb (by decide) dX11_key_52 ?_
          exact g_lret hQ C hr hlocks hP hS dX11_key_53 ⟨(-1), (2 : Int), (f 37), (g 1), rfl, rfl, rfl, rfl, (by first | (rw [if_pos (by omega)]) | (rw [if_neg (by omega)]; exact hko)), (by first | omega | ((repeat' split) <;> omega)), (by first | omega | ((repeat' split) <;> omega))⟩
      · refine lv_aload_n hx hb dX11_key_33 rfl (lv_at hl 0 rfl) ?_
        refine lv_iconst (v := iI 1) hx hb dX11_key_34 rfl ?_
        refine g_cv (As := [.int (iI 1)]) (rest := []) (n := 1) C hml (m_X11_refuse l D k A ad hD (va_up (va_up v 0 0) 1 0) (va_up f 37 (f 37)) (va_up g 1 (g 1)) 1 (by decide) (show 0 ≤ (1 : Int) ∧ (1 : Int) ≤ 10 from by omega)) mM_X11_295 mI_X11_refuse mE_X11_refuse mN_X11 mC_X11_refuse (by decide +kernel) 0 (ci := 11) rfl rfl hP hS (fun _ h => h) ⟨Nat.le_of_ble_eq_true rfl, Nat.le_of_ble_eq_true rfl⟩ ⟨Nat.zero_le _, Nat.zero_le _⟩ hl.1 rfl rfl (Nat.le_of_ble_eq_true rfl) dX11_key_35 (fun r_12 v_12 f_12 g_12 H locs hq_12 hP _ hS => ?_)
        obtain ⟨rfl, rfl, rfl, rfl⟩ := hq_12
        show W p l e (gRm 4 117) s m args below meth c _ _ 0 0 Q (F0 m 38 ls [.int (iI (-1))])
        have hP : gWd D (mdT k ad) (va_up (va_up v 0 (1 : Int)) 1 0) (va_up f 37 (f 37)) (va_up g 1 (g 1)) H := ⟨hP.1, (gF_up (V := mdV) (F := mdF) (gR_up (V := mdV) (F := mdF) (gR_up (V := mdV) (F := mdF) ⟨hok.1, hok.2⟩ 0 (hP.2.1 0)) 1 (hP.2.1 1)) 37 (hP.2.2 37))⟩
        refine gi_i2l hx hb (by decide) dX11_key_38 ?_
        exact g_lret hQ C hr hlocks hP hS dX11_key_39 ⟨(-1), (1 : Int), (f 37), (g 1), rfl, rfl, rfl, rfl, (by first | (rw [if_pos (by omega)]) | (rw [if_neg (by omega)]; exact hko)), (by first | omega | ((repeat' split) <;> omega)), (by first | omega | ((repeat' split) <;> omega))⟩

set_option maxHeartbeats 4000000 in
set_option maxRecDepth 100000 in
theorem y_isAhead (l : Launch) (D : va_G) (k : Nat → ClassId) (A : Nat → Prop) (ad : Nat → Nat) (hD : mdD A k ad) (v : gV) (f g : gF) (a1 : Int) (a2 : Int) (a3 : Int) (a4 : Int) (h_a1 : inR a1) (h_a2 : inR a2) (h_a3 : inR a3) (h_a4 : inR a4) (hrp : rpOk (v 13) (f 9)) (h1 : 0 ≤ a1 ∧ a1 ≤ 3) : GM l D k A (mdT k ad) yX11_isAhead cX11_isAhead 11 (some .boolean) 4 117 [.ref (ad 0), .int (iI a1), .int (iI a2), .int (iI a3), .int (iI a4)] v f g (fun r v1 f1 g1 => ∃ (z : Int) (a37_ : Int → Int) (b1_ : Int → Int), r = some (.int (iI z)) ∧ v = v1 ∧ (va_up f 37 a37_) = f1 ∧ (va_up g 1 b1_) = g1 ∧ (z = (if (ahR (kvF (fun k => mcG ((f 9) k)) (f 10) (f 13) (f 1) (v 13) (gFd (f 24) (f 25) (f 26) (f 27) (f 28) (f 29) (f 30) (f 31) (f 32) (f 33) (f 18) (f 19) (v 25) (v 26) a4)) (fun k => 1 - (f 15) k) (v 14) (v 18) a2 a3 (a1 + 1).toNat) = 1 then 1 else 0))) := by
  refine GM.of (by decide) (Nat.le_of_ble_eq_true rfl) ?_
  intro p e s m args below meth c Q ls hQ C hml hr hlocks hP hl
  have hx := C.1
  have hb := C.2.1
  have hok := hP.2
  have hS : va_S A s.heap s.heap [] := va_S.rf
  have hl : lv_has ls 11 [(0, .ref (ad 0)), (1, .int (iI a1)), (2, .int (iI a2)), (3, .int (iI a3)), (4, .int (iI a4))] := hl
  have hP : gWd D (mdT k ad) v (va_up f 37 (f 37)) (va_up g 1 (g 1)) s.heap := by rw [va_id, va_id]; exact hP
  have r_1 : 0 ≤ (v 14) ∧ (v 14) ≤ 4 := hok.1 14
  have r_2 : 0 ≤ (v 18) ∧ (v 18) ≤ 1 := hok.1 18
  refine lv_iload_n hx hb dX11_isAhead_0 rfl (lv_at hl 1 rfl) ?_
  refine lv_istore (lv' := [(5, .int (iI a1)), (0, .ref (ad 0)), (1, .int (iI a1)), (2, .int (iI a2)), (3, .int (iI a3)), (4, .int (iI a4))]) hx hb dX11_isAhead_1 hl (by decide) rfl (fun ls hl => ?_)
  have L_3 : ∀ (n : Nat) (x5 : Int) (c37_3 : Int → Int) (d1_3 : Int → Int) (H : Heap) (locs : List Loc) (ls : Array Slot), x5 + 1 < (n : Int) → ((-1) ≤ x5 ∧ x5 ≤ a1) → (0 ≤ x5 → ahR (kvF (fun k => mcG ((f 9) k)) (f 10) (f 13) (f 1) (v 13) (gFd (f 24) (f 25) (f 26) (f 27) (f 28) (f 29) (f 30) (f 31) (f 32) (f 33) (f 18) (f 19) (v 25) (v 26) a4)) (fun k => 1 - (f 15) k) (v 14) (v 18) a2 a3 (x5 + 1).toNat = (ahR (kvF (fun k => mcG ((f 9) k)) (f 10) (f 13) (f 1) (v 13) (gFd (f 24) (f 25) (f 26) (f 27) (f 28) (f 29) (f 30) (f 31) (f 32) (f 33) (f 18) (f 19) (v 25) (v 26) a4)) (fun k => 1 - (f 15) k) (v 14) (v 18) a2 a3 (a1 + 1).toNat)) → (x5 < 0 → (ahR (kvF (fun k => mcG ((f 9) k)) (f 10) (f 13) (f 1) (v 13) (gFd (f 24) (f 25) (f 26) (f 27) (f 28) (f 29) (f 30) (f 31) (f 32) (f 33) (f 18) (f 19) (v 25) (v 26) a4)) (fun k => 1 - (f 15) k) (v 14) (v 18) a2 a3 (a1 + 1).toNat) = 0) → gWd D (mdT k ad) v (va_up f 37 c37_3) (va_up g 1 d1_3) H → va_S A s.heap H locs → lv_has ls 11 [(0, .ref (ad 0)), (1, .int (iI a1)), (2, .int (iI a2)), (3, .int (iI a3)), (4, .int (iI a4)), (5, .int (iI x5))] → W p l e (gRm 4 117) s m args below meth c H locs 0 0 Q (F0 m 3 ls []) := by
    intro n
    induction n with
    | zero =>
      intro x5 c37_3 d1_3 H locs ls hn_3 i3_0 i3_1 i3_2 hP hS hl
      exfalso; omega
    | succ n ih_3 =>
      intro x5 c37_3 d1_3 H locs ls hn_3 i3_0 i3_1 i3_2 hP hS hl
      have hA0 := i3_1
      have hZ := i3_2
      refine lv_iload hx hb dX11_isAhead_3 (lv_at hl 5 rfl) ?_
      refine gi_zlt (tgt := 120) hx hb dX11_isAhead_5 (by decide) (by omega) (fun c_4 => ?_) (fun c_4 => ?_)
      · refine lv_iconst (v := iI 0) hx hb dX11_isAhead_120 rfl ?_
        exact g_zret hQ C hr hlocks (by decide) hP hS dX11_isAhead_121 ⟨0, c37_3, d1_3, rfl, rfl, rfl, rfl, (by first | (rw [hZ (by omega)]; rfl) | (rw [← hA, ahR_s (by omega), ← hk5]; first | (rw [ahK_1 (by omega) (by omega)]; rfl) | (rw [ahK_2 (by omega) (by omega) (by omega)]; rfl)))⟩
      · have hA := hA0 (by omega)
        refine lv_iconst (v := iI 0) hx hb dX11_isAhead_8 rfl ?_
        refine lv_istore (lv' := [(6, .int (iI 0)), (0, .ref (ad 0)), (1, .int (iI a1)), (2, .int (iI a2)), (3, .int (iI a3)), (4, .int (iI a4)), (5, .int (iI x5))]) hx hb dX11_isAhead_9 hl (by decide) rfl (fun ls hl => ?_)
        have L_5 : ∀ (n : Nat) (x6 : Int) (c37_5 : Int → Int) (d1_5 : Int → Int) (H : Heap) (locs : List Loc) (ls : Array Slot), 4 - x6 < (n : Int) → (0 ≤ x6 ∧ x6 ≤ (v 14)) → (ahK ((kvF (fun k => mcG ((f 9) k)) (f 10) (f 13) (f 1) (v 13) (gFd (f 24) (f 25) (f 26) (f 27) (f 28) (f 29) (f 30) (f 31) (f 32) (f 33) (f 18) (f 19) (v 25) (v 26) a4)) x5 a2) ((kvF (fun k => mcG ((f 9) k)) (f 10) (f 13) (f 1) (v 13) (gFd (f 24) (f 25) (f 26) (f 27) (f 28) (f 29) (f 30) (f 31) (f 32) (f 33) (f 18) (f 19) (v 25) (v 26) a4)) x5 a3) (fun k => 1 - (f 15) k) ((v 14) - x6).toNat x6 = ahK ((kvF (fun k => mcG ((f 9) k)) (f 10) (f 13) (f 1) (v 13) (gFd (f 24) (f 25) (f 26) (f 27) (f 28) (f 29) (f 30) (f 31) (f 32) (f 33) (f 18) (f 19) (v 25) (v 26) a4)) x5 a2) ((kvF (fun k => mcG ((f 9) k)) (f 10) (f 13) (f 1) (v 13) (gFd (f 24) (f 25) (f 26) (f 27) (f 28) (f 29) (f 30) (f 31) (f 32) (f 33) (f 18) (f 19) (v 25) (v 26) a4)) x5 a3) (fun k => 1 - (f 15) k) (v 14).toNat 0) → gWd D (mdT k ad) v (va_up f 37 c37_5) (va_up g 1 d1_5) H → va_S A s.heap H locs → lv_has ls 11 [(0, .ref (ad 0)), (1, .int (iI a1)), (2, .int (iI a2)), (3, .int (iI a3)), (4, .int (iI a4)), (5, .int (iI x5)), (6, .int (iI x6))] → W p l e (gRm 4 117) s m args below meth c H locs 0 0 Q (F0 m 11 ls []) := by
          intro n
          induction n with
          | zero =>
            intro x6 c37_5 d1_5 H locs ls hn_5 i5_0 i5_1 hP hS hl
            exfalso; omega
          | succ n ih_11 =>
            intro x6 c37_5 d1_5 H locs ls hn_5 i5_0 i5_1 hP hS hl
            have hk5 := i5_1
            refine lv_iload hx hb dX11_isAhead_11 (lv_at hl 6 rfl) ?_
            refine lv_aload_n hx hb dX11_isAhead_13 rfl (lv_at hl 0 rfl) ?_
            refine mdG_keys C hP mF_X11_307 dX11_isAhead_14 ?_
            refine gi_cge (tgt := 100) hx hb dX11_isAhead_17 (by decide) (by omega) (by omega) (fun c_6 => ?_) (fun c_6 => ?_)
            · refine lv_aload_n hx hb dX11_isAhead_100 rfl (lv_at hl 0 rfl) ?_
              refine mdG_goesBack C hP mF_X11_310 dX11_isAhead_101 ?_
              refine gi_zeq (tgt := 114) hx hb dX11_isAhead_104 (by decide) (by omega) (fun c_7 => ?_) (fun c_7 => ?_)
              · refine lv_iconst (v := iI (-1)) hx hb dX11_isAhead_114 rfl ?_
                refine lv_istore (lv' := [(5, .int (iI (-1))), (0, .ref (ad 0)), (1, .int (iI a1)), (2, .int (iI a2)), (3, .int (iI a3)), (4, .int (iI a4)), (6, .int (iI x6))]) hx hb dX11_isAhead_115 hl (by decide) rfl (fun ls hl => ?_)
                refine lv_goto (tgt := 3) hx hb dX11_isAhead_117 (by decide) ?_
                exact ih_3 (-1) c37_5 d1_5 _ _ _ (by omega) (by omega) (fun h => by first | (exfalso; omega) | (rw [← hA, ahR_s (r := x5) (by omega), ← hk5, ahK_z (by omega), if_neg (fun q => q rfl), if_neg (by omega)]; congr 1 <;> omega)) (fun h => by rw [← hA, ahR_s (r := x5) (by omega), ← hk5, ahK_z (by omega), if_neg (fun q => q rfl)]; exact (if hb9 : (v 18) = 0 then (by rw [if_pos hb9]) else (by rw [if_neg hb9, show x5 = 0 by omega]; rfl))) hP hS (lv_sub hl [1, 2, 3, 4, 5, 0] rfl)
              · refine lv_iload hx hb dX11_isAhead_107 (lv_at hl 5 rfl) ?_
                refine lv_iconst (v := iI 1) hx hb dX11_isAhead_109 rfl ?_
                refine gi_sub (z := (x5 - 1)) hx hb dX11_isAhead_110 rfl ?_
                refine lv_goto (tgt := 115) hx hb dX11_isAhead_111 (by decide) ?_
                refine lv_istore (lv' := [(5, .int (iI (x5 - 1))), (0, .ref (ad 0)), (1, .int (iI a1)), (2, .int (iI a2)), (3, .int (iI a3)), (4, .int (iI a4)), (6, .int (iI x6))]) hx hb dX11_isAhead_115 hl (by decide) rfl (fun ls hl => ?_)
                refine lv_goto (tgt := 3) hx hb dX11_isAhead_117 (by decide) ?_
                exact ih_3 (x5 - 1) c37_5 d1_5 _ _ _ (by omega) (by omega) (fun h => by first | (exfalso; omega) | (rw [← hA, ahR_s (r := x5) (by omega), ← hk5, ahK_z (by omega), if_neg (fun q => q rfl), if_neg (by omega)]; congr 1 <;> omega)) (fun h => by rw [← hA, ahR_s (r := x5) (by omega), ← hk5, ahK_z (by omega), if_neg (fun q => q rfl)]; exact (if hb9 : (v 18) = 0 then (by rw [if_pos hb9]) else (by rw [if_neg hb9, show x5 = 0 by omega]; rfl))) hP hS (lv_sub hl [1, 2, 3, 4, 5, 0] rfl)
            · refine lv_aload_n hx hb dX11_isAhead_20 rfl (lv_at hl 0 rfl) ?_
              refine lv_iload hx hb dX11_isAhead_21 (lv_at hl 5 rfl) ?_
              refine lv_iload_n hx hb dX11_isAhead_23 rfl (lv_at hl 2 rfl) ?_
              refine lv_iload hx hb dX11_isAhead_24 (lv_at hl 4 rfl) ?_
              refine lv_iload hx hb dX11_isAhead_26 (lv_at hl 6 rfl) ?_
              refine g_cv (As := [.int (iI x5), .int (iI a2), .int (iI a4), .int (iI x6)]) (rest := []) (n := 4) C hml (y_keyOf l D k A ad hD v (va_up f 37 c37_5) (va_up g 1 d1_5) x5 a2 a4 x6 (by omega) (by omega) (by omega) (by omega) (show rpOk (v 13) (f 9) from hrp) (show 0 ≤ x5 ∧ x5 ≤ 3 from by omega) (show 0 ≤ x6 ∧ x6 < 4 from by omega)) mM_X11_393 mI_X11_keyOf mE_X11_keyOf mN_X11 mC_X11_keyOf (by decide +kernel) 0 (ci := 11) rfl rfl hP hS (fun _ h => h) ⟨Nat.le_of_ble_eq_true rfl, Nat.le_of_ble_eq_true rfl⟩ ⟨Nat.zero_le _, Nat.zero_le _⟩ hl.1 rfl rfl (Nat.le_of_ble_eq_true rfl) dX11_isAhead_28 (fun r_8 v_8 f_8 g_8 H locs hq_8 hP _ hS => ?_)
              obtain ⟨z_8, a37_8, b1_8, rfl, rfl, rfl, rfl, p0_8, p1_8⟩ := hq_8
              show W p l e (gRm 4 117) s m args below meth c _ _ 0 0 Q (F0 m 31 ls [.long (iL z_8)])
              have hP : gWd D (mdT k ad) v (va_up f 37 a37_8) (va_up g 1 b1_8) H := ⟨hP.1, (gF_up (V := mdV) (F := mdF) ⟨hok.1, hok.2⟩ 37 (hP.2.2 37))⟩
              replace p0_8 : z_8 = (kV (fun k => mcG ((f 9) k)) (f 10) (v 13) (gFd (f 24) (f 25) (f 26) (f 27) (f 28) (f 29) (f 30) (f 31) (f 32) (f 33) (f 18) (f 19) (v 25) (v 26) a4) ((f 1) x5) ((f 13) x6) x5 a2) := p0_8
              replace p1_8 : (-5000000000) ≤ z_8 ∧ z_8 ≤ 5000000000 := p1_8
              replace p0_8 : z_8 = (kvF (fun k => mcG ((f 9) k)) (f 10) (f 13) (f 1) (v 13) (gFd (f 24) (f 25) (f 26) (f 27) (f 28) (f 29) (f 30) (f 31) (f 32) (f 33) (f 18) (f 19) (v 25) (v 26) a4)) x5 a2 x6 := p0_8
              refine lv_lstore (lv' := [(7, .long (iL z_8)), (0, .ref (ad 0)), (1, .int (iI a1)), (2, .int (iI a2)), (3, .int (iI a3)), (4, .int (iI a4)), (5, .int (iI x5)), (6, .int (iI x6))]) hx hb dX11_isAhead_31 hl (by decide) rfl (fun ls hl => ?_)
              refine lv_aload_n hx hb dX11_isAhead_33 rfl (lv_at hl 1 rfl) ?_
              refine lv_iload hx hb dX11_isAhead_34 (lv_at hl 6 rfl) ?_
              refine lv_iload_n hx hb dX11_isAhead_36 rfl (lv_at hl 4 rfl) ?_
              refine lv_iload hx hb dX11_isAhead_37 (lv_at hl 5 rfl) ?_
              refine lv_iload hx hb dX11_isAhead_39 (lv_at hl 7 rfl) ?_
              refine g_cv (As := [.int (iI x5), .int (iI a3), .int (iI a4), .int (iI x6)]) (rest := []) (n := 4) C hml (y_keyOf l D k A ad hD v (va_up f 37 a37_8) (va_up g 1 b1_8) x5 a3 a4 x6 (by omega) (by omega) (by omega) (by omega) (show rpOk (v 13) (f 9) from hrp) (show 0 ≤ x5 ∧ x5 ≤ 3 from by omega) (show 0 ≤ x6 ∧ x6 < 4 from by omega)) mM_X11_393 mI_X11_keyOf mE_X11_keyOf mN_X11 mC_X11_keyOf (by decide +kernel) 0 (ci := 11) rfl rfl hP hS (fun _ h => h) ⟨Nat.le_of_ble_eq_true rfl, Nat.le_of_ble_eq_true rfl⟩ ⟨Nat.zero_le _, Nat.zero_le _⟩ hl.1 rfl rfl (Nat.le_of_ble_eq_true rfl) dX11_isAhead_41 (fun r_9 v_9 f_9 g_9 H locs hq_9 hP _ hS => ?_)
              obtain ⟨z_9, a37_9, b1_9, rfl, rfl, rfl, rfl, p0_9, p1_9⟩ := hq_9
              show W p l e (gRm 4 117) s m args below meth c _ _ 0 0 Q (F0 m 44 ls [.long (iL z_9)])
              have hP : gWd D (mdT k ad) v (va_up f 37 a37_9) (va_up g 1 b1_9) H := ⟨hP.1, (gF_up (V := mdV) (F := mdF) ⟨hok.1, hok.2⟩ 37 (hP.2.2 37))⟩
              replace p0_9 : z_9 = (kV (fun k => mcG ((f 9) k)) (f 10) (v 13) (gFd (f 24) (f 25) (f 26) (f 27) (f 28) (f 29) (f 30) (f 31) (f 32) (f 33) (f 18) (f 19) (v 25) (v 26) a4) ((f 1) x5) ((f 13) x6) x5 a3) := p0_9
              replace p1_9 : (-5000000000) ≤ z_9 ∧ z_9 ≤ 5000000000 := p1_9
              replace p0_9 : z_9 = (kvF (fun k => mcG ((f 9) k)) (f 10) (f 13) (f 1) (v 13) (gFd (f 24) (f 25) (f 26) (f 27) (f 28) (f 29) (f 30) (f 31) (f 32) (f 33) (f 18) (f 19) (v 25) (v 26) a4)) x5 a3 x6 := p0_9
              refine lv_lstore (lv' := [(9, .long (iL z_9)), (7, .long (iL z_8)), (0, .ref (ad 0)), (1, .int (iI a1)), (2, .int (iI a2)), (3, .int (iI a3)), (4, .int (iI a4)), (5, .int (iI x5)), (6, .int (iI x6))]) hx hb dX11_isAhead_44 hl (by decide) rfl (fun ls hl => ?_)
              refine lv_lload hx hb dX11_isAhead_46 (lv_at hl 1 rfl) ?_
              refine lv_lload hx hb dX11_isAhead_48 (lv_at hl 0 rfl) ?_
              refine gl_cmpE hx hb (by omega) (by omega) dX11_isAhead_50 (fun x_10 hx_10 => ?_)
              refine gi_zeq (tgt := 94) hx hb dX11_isAhead_51 (by decide) (by omega) (fun c_11 => ?_) (fun c_11 => ?_)
              · refine lv_iinc (v := iI (x6 + 1)) (lv' := [(6, .int (iI (x6 + 1))), (9, .long (iL z_9)), (7, .long (iL z_8)), (0, .ref (ad 0)), (1, .int (iI a1)), (2, .int (iI a2)), (3, .int (iI a3)), (4, .int (iI a4)), (5, .int (iI x5))]) hx hb dX11_isAhead_94 hl (k := 8) rfl (by show iI _ + iI 1 = _; rw [iI_add]) (by decide) rfl (fun ls hl => ?_)
                refine lv_goto (tgt := 11) hx hb dX11_isAhead_97 (by decide) ?_
                exact ih_11 (x6 + 1) a37_9 b1_9 _ _ _ (by omega) (by omega) (by rw [← hk5]; exact (ahK_e (by omega) (by omega)).symm) hP hS (lv_sub hl [3, 4, 5, 6, 7, 8, 0] rfl)
              · refine lv_aload_n hx hb dX11_isAhead_54 rfl (lv_at hl 2 rfl) ?_
                refine mdG_isUp C hP mF_X11_63 dX11_isAhead_55 ?_
                refine lv_iload hx hb dX11_isAhead_58 (lv_at hl 8 rfl) ?_
                refine mdL_isUp C hP (by omega) (by omega) dX11_isAhead_60 ?_
                show W p l e (gRm 4 117) s m args below meth c _ _ 0 0 Q (F0 m 61 ls [.int (iI (f 15 x6))])
                have r_12 : 0 ≤ (f 15 x6) ∧ (f 15 x6) ≤ 1 := hP.2.2 15 x6
                have hup : (fun k => 1 - (f 15) k) x6 = 1 - (f 15 x6) := rfl
                refine gi_zeq (tgt := 80) hx hb dX11_isAhead_61 (by decide) (by omega) (fun c_14 => ?_) (fun c_14 => ?_)
                · refine lv_lload hx hb dX11_isAhead_80 (lv_at hl 1 rfl) ?_
                  refine lv_lload hx hb dX11_isAhead_82 (lv_at hl 0 rfl) ?_
                  refine gl_cmpE hx hb (by omega) (by omega) dX11_isAhead_84 (fun x_15 hx_15 => ?_)
                  refine gi_zle (tgt := 92) hx hb dX11_isAhead_85 (by decide) (by omega) (fun c_16 => ?_) (fun c_16 => ?_)
                  · refine lv_iconst (v := iI 0) hx hb dX11_isAhead_92 rfl ?_
                    exact g_zret hQ C hr hlocks (by decide) hP hS dX11_isAhead_93 ⟨0, a37_9, b1_9, rfl, rfl, rfl, rfl, (by first | (rw [hZ (by omega)]; rfl) | (rw [← hA, ahR_s (by omega), ← hk5]; first | (rw [ahK_1 (by omega) (by omega)]; rfl) | (rw [ahK_2 (by omega) (by omega) (by omega)]; rfl)))⟩
                  · refine lv_iconst (v := iI 1) hx hb dX11_isAhead_88 rfl ?_
                    refine lv_goto (tgt := 93) hx hb dX11_isAhead_89 (by decide) ?_
                    exact g_zret hQ C hr hlocks (by decide) hP hS dX11_isAhead_93 ⟨1, a37_9, b1_9, rfl, rfl, rfl, rfl, (by first | (rw [hZ (by omega)]; rfl) | (rw [← hA, ahR_s (by omega), ← hk5]; first | (rw [ahK_1 (by omega) (by omega)]; rfl) | (rw [ahK_2 (by omega) (by omega) (by omega)]; rfl)))⟩
                · refine lv_lload hx hb dX11_isAhead_64 (lv_at hl 1 rfl) ?_
                  refine lv_lload hx hb dX11_isAhead_66 (lv_at hl 0 rfl) ?_
                  refine gl_cmpE hx hb (by omega) (by omega) dX11_isAhead_68 (fun x_17 hx_17 => ?_)
                  refine gi_zge (tgt := 76) hx hb dX11_isAhead_69 (by decide) (by omega) (fun c_18 => ?_) (fun c_18 => ?_)
                  · refine lv_iconst (v := iI 0) hx hb dX11_isAhead_76 rfl ?_
                    refine lv_goto (tgt := 93) hx hb dX11_isAhead_77 (by decide) ?_
                    exact g_zret hQ C hr hlocks (by decide) hP hS dX11_isAhead_93 ⟨0, a37_9, b1_9, rfl, rfl, rfl, rfl, (by first | (rw [hZ (by omega)]; rfl) | (rw [← hA, ahR_s (by omega), ← hk5]; first | (rw [ahK_1 (by omega) (by omega)]; rfl) | (rw [ahK_2 (by omega) (by omega) (by omega)]; rfl)))⟩
                  · refine lv_iconst (v := iI 1) hx hb dX11_isAhead_72 rfl ?_
                    refine lv_goto (tgt := 93) hx hb dX11_isAhead_73 (by decide) ?_
                    exact g_zret hQ C hr hlocks (by decide) hP hS dX11_isAhead_93 ⟨1, a37_9, b1_9, rfl, rfl, rfl, rfl, (by first | (rw [hZ (by omega)]; rfl) | (rw [← hA, ahR_s (by omega), ← hk5]; first | (rw [ahK_1 (by omega) (by omega)]; rfl) | (rw [ahK_2 (by omega) (by omega) (by omega)]; rfl)))⟩
        exact L_5 5 0 c37_3 d1_3 _ _ _ (by omega) (by omega) ahK_s0 hP hS (lv_sub hl [1, 2, 3, 4, 5, 6, 0] rfl)
  exact L_3 5 a1 (f 37) (g 1) _ _ _ (by omega) (by omega) (fun _ => rfl) (fun h => by omega) hP hS (lv_sub hl [1, 2, 3, 4, 5, 0] rfl)

set_option maxHeartbeats 4000000 in
set_option maxRecDepth 100000 in
theorem y_rankOf (l : Launch) (D : va_G) (k : Nat → ClassId) (A : Nat → Prop) (ad : Nat → Nat) (hD : mdD A k ad) (v : gV) (f g : gF) (a1 : Int) (a2 : Int) (a3 : Int) (h_a1 : inR a1) (h_a2 : inR a2) (h_a3 : inR a3) (hrp : rpOk (v 13) (f 9)) (h1 : 0 ≤ a1 ∧ a1 ≤ 3) : GM l D k A (mdT k ad) yX11_rankOf cX11_rankOf 6 (some .int) 5 147 [.ref (ad 0), .int (iI a1), .int (iI a2), .int (iI a3)] v f g (fun r v1 f1 g1 => ∃ (z : Int) (a37_ : Int → Int) (b1_ : Int → Int), r = some (.int (iI z)) ∧ v = v1 ∧ (va_up f 37 a37_) = f1 ∧ (va_up g 1 b1_) = g1 ∧ (z = (1 + cn (pAh (kvF (fun k => mcG ((f 9) k)) (f 10) (f 13) (f 1) (v 13) (gFd (f 24) (f 25) (f 26) (f 27) (f 28) (f 29) (f 30) (f 31) (f 32) (f 33) (f 18) (f 19) (v 25) (v 26) a3)) (fun k => 1 - (f 15) k) (v 14) (v 18) (liF (f 21) a1) a1 a2) (v 22).toNat)) ∧ (1 ≤ z ∧ z ≤ 17)) := by
  refine GM.of (by decide) (Nat.le_of_ble_eq_true rfl) ?_
  intro p e s m args below meth c Q ls hQ C hml hr hlocks hP hl
  have hx := C.1
  have hb := C.2.1
  have hok := hP.2
  have hS : va_S A s.heap s.heap [] := va_S.rf
  have hl : lv_has ls 6 [(0, .ref (ad 0)), (1, .int (iI a1)), (2, .int (iI a2)), (3, .int (iI a3))] := hl
  have hP : gWd D (mdT k ad) v (va_up f 37 (f 37)) (va_up g 1 (g 1)) s.heap := by rw [va_id, va_id]; exact hP
  have r_1 : 0 ≤ (v 22) ∧ (v 22) ≤ 16 := hok.1 22
  refine lv_iconst (v := iI 1) hx hb dX11_rankOf_0 rfl ?_
  refine lv_istore (lv' := [(4, .int (iI 1)), (0, .ref (ad 0)), (1, .int (iI a1)), (2, .int (iI a2)), (3, .int (iI a3))]) hx hb dX11_rankOf_1 hl (by decide) rfl (fun ls hl => ?_)
  refine lv_iconst (v := iI 0) hx hb dX11_rankOf_3 rfl ?_
  refine lv_istore (lv' := [(5, .int (iI 0)), (4, .int (iI 1)), (0, .ref (ad 0)), (1, .int (iI a1)), (2, .int (iI a2)), (3, .int (iI a3))]) hx hb dX11_rankOf_4 hl (by decide) rfl (fun ls hl => ?_)
  have L_2 : ∀ (n : Nat) (x4 : Int) (x5 : Int) (c37_2 : Int → Int) (d1_2 : Int → Int) (H : Heap) (locs : List Loc) (ls : Array Slot), 16 - x5 < (n : Int) → (0 ≤ x5 ∧ x5 ≤ (v 22)) → (1 ≤ x4 ∧ x4 ≤ x5 + 1) → (x4 = 1 + cn (pAh (kvF (fun k => mcG ((f 9) k)) (f 10) (f 13) (f 1) (v 13) (gFd (f 24) (f 25) (f 26) (f 27) (f 28) (f 29) (f 30) (f 31) (f 32) (f 33) (f 18) (f 19) (v 25) (v 26) a3)) (fun k => 1 - (f 15) k) (v 14) (v 18) (liF (f 21) a1) a1 a2) x5.toNat) → gWd D (mdT k ad) v (va_up f 37 c37_2) (va_up g 1 d1_2) H → va_S A s.heap H locs → lv_has ls 6 [(0, .ref (ad 0)), (1, .int (iI a1)), (2, .int (iI a2)), (3, .int (iI a3)), (4, .int (iI x4)), (5, .int (iI x5))] → W p l e (gRm 5 147) s m args below meth c H locs 0 0 Q (F0 m 6 ls []) := by
    intro n
    induction n with
    | zero =>
      intro x4 x5 c37_2 d1_2 H locs ls hn_2 i2_0 i2_1 i2_2 hP hS hl
      exfalso; omega
    | succ n ih_6 =>
      intro x4 x5 c37_2 d1_2 H locs ls hn_2 i2_0 i2_1 i2_2 hP hS hl
      have hI := i2_2
      refine lv_iload hx hb dX11_rankOf_6 (lv_at hl 5 rfl) ?_
      refine lv_aload_n hx hb dX11_rankOf_8 rfl (lv_at hl 0 rfl) ?_
      refine mdG_climbers C hP mF_X11_313 dX11_rankOf_9 ?_
      refine gi_cge (tgt := 64) hx hb dX11_rankOf_12 (by decide) (by omega) (by omega) (fun c_3 => ?_) (fun c_3 => ?_)
      · refine lv_iload hx hb dX11_rankOf_64 (lv_at hl 4 rfl) ?_
        exact g_iret hQ C hr hlocks hP hS dX11_rankOf_66 ⟨x4, c37_2, d1_2, rfl, rfl, rfl, rfl, (by rw [show (v 22) = x5 by omega]; exact hI), (by first | omega | ((repeat' split) <;> omega))⟩
      · refine lv_iload hx hb dX11_rankOf_15 (lv_at hl 4 rfl) ?_
        refine lv_iload hx hb dX11_rankOf_17 (lv_at hl 5 rfl) ?_
        refine lv_iload_n hx hb dX11_rankOf_19 rfl (lv_at hl 2 rfl) ?_
        refine gi_ceq (tgt := 54) hx hb dX11_rankOf_20 (by decide) (by omega) (by omega) (fun c_4 => ?_) (fun c_4 => ?_)
        · refine lv_iconst (v := iI 0) hx hb dX11_rankOf_54 rfl ?_
          refine gi_add (z := x4) hx hb dX11_rankOf_55 (by omega) ?_
          refine lv_istore (lv' := [(4, .int (iI x4)), (0, .ref (ad 0)), (1, .int (iI a1)), (2, .int (iI a2)), (3, .int (iI a3)), (5, .int (iI x5))]) hx hb dX11_rankOf_56 hl (by decide) rfl (fun ls hl => ?_)
          refine lv_iinc (v := iI (x5 + 1)) (lv' := [(5, .int (iI (x5 + 1))), (4, .int (iI x4)), (0, .ref (ad 0)), (1, .int (iI a1)), (2, .int (iI a2)), (3, .int (iI a3))]) hx hb dX11_rankOf_58 hl (k := 5) rfl (by show iI _ + iI 1 = _; rw [iI_add]) (by decide) rfl (fun ls hl => ?_)
          refine lv_goto (tgt := 6) hx hb dX11_rankOf_61 (by decide) ?_
          exact ih_6 x4 (x5 + 1) c37_2 d1_2 _ _ _ (by omega) (by omega) (by omega) (by first | (rw [cn_y (by omega) (decide_eq_true (by omega))]; omega) | (rw [cn_n (by omega) (decide_eq_false (by omega))]; omega) | (rw [cn_n (by omega) (decide_eq_false (fun h => by have h2 := h.2; rw [show x5 = a2 by omega, ahR_self] at h2; omega))]; omega)) hP hS (lv_sub hl [2, 3, 4, 5, 1, 0] rfl)
        · refine lv_aload_n hx hb dX11_rankOf_23 rfl (lv_at hl 0 rfl) ?_
          refine mdG_isIn C hP mF_X11_85 dX11_rankOf_24 ?_
          refine lv_bipush (v := iI 16) hx hb dX11_rankOf_27 (by decide) ?_
          refine lv_iload_n hx hb dX11_rankOf_29 rfl (lv_at hl 1 rfl) ?_
          refine gi_mul (z := (16 * a1)) hx hb dX11_rankOf_30 rfl ?_
          refine lv_iload hx hb dX11_rankOf_31 (lv_at hl 5 rfl) ?_
          refine gi_add (z := ((16 * a1) + x5)) hx hb dX11_rankOf_33 rfl ?_
          refine mdL_isIn C hP (by omega) (by omega) dX11_rankOf_34 ?_
          show W p l e (gRm 5 147) s m args below meth c _ _ 0 0 Q (F0 m 35 ls [.int (iI (f 21 ((16 * a1) + x5))), .int (iI x4)])
          have r_5 : 0 ≤ (f 21 ((16 * a1) + x5)) ∧ (f 21 ((16 * a1) + x5)) ≤ 1 := hP.2.2 21 ((16 * a1) + x5)
          have hli : (liF (f 21) a1) x5 = (if (f 21 ((16 * a1) + x5)) ≠ 0 then a1 else a1 - 1) := rfl
          refine gi_zeq (tgt := 54) hx hb dX11_rankOf_35 (by decide) (by omega) (fun c_7 => ?_) (fun c_7 => ?_)
          · refine lv_iconst (v := iI 0) hx hb dX11_rankOf_54 rfl ?_
            refine gi_add (z := x4) hx hb dX11_rankOf_55 (by omega) ?_
            refine lv_istore (lv' := [(4, .int (iI x4)), (0, .ref (ad 0)), (1, .int (iI a1)), (2, .int (iI a2)), (3, .int (iI a3)), (5, .int (iI x5))]) hx hb dX11_rankOf_56 hl (by decide) rfl (fun ls hl => ?_)
            refine lv_iinc (v := iI (x5 + 1)) (lv' := [(5, .int (iI (x5 + 1))), (4, .int (iI x4)), (0, .ref (ad 0)), (1, .int (iI a1)), (2, .int (iI a2)), (3, .int (iI a3))]) hx hb dX11_rankOf_58 hl (k := 5) rfl (by show iI _ + iI 1 = _; rw [iI_add]) (by decide) rfl (fun ls hl => ?_)
            refine lv_goto (tgt := 6) hx hb dX11_rankOf_61 (by decide) ?_
            exact ih_6 x4 (x5 + 1) c37_2 d1_2 _ _ _ (by omega) (by omega) (by omega) (by first | (rw [cn_y (by omega) (decide_eq_true (by omega))]; omega) | (rw [cn_n (by omega) (decide_eq_false (by omega))]; omega) | (rw [cn_n (by omega) (decide_eq_false (fun h => by have h2 := h.2; rw [show x5 = a2 by omega, ahR_self] at h2; omega))]; omega)) hP hS (lv_sub hl [2, 3, 4, 5, 1, 0] rfl)
          · refine lv_aload_n hx hb dX11_rankOf_38 rfl (lv_at hl 0 rfl) ?_
            refine lv_iload_n hx hb dX11_rankOf_39 rfl (lv_at hl 1 rfl) ?_
            refine lv_iload hx hb dX11_rankOf_40 (lv_at hl 5 rfl) ?_
            refine lv_iload_n hx hb dX11_rankOf_42 rfl (lv_at hl 2 rfl) ?_
            refine lv_iload_n hx hb dX11_rankOf_43 rfl (lv_at hl 3 rfl) ?_
            refine g_cv (As := [.int (iI a1), .int (iI x5), .int (iI a2), .int (iI a3)]) (rest := [.int (iI x4)]) (n := 4) C hml (y_isAhead l D k A ad hD v (va_up f 37 c37_2) (va_up g 1 d1_2) a1 x5 a2 a3 (by omega) (by omega) (by omega) (by omega) (show rpOk (v 13) (f 9) from hrp) (show 0 ≤ a1 ∧ a1 ≤ 3 from by omega)) mM_X11_397 mI_X11_isAhead mE_X11_isAhead mN_X11 mC_X11_isAhead (by decide +kernel) 0 (ci := 11) rfl rfl hP hS (fun _ h => h) ⟨Nat.le_of_ble_eq_true rfl, Nat.le_of_ble_eq_true rfl⟩ ⟨Nat.zero_le _, Nat.zero_le _⟩ hl.1 rfl rfl (Nat.le_of_ble_eq_true rfl) dX11_rankOf_44 (fun r_8 v_8 f_8 g_8 H locs hq_8 hP _ hS => ?_)
            obtain ⟨z_8, a37_8, b1_8, rfl, rfl, rfl, rfl, p0_8⟩ := hq_8
            show W p l e (gRm 5 147) s m args below meth c _ _ 0 0 Q (F0 m 47 ls [.int (iI z_8), .int (iI x4)])
            have hP : gWd D (mdT k ad) v (va_up f 37 a37_8) (va_up g 1 b1_8) H := ⟨hP.1, (gF_up (V := mdV) (F := mdF) ⟨hok.1, hok.2⟩ 37 (hP.2.2 37))⟩
            replace p0_8 : z_8 = (if (ahR (kvF (fun k => mcG ((f 9) k)) (f 10) (f 13) (f 1) (v 13) (gFd (f 24) (f 25) (f 26) (f 27) (f 28) (f 29) (f 30) (f 31) (f 32) (f 33) (f 18) (f 19) (v 25) (v 26) a3)) (fun k => 1 - (f 15) k) (v 14) (v 18) x5 a2 (a1 + 1).toNat) = 1 then 1 else 0) := p0_8
            have w_8 := gif (P := (ahR (kvF (fun k => mcG ((f 9) k)) (f 10) (f 13) (f 1) (v 13) (gFd (f 24) (f 25) (f 26) (f 27) (f 28) (f 29) (f 30) (f 31) (f 32) (f 33) (f 18) (f 19) (v 25) (v 26) a3)) (fun k => 1 - (f 15) k) (v 14) (v 18) x5 a2 (a1 + 1).toNat) = 1) p0_8
            clear p0_8
            have hz_8 : inR z_8 := (by first | omega | (rw [p0_8]; split <;> omega))
            refine gi_zeq (tgt := 54) hx hb dX11_rankOf_47 (by decide) (by omega) (fun c_9 => ?_) (fun c_9 => ?_)
            · have vz_8 := gif0 w_8 c_9
              clear w_8
              refine lv_iconst (v := iI 0) hx hb dX11_rankOf_54 rfl ?_
              refine gi_add (z := x4) hx hb dX11_rankOf_55 (by omega) ?_
              refine lv_istore (lv' := [(4, .int (iI x4)), (0, .ref (ad 0)), (1, .int (iI a1)), (2, .int (iI a2)), (3, .int (iI a3)), (5, .int (iI x5))]) hx hb dX11_rankOf_56 hl (by decide) rfl (fun ls hl => ?_)
              refine lv_iinc (v := iI (x5 + 1)) (lv' := [(5, .int (iI (x5 + 1))), (4, .int (iI x4)), (0, .ref (ad 0)), (1, .int (iI a1)), (2, .int (iI a2)), (3, .int (iI a3))]) hx hb dX11_rankOf_58 hl (k := 5) rfl (by show iI _ + iI 1 = _; rw [iI_add]) (by decide) rfl (fun ls hl => ?_)
              refine lv_goto (tgt := 6) hx hb dX11_rankOf_61 (by decide) ?_
              exact ih_6 x4 (x5 + 1) a37_8 b1_8 _ _ _ (by omega) (by omega) (by omega) (by first | (rw [cn_y (by omega) (decide_eq_true (by omega))]; omega) | (rw [cn_n (by omega) (decide_eq_false (by omega))]; omega) | (rw [cn_n (by omega) (decide_eq_false (fun h => by have h2 := h.2; rw [show x5 = a2 by omega, ahR_self] at h2; omega))]; omega)) hP hS (lv_sub hl [2, 3, 4, 5, 1, 0] rfl)
            · have vz_8 := gif1 w_8 c_9
              have voz_8 := gif1o w_8 c_9
              clear w_8
              refine lv_iconst (v := iI 1) hx hb dX11_rankOf_50 rfl ?_
              refine lv_goto (tgt := 55) hx hb dX11_rankOf_51 (by decide) ?_
              refine gi_add (z := (x4 + 1)) hx hb dX11_rankOf_55 rfl ?_
              refine lv_istore (lv' := [(4, .int (iI (x4 + 1))), (0, .ref (ad 0)), (1, .int (iI a1)), (2, .int (iI a2)), (3, .int (iI a3)), (5, .int (iI x5))]) hx hb dX11_rankOf_56 hl (by decide) rfl (fun ls hl => ?_)
              refine lv_iinc (v := iI (x5 + 1)) (lv' := [(5, .int (iI (x5 + 1))), (4, .int (iI (x4 + 1))), (0, .ref (ad 0)), (1, .int (iI a1)), (2, .int (iI a2)), (3, .int (iI a3))]) hx hb dX11_rankOf_58 hl (k := 5) rfl (by show iI _ + iI 1 = _; rw [iI_add]) (by decide) rfl (fun ls hl => ?_)
              refine lv_goto (tgt := 6) hx hb dX11_rankOf_61 (by decide) ?_
              exact ih_6 (x4 + 1) (x5 + 1) a37_8 b1_8 _ _ _ (by omega) (by omega) (by omega) (by first | (rw [cn_y (by omega) (decide_eq_true (by omega))]; omega) | (rw [cn_n (by omega) (decide_eq_false (by omega))]; omega) | (rw [cn_n (by omega) (decide_eq_false (fun h => by have h2 := h.2; rw [show x5 = a2 by omega, ahR_self] at h2; omega))]; omega)) hP hS (lv_sub hl [2, 3, 4, 5, 1, 0] rfl)
  exact L_2 17 1 0 (f 37) (g 1) _ _ _ (by omega) (by omega) (by omega) rfl hP hS (lv_sub hl [2, 3, 4, 5, 1, 0] rfl)

set_option maxHeartbeats 4000000 in
set_option maxRecDepth 100000 in
theorem y_rank (l : Launch) (D : va_G) (k : Nat → ClassId) (A : Nat → Prop) (ad : Nat → Nat) (hD : mdD A k ad) (v : gV) (f g : gF) (a1 : Int) (a2 : Int) (a3 : Int) (h_a1 : inR a1) (h_a2 : inR a2) (h_a3 : inR a3) (hrp : 0 < (v 12) → rpOk (v 13) (f 9)) : GM l D k A (mdT k ad) yX11_rank cX11_rank 4 (some .int) 6 172 [.ref (ad 0), .int (iI a1), .int (iI a2), .int (iI a3)] v f g (fun r v1 f1 g1 => ∃ (z : Int) (w0 : Int) (a37_ : Int → Int) (b1_ : Int → Int), r = some (.int (iI z)) ∧ (va_up (va_up v 0 w0) 1 0) = v1 ∧ (va_up f 37 a37_) = f1 ∧ (va_up g 1 b1_) = g1 ∧ (z = (if w0 ≠ 0 then (-1) else rkF (kvF (fun k => mcG ((f 9) k)) (f 10) (f 13) (f 1) (v 13) (gFd (f 24) (f 25) (f 26) (f 27) (f 28) (f 29) (f 30) (f 31) (f 32) (f 33) (f 18) (f 19) (v 25) (v 26) a3)) (fun k => 1 - (f 15) k) (v 14) (v 18) (liF (f 21) a1) (v 22) a1 a2)) ∧ ((-1) ≤ z ∧ z ≤ 17) ∧ (w0 = (if ¬ ((0 ≤ a1 ∧ a1 < (v 12)) ∧ (0 ≤ a2 ∧ a2 < (v 22)) ∧ (f 21) (16 * a1 + a2) ≠ 0) then 1 else if ¬ (0 ≤ a3 ∧ a3 ≤ 999) then 2 else 0))) := by
  refine GM.of (by decide) (Nat.le_of_ble_eq_true rfl) ?_
  intro p e s m args below meth c Q ls hQ C hml hr hlocks hP hl
  have hx := C.1
  have hb := C.2.1
  have hok := hP.2
  have hS : va_S A s.heap s.heap [] := va_S.rf
  have hl : lv_has ls 4 [(0, .ref (ad 0)), (1, .int (iI a1)), (2, .int (iI a2)), (3, .int (iI a3))] := hl
  have hP : gWd D (mdT k ad) (va_up (va_up v 0 (v 0)) 1 (v 1)) (va_up f 37 (f 37)) (va_up g 1 (g 1)) s.heap := by rw [va_id, va_id, va_id, va_id]; exact hP
  refine lv_aload_n hx hb dX11_rank_0 rfl (lv_at hl 0 rfl) ?_
  refine lv_iconst (v := iI 0) hx hb dX11_rank_1 rfl ?_
  refine mdP_thrown (v1 := (va_up (va_up v 0 (v 0)) 1 0)) C hP hD hS mF_X11_146 (by decide) rfl (Or.inr (gF_up (V := mdV) (F := mdF) (gR_up (V := mdV) (F := mdF) (gR_up (V := mdV) (F := mdF) ⟨hok.1, hok.2⟩ 0 (hP.2.1 0)) 1 (show 0 ≤ 0 ∧ 0 ≤ 0 from by decide)) 37 (hP.2.2 37))) dX11_rank_2 (fun H locs hP hS => ?_)
  refine lv_aload_n hx hb dX11_rank_5 rfl (lv_at hl 0 rfl) ?_
  refine lv_iconst (v := iI 0) hx hb dX11_rank_6 rfl ?_
  refine mdP_status (v1 := (va_up (va_up v 0 0) 1 0)) C hP hD hS mF_X11_149 (by decide) rfl (Or.inr (gF_up (V := mdV) (F := mdF) (gR_up (V := mdV) (F := mdF) (gR_up (V := mdV) (F := mdF) ⟨hok.1, hok.2⟩ 0 (show 0 ≤ 0 ∧ 0 ≤ 10 from by decide)) 1 (hP.2.1 1)) 37 (hP.2.2 37))) dX11_rank_7 (fun H locs hP hS => ?_)
  refine lv_aload_n hx hb dX11_rank_10 rfl (lv_at hl 0 rfl) ?_
  refine lv_iload_n hx hb dX11_rank_11 rfl (lv_at hl 1 rfl) ?_
  refine lv_iload_n hx hb dX11_rank_12 rfl (lv_at hl 2 rfl) ?_
  refine g_cv (As := [.int (iI a1), .int (iI a2)]) (rest := []) (n := 2) C hml (m_X11_isIn l D k A ad hD (va_up (va_up v 0 0) 1 0) (va_up f 37 (f 37)) (va_up g 1 (g 1)) a1 a2 (by omega) (by omega)) mM_X11_391 mI_X11_isIn mE_X11_isIn mN_X11 mC_X11_isIn (by decide +kernel) 0 (ci := 11) rfl rfl hP hS (fun _ h => h) ⟨Nat.le_of_ble_eq_true rfl, Nat.le_of_ble_eq_true rfl⟩ ⟨Nat.zero_le _, Nat.zero_le _⟩ hl.1 rfl rfl (Nat.le_of_ble_eq_true rfl) dX11_rank_13 (fun r_1 v_1 f_1 g_1 H locs hq_1 hP _ hS => ?_)
  obtain ⟨z_1, rfl, rfl, rfl, rfl, p0_1, p1_1⟩ := hq_1
  show W p l e (gRm 6 172) s m args below meth c _ _ 0 0 Q (F0 m 16 ls [.int (iI z_1)])
  replace p0_1 : z_1 = (if (0 ≤ a1 ∧ a1 < (v 12)) ∧ (0 ≤ a2 ∧ a2 < (v 22)) ∧ (f 21) (16 * a1 + a2) ≠ 0 then 1 else 0) := p0_1
  have w_1 := gif (P := (0 ≤ a1 ∧ a1 < (v 12)) ∧ (0 ≤ a2 ∧ a2 < (v 22)) ∧ (f 21) (16 * a1 + a2) ≠ 0) p0_1
  clear p0_1
  replace p1_1 : z_1 = 1 → (0 ≤ a1 ∧ a1 ≤ 3) ∧ (0 ≤ a2 ∧ a2 ≤ 15) := p1_1
  have hz_1 : inR z_1 := (by first | omega | (rw [p0_1]; split <;> omega))
  refine gi_zne (tgt := 25) hx hb dX11_rank_16 (by decide) (by omega) (fun c_2 => ?_) (fun c_2 => ?_)
  · have vz_1 := gif1 w_1 c_2
    have voz_1 := gif1o w_1 c_2
    clear w_1
    refine lv_iload_n hx hb dX11_rank_25 rfl (lv_at hl 3 rfl) ?_
    refine g_cs (As := [.int (iI a3)]) (rest := []) (n := 1) C hml (m_X11_isDay l D k A ad hD (va_up (va_up v 0 0) 1 0) (va_up f 37 (f 37)) (va_up g 1 (g 1)) a3 (by omega)) mM_X11_364 mS_X11_isDay mN_X11 mC_X11_isDay (by decide +kernel) hP hS (fun _ h => h) ⟨Nat.le_of_ble_eq_true rfl, Nat.le_of_ble_eq_true rfl⟩ ⟨Nat.zero_le _, Nat.zero_le _⟩ hl.1 rfl rfl (Nat.le_of_ble_eq_true rfl) dX11_rank_26 (fun r_3 v_3 f_3 g_3 H locs hq_3 hP _ hS => ?_)
    obtain ⟨z_3, rfl, rfl, rfl, rfl, p0_3⟩ := hq_3
    show W p l e (gRm 6 172) s m args below meth c _ _ 0 0 Q (F0 m 29 ls [.int (iI z_3)])
    replace p0_3 : z_3 = (if 0 ≤ a3 ∧ a3 ≤ 999 then 1 else 0) := p0_3
    have w_3 := gif (P := 0 ≤ a3 ∧ a3 ≤ 999) p0_3
    clear p0_3
    have hz_3 : inR z_3 := (by first | omega | (rw [p0_3]; split <;> omega))
    refine gi_zne (tgt := 38) hx hb dX11_rank_29 (by decide) (by omega) (fun c_4 => ?_) (fun c_4 => ?_)
    · have vz_3 := gif1 w_3 c_4
      have voz_3 := gif1o w_3 c_4
      clear w_3
      refine lv_aload_n hx hb dX11_rank_38 rfl (lv_at hl 0 rfl) ?_
      refine lv_iload_n hx hb dX11_rank_39 rfl (lv_at hl 1 rfl) ?_
      refine lv_iload_n hx hb dX11_rank_40 rfl (lv_at hl 2 rfl) ?_
      refine lv_iload_n hx hb dX11_rank_41 rfl (lv_at hl 3 rfl) ?_
      refine g_cv (As := [.int (iI a1), .int (iI a2), .int (iI a3)]) (rest := []) (n := 3) C hml (y_rankOf l D k A ad hD (va_up (va_up v 0 0) 1 0) (va_up f 37 (f 37)) (va_up g 1 (g 1)) a1 a2 a3 (by omega) (by omega) (by omega) (show rpOk (v 13) (f 9) from hrp (by omega)) (show 0 ≤ a1 ∧ a1 ≤ 3 from by omega)) mM_X11_401 mI_X11_rankOf mE_X11_rankOf mN_X11 mC_X11_rankOf (by decide +kernel) 0 (ci := 11) rfl rfl hP hS (fun _ h => h) ⟨Nat.le_of_ble_eq_true rfl, Nat.le_of_ble_eq_true rfl⟩ ⟨Nat.zero_le _, Nat.zero_le _⟩ hl.1 rfl rfl (Nat.le_of_ble_eq_true rfl) dX11_rank_42 (fun r_5 v_5 f_5 g_5 H locs hq_5 hP _ hS => ?_)
      obtain ⟨z_5, a37_5, b1_5, rfl, rfl, rfl, rfl, p0_5, p1_5⟩ := hq_5
      show W p l e (gRm 6 172) s m args below meth c _ _ 0 0 Q (F0 m 45 ls [.int (iI z_5)])
      have hP : gWd D (mdT k ad) (va_up (va_up v 0 0) 1 0) (va_up f 37 a37_5) (va_up g 1 b1_5) H := ⟨hP.1, (gF_up (V := mdV) (F := mdF) (gR_up (V := mdV) (F := mdF) (gR_up (V := mdV) (F := mdF) ⟨hok.1, hok.2⟩ 0 (hP.2.1 0)) 1 (hP.2.1 1)) 37 (hP.2.2 37))⟩
      replace p0_5 : z_5 = (1 + cn (pAh (kvF (fun k => mcG ((f 9) k)) (f 10) (f 13) (f 1) (v 13) (gFd (f 24) (f 25) (f 26) (f 27) (f 28) (f 29) (f 30) (f 31) (f 32) (f 33) (f 18) (f 19) (v 25) (v 26) a3)) (fun k => 1 - (f 15) k) (v 14) (v 18) (liF (f 21) a1) a1 a2) (v 22).toNat) := p0_5
      replace p1_5 : 1 ≤ z_5 ∧ z_5 ≤ 17 := p1_5
      have hz_5 : inR z_5 := (by first | omega | (rw [p0_5]; split <;> omega))
      have hrk := p0_5
      clear p0_5
      exact g_iret hQ C hr hlocks hP hS dX11_rank_45 ⟨z_5, 0, a37_5, b1_5, rfl, rfl, rfl, rfl, (by first | (rw [if_pos (by omega)]) | (rw [if_neg (by omega)]; unfold rkF; rw [if_pos (by rw [liF_1 (by omega)]; omega)]; exact hrk)), (by first | omega | ((repeat' split) <;> omega)), (by first | omega | ((repeat' split) <;> omega))⟩
    · have vz_3 := gif0 w_3 c_4
      clear w_3
      refine lv_aload_n hx hb dX11_rank_32 rfl (lv_at hl 0 rfl) ?_
      refine lv_iconst (v := iI 2) hx hb dX11_rank_33 rfl ?_
      refine g_cv (As := [.int (iI 2)]) (rest := []) (n := 1) C hml (m_X11_refuse l D k A ad hD (va_up (va_up v 0 0) 1 0) (va_up f 37 (f 37)) (va_up g 1 (g 1)) 2 (by decide) (show 0 ≤ (2 : Int) ∧ (2 : Int) ≤ 10 from by omega)) mM_X11_295 mI_X11_refuse mE_X11_refuse mN_X11 mC_X11_refuse (by decide +kernel) 0 (ci := 11) rfl rfl hP hS (fun _ h => h) ⟨Nat.le_of_ble_eq_true rfl, Nat.le_of_ble_eq_true rfl⟩ ⟨Nat.zero_le _, Nat.zero_le _⟩ hl.1 rfl rfl (Nat.le_of_ble_eq_true rfl) dX11_rank_34 (fun r_6 v_6 f_6 g_6 H locs hq_6 hP _ hS => ?_)
      obtain ⟨rfl, rfl, rfl, rfl⟩ := hq_6
      show W p l e (gRm 6 172) s m args below meth c _ _ 0 0 Q (F0 m 37 ls [.int (iI (-1))])
      have hP : gWd D (mdT k ad) (va_up (va_up v 0 (2 : Int)) 1 0) (va_up f 37 (f 37)) (va_up g 1 (g 1)) H := ⟨hP.1, (gF_up (V := mdV) (F := mdF) (gR_up (V := mdV) (F := mdF) (gR_up (V := mdV) (F := mdF) ⟨hok.1, hok.2⟩ 0 (hP.2.1 0)) 1 (hP.2.1 1)) 37 (hP.2.2 37))⟩
      exact g_iret hQ C hr hlocks hP hS dX11_rank_37 ⟨(-1), (2 : Int), (f 37), (g 1), rfl, rfl, rfl, rfl, (by first | (rw [if_pos (by omega)]) | (rw [if_neg (by omega)]; unfold rkF; rw [if_pos (by rw [liF_1 (by omega)]; omega)]; exact hrk)), (by first | omega | ((repeat' split) <;> omega)), (by first | omega | ((repeat' split) <;> omega))⟩
  · have vz_1 := gif0 w_1 c_2
    clear w_1
    refine lv_aload_n hx hb dX11_rank_19 rfl (lv_at hl 0 rfl) ?_
    refine lv_iconst (v := iI 1) hx hb dX11_rank_20 rfl ?_
    refine g_cv (As := [.int (iI 1)]) (rest := []) (n := 1) C hml (m_X11_refuse l D k A ad hD (va_up (va_up v 0 0) 1 0) (va_up f 37 (f 37)) (va_up g 1 (g 1)) 1 (by decide) (show 0 ≤ (1 : Int) ∧ (1 : Int) ≤ 10 from by omega)) mM_X11_295 mI_X11_refuse mE_X11_refuse mN_X11 mC_X11_refuse (by decide +kernel) 0 (ci := 11) rfl rfl hP hS (fun _ h => h) ⟨Nat.le_of_ble_eq_true rfl, Nat.le_of_ble_eq_true rfl⟩ ⟨Nat.zero_le _, Nat.zero_le _⟩ hl.1 rfl rfl (Nat.le_of_ble_eq_true rfl) dX11_rank_21 (fun r_7 v_7 f_7 g_7 H locs hq_7 hP _ hS => ?_)
    obtain ⟨rfl, rfl, rfl, rfl⟩ := hq_7
    show W p l e (gRm 6 172) s m args below meth c _ _ 0 0 Q (F0 m 24 ls [.int (iI (-1))])
    have hP : gWd D (mdT k ad) (va_up (va_up v 0 (1 : Int)) 1 0) (va_up f 37 (f 37)) (va_up g 1 (g 1)) H := ⟨hP.1, (gF_up (V := mdV) (F := mdF) (gR_up (V := mdV) (F := mdF) (gR_up (V := mdV) (F := mdF) ⟨hok.1, hok.2⟩ 0 (hP.2.1 0)) 1 (hP.2.1 1)) 37 (hP.2.2 37))⟩
    exact g_iret hQ C hr hlocks hP hS dX11_rank_24 ⟨(-1), (1 : Int), (f 37), (g 1), rfl, rfl, rfl, rfl, (by first | (rw [if_pos (by omega)]) | (rw [if_neg (by omega)]; unfold rkF; rw [if_pos (by rw [liF_1 (by omega)]; omega)]; exact hrk)), (by first | omega | ((repeat' split) <;> omega)), (by first | omega | ((repeat' split) <;> omega))⟩

set_option maxHeartbeats 4000000 in
set_option maxRecDepth 100000 in
theorem y_order (l : Launch) (D : va_G) (k : Nat → ClassId) (A : Nat → Prop) (ad : Nat → Nat) (hD : mdD A k ad) (v : gV) (f g : gF) (a1 : Int) (a2 : Int) (h_a1 : inR a1) (h_a2 : inR a2) : GM l D k A (mdT k ad) yX11_order cX11_order 3 (some .int) 1 21 [.ref (ad 0), .int (iI a1), .int (iI a2)] v f g (fun r v1 f1 g1 => ∃ (z : Int) (w0 : Int), r = some (.int (iI z)) ∧ (va_up (va_up v 0 w0) 1 0) = v1 ∧ f = f1 ∧ g = g1 ∧ ((-1) ≤ z ∧ z ≤ 15) ∧ (w0 = (if ¬ ((0 ≤ a1 ∧ a1 < (v 12)) ∧ 0 ≤ a2 ∧ a2 < (f 23) a1) then 1 else 0))) := by
  refine GM.of (by decide) (Nat.le_of_ble_eq_true rfl) ?_
  intro p e s m args below meth c Q ls hQ C hml hr hlocks hP hl
  have hx := C.1
  have hb := C.2.1
  have hok := hP.2
  have hS : va_S A s.heap s.heap [] := va_S.rf
  have hl : lv_has ls 3 [(0, .ref (ad 0)), (1, .int (iI a1)), (2, .int (iI a2))] := hl
  have hP : gWd D (mdT k ad) (va_up (va_up v 0 (v 0)) 1 (v 1)) f g s.heap := by rw [va_id, va_id]; exact hP
  have r_1 : 0 ≤ (v 12) ∧ (v 12) ≤ 4 := hok.1 12
  refine lv_aload_n hx hb dX11_order_0 rfl (lv_at hl 0 rfl) ?_
  refine lv_iconst (v := iI 0) hx hb dX11_order_1 rfl ?_
  refine mdP_thrown (v1 := (va_up (va_up v 0 (v 0)) 1 0)) C hP hD hS mF_X11_146 (by decide) rfl (Or.inr (gR_up (V := mdV) (F := mdF) (gR_up (V := mdV) (F := mdF) ⟨hok.1, hok.2⟩ 0 (hP.2.1 0)) 1 (show 0 ≤ 0 ∧ 0 ≤ 0 from by decide))) dX11_order_2 (fun H locs hP hS => ?_)
  refine lv_aload_n hx hb dX11_order_5 rfl (lv_at hl 0 rfl) ?_
  refine lv_iconst (v := iI 0) hx hb dX11_order_6 rfl ?_
  refine mdP_status (v1 := (va_up (va_up v 0 0) 1 0)) C hP hD hS mF_X11_149 (by decide) rfl (Or.inr (gR_up (V := mdV) (F := mdF) (gR_up (V := mdV) (F := mdF) ⟨hok.1, hok.2⟩ 0 (show 0 ≤ 0 ∧ 0 ≤ 10 from by decide)) 1 (hP.2.1 1))) dX11_order_7 (fun H locs hP hS => ?_)
  refine lv_aload_n hx hb dX11_order_10 rfl (lv_at hl 0 rfl) ?_
  refine lv_iload_n hx hb dX11_order_11 rfl (lv_at hl 1 rfl) ?_
  refine g_cv (As := [.int (iI a1)]) (rest := []) (n := 1) C hml (m_X11_isRound l D k A ad hD (va_up (va_up v 0 0) 1 0) f g a1 (by omega)) mM_X11_325 mI_X11_isRound mE_X11_isRound mN_X11 mC_X11_isRound (by decide +kernel) 0 (ci := 11) rfl rfl hP hS (fun _ h => h) ⟨Nat.le_of_ble_eq_true rfl, Nat.le_of_ble_eq_true rfl⟩ ⟨Nat.zero_le _, Nat.zero_le _⟩ hl.1 rfl rfl (Nat.le_of_ble_eq_true rfl) dX11_order_12 (fun r_2 v_2 f_2 g_2 H locs hq_2 hP _ hS => ?_)
  obtain ⟨z_2, rfl, rfl, rfl, rfl, p0_2⟩ := hq_2
  show W p l e (gRm 1 21) s m args below meth c _ _ 0 0 Q (F0 m 15 ls [.int (iI z_2)])
  replace p0_2 : z_2 = (if 0 ≤ a1 ∧ a1 < (v 12) then 1 else 0) := p0_2
  have w_2 := gif (P := 0 ≤ a1 ∧ a1 < (v 12)) p0_2
  clear p0_2
  have hz_2 : inR z_2 := (by first | omega | (rw [p0_2]; split <;> omega))
  refine gi_zeq (tgt := 32) hx hb dX11_order_15 (by decide) (by omega) (fun c_3 => ?_) (fun c_3 => ?_)
  · have vz_2 := gif0 w_2 c_3
    clear w_2
    refine lv_aload_n hx hb dX11_order_32 rfl (lv_at hl 0 rfl) ?_
    refine lv_iconst (v := iI 1) hx hb dX11_order_33 rfl ?_
    refine g_cv (As := [.int (iI 1)]) (rest := []) (n := 1) C hml (m_X11_refuse l D k A ad hD (va_up (va_up v 0 0) 1 0) f g 1 (by decide) (show 0 ≤ (1 : Int) ∧ (1 : Int) ≤ 10 from by omega)) mM_X11_295 mI_X11_refuse mE_X11_refuse mN_X11 mC_X11_refuse (by decide +kernel) 0 (ci := 11) rfl rfl hP hS (fun _ h => h) ⟨Nat.le_of_ble_eq_true rfl, Nat.le_of_ble_eq_true rfl⟩ ⟨Nat.zero_le _, Nat.zero_le _⟩ hl.1 rfl rfl (Nat.le_of_ble_eq_true rfl) dX11_order_34 (fun r_4 v_4 f_4 g_4 H locs hq_4 hP _ hS => ?_)
    obtain ⟨rfl, rfl, rfl, rfl⟩ := hq_4
    show W p l e (gRm 1 21) s m args below meth c _ _ 0 0 Q (F0 m 37 ls [.int (iI (-1))])
    have hP : gWd D (mdT k ad) (va_up (va_up v 0 (1 : Int)) 1 0) f g H := ⟨hP.1, (gR_up (V := mdV) (F := mdF) (gR_up (V := mdV) (F := mdF) ⟨hok.1, hok.2⟩ 0 (hP.2.1 0)) 1 (hP.2.1 1))⟩
    exact g_iret hQ C hr hlocks hP hS dX11_order_37 ⟨(-1), (1 : Int), rfl, rfl, rfl, rfl, (by first | omega | ((repeat' split) <;> omega)), (by first | omega | ((repeat' split) <;> omega))⟩
  · have vz_2 := gif1 w_2 c_3
    have voz_2 := gif1o w_2 c_3
    clear w_2
    refine lv_iload_n hx hb dX11_order_18 rfl (lv_at hl 2 rfl) ?_
    refine gi_zlt (tgt := 32) hx hb dX11_order_19 (by decide) (by omega) (fun c_5 => ?_) (fun c_5 => ?_)
    · refine lv_aload_n hx hb dX11_order_32 rfl (lv_at hl 0 rfl) ?_
      refine lv_iconst (v := iI 1) hx hb dX11_order_33 rfl ?_
      refine g_cv (As := [.int (iI 1)]) (rest := []) (n := 1) C hml (m_X11_refuse l D k A ad hD (va_up (va_up v 0 0) 1 0) f g 1 (by decide) (show 0 ≤ (1 : Int) ∧ (1 : Int) ≤ 10 from by omega)) mM_X11_295 mI_X11_refuse mE_X11_refuse mN_X11 mC_X11_refuse (by decide +kernel) 0 (ci := 11) rfl rfl hP hS (fun _ h => h) ⟨Nat.le_of_ble_eq_true rfl, Nat.le_of_ble_eq_true rfl⟩ ⟨Nat.zero_le _, Nat.zero_le _⟩ hl.1 rfl rfl (Nat.le_of_ble_eq_true rfl) dX11_order_34 (fun r_6 v_6 f_6 g_6 H locs hq_6 hP _ hS => ?_)
      obtain ⟨rfl, rfl, rfl, rfl⟩ := hq_6
      show W p l e (gRm 1 21) s m args below meth c _ _ 0 0 Q (F0 m 37 ls [.int (iI (-1))])
      have hP : gWd D (mdT k ad) (va_up (va_up v 0 (1 : Int)) 1 0) f g H := ⟨hP.1, (gR_up (V := mdV) (F := mdF) (gR_up (V := mdV) (F := mdF) ⟨hok.1, hok.2⟩ 0 (hP.2.1 0)) 1 (hP.2.1 1))⟩
      exact g_iret hQ C hr hlocks hP hS dX11_order_37 ⟨(-1), (1 : Int), rfl, rfl, rfl, rfl, (by first | omega | ((repeat' split) <;> omega)), (by first | omega | ((repeat' split) <;> omega))⟩
    · refine lv_iload_n hx hb dX11_order_22 rfl (lv_at hl 2 rfl) ?_
      refine lv_aload_n hx hb dX11_order_23 rfl (lv_at hl 0 rfl) ?_
      refine mdG_orderMany C hP mF_X11_91 dX11_order_24 ?_
      refine lv_iload_n hx hb dX11_order_27 rfl (lv_at hl 1 rfl) ?_
      refine mdL_orderMany C hP (by omega) (by omega) dX11_order_28 ?_
      have r_7 : 0 ≤ (f 23 a1) ∧ (f 23 a1) ≤ 16 := hP.2.2 23 a1
      refine gi_clt (tgt := 38) hx hb dX11_order_29 (by decide) (by omega) (by omega) (fun c_8 => ?_) (fun c_8 => ?_)
      · refine lv_aload_n hx hb dX11_order_38 rfl (lv_at hl 0 rfl) ?_
        refine mdG_order C hP mF_X11_88 dX11_order_39 ?_
        refine lv_bipush (v := iI 16) hx hb dX11_order_42 (by decide) ?_
        refine lv_iload_n hx hb dX11_order_44 rfl (lv_at hl 1 rfl) ?_
        refine gi_mul (z := (16 * a1)) hx hb dX11_order_45 rfl ?_
        refine lv_iload_n hx hb dX11_order_46 rfl (lv_at hl 2 rfl) ?_
        refine gi_add (z := ((16 * a1) + a2)) hx hb dX11_order_47 rfl ?_
        refine mdL_order C hP (by omega) (by omega) dX11_order_48 ?_
        have r_9 : 0 ≤ (f 22 ((16 * a1) + a2)) ∧ (f 22 ((16 * a1) + a2)) ≤ 15 := hP.2.2 22 ((16 * a1) + a2)
        exact g_iret hQ C hr hlocks hP hS dX11_order_49 ⟨(f 22 ((16 * a1) + a2)), 0, rfl, rfl, rfl, rfl, (by first | omega | ((repeat' split) <;> omega)), (by first | omega | ((repeat' split) <;> omega))⟩
      · refine lv_aload_n hx hb dX11_order_32 rfl (lv_at hl 0 rfl) ?_
        refine lv_iconst (v := iI 1) hx hb dX11_order_33 rfl ?_
        refine g_cv (As := [.int (iI 1)]) (rest := []) (n := 1) C hml (m_X11_refuse l D k A ad hD (va_up (va_up v 0 0) 1 0) f g 1 (by decide) (show 0 ≤ (1 : Int) ∧ (1 : Int) ≤ 10 from by omega)) mM_X11_295 mI_X11_refuse mE_X11_refuse mN_X11 mC_X11_refuse (by decide +kernel) 0 (ci := 11) rfl rfl hP hS (fun _ h => h) ⟨Nat.le_of_ble_eq_true rfl, Nat.le_of_ble_eq_true rfl⟩ ⟨Nat.zero_le _, Nat.zero_le _⟩ hl.1 rfl rfl (Nat.le_of_ble_eq_true rfl) dX11_order_34 (fun r_10 v_10 f_10 g_10 H locs hq_10 hP _ hS => ?_)
        obtain ⟨rfl, rfl, rfl, rfl⟩ := hq_10
        show W p l e (gRm 1 21) s m args below meth c _ _ 0 0 Q (F0 m 37 ls [.int (iI (-1))])
        have hP : gWd D (mdT k ad) (va_up (va_up v 0 (1 : Int)) 1 0) f g H := ⟨hP.1, (gR_up (V := mdV) (F := mdF) (gR_up (V := mdV) (F := mdF) ⟨hok.1, hok.2⟩ 0 (hP.2.1 0)) 1 (hP.2.1 1))⟩
        exact g_iret hQ C hr hlocks hP hS dX11_order_37 ⟨(-1), (1 : Int), rfl, rfl, rfl, rfl, (by first | omega | ((repeat' split) <;> omega)), (by first | omega | ((repeat' split) <;> omega))⟩
end
