section
theorem dG_dX2_letCome_0 : (decode cX2_letCome 0 = .ok (.iconst 0, 1)) ∧ (decode cX2_letCome 1 = .ok (.istore 4, 2)) ∧ (decode cX2_letCome 3 = .ok (.iconst 0, 1)) ∧ (decode cX2_letCome 4 = .ok (.istore 5, 2)) ∧ (decode cX2_letCome 6 = .ok (.iload 5, 2)) ∧ (decode cX2_letCome 8 = .ok (.aload_n 0, 1)) ∧ (decode cX2_letCome 9 = .ok (.getfield 18, 3)) ∧ (decode cX2_letCome 12 = .ok (.if_icmp .ge 47, 3)) ∧ (decode cX2_letCome 15 = .ok (.aload_n 0, 1)) ∧ (decode cX2_letCome 16 = .ok (.getfield 9, 3)) ∧ (decode cX2_letCome 19 = .ok (.iload 5, 2)) ∧ (decode cX2_letCome 21 = .ok (.iaload, 1)) := by decide +kernel
theorem dX2_letCome_0 : decode cX2_letCome 0 = .ok (.iconst 0, 1) := dG_dX2_letCome_0.1
theorem dX2_letCome_1 : decode cX2_letCome 1 = .ok (.istore 4, 2) := dG_dX2_letCome_0.2.1
theorem dX2_letCome_3 : decode cX2_letCome 3 = .ok (.iconst 0, 1) := dG_dX2_letCome_0.2.2.1
theorem dX2_letCome_4 : decode cX2_letCome 4 = .ok (.istore 5, 2) := dG_dX2_letCome_0.2.2.2.1
theorem dX2_letCome_6 : decode cX2_letCome 6 = .ok (.iload 5, 2) := dG_dX2_letCome_0.2.2.2.2.1
theorem dX2_letCome_8 : decode cX2_letCome 8 = .ok (.aload_n 0, 1) := dG_dX2_letCome_0.2.2.2.2.2.1
theorem dX2_letCome_9 : decode cX2_letCome 9 = .ok (.getfield 18, 3) := dG_dX2_letCome_0.2.2.2.2.2.2.1
theorem dX2_letCome_12 : decode cX2_letCome 12 = .ok (.if_icmp .ge 47, 3) := dG_dX2_letCome_0.2.2.2.2.2.2.2.1
theorem dX2_letCome_15 : decode cX2_letCome 15 = .ok (.aload_n 0, 1) := dG_dX2_letCome_0.2.2.2.2.2.2.2.2.1
theorem dX2_letCome_16 : decode cX2_letCome 16 = .ok (.getfield 9, 3) := dG_dX2_letCome_0.2.2.2.2.2.2.2.2.2.1
theorem dX2_letCome_19 : decode cX2_letCome 19 = .ok (.iload 5, 2) := dG_dX2_letCome_0.2.2.2.2.2.2.2.2.2.2.1
theorem dX2_letCome_21 : decode cX2_letCome 21 = .ok (.iaload, 1) := dG_dX2_letCome_0.2.2.2.2.2.2.2.2.2.2.2
theorem dG_dX2_letCome_22 : (decode cX2_letCome 22 = .ok (.aload_n 0, 1)) ∧ (decode cX2_letCome 23 = .ok (.getfield 22, 3)) ∧ (decode cX2_letCome 26 = .ok (.if_icmp .ne 27, 3)) ∧ (decode cX2_letCome 29 = .ok (.aload_n 1, 1)) ∧ (decode cX2_letCome 30 = .ok (.iload 5, 2)) ∧ (decode cX2_letCome 32 = .ok (.iaload, 1)) ∧ (decode cX2_letCome 33 = .ok (.iload_n 2, 1)) ∧ (decode cX2_letCome 34 = .ok (.if_icmp .gt 19, 3)) ∧ (decode cX2_letCome 37 = .ok (.aload_n 0, 1)) ∧ (decode cX2_letCome 38 = .ok (.getfield 9, 3)) ∧ (decode cX2_letCome 41 = .ok (.iload 5, 2)) ∧ (decode cX2_letCome 43 = .ok (.aload_n 0, 1)) := by decide +kernel
theorem dX2_letCome_22 : decode cX2_letCome 22 = .ok (.aload_n 0, 1) := dG_dX2_letCome_22.1
theorem dX2_letCome_23 : decode cX2_letCome 23 = .ok (.getfield 22, 3) := dG_dX2_letCome_22.2.1
theorem dX2_letCome_26 : decode cX2_letCome 26 = .ok (.if_icmp .ne 27, 3) := dG_dX2_letCome_22.2.2.1
theorem dX2_letCome_29 : decode cX2_letCome 29 = .ok (.aload_n 1, 1) := dG_dX2_letCome_22.2.2.2.1
theorem dX2_letCome_30 : decode cX2_letCome 30 = .ok (.iload 5, 2) := dG_dX2_letCome_22.2.2.2.2.1
theorem dX2_letCome_32 : decode cX2_letCome 32 = .ok (.iaload, 1) := dG_dX2_letCome_22.2.2.2.2.2.1
theorem dX2_letCome_33 : decode cX2_letCome 33 = .ok (.iload_n 2, 1) := dG_dX2_letCome_22.2.2.2.2.2.2.1
theorem dX2_letCome_34 : decode cX2_letCome 34 = .ok (.if_icmp .gt 19, 3) := dG_dX2_letCome_22.2.2.2.2.2.2.2.1
theorem dX2_letCome_37 : decode cX2_letCome 37 = .ok (.aload_n 0, 1) := dG_dX2_letCome_22.2.2.2.2.2.2.2.2.1
theorem dX2_letCome_38 : decode cX2_letCome 38 = .ok (.getfield 9, 3) := dG_dX2_letCome_22.2.2.2.2.2.2.2.2.2.1
theorem dX2_letCome_41 : decode cX2_letCome 41 = .ok (.iload 5, 2) := dG_dX2_letCome_22.2.2.2.2.2.2.2.2.2.2.1
theorem dX2_letCome_43 : decode cX2_letCome 43 = .ok (.aload_n 0, 1) := dG_dX2_letCome_22.2.2.2.2.2.2.2.2.2.2.2
theorem dG_dX2_letCome_44 : (decode cX2_letCome 44 = .ok (.getfield 22, 3)) ∧ (decode cX2_letCome 47 = .ok (.iconst 1, 1)) ∧ (decode cX2_letCome 48 = .ok (.iadd, 1)) ∧ (decode cX2_letCome 49 = .ok (.iastore, 1)) ∧ (decode cX2_letCome 50 = .ok (.iinc 4 1, 3)) ∧ (decode cX2_letCome 53 = .ok (.iinc 5 1, 3)) ∧ (decode cX2_letCome 56 = .ok (.goto (-50), 3)) ∧ (decode cX2_letCome 59 = .ok (.aload_n 0, 1)) ∧ (decode cX2_letCome 60 = .ok (.dup, 1)) ∧ (decode cX2_letCome 61 = .ok (.getfield 22, 3)) ∧ (decode cX2_letCome 64 = .ok (.iconst 1, 1)) ∧ (decode cX2_letCome 65 = .ok (.iadd, 1)) := by decide +kernel
theorem dX2_letCome_44 : decode cX2_letCome 44 = .ok (.getfield 22, 3) := dG_dX2_letCome_44.1
theorem dX2_letCome_47 : decode cX2_letCome 47 = .ok (.iconst 1, 1) := dG_dX2_letCome_44.2.1
theorem dX2_letCome_48 : decode cX2_letCome 48 = .ok (.iadd, 1) := dG_dX2_letCome_44.2.2.1
theorem dX2_letCome_49 : decode cX2_letCome 49 = .ok (.iastore, 1) := dG_dX2_letCome_44.2.2.2.1
theorem dX2_letCome_50 : decode cX2_letCome 50 = .ok (.iinc 4 1, 3) := dG_dX2_letCome_44.2.2.2.2.1
theorem dX2_letCome_53 : decode cX2_letCome 53 = .ok (.iinc 5 1, 3) := dG_dX2_letCome_44.2.2.2.2.2.1
theorem dX2_letCome_56 : decode cX2_letCome 56 = .ok (.goto (-50), 3) := dG_dX2_letCome_44.2.2.2.2.2.2.1
theorem dX2_letCome_59 : decode cX2_letCome 59 = .ok (.aload_n 0, 1) := dG_dX2_letCome_44.2.2.2.2.2.2.2.1
theorem dX2_letCome_60 : decode cX2_letCome 60 = .ok (.dup, 1) := dG_dX2_letCome_44.2.2.2.2.2.2.2.2.1
theorem dX2_letCome_61 : decode cX2_letCome 61 = .ok (.getfield 22, 3) := dG_dX2_letCome_44.2.2.2.2.2.2.2.2.2.1
theorem dX2_letCome_64 : decode cX2_letCome 64 = .ok (.iconst 1, 1) := dG_dX2_letCome_44.2.2.2.2.2.2.2.2.2.2.1
theorem dX2_letCome_65 : decode cX2_letCome 65 = .ok (.iadd, 1) := dG_dX2_letCome_44.2.2.2.2.2.2.2.2.2.2.2
theorem dG_dX2_letCome_66 : (decode cX2_letCome 66 = .ok (.putfield 22, 3)) ∧ (decode cX2_letCome 69 = .ok (.aload_n 0, 1)) ∧ (decode cX2_letCome 70 = .ok (.getfield 15, 3)) ∧ (decode cX2_letCome 73 = .ok (.aload_n 0, 1)) ∧ (decode cX2_letCome 74 = .ok (.getfield 22, 3)) ∧ (decode cX2_letCome 77 = .ok (.iload_n 3, 1)) ∧ (decode cX2_letCome 78 = .ok (.iastore, 1)) ∧ (decode cX2_letCome 79 = .ok (.iload 4, 2)) ∧ (decode cX2_letCome 81 = .ok (.ireturn, 1)) ∧ (decode cX5_cellOf 0 = .ok (.iload_n 0, 1)) ∧ (decode cX5_cellOf 1 = .ok (.bipush 80, 2)) ∧ (decode cX5_cellOf 3 = .ok (.imul, 1)) := by decide +kernel
theorem dX2_letCome_66 : decode cX2_letCome 66 = .ok (.putfield 22, 3) := dG_dX2_letCome_66.1
theorem dX2_letCome_69 : decode cX2_letCome 69 = .ok (.aload_n 0, 1) := dG_dX2_letCome_66.2.1
theorem dX2_letCome_70 : decode cX2_letCome 70 = .ok (.getfield 15, 3) := dG_dX2_letCome_66.2.2.1
theorem dX2_letCome_73 : decode cX2_letCome 73 = .ok (.aload_n 0, 1) := dG_dX2_letCome_66.2.2.2.1
theorem dX2_letCome_74 : decode cX2_letCome 74 = .ok (.getfield 22, 3) := dG_dX2_letCome_66.2.2.2.2.1
theorem dX2_letCome_77 : decode cX2_letCome 77 = .ok (.iload_n 3, 1) := dG_dX2_letCome_66.2.2.2.2.2.1
theorem dX2_letCome_78 : decode cX2_letCome 78 = .ok (.iastore, 1) := dG_dX2_letCome_66.2.2.2.2.2.2.1
theorem dX2_letCome_79 : decode cX2_letCome 79 = .ok (.iload 4, 2) := dG_dX2_letCome_66.2.2.2.2.2.2.2.1
theorem dX2_letCome_81 : decode cX2_letCome 81 = .ok (.ireturn, 1) := dG_dX2_letCome_66.2.2.2.2.2.2.2.2.1
theorem dX5_cellOf_0 : decode cX5_cellOf 0 = .ok (.iload_n 0, 1) := dG_dX2_letCome_66.2.2.2.2.2.2.2.2.2.1
theorem dX5_cellOf_1 : decode cX5_cellOf 1 = .ok (.bipush 80, 2) := dG_dX2_letCome_66.2.2.2.2.2.2.2.2.2.2.1
theorem dX5_cellOf_3 : decode cX5_cellOf 3 = .ok (.imul, 1) := dG_dX2_letCome_66.2.2.2.2.2.2.2.2.2.2.2
theorem dG_dX5_cellOf_4 : (decode cX5_cellOf 4 = .ok (.iload_n 1, 1)) ∧ (decode cX5_cellOf 5 = .ok (.iconst 5, 1)) ∧ (decode cX5_cellOf 6 = .ok (.imul, 1)) ∧ (decode cX5_cellOf 7 = .ok (.iadd, 1)) ∧ (decode cX5_cellOf 8 = .ok (.iload_n 2, 1)) ∧ (decode cX5_cellOf 9 = .ok (.iadd, 1)) ∧ (decode cX5_cellOf 10 = .ok (.ireturn, 1)) ∧ (decode cX5_keyRow 0 = .ok (.iload_n 0, 1)) ∧ (decode cX5_keyRow 1 = .ok (.bipush 16, 2)) ∧ (decode cX5_keyRow 3 = .ok (.imul, 1)) ∧ (decode cX5_keyRow 4 = .ok (.iload_n 1, 1)) ∧ (decode cX5_keyRow 5 = .ok (.iadd, 1)) := by decide +kernel
theorem dX5_cellOf_4 : decode cX5_cellOf 4 = .ok (.iload_n 1, 1) := dG_dX5_cellOf_4.1
theorem dX5_cellOf_5 : decode cX5_cellOf 5 = .ok (.iconst 5, 1) := dG_dX5_cellOf_4.2.1
theorem dX5_cellOf_6 : decode cX5_cellOf 6 = .ok (.imul, 1) := dG_dX5_cellOf_4.2.2.1
theorem dX5_cellOf_7 : decode cX5_cellOf 7 = .ok (.iadd, 1) := dG_dX5_cellOf_4.2.2.2.1
theorem dX5_cellOf_8 : decode cX5_cellOf 8 = .ok (.iload_n 2, 1) := dG_dX5_cellOf_4.2.2.2.2.1
theorem dX5_cellOf_9 : decode cX5_cellOf 9 = .ok (.iadd, 1) := dG_dX5_cellOf_4.2.2.2.2.2.1
theorem dX5_cellOf_10 : decode cX5_cellOf 10 = .ok (.ireturn, 1) := dG_dX5_cellOf_4.2.2.2.2.2.2.1
theorem dX5_keyRow_0 : decode cX5_keyRow 0 = .ok (.iload_n 0, 1) := dG_dX5_cellOf_4.2.2.2.2.2.2.2.1
theorem dX5_keyRow_1 : decode cX5_keyRow 1 = .ok (.bipush 16, 2) := dG_dX5_cellOf_4.2.2.2.2.2.2.2.2.1
theorem dX5_keyRow_3 : decode cX5_keyRow 3 = .ok (.imul, 1) := dG_dX5_cellOf_4.2.2.2.2.2.2.2.2.2.1
theorem dX5_keyRow_4 : decode cX5_keyRow 4 = .ok (.iload_n 1, 1) := dG_dX5_cellOf_4.2.2.2.2.2.2.2.2.2.2.1
theorem dX5_keyRow_5 : decode cX5_keyRow 5 = .ok (.iadd, 1) := dG_dX5_cellOf_4.2.2.2.2.2.2.2.2.2.2.2
theorem dG_dX5_keyRow_6 : (decode cX5_keyRow 6 = .ok (.iconst 4, 1)) ∧ (decode cX5_keyRow 7 = .ok (.imul, 1)) ∧ (decode cX5_keyRow 8 = .ok (.ireturn, 1)) ∧ (decode cX9_hasSeen 0 = .ok (.iconst 0, 1)) ∧ (decode cX9_hasSeen 1 = .ok (.istore 6, 2)) ∧ (decode cX9_hasSeen 3 = .ok (.iload 6, 2)) ∧ (decode cX9_hasSeen 5 = .ok (.aload_n 1, 1)) ∧ (decode cX9_hasSeen 6 = .ok (.getfield 31, 3)) ∧ (decode cX9_hasSeen 9 = .ok (.if_icmp .ge 85, 3)) ∧ (decode cX9_hasSeen 12 = .ok (.aload_n 1, 1)) ∧ (decode cX9_hasSeen 13 = .ok (.getfield 37, 3)) ∧ (decode cX9_hasSeen 16 = .ok (.iload 6, 2)) := by decide +kernel
theorem dX5_keyRow_6 : decode cX5_keyRow 6 = .ok (.iconst 4, 1) := dG_dX5_keyRow_6.1
theorem dX5_keyRow_7 : decode cX5_keyRow 7 = .ok (.imul, 1) := dG_dX5_keyRow_6.2.1
theorem dX5_keyRow_8 : decode cX5_keyRow 8 = .ok (.ireturn, 1) := dG_dX5_keyRow_6.2.2.1
theorem dX9_hasSeen_0 : decode cX9_hasSeen 0 = .ok (.iconst 0, 1) := dG_dX5_keyRow_6.2.2.2.1
theorem dX9_hasSeen_1 : decode cX9_hasSeen 1 = .ok (.istore 6, 2) := dG_dX5_keyRow_6.2.2.2.2.1
theorem dX9_hasSeen_3 : decode cX9_hasSeen 3 = .ok (.iload 6, 2) := dG_dX5_keyRow_6.2.2.2.2.2.1
theorem dX9_hasSeen_5 : decode cX9_hasSeen 5 = .ok (.aload_n 1, 1) := dG_dX5_keyRow_6.2.2.2.2.2.2.1
theorem dX9_hasSeen_6 : decode cX9_hasSeen 6 = .ok (.getfield 31, 3) := dG_dX5_keyRow_6.2.2.2.2.2.2.2.1
theorem dX9_hasSeen_9 : decode cX9_hasSeen 9 = .ok (.if_icmp .ge 85, 3) := dG_dX5_keyRow_6.2.2.2.2.2.2.2.2.1
theorem dX9_hasSeen_12 : decode cX9_hasSeen 12 = .ok (.aload_n 1, 1) := dG_dX5_keyRow_6.2.2.2.2.2.2.2.2.2.1
theorem dX9_hasSeen_13 : decode cX9_hasSeen 13 = .ok (.getfield 37, 3) := dG_dX5_keyRow_6.2.2.2.2.2.2.2.2.2.2.1
theorem dX9_hasSeen_16 : decode cX9_hasSeen 16 = .ok (.iload 6, 2) := dG_dX5_keyRow_6.2.2.2.2.2.2.2.2.2.2.2
theorem dG_dX9_hasSeen_18 : (decode cX9_hasSeen 18 = .ok (.iaload, 1)) ∧ (decode cX9_hasSeen 19 = .ok (.iload_n 3, 1)) ∧ (decode cX9_hasSeen 20 = .ok (.if_icmp .ne 68, 3)) ∧ (decode cX9_hasSeen 23 = .ok (.aload_n 1, 1)) ∧ (decode cX9_hasSeen 24 = .ok (.getfield 40, 3)) ∧ (decode cX9_hasSeen 27 = .ok (.iload 6, 2)) ∧ (decode cX9_hasSeen 29 = .ok (.iaload, 1)) ∧ (decode cX9_hasSeen 30 = .ok (.iload 4, 2)) ∧ (decode cX9_hasSeen 32 = .ok (.if_icmp .ne 56, 3)) ∧ (decode cX9_hasSeen 35 = .ok (.aload_n 1, 1)) ∧ (decode cX9_hasSeen 36 = .ok (.getfield 43, 3)) ∧ (decode cX9_hasSeen 39 = .ok (.iload 6, 2)) := by decide +kernel
theorem dX9_hasSeen_18 : decode cX9_hasSeen 18 = .ok (.iaload, 1) := dG_dX9_hasSeen_18.1
theorem dX9_hasSeen_19 : decode cX9_hasSeen 19 = .ok (.iload_n 3, 1) := dG_dX9_hasSeen_18.2.1
theorem dX9_hasSeen_20 : decode cX9_hasSeen 20 = .ok (.if_icmp .ne 68, 3) := dG_dX9_hasSeen_18.2.2.1
theorem dX9_hasSeen_23 : decode cX9_hasSeen 23 = .ok (.aload_n 1, 1) := dG_dX9_hasSeen_18.2.2.2.1
theorem dX9_hasSeen_24 : decode cX9_hasSeen 24 = .ok (.getfield 40, 3) := dG_dX9_hasSeen_18.2.2.2.2.1
theorem dX9_hasSeen_27 : decode cX9_hasSeen 27 = .ok (.iload 6, 2) := dG_dX9_hasSeen_18.2.2.2.2.2.1
theorem dX9_hasSeen_29 : decode cX9_hasSeen 29 = .ok (.iaload, 1) := dG_dX9_hasSeen_18.2.2.2.2.2.2.1
theorem dX9_hasSeen_30 : decode cX9_hasSeen 30 = .ok (.iload 4, 2) := dG_dX9_hasSeen_18.2.2.2.2.2.2.2.1
theorem dX9_hasSeen_32 : decode cX9_hasSeen 32 = .ok (.if_icmp .ne 56, 3) := dG_dX9_hasSeen_18.2.2.2.2.2.2.2.2.1
theorem dX9_hasSeen_35 : decode cX9_hasSeen 35 = .ok (.aload_n 1, 1) := dG_dX9_hasSeen_18.2.2.2.2.2.2.2.2.2.1
theorem dX9_hasSeen_36 : decode cX9_hasSeen 36 = .ok (.getfield 43, 3) := dG_dX9_hasSeen_18.2.2.2.2.2.2.2.2.2.2.1
theorem dX9_hasSeen_39 : decode cX9_hasSeen 39 = .ok (.iload 6, 2) := dG_dX9_hasSeen_18.2.2.2.2.2.2.2.2.2.2.2
theorem dG_dX9_hasSeen_41 : (decode cX9_hasSeen 41 = .ok (.iaload, 1)) ∧ (decode cX9_hasSeen 42 = .ok (.iload_n 2, 1)) ∧ (decode cX9_hasSeen 43 = .ok (.if_icmp .eq 45, 3)) ∧ (decode cX9_hasSeen 46 = .ok (.aload_n 0, 1)) ∧ (decode cX9_hasSeen 47 = .ok (.iload_n 2, 1)) ∧ (decode cX9_hasSeen 48 = .ok (.aload_n 1, 1)) ∧ (decode cX9_hasSeen 49 = .ok (.getfield 46, 3)) ∧ (decode cX9_hasSeen 52 = .ok (.iload 6, 2)) ∧ (decode cX9_hasSeen 54 = .ok (.iaload, 1)) ∧ (decode cX9_hasSeen 55 = .ok (.aload_n 1, 1)) ∧ (decode cX9_hasSeen 56 = .ok (.getfield 49, 3)) ∧ (decode cX9_hasSeen 59 = .ok (.iload 6, 2)) := by decide +kernel
theorem dX9_hasSeen_41 : decode cX9_hasSeen 41 = .ok (.iaload, 1) := dG_dX9_hasSeen_41.1
theorem dX9_hasSeen_42 : decode cX9_hasSeen 42 = .ok (.iload_n 2, 1) := dG_dX9_hasSeen_41.2.1
theorem dX9_hasSeen_43 : decode cX9_hasSeen 43 = .ok (.if_icmp .eq 45, 3) := dG_dX9_hasSeen_41.2.2.1
theorem dX9_hasSeen_46 : decode cX9_hasSeen 46 = .ok (.aload_n 0, 1) := dG_dX9_hasSeen_41.2.2.2.1
theorem dX9_hasSeen_47 : decode cX9_hasSeen 47 = .ok (.iload_n 2, 1) := dG_dX9_hasSeen_41.2.2.2.2.1
theorem dX9_hasSeen_48 : decode cX9_hasSeen 48 = .ok (.aload_n 1, 1) := dG_dX9_hasSeen_41.2.2.2.2.2.1
theorem dX9_hasSeen_49 : decode cX9_hasSeen 49 = .ok (.getfield 46, 3) := dG_dX9_hasSeen_41.2.2.2.2.2.2.1
theorem dX9_hasSeen_52 : decode cX9_hasSeen 52 = .ok (.iload 6, 2) := dG_dX9_hasSeen_41.2.2.2.2.2.2.2.1
theorem dX9_hasSeen_54 : decode cX9_hasSeen 54 = .ok (.iaload, 1) := dG_dX9_hasSeen_41.2.2.2.2.2.2.2.2.1
theorem dX9_hasSeen_55 : decode cX9_hasSeen 55 = .ok (.aload_n 1, 1) := dG_dX9_hasSeen_41.2.2.2.2.2.2.2.2.2.1
theorem dX9_hasSeen_56 : decode cX9_hasSeen 56 = .ok (.getfield 49, 3) := dG_dX9_hasSeen_41.2.2.2.2.2.2.2.2.2.2.1
theorem dX9_hasSeen_59 : decode cX9_hasSeen 59 = .ok (.iload 6, 2) := dG_dX9_hasSeen_41.2.2.2.2.2.2.2.2.2.2.2
theorem dG_dX9_hasSeen_61 : (decode cX9_hasSeen 61 = .ok (.iaload, 1)) ∧ (decode cX9_hasSeen 62 = .ok (.iconst (-1), 1)) ∧ (decode cX9_hasSeen 63 = .ok (.if_icmp .ne 8, 3)) ∧ (decode cX9_hasSeen 66 = .ok (.iload 5, 2)) ∧ (decode cX9_hasSeen 68 = .ok (.goto 10, 3)) ∧ (decode cX9_hasSeen 71 = .ok (.aload_n 1, 1)) ∧ (decode cX9_hasSeen 72 = .ok (.getfield 49, 3)) ∧ (decode cX9_hasSeen 75 = .ok (.iload 6, 2)) ∧ (decode cX9_hasSeen 77 = .ok (.iaload, 1)) ∧ (decode cX9_hasSeen 78 = .ok (.iload 5, 2)) ∧ (decode cX9_hasSeen 80 = .ok (.invokevirtual 52, 3)) ∧ (decode cX9_hasSeen 83 = .ok (.ifCond .eq 5, 3)) := by decide +kernel
theorem dX9_hasSeen_61 : decode cX9_hasSeen 61 = .ok (.iaload, 1) := dG_dX9_hasSeen_61.1
theorem dX9_hasSeen_62 : decode cX9_hasSeen 62 = .ok (.iconst (-1), 1) := dG_dX9_hasSeen_61.2.1
theorem dX9_hasSeen_63 : decode cX9_hasSeen 63 = .ok (.if_icmp .ne 8, 3) := dG_dX9_hasSeen_61.2.2.1
theorem dX9_hasSeen_66 : decode cX9_hasSeen 66 = .ok (.iload 5, 2) := dG_dX9_hasSeen_61.2.2.2.1
theorem dX9_hasSeen_68 : decode cX9_hasSeen 68 = .ok (.goto 10, 3) := dG_dX9_hasSeen_61.2.2.2.2.1
theorem dX9_hasSeen_71 : decode cX9_hasSeen 71 = .ok (.aload_n 1, 1) := dG_dX9_hasSeen_61.2.2.2.2.2.1
theorem dX9_hasSeen_72 : decode cX9_hasSeen 72 = .ok (.getfield 49, 3) := dG_dX9_hasSeen_61.2.2.2.2.2.2.1
theorem dX9_hasSeen_75 : decode cX9_hasSeen 75 = .ok (.iload 6, 2) := dG_dX9_hasSeen_61.2.2.2.2.2.2.2.1
theorem dX9_hasSeen_77 : decode cX9_hasSeen 77 = .ok (.iaload, 1) := dG_dX9_hasSeen_61.2.2.2.2.2.2.2.2.1
theorem dX9_hasSeen_78 : decode cX9_hasSeen 78 = .ok (.iload 5, 2) := dG_dX9_hasSeen_61.2.2.2.2.2.2.2.2.2.1
theorem dX9_hasSeen_80 : decode cX9_hasSeen 80 = .ok (.invokevirtual 52, 3) := dG_dX9_hasSeen_61.2.2.2.2.2.2.2.2.2.2.1
theorem dX9_hasSeen_83 : decode cX9_hasSeen 83 = .ok (.ifCond .eq 5, 3) := dG_dX9_hasSeen_61.2.2.2.2.2.2.2.2.2.2.2
theorem dG_dX9_hasSeen_86 : (decode cX9_hasSeen 86 = .ok (.iconst 1, 1)) ∧ (decode cX9_hasSeen 87 = .ok (.ireturn, 1)) ∧ (decode cX9_hasSeen 88 = .ok (.iinc 6 1, 3)) ∧ (decode cX9_hasSeen 91 = .ok (.goto (-88), 3)) ∧ (decode cX9_hasSeen 94 = .ok (.iconst 0, 1)) ∧ (decode cX9_hasSeen 95 = .ok (.ireturn, 1)) ∧ (decode cX9_wasOut 0 = .ok (.iload_n 1, 1)) ∧ (decode cX9_wasOut 1 = .ok (.bipush 20, 2)) ∧ (decode cX9_wasOut 3 = .ok (.imul, 1)) ∧ (decode cX9_wasOut 4 = .ok (.istore 5, 2)) ∧ (decode cX9_wasOut 6 = .ok (.iload 5, 2)) ∧ (decode cX9_wasOut 8 = .ok (.aload_n 0, 1)) := by decide +kernel
theorem dX9_hasSeen_86 : decode cX9_hasSeen 86 = .ok (.iconst 1, 1) := dG_dX9_hasSeen_86.1
theorem dX9_hasSeen_87 : decode cX9_hasSeen 87 = .ok (.ireturn, 1) := dG_dX9_hasSeen_86.2.1
theorem dX9_hasSeen_88 : decode cX9_hasSeen 88 = .ok (.iinc 6 1, 3) := dG_dX9_hasSeen_86.2.2.1
theorem dX9_hasSeen_91 : decode cX9_hasSeen 91 = .ok (.goto (-88), 3) := dG_dX9_hasSeen_86.2.2.2.1
theorem dX9_hasSeen_94 : decode cX9_hasSeen 94 = .ok (.iconst 0, 1) := dG_dX9_hasSeen_86.2.2.2.2.1
theorem dX9_hasSeen_95 : decode cX9_hasSeen 95 = .ok (.ireturn, 1) := dG_dX9_hasSeen_86.2.2.2.2.2.1
theorem dX9_wasOut_0 : decode cX9_wasOut 0 = .ok (.iload_n 1, 1) := dG_dX9_hasSeen_86.2.2.2.2.2.2.1
theorem dX9_wasOut_1 : decode cX9_wasOut 1 = .ok (.bipush 20, 2) := dG_dX9_hasSeen_86.2.2.2.2.2.2.2.1
theorem dX9_wasOut_3 : decode cX9_wasOut 3 = .ok (.imul, 1) := dG_dX9_hasSeen_86.2.2.2.2.2.2.2.2.1
theorem dX9_wasOut_4 : decode cX9_wasOut 4 = .ok (.istore 5, 2) := dG_dX9_hasSeen_86.2.2.2.2.2.2.2.2.2.1
theorem dX9_wasOut_6 : decode cX9_wasOut 6 = .ok (.iload 5, 2) := dG_dX9_hasSeen_86.2.2.2.2.2.2.2.2.2.2.1
theorem dX9_wasOut_8 : decode cX9_wasOut 8 = .ok (.aload_n 0, 1) := dG_dX9_hasSeen_86.2.2.2.2.2.2.2.2.2.2.2
theorem dG_dX9_wasOut_9 : (decode cX9_wasOut 9 = .ok (.iload_n 1, 1)) ∧ (decode cX9_wasOut 10 = .ok (.invokevirtual 27, 3)) ∧ (decode cX9_wasOut 13 = .ok (.if_icmp .gt 53, 3)) ∧ (decode cX9_wasOut 16 = .ok (.aload_n 0, 1)) ∧ (decode cX9_wasOut 17 = .ok (.getfield 18, 3)) ∧ (decode cX9_wasOut 20 = .ok (.iload 5, 2)) ∧ (decode cX9_wasOut 22 = .ok (.iaload, 1)) ∧ (decode cX9_wasOut 23 = .ok (.iconst (-1), 1)) ∧ (decode cX9_wasOut 24 = .ok (.if_icmp .ne 8, 3)) ∧ (decode cX9_wasOut 27 = .ok (.iload 4, 2)) ∧ (decode cX9_wasOut 29 = .ok (.goto 10, 3)) ∧ (decode cX9_wasOut 32 = .ok (.aload_n 0, 1)) := by decide +kernel
theorem dX9_wasOut_9 : decode cX9_wasOut 9 = .ok (.iload_n 1, 1) := dG_dX9_wasOut_9.1
theorem dX9_wasOut_10 : decode cX9_wasOut 10 = .ok (.invokevirtual 27, 3) := dG_dX9_wasOut_9.2.1
theorem dX9_wasOut_13 : decode cX9_wasOut 13 = .ok (.if_icmp .gt 53, 3) := dG_dX9_wasOut_9.2.2.1
theorem dX9_wasOut_16 : decode cX9_wasOut 16 = .ok (.aload_n 0, 1) := dG_dX9_wasOut_9.2.2.2.1
theorem dX9_wasOut_17 : decode cX9_wasOut 17 = .ok (.getfield 18, 3) := dG_dX9_wasOut_9.2.2.2.2.1
theorem dX9_wasOut_20 : decode cX9_wasOut 20 = .ok (.iload 5, 2) := dG_dX9_wasOut_9.2.2.2.2.2.1
theorem dX9_wasOut_22 : decode cX9_wasOut 22 = .ok (.iaload, 1) := dG_dX9_wasOut_9.2.2.2.2.2.2.1
theorem dX9_wasOut_23 : decode cX9_wasOut 23 = .ok (.iconst (-1), 1) := dG_dX9_wasOut_9.2.2.2.2.2.2.2.1
theorem dX9_wasOut_24 : decode cX9_wasOut 24 = .ok (.if_icmp .ne 8, 3) := dG_dX9_wasOut_9.2.2.2.2.2.2.2.2.1
theorem dX9_wasOut_27 : decode cX9_wasOut 27 = .ok (.iload 4, 2) := dG_dX9_wasOut_9.2.2.2.2.2.2.2.2.2.1
theorem dX9_wasOut_29 : decode cX9_wasOut 29 = .ok (.goto 10, 3) := dG_dX9_wasOut_9.2.2.2.2.2.2.2.2.2.2.1
theorem dX9_wasOut_32 : decode cX9_wasOut 32 = .ok (.aload_n 0, 1) := dG_dX9_wasOut_9.2.2.2.2.2.2.2.2.2.2.2
theorem dG_dX9_wasOut_33 : (decode cX9_wasOut 33 = .ok (.getfield 18, 3)) ∧ (decode cX9_wasOut 36 = .ok (.iload 5, 2)) ∧ (decode cX9_wasOut 38 = .ok (.iaload, 1)) ∧ (decode cX9_wasOut 39 = .ok (.istore 6, 2)) ∧ (decode cX9_wasOut 41 = .ok (.aload_n 0, 1)) ∧ (decode cX9_wasOut 42 = .ok (.getfield 15, 3)) ∧ (decode cX9_wasOut 45 = .ok (.iload 5, 2)) ∧ (decode cX9_wasOut 47 = .ok (.iaload, 1)) ∧ (decode cX9_wasOut 48 = .ok (.iload_n 3, 1)) ∧ (decode cX9_wasOut 49 = .ok (.if_icmp .gt 11, 3)) ∧ (decode cX9_wasOut 52 = .ok (.iload_n 2, 1)) ∧ (decode cX9_wasOut 53 = .ok (.iload 6, 2)) := by decide +kernel
theorem dX9_wasOut_33 : decode cX9_wasOut 33 = .ok (.getfield 18, 3) := dG_dX9_wasOut_33.1
theorem dX9_wasOut_36 : decode cX9_wasOut 36 = .ok (.iload 5, 2) := dG_dX9_wasOut_33.2.1
theorem dX9_wasOut_38 : decode cX9_wasOut 38 = .ok (.iaload, 1) := dG_dX9_wasOut_33.2.2.1
theorem dX9_wasOut_39 : decode cX9_wasOut 39 = .ok (.istore 6, 2) := dG_dX9_wasOut_33.2.2.2.1
theorem dX9_wasOut_41 : decode cX9_wasOut 41 = .ok (.aload_n 0, 1) := dG_dX9_wasOut_33.2.2.2.2.1
theorem dX9_wasOut_42 : decode cX9_wasOut 42 = .ok (.getfield 15, 3) := dG_dX9_wasOut_33.2.2.2.2.2.1
theorem dX9_wasOut_45 : decode cX9_wasOut 45 = .ok (.iload 5, 2) := dG_dX9_wasOut_33.2.2.2.2.2.2.1
theorem dX9_wasOut_47 : decode cX9_wasOut 47 = .ok (.iaload, 1) := dG_dX9_wasOut_33.2.2.2.2.2.2.2.1
theorem dX9_wasOut_48 : decode cX9_wasOut 48 = .ok (.iload_n 3, 1) := dG_dX9_wasOut_33.2.2.2.2.2.2.2.2.1
theorem dX9_wasOut_49 : decode cX9_wasOut 49 = .ok (.if_icmp .gt 11, 3) := dG_dX9_wasOut_33.2.2.2.2.2.2.2.2.2.1
theorem dX9_wasOut_52 : decode cX9_wasOut 52 = .ok (.iload_n 2, 1) := dG_dX9_wasOut_33.2.2.2.2.2.2.2.2.2.2.1
theorem dX9_wasOut_53 : decode cX9_wasOut 53 = .ok (.iload 6, 2) := dG_dX9_wasOut_33.2.2.2.2.2.2.2.2.2.2.2
theorem dG_dX9_wasOut_55 : (decode cX9_wasOut 55 = .ok (.if_icmp .gt 5, 3)) ∧ (decode cX9_wasOut 58 = .ok (.iconst 1, 1)) ∧ (decode cX9_wasOut 59 = .ok (.ireturn, 1)) ∧ (decode cX9_wasOut 60 = .ok (.iinc 5 1, 3)) ∧ (decode cX9_wasOut 63 = .ok (.goto (-57), 3)) ∧ (decode cX9_wasOut 66 = .ok (.iconst 0, 1)) ∧ (decode cX9_wasOut 67 = .ok (.ireturn, 1)) := by decide +kernel
theorem dX9_wasOut_55 : decode cX9_wasOut 55 = .ok (.if_icmp .gt 5, 3) := dG_dX9_wasOut_55.1
theorem dX9_wasOut_58 : decode cX9_wasOut 58 = .ok (.iconst 1, 1) := dG_dX9_wasOut_55.2.1
theorem dX9_wasOut_59 : decode cX9_wasOut 59 = .ok (.ireturn, 1) := dG_dX9_wasOut_55.2.2.1
theorem dX9_wasOut_60 : decode cX9_wasOut 60 = .ok (.iinc 5 1, 3) := dG_dX9_wasOut_55.2.2.2.1
theorem dX9_wasOut_63 : decode cX9_wasOut 63 = .ok (.goto (-57), 3) := dG_dX9_wasOut_55.2.2.2.2.1
theorem dX9_wasOut_66 : decode cX9_wasOut 66 = .ok (.iconst 0, 1) := dG_dX9_wasOut_55.2.2.2.2.2.1
theorem dX9_wasOut_67 : decode cX9_wasOut 67 = .ok (.ireturn, 1) := dG_dX9_wasOut_55.2.2.2.2.2.2
end

section
set_option maxHeartbeats 4000000 in
set_option maxRecDepth 100000 in
theorem x_Wa_wasOut (l : Launch) (D : va_G) (k : Nat → ClassId) (A : Nat → Prop) (ad : Nat → Nat) (hD : rwD A k ad) (v : gV) (f g : gF) (a1 : Int) (a2 : Int) (a3 : Int) (a4 : Int) (h_a1 : inR a1) (h_a2 : inR a2) (h_a3 : inR a3) (h_a4 : inR a4) (hc : 0 ≤ a1 ∧ a1 ≤ 15) : GM l D k A (rwT k ad) yX9_wasOut cX9_wasOut 7 (some .boolean) 1 21 [.ref (ad 43), .int (iI a1), .int (iI a2), .int (iI a3), .int (iI a4)] v f g (fun r v1 f1 g1 => ∃ (z : Int), r = some (.int (iI z)) ∧ v = v1 ∧ f = f1 ∧ g = g1 ∧ (z = (if 1 ≤ cn (pOu (f 32) (f 33) a4 a1 a2 a3) ((f 31) a1).toNat then 1 else 0))) := by
  refine GM.of (by decide) (Nat.le_of_ble_eq_true rfl) ?_
  intro p e s m args below meth c Q ls hQ C hml hr hlocks hP hl
  have hx := C.1
  have hb := C.2.1
  have hok := hP.2
  have hS : va_S A s.heap s.heap [] := va_S.rf
  have hl : lv_has ls 7 [(0, .ref (ad 43)), (1, .int (iI a1)), (2, .int (iI a2)), (3, .int (iI a3)), (4, .int (iI a4))] := hl
  have hti : 0 ≤ (f 31) a1 ∧ (f 31) a1 ≤ 20 := hok.2 31 a1
  refine lv_iload_n hx hb dX9_wasOut_0 rfl (lv_at hl 1 rfl) ?_
  refine lv_bipush (v := iI 20) hx hb dX9_wasOut_1 (by decide) ?_
  refine gi_mul (z := (a1 * 20)) hx hb dX9_wasOut_3 rfl ?_
  refine lv_istore (lv' := [(5, .int (iI (a1 * 20))), (0, .ref (ad 43)), (1, .int (iI a1)), (2, .int (iI a2)), (3, .int (iI a3)), (4, .int (iI a4))]) hx hb dX9_wasOut_4 hl (by decide) rfl (fun ls hl => ?_)
  have L_1 : ∀ (n : Nat) (x5 : Int) (H : Heap) (locs : List Loc) (ls : Array Slot), a1 * 20 + 20 - x5 < (n : Int) → (a1 * 20 ≤ x5 ∧ x5 ≤ a1 * 20 + (f 31) a1) → (cn (pOu (f 32) (f 33) a4 a1 a2 a3) (x5 - a1 * 20).toNat = 0) → gWd D (rwT k ad) v f g H → va_S A s.heap H locs → lv_has ls 7 [(0, .ref (ad 43)), (1, .int (iI a1)), (2, .int (iI a2)), (3, .int (iI a3)), (4, .int (iI a4)), (5, .int (iI x5))] → W p l e (gRm 1 21) s m args below meth c H locs 0 0 Q (F0 m 6 ls []) := by
    intro n
    induction n with
    | zero =>
      intro x5 H locs ls hn_1 i1_0 i1_1 hP hS hl
      exfalso; omega
    | succ n ih_6 =>
      intro x5 H locs ls hn_1 i1_0 i1_1 hP hS hl
      have hI := i1_1
      refine lv_iload hx hb dX9_wasOut_6 (lv_at hl 5 rfl) ?_
      refine lv_aload_n hx hb dX9_wasOut_8 rfl (lv_at hl 0 rfl) ?_
      refine lv_iload_n hx hb dX9_wasOut_9 rfl (lv_at hl 1 rfl) ?_
      refine g_cv (As := [.int (iI a1)]) (rest := [.int (iI x5)]) (n := 1) C hml (c_X9_latest l D k A ad hD v f g a1 (by omega) (show 0 ≤ a1 ∧ a1 ≤ 15 from by omega)) mM_X9_27 mI_X9_latest mE_X9_latest mN_X9 mC_X9_latest (by decide +kernel) 43 (ci := 9) rfl rfl hP hS (fun _ h => h) ⟨Nat.le_of_ble_eq_true rfl, Nat.le_of_ble_eq_true rfl⟩ ⟨Nat.zero_le _, Nat.zero_le _⟩ hl.1 rfl rfl (Nat.le_of_ble_eq_true rfl) dX9_wasOut_10 (fun r_2 v_2 f_2 g_2 H locs hq_2 hP _ hS => ?_)
      obtain ⟨z_2, rfl, rfl, rfl, rfl, p0_2, p1_2⟩ := hq_2
      show W p l e (gRm 1 21) s m args below meth c _ _ 0 0 Q (F0 m 13 ls [.int (iI z_2), .int (iI x5)])
      replace p0_2 : z_2 = (a1 * 20 + (f 31) a1 - 1) := p0_2
      replace p1_2 : z_2 = a1 * 20 + (f 31) a1 - 1 ∧ 0 ≤ (f 31) a1 ∧ (f 31) a1 ≤ 20 := p1_2
      have hz_2 : inR z_2 := (by first | omega | (rw [p0_2]; split <;> omega))
      refine gi_cgt (tgt := 66) hx hb dX9_wasOut_13 (by decide) (by omega) (by omega) (fun c_3 => ?_) (fun c_3 => ?_)
      · refine lv_iconst (v := iI 0) hx hb dX9_wasOut_66 rfl ?_
        exact g_zret hQ C hr hlocks (by decide) hP hS dX9_wasOut_67 ⟨0, rfl, rfl, rfl, rfl, (by first | (rw [if_pos (ou_y (x := x5) (by omega) (by omega) (by first | rw [if_pos (by omega)] | rw [if_neg (by omega)]) (by omega))]) | (rw [if_neg (by rw [show (f 31) a1 = x5 - a1 * 20 by omega, hI]; decide)]))⟩
      · refine lv_aload_n hx hb dX9_wasOut_16 rfl (lv_at hl 0 rfl) ?_
        refine rwG_watch_cameIn C hP mF_X9_18 dX9_wasOut_17 ?_
        refine lv_iload hx hb dX9_wasOut_20 (lv_at hl 5 rfl) ?_
        refine rwL_watch_cameIn C hP (by omega) (by omega) dX9_wasOut_22 ?_
        have r_4 : (-1) ≤ (f 33 x5) ∧ (f 33 x5) ≤ 1000000 := hP.2.2 33 x5
        refine lv_iconst (v := iI (-1)) hx hb dX9_wasOut_23 rfl ?_
        refine gi_cne (tgt := 32) hx hb dX9_wasOut_24 (by decide) (by omega) (by decide) (fun c_5 => ?_) (fun c_5 => ?_)
        · refine lv_aload_n hx hb dX9_wasOut_32 rfl (lv_at hl 0 rfl) ?_
          refine rwG_watch_cameIn C hP mF_X9_18 dX9_wasOut_33 ?_
          refine lv_iload hx hb dX9_wasOut_36 (lv_at hl 5 rfl) ?_
          refine rwL_watch_cameIn C hP (by omega) (by omega) dX9_wasOut_38 ?_
          refine lv_istore (lv' := [(6, .int (iI (f 33 x5))), (0, .ref (ad 43)), (1, .int (iI a1)), (2, .int (iI a2)), (3, .int (iI a3)), (4, .int (iI a4)), (5, .int (iI x5))]) hx hb dX9_wasOut_39 hl (by decide) rfl (fun ls hl => ?_)
          refine lv_aload_n hx hb dX9_wasOut_41 rfl (lv_at hl 1 rfl) ?_
          refine rwG_watch_wentOut C hP mF_X9_15 dX9_wasOut_42 ?_
          refine lv_iload hx hb dX9_wasOut_45 (lv_at hl 6 rfl) ?_
          refine rwL_watch_wentOut C hP (by omega) (by omega) dX9_wasOut_47 ?_
          have r_6 : 0 ≤ (f 32 x5) ∧ (f 32 x5) ≤ 1000000 := hP.2.2 32 x5
          refine lv_iload_n hx hb dX9_wasOut_48 rfl (lv_at hl 4 rfl) ?_
          refine gi_cgt (tgt := 60) hx hb dX9_wasOut_49 (by decide) (by omega) (by omega) (fun c_7 => ?_) (fun c_7 => ?_)
          · refine lv_iinc (v := iI (x5 + 1)) (lv' := [(5, .int (iI (x5 + 1))), (6, .int (iI (f 33 x5))), (0, .ref (ad 43)), (1, .int (iI a1)), (2, .int (iI a2)), (3, .int (iI a3)), (4, .int (iI a4))]) hx hb dX9_wasOut_60 hl (k := 6) rfl (by show iI _ + iI 1 = _; rw [iI_add]) (by decide) rfl (fun ls hl => ?_)
            refine lv_goto (tgt := 6) hx hb dX9_wasOut_63 (by decide) ?_
            exact ih_6 (x5 + 1) _ _ _ (by omega) (by omega) (ou_n hI (by omega) (by first | rw [if_pos (by omega)] | rw [if_neg (by omega)]) (by omega)) hP hS (lv_sub hl [2, 3, 4, 5, 6, 0] rfl)
          · refine lv_iload_n hx hb dX9_wasOut_52 rfl (lv_at hl 3 rfl) ?_
            refine lv_iload hx hb dX9_wasOut_53 (lv_at hl 0 rfl) ?_
            refine gi_cgt (tgt := 60) hx hb dX9_wasOut_55 (by decide) (by omega) (by omega) (fun c_8 => ?_) (fun c_8 => ?_)
            · refine lv_iinc (v := iI (x5 + 1)) (lv' := [(5, .int (iI (x5 + 1))), (6, .int (iI (f 33 x5))), (0, .ref (ad 43)), (1, .int (iI a1)), (2, .int (iI a2)), (3, .int (iI a3)), (4, .int (iI a4))]) hx hb dX9_wasOut_60 hl (k := 6) rfl (by show iI _ + iI 1 = _; rw [iI_add]) (by decide) rfl (fun ls hl => ?_)
              refine lv_goto (tgt := 6) hx hb dX9_wasOut_63 (by decide) ?_
              exact ih_6 (x5 + 1) _ _ _ (by omega) (by omega) (ou_n hI (by omega) (by first | rw [if_pos (by omega)] | rw [if_neg (by omega)]) (by omega)) hP hS (lv_sub hl [2, 3, 4, 5, 6, 0] rfl)
            · refine lv_iconst (v := iI 1) hx hb dX9_wasOut_58 rfl ?_
              exact g_zret hQ C hr hlocks (by decide) hP hS dX9_wasOut_59 ⟨1, rfl, rfl, rfl, rfl, (by first | (rw [if_pos (ou_y (x := x5) (by omega) (by omega) (by first | rw [if_pos (by omega)] | rw [if_neg (by omega)]) (by omega))]) | (rw [if_neg (by rw [show (f 31) a1 = x5 - a1 * 20 by omega, hI]; decide)]))⟩
        · refine lv_iload hx hb dX9_wasOut_27 (lv_at hl 4 rfl) ?_
          refine lv_goto (tgt := 39) hx hb dX9_wasOut_29 (by decide) ?_
          refine lv_istore (lv' := [(6, .int (iI a4)), (0, .ref (ad 43)), (1, .int (iI a1)), (2, .int (iI a2)), (3, .int (iI a3)), (4, .int (iI a4)), (5, .int (iI x5))]) hx hb dX9_wasOut_39 hl (by decide) rfl (fun ls hl => ?_)
          refine lv_aload_n hx hb dX9_wasOut_41 rfl (lv_at hl 1 rfl) ?_
          refine rwG_watch_wentOut C hP mF_X9_15 dX9_wasOut_42 ?_
          refine lv_iload hx hb dX9_wasOut_45 (lv_at hl 6 rfl) ?_
          refine rwL_watch_wentOut C hP (by omega) (by omega) dX9_wasOut_47 ?_
          have r_9 : 0 ≤ (f 32 x5) ∧ (f 32 x5) ≤ 1000000 := hP.2.2 32 x5
          refine lv_iload_n hx hb dX9_wasOut_48 rfl (lv_at hl 4 rfl) ?_
          refine gi_cgt (tgt := 60) hx hb dX9_wasOut_49 (by decide) (by omega) (by omega) (fun c_10 => ?_) (fun c_10 => ?_)
          · refine lv_iinc (v := iI (x5 + 1)) (lv' := [(5, .int (iI (x5 + 1))), (6, .int (iI a4)), (0, .ref (ad 43)), (1, .int (iI a1)), (2, .int (iI a2)), (3, .int (iI a3)), (4, .int (iI a4))]) hx hb dX9_wasOut_60 hl (k := 6) rfl (by show iI _ + iI 1 = _; rw [iI_add]) (by decide) rfl (fun ls hl => ?_)
            refine lv_goto (tgt := 6) hx hb dX9_wasOut_63 (by decide) ?_
            exact ih_6 (x5 + 1) _ _ _ (by omega) (by omega) (ou_n hI (by omega) (by first | rw [if_pos (by omega)] | rw [if_neg (by omega)]) (by omega)) hP hS (lv_sub hl [2, 3, 4, 5, 6, 0] rfl)
          · refine lv_iload_n hx hb dX9_wasOut_52 rfl (lv_at hl 3 rfl) ?_
            refine lv_iload hx hb dX9_wasOut_53 (lv_at hl 0 rfl) ?_
            refine gi_cgt (tgt := 60) hx hb dX9_wasOut_55 (by decide) (by omega) (by omega) (fun c_11 => ?_) (fun c_11 => ?_)
            · refine lv_iinc (v := iI (x5 + 1)) (lv' := [(5, .int (iI (x5 + 1))), (6, .int (iI a4)), (0, .ref (ad 43)), (1, .int (iI a1)), (2, .int (iI a2)), (3, .int (iI a3)), (4, .int (iI a4))]) hx hb dX9_wasOut_60 hl (k := 6) rfl (by show iI _ + iI 1 = _; rw [iI_add]) (by decide) rfl (fun ls hl => ?_)
              refine lv_goto (tgt := 6) hx hb dX9_wasOut_63 (by decide) ?_
              exact ih_6 (x5 + 1) _ _ _ (by omega) (by omega) (ou_n hI (by omega) (by first | rw [if_pos (by omega)] | rw [if_neg (by omega)]) (by omega)) hP hS (lv_sub hl [2, 3, 4, 5, 6, 0] rfl)
            · refine lv_iconst (v := iI 1) hx hb dX9_wasOut_58 rfl ?_
              exact g_zret hQ C hr hlocks (by decide) hP hS dX9_wasOut_59 ⟨1, rfl, rfl, rfl, rfl, (by first | (rw [if_pos (ou_y (x := x5) (by omega) (by omega) (by first | rw [if_pos (by omega)] | rw [if_neg (by omega)]) (by omega))]) | (rw [if_neg (by rw [show (f 31) a1 = x5 - a1 * 20 by omega, hI]; decide)]))⟩
  exact L_1 21 (a1 * 20) _ _ _ (by omega) (by omega) (by rw [show a1 * 20 - a1 * 20 = 0 by omega]; rfl) hP hS (lv_sub hl [1, 2, 3, 4, 5, 0] rfl)

set_option maxHeartbeats 4000000 in
set_option maxRecDepth 100000 in
theorem x_Wa_hasSeen (l : Launch) (D : va_G) (k : Nat → ClassId) (A : Nat → Prop) (ad : Nat → Nat) (hD : rwD A k ad) (v : gV) (f g : gF) (a2 : Int) (a3 : Int) (a4 : Int) (a5 : Int) (h_a2 : inR a2) (h_a3 : inR a3) (h_a4 : inR a4) (h_a5 : inR a5) (hc : 0 ≤ a2 ∧ a2 ≤ 15) : GM l D k A (rwT k ad) yX9_hasSeen cX9_hasSeen 7 (some .boolean) 2 47 [.ref (ad 43), .ref (ad 30), .int (iI a2), .int (iI a3), .int (iI a4), .int (iI a5)] v f g (fun r v1 f1 g1 => ∃ (z : Int), r = some (.int (iI z)) ∧ v = v1 ∧ f = f1 ∧ g = g1 ∧ (z = (if 1 ≤ cn (pSe (f 20) (f 21) (f 22) (f 23) (f 24) (f 32) (f 33) (f 31) a5 a2 a3 a4) (v 23).toNat then 1 else 0))) := by
  refine GM.of (by decide) (Nat.le_of_ble_eq_true rfl) ?_
  intro p e s m args below meth c Q ls hQ C hml hr hlocks hP hl
  have hx := C.1
  have hb := C.2.1
  have hok := hP.2
  have hS : va_S A s.heap s.heap [] := va_S.rf
  have hl : lv_has ls 7 [(0, .ref (ad 43)), (1, .ref (ad 30)), (2, .int (iI a2)), (3, .int (iI a3)), (4, .int (iI a4)), (5, .int (iI a5))] := hl
  have r_1 : 0 ≤ (v 23) ∧ (v 23) ≤ 300 := hok.1 23
  refine lv_iconst (v := iI 0) hx hb dX9_hasSeen_0 rfl ?_
  refine lv_istore (lv' := [(6, .int (iI 0)), (0, .ref (ad 43)), (1, .ref (ad 30)), (2, .int (iI a2)), (3, .int (iI a3)), (4, .int (iI a4)), (5, .int (iI a5))]) hx hb dX9_hasSeen_1 hl (by decide) rfl (fun ls hl => ?_)
  have L_2 : ∀ (n : Nat) (x6 : Int) (H : Heap) (locs : List Loc) (ls : Array Slot), 300 - x6 < (n : Int) → (0 ≤ x6 ∧ x6 ≤ (v 23)) → (cn (pSe (f 20) (f 21) (f 22) (f 23) (f 24) (f 32) (f 33) (f 31) a5 a2 a3 a4) x6.toNat = 0) → gWd D (rwT k ad) v f g H → va_S A s.heap H locs → lv_has ls 7 [(0, .ref (ad 43)), (1, .ref (ad 30)), (2, .int (iI a2)), (3, .int (iI a3)), (4, .int (iI a4)), (5, .int (iI a5)), (6, .int (iI x6))] → W p l e (gRm 2 47) s m args below meth c H locs 0 0 Q (F0 m 3 ls []) := by
    intro n
    induction n with
    | zero =>
      intro x6 H locs ls hn_2 i2_0 i2_1 hP hS hl
      exfalso; omega
    | succ n ih_3 =>
      intro x6 H locs ls hn_2 i2_0 i2_1 hP hS hl
      have hI := i2_1
      refine lv_iload hx hb dX9_hasSeen_3 (lv_at hl 6 rfl) ?_
      refine lv_aload_n hx hb dX9_hasSeen_5 rfl (lv_at hl 1 rfl) ?_
      refine rwG_tries_many C hP mF_X9_31 dX9_hasSeen_6 ?_
      refine gi_cge (tgt := 94) hx hb dX9_hasSeen_9 (by decide) (by omega) (by omega) (fun c_3 => ?_) (fun c_3 => ?_)
      · refine lv_iconst (v := iI 0) hx hb dX9_hasSeen_94 rfl ?_
        exact g_zret hQ C hr hlocks (by decide) hP hS dX9_hasSeen_95 ⟨0, rfl, rfl, rfl, rfl, (by first | (rw [if_pos (cn_hi (x := x6) (by omega) (by omega) (decide_eq_true ⟨by omega, by omega⟩))]) | (rw [if_neg (by rw [show (v 23) = x6 by omega, hI]; decide)]))⟩
      · refine lv_aload_n hx hb dX9_hasSeen_12 rfl (lv_at hl 1 rfl) ?_
        refine rwG_tries_round C hP mF_X9_37 dX9_hasSeen_13 ?_
        refine lv_iload hx hb dX9_hasSeen_16 (lv_at hl 6 rfl) ?_
        refine rwL_tries_round C hP (by omega) (by omega) dX9_hasSeen_18 ?_
        have r_4 : 0 ≤ (f 21 x6) ∧ (f 21 x6) ≤ 3 := hP.2.2 21 x6
        refine lv_iload_n hx hb dX9_hasSeen_19 rfl (lv_at hl 3 rfl) ?_
        refine gi_cne (tgt := 88) hx hb dX9_hasSeen_20 (by decide) (by omega) (by omega) (fun c_5 => ?_) (fun c_5 => ?_)
        · refine lv_iinc (v := iI (x6 + 1)) (lv' := [(6, .int (iI (x6 + 1))), (0, .ref (ad 43)), (1, .ref (ad 30)), (2, .int (iI a2)), (3, .int (iI a3)), (4, .int (iI a4)), (5, .int (iI a5))]) hx hb dX9_hasSeen_88 hl (k := 6) rfl (by show iI _ + iI 1 = _; rw [iI_add]) (by decide) rfl (fun ls hl => ?_)
          refine lv_goto (tgt := 3) hx hb dX9_hasSeen_91 (by decide) ?_
          exact ih_3 (x6 + 1) _ _ _ (by omega) (by omega) (by rw [cn_n (by omega) (decide_eq_false (fun h => by have h1 := h.1; have h2 := h.2; omega))]; exact hI) hP hS (lv_sub hl [1, 2, 3, 4, 5, 6, 0] rfl)
        · refine lv_aload_n hx hb dX9_hasSeen_23 rfl (lv_at hl 1 rfl) ?_
          refine rwG_tries_route C hP mF_X9_40 dX9_hasSeen_24 ?_
          refine lv_iload hx hb dX9_hasSeen_27 (lv_at hl 6 rfl) ?_
          refine rwL_tries_route C hP (by omega) (by omega) dX9_hasSeen_29 ?_
          have r_6 : 0 ≤ (f 22 x6) ∧ (f 22 x6) ≤ 4 := hP.2.2 22 x6
          refine lv_iload hx hb dX9_hasSeen_30 (lv_at hl 4 rfl) ?_
          refine gi_cne (tgt := 88) hx hb dX9_hasSeen_32 (by decide) (by omega) (by omega) (fun c_7 => ?_) (fun c_7 => ?_)
          · refine lv_iinc (v := iI (x6 + 1)) (lv' := [(6, .int (iI (x6 + 1))), (0, .ref (ad 43)), (1, .ref (ad 30)), (2, .int (iI a2)), (3, .int (iI a3)), (4, .int (iI a4)), (5, .int (iI a5))]) hx hb dX9_hasSeen_88 hl (k := 6) rfl (by show iI _ + iI 1 = _; rw [iI_add]) (by decide) rfl (fun ls hl => ?_)
            refine lv_goto (tgt := 3) hx hb dX9_hasSeen_91 (by decide) ?_
            exact ih_3 (x6 + 1) _ _ _ (by omega) (by omega) (by rw [cn_n (by omega) (decide_eq_false (fun h => by have h1 := h.1; have h2 := h.2; omega))]; exact hI) hP hS (lv_sub hl [1, 2, 3, 4, 5, 6, 0] rfl)
          · refine lv_aload_n hx hb dX9_hasSeen_35 rfl (lv_at hl 1 rfl) ?_
            refine rwG_tries_climber C hP mF_X9_43 dX9_hasSeen_36 ?_
            refine lv_iload hx hb dX9_hasSeen_39 (lv_at hl 6 rfl) ?_
            refine rwL_tries_climber C hP (by omega) (by omega) dX9_hasSeen_41 ?_
            have r_8 : 0 ≤ (f 20 x6) ∧ (f 20 x6) ≤ 15 := hP.2.2 20 x6
            refine lv_iload_n hx hb dX9_hasSeen_42 rfl (lv_at hl 2 rfl) ?_
            refine gi_ceq (tgt := 88) hx hb dX9_hasSeen_43 (by decide) (by omega) (by omega) (fun c_9 => ?_) (fun c_9 => ?_)
            · refine lv_iinc (v := iI (x6 + 1)) (lv' := [(6, .int (iI (x6 + 1))), (0, .ref (ad 43)), (1, .ref (ad 30)), (2, .int (iI a2)), (3, .int (iI a3)), (4, .int (iI a4)), (5, .int (iI a5))]) hx hb dX9_hasSeen_88 hl (k := 6) rfl (by show iI _ + iI 1 = _; rw [iI_add]) (by decide) rfl (fun ls hl => ?_)
              refine lv_goto (tgt := 3) hx hb dX9_hasSeen_91 (by decide) ?_
              exact ih_3 (x6 + 1) _ _ _ (by omega) (by omega) (by rw [cn_n (by omega) (decide_eq_false (fun h => by have h1 := h.1; have h2 := h.2; omega))]; exact hI) hP hS (lv_sub hl [1, 2, 3, 4, 5, 6, 0] rfl)
            · refine lv_aload_n hx hb dX9_hasSeen_46 rfl (lv_at hl 0 rfl) ?_
              refine lv_iload_n hx hb dX9_hasSeen_47 rfl (lv_at hl 2 rfl) ?_
              refine lv_aload_n hx hb dX9_hasSeen_48 rfl (lv_at hl 1 rfl) ?_
              refine rwG_tries_begun C hP mF_X9_46 dX9_hasSeen_49 ?_
              refine lv_iload hx hb dX9_hasSeen_52 (lv_at hl 6 rfl) ?_
              refine rwL_tries_begun C hP (by omega) (by omega) dX9_hasSeen_54 ?_
              have r_10 : 0 ≤ (f 23 x6) ∧ (f 23 x6) ≤ 1000000 := hP.2.2 23 x6
              refine lv_aload_n hx hb dX9_hasSeen_55 rfl (lv_at hl 1 rfl) ?_
              refine rwG_tries_ended C hP mF_X9_49 dX9_hasSeen_56 ?_
              refine lv_iload hx hb dX9_hasSeen_59 (lv_at hl 6 rfl) ?_
              refine rwL_tries_ended C hP (by omega) (by omega) dX9_hasSeen_61 ?_
              have r_11 : (-1) ≤ (f 24 x6) ∧ (f 24 x6) ≤ 1000999 := hP.2.2 24 x6
              refine lv_iconst (v := iI (-1)) hx hb dX9_hasSeen_62 rfl ?_
              refine gi_cne (tgt := 71) hx hb dX9_hasSeen_63 (by decide) (by omega) (by decide) (fun c_12 => ?_) (fun c_12 => ?_)
              · refine lv_aload_n hx hb dX9_hasSeen_71 rfl (lv_at hl 1 rfl) ?_
                refine rwG_tries_ended C hP mF_X9_49 dX9_hasSeen_72 ?_
                refine lv_iload hx hb dX9_hasSeen_75 (lv_at hl 6 rfl) ?_
                refine rwL_tries_ended C hP (by omega) (by omega) dX9_hasSeen_77 ?_
                refine lv_iload hx hb dX9_hasSeen_78 (lv_at hl 5 rfl) ?_
                refine g_cv (As := [.int (iI a2), .int (iI (f 23 x6)), .int (iI (f 24 x6)), .int (iI a5)]) (rest := []) (n := 4) C hml (x_Wa_wasOut l D k A ad hD v f g a2 (f 23 x6) (f 24 x6) a5 (by omega) (by omega) (by omega) (by omega) (show 0 ≤ a2 ∧ a2 ≤ 15 from by omega)) mM_X9_52 mI_X9_wasOut mE_X9_wasOut mN_X9 mC_X9_wasOut (by decide +kernel) 43 (ci := 9) rfl rfl hP hS (fun _ h => h) ⟨Nat.le_of_ble_eq_true rfl, Nat.le_of_ble_eq_true rfl⟩ ⟨Nat.zero_le _, Nat.zero_le _⟩ hl.1 rfl rfl (Nat.le_of_ble_eq_true rfl) dX9_hasSeen_80 (fun r_13 v_13 f_13 g_13 H locs hq_13 hP _ hS => ?_)
                obtain ⟨z_13, rfl, rfl, rfl, rfl, p0_13⟩ := hq_13
                show W p l e (gRm 2 47) s m args below meth c _ _ 0 0 Q (F0 m 83 ls [.int (iI z_13)])
                replace p0_13 : z_13 = (if 1 ≤ cn (pOu (f 32) (f 33) a5 a2 (f 23 x6) (f 24 x6)) ((f 31) a2).toNat then 1 else 0) := p0_13
                have w_13 := gif (P := 1 ≤ cn (pOu (f 32) (f 33) a5 a2 (f 23 x6) (f 24 x6)) ((f 31) a2).toNat) p0_13
                clear p0_13
                have hz_13 : inR z_13 := (by first | omega | (rw [p0_13]; split <;> omega))
                have hto : (f 24 x6) = (if (f 24) x6 = -1 then a5 else (f 24) x6) := (by first | rw [if_pos (by omega)] | rw [if_neg (by omega)])
                have hwo : cn (pOu (f 32) (f 33) a5 a2 ((f 23) x6) (if (f 24) x6 = -1 then a5 else (f 24) x6)) ((f 31) a2).toNat = cn (pOu (f 32) (f 33) a5 a2 ((f 23) x6) (f 24 x6)) ((f 31) a2).toNat := congrArg (fun q => cn (pOu (f 32) (f 33) a5 a2 ((f 23) x6) q) ((f 31) a2).toNat) hto.symm
                refine gi_zeq (tgt := 88) hx hb dX9_hasSeen_83 (by decide) (by omega) (fun c_14 => ?_) (fun c_14 => ?_)
                · have vz_13 := gif0 w_13 c_14
                  clear w_13
                  refine lv_iinc (v := iI (x6 + 1)) (lv' := [(6, .int (iI (x6 + 1))), (0, .ref (ad 43)), (1, .ref (ad 30)), (2, .int (iI a2)), (3, .int (iI a3)), (4, .int (iI a4)), (5, .int (iI a5))]) hx hb dX9_hasSeen_88 hl (k := 6) rfl (by show iI _ + iI 1 = _; rw [iI_add]) (by decide) rfl (fun ls hl => ?_)
                  refine lv_goto (tgt := 3) hx hb dX9_hasSeen_91 (by decide) ?_
                  exact ih_3 (x6 + 1) _ _ _ (by omega) (by omega) (by rw [cn_n (by omega) (decide_eq_false (fun h => by have h1 := h.1; have h2 := h.2; omega))]; exact hI) hP hS (lv_sub hl [1, 2, 3, 4, 5, 6, 0] rfl)
                · have vz_13 := gif1 w_13 c_14
                  clear w_13
                  refine lv_iconst (v := iI 1) hx hb dX9_hasSeen_86 rfl ?_
                  exact g_zret hQ C hr hlocks (by decide) hP hS dX9_hasSeen_87 ⟨1, rfl, rfl, rfl, rfl, (by first | (rw [if_pos (cn_hi (x := x6) (by omega) (by omega) (decide_eq_true ⟨by omega, by omega⟩))]) | (rw [if_neg (by rw [show (v 23) = x6 by omega, hI]; decide)]))⟩
              · refine lv_iload hx hb dX9_hasSeen_66 (lv_at hl 5 rfl) ?_
                refine lv_goto (tgt := 78) hx hb dX9_hasSeen_68 (by decide) ?_
                refine lv_iload hx hb dX9_hasSeen_78 (lv_at hl 5 rfl) ?_
                refine g_cv (As := [.int (iI a2), .int (iI (f 23 x6)), .int (iI a5), .int (iI a5)]) (rest := []) (n := 4) C hml (x_Wa_wasOut l D k A ad hD v f g a2 (f 23 x6) a5 a5 (by omega) (by omega) (by omega) (by omega) (show 0 ≤ a2 ∧ a2 ≤ 15 from by omega)) mM_X9_52 mI_X9_wasOut mE_X9_wasOut mN_X9 mC_X9_wasOut (by decide +kernel) 43 (ci := 9) rfl rfl hP hS (fun _ h => h) ⟨Nat.le_of_ble_eq_true rfl, Nat.le_of_ble_eq_true rfl⟩ ⟨Nat.zero_le _, Nat.zero_le _⟩ hl.1 rfl rfl (Nat.le_of_ble_eq_true rfl) dX9_hasSeen_80 (fun r_15 v_15 f_15 g_15 H locs hq_15 hP _ hS => ?_)
                obtain ⟨z_15, rfl, rfl, rfl, rfl, p0_15⟩ := hq_15
                show W p l e (gRm 2 47) s m args below meth c _ _ 0 0 Q (F0 m 83 ls [.int (iI z_15)])
                replace p0_15 : z_15 = (if 1 ≤ cn (pOu (f 32) (f 33) a5 a2 (f 23 x6) a5) ((f 31) a2).toNat then 1 else 0) := p0_15
                have w_15 := gif (P := 1 ≤ cn (pOu (f 32) (f 33) a5 a2 (f 23 x6) a5) ((f 31) a2).toNat) p0_15
                clear p0_15
                have hz_15 : inR z_15 := (by first | omega | (rw [p0_15]; split <;> omega))
                have hto : a5 = (if (f 24) x6 = -1 then a5 else (f 24) x6) := (by first | rw [if_pos (by omega)] | rw [if_neg (by omega)])
                have hwo : cn (pOu (f 32) (f 33) a5 a2 ((f 23) x6) (if (f 24) x6 = -1 then a5 else (f 24) x6)) ((f 31) a2).toNat = cn (pOu (f 32) (f 33) a5 a2 ((f 23) x6) a5) ((f 31) a2).toNat := congrArg (fun q => cn (pOu (f 32) (f 33) a5 a2 ((f 23) x6) q) ((f 31) a2).toNat) hto.symm
                refine gi_zeq (tgt := 88) hx hb dX9_hasSeen_83 (by decide) (by omega) (fun c_16 => ?_) (fun c_16 => ?_)
                · have vz_15 := gif0 w_15 c_16
                  clear w_15
                  refine lv_iinc (v := iI (x6 + 1)) (lv' := [(6, .int (iI (x6 + 1))), (0, .ref (ad 43)), (1, .ref (ad 30)), (2, .int (iI a2)), (3, .int (iI a3)), (4, .int (iI a4)), (5, .int (iI a5))]) hx hb dX9_hasSeen_88 hl (k := 6) rfl (by show iI _ + iI 1 = _; rw [iI_add]) (by decide) rfl (fun ls hl => ?_)
                  refine lv_goto (tgt := 3) hx hb dX9_hasSeen_91 (by decide) ?_
                  exact ih_3 (x6 + 1) _ _ _ (by omega) (by omega) (by rw [cn_n (by omega) (decide_eq_false (fun h => by have h1 := h.1; have h2 := h.2; omega))]; exact hI) hP hS (lv_sub hl [1, 2, 3, 4, 5, 6, 0] rfl)
                · have vz_15 := gif1 w_15 c_16
                  clear w_15
                  refine lv_iconst (v := iI 1) hx hb dX9_hasSeen_86 rfl ?_
                  exact g_zret hQ C hr hlocks (by decide) hP hS dX9_hasSeen_87 ⟨1, rfl, rfl, rfl, rfl, (by first | (rw [if_pos (cn_hi (x := x6) (by omega) (by omega) (decide_eq_true ⟨by omega, by omega⟩))]) | (rw [if_neg (by rw [show (v 23) = x6 by omega, hI]; decide)]))⟩
  exact L_2 301 0 _ _ _ (by omega) (by omega) rfl hP hS (lv_sub hl [1, 2, 3, 4, 5, 6, 0] rfl)

set_option maxHeartbeats 4000000 in
set_option maxRecDepth 100000 in
theorem x_Fi_letCome (l : Launch) (D : va_G) (k : Nat → ClassId) (A : Nat → Prop) (ad : Nat → Nat) (hD : rwD A k ad) (v : gV) (f g : gF) (a2 : Int) (a3 : Int) (h_a2 : inR a2) (h_a3 : inR a3) (h0 : (v 22) < 3) (h3 : 0 ≤ a3 ∧ a3 ≤ 999) : GM l D k A (rwT k ad) yX2_letCome cX2_letCome 6 (some .int) 0 0 [.ref (ad 27), .ref (ad 57), .int (iI a2), .int (iI a3)] v f g (fun r v1 f1 g1 => ∃ (z : Int), r = some (.int (iI z)) ∧ (va_up v 22 ((v 22) + 1)) = v1 ∧ (va_up (va_up f 18 (lcF (f 18) (f 41) (v 22) a2 (v 21))) 19 (u1 (f 19) ((v 22) + 1) a3)) = f1 ∧ g = g1 ∧ (z = (cn (pLc (f 18) (f 41) (v 22) a2) (v 21).toNat)) ∧ (0 ≤ z ∧ z ≤ 16)) := by
  refine GM.of (by decide) (Nat.le_of_ble_eq_true rfl) ?_
  intro p e s m args below meth c Q ls hQ C hml hr hlocks hP hl
  have hx := C.1
  have hb := C.2.1
  have hok := hP.2
  have hS : va_S A s.heap s.heap [] := va_S.rf
  have hl : lv_has ls 6 [(0, .ref (ad 27)), (1, .ref (ad 57)), (2, .int (iI a2)), (3, .int (iI a3))] := hl
  have hP : gWd D (rwT k ad) (va_up v 22 (v 22)) (va_up (va_up f 18 (f 18)) 19 (f 19)) g s.heap := by rw [va_id, va_id, va_id]; exact hP
  have r_1 : 0 ≤ (v 21) ∧ (v 21) ≤ 16 := hok.1 21
  have r_2 : 0 ≤ (v 22) ∧ (v 22) ≤ 3 := hok.1 22
  refine lv_iconst (v := iI 0) hx hb dX2_letCome_0 rfl ?_
  refine lv_istore (lv' := [(4, .int (iI 0)), (0, .ref (ad 27)), (1, .ref (ad 57)), (2, .int (iI a2)), (3, .int (iI a3))]) hx hb dX2_letCome_1 hl (by decide) rfl (fun ls hl => ?_)
  refine lv_iconst (v := iI 0) hx hb dX2_letCome_3 rfl ?_
  refine lv_istore (lv' := [(5, .int (iI 0)), (4, .int (iI 0)), (0, .ref (ad 27)), (1, .ref (ad 57)), (2, .int (iI a2)), (3, .int (iI a3))]) hx hb dX2_letCome_4 hl (by decide) rfl (fun ls hl => ?_)
  have L_3 : ∀ (n : Nat) (x4 : Int) (x5 : Int) (c18_3 : Int → Int) (H : Heap) (locs : List Loc) (ls : Array Slot), 16 - x5 < (n : Int) → (0 ≤ x5 ∧ x5 ≤ (v 21)) → (0 ≤ x4 ∧ x4 ≤ x5) → (x4 = cn (pLc (f 18) (f 41) (v 22) a2) x5.toNat) → (c18_3 = lcF (f 18) (f 41) (v 22) a2 x5) → gWd D (rwT k ad) (va_up v 22 (v 22)) (va_up (va_up f 18 c18_3) 19 (f 19)) g H → va_S A s.heap H locs → lv_has ls 6 [(0, .ref (ad 27)), (1, .ref (ad 57)), (2, .int (iI a2)), (3, .int (iI a3)), (4, .int (iI x4)), (5, .int (iI x5))] → W p l e (gRm 0 0) s m args below meth c H locs 0 0 Q (F0 m 6 ls []) := by
    intro n
    induction n with
    | zero =>
      intro x4 x5 c18_3 H locs ls hn_3 i3_0 i3_1 i3_2 i3_3 hP hS hl
      exfalso; omega
    | succ n ih_6 =>
      intro x4 x5 c18_3 H locs ls hn_3 i3_0 i3_1 i3_2 i3_3 hP hS hl
      have hI2 := i3_2
      have hI3 := i3_3
      have hla : c18_3 x5 = (f 18) x5 := by rw [hI3]; exact lcF_at
      refine lv_iload hx hb dX2_letCome_6 (lv_at hl 5 rfl) ?_
      refine lv_aload_n hx hb dX2_letCome_8 rfl (lv_at hl 0 rfl) ?_
      refine rwG_field_climbers C hP mF_X2_18 dX2_letCome_9 ?_
      show W p l e (gRm 0 0) s m args below meth c _ _ 0 0 Q (F0 m 12 ls [.int (iI (v 21)), .int (iI x5)])
      refine gi_cge (tgt := 59) hx hb dX2_letCome_12 (by decide) (by omega) (by omega) (fun c_4 => ?_) (fun c_4 => ?_)
      · refine lv_aload_n hx hb dX2_letCome_59 rfl (lv_at hl 0 rfl) ?_
        refine lv_dup hx hb dX2_letCome_60 rfl ?_
        refine rwG_field_open C hP mF_X2_22 dX2_letCome_61 ?_
        show W p l e (gRm 0 0) s m args below meth c _ _ 0 0 Q (F0 m 64 ls [.int (iI (v 22)), .ref (ad 27)])
        refine lv_iconst (v := iI 1) hx hb dX2_letCome_64 rfl ?_
        refine gi_add (z := ((v 22) + 1)) hx hb dX2_letCome_65 rfl ?_
        refine rwP_field_open (v1 := (va_up v 22 ((v 22) + 1))) C hP hD hS mF_X2_22 (by omega) rfl (Or.inr (gF_up (V := rwV) (F := rwF) (gF_up (V := rwV) (F := rwF) (gR_up (V := rwV) (F := rwF) ⟨hok.1, hok.2⟩ 22 (show 0 ≤ ((v 22) + 1) ∧ ((v 22) + 1) ≤ 3 from by omega)) 18 (hP.2.2 18)) 19 (hP.2.2 19))) dX2_letCome_66 (fun H locs hP hS => ?_)
        refine lv_aload_n hx hb dX2_letCome_69 rfl (lv_at hl 0 rfl) ?_
        refine rwG_field_cutDay C hP mF_X2_15 dX2_letCome_70 ?_
        refine lv_aload_n hx hb dX2_letCome_73 rfl (lv_at hl 0 rfl) ?_
        refine rwG_field_open C hP mF_X2_22 dX2_letCome_74 ?_
        show W p l e (gRm 0 0) s m args below meth c _ _ 0 0 Q (F0 m 77 ls [.int (iI ((v 22) + 1)), .ref (ad 29)])
        have r_5 : 0 ≤ ((v 22) + 1) ∧ ((v 22) + 1) ≤ 3 := hP.2.1 22
        refine lv_iload_n hx hb dX2_letCome_77 rfl (lv_at hl 3 rfl) ?_
        refine rwS_field_cutDay (f1 := (va_up (va_up f 18 c18_3) 19 (u1 (f 19) ((v 22) + 1) a3))) C hP hD hS (by omega) (by omega) (by omega) rfl (Or.inr (gF_up (V := rwV) (F := rwF) (gF_up (V := rwV) (F := rwF) (gR_up (V := rwV) (F := rwF) ⟨hok.1, hok.2⟩ 22 (hP.2.1 22)) 18 (hP.2.2 18)) 19 (u1_rng (hP.2.2 19) (show 0 ≤ a3 ∧ a3 ≤ 999 from (by omega))))) dX2_letCome_78 (fun H locs hP hS => ?_)
        refine lv_iload hx hb dX2_letCome_79 (lv_at hl 4 rfl) ?_
        exact g_iret hQ C hr hlocks hP hS dX2_letCome_81 ⟨x4, rfl, rfl, (by rw [show ((lcF (f 18) (f 41) (v 22) a2 (v 21)) : Int → Int) = c18_3 from by rw [show (v 21) = x5 by omega]; exact hI3.symm]), rfl, (by rw [show (v 21) = x5 by omega]; exact hI2), (by first | omega | ((repeat' split) <;> omega))⟩
      · refine lv_aload_n hx hb dX2_letCome_15 rfl (lv_at hl 0 rfl) ?_
        refine rwG_field_latest C hP mF_X2_9 dX2_letCome_16 ?_
        refine lv_iload hx hb dX2_letCome_19 (lv_at hl 5 rfl) ?_
        refine rwL_field_latest C hP (by omega) (by omega) dX2_letCome_21 ?_
        show W p l e (gRm 0 0) s m args below meth c _ _ 0 0 Q (F0 m 22 ls [.int (iI (c18_3 x5))])
        have r_6 : 0 ≤ (c18_3 x5) ∧ (c18_3 x5) ≤ 3 := hP.2.2 18 x5
        refine lv_aload_n hx hb dX2_letCome_22 rfl (lv_at hl 0 rfl) ?_
        refine rwG_field_open C hP mF_X2_22 dX2_letCome_23 ?_
        show W p l e (gRm 0 0) s m args below meth c _ _ 0 0 Q (F0 m 26 ls [.int (iI (v 22)), .int (iI (c18_3 x5))])
        refine gi_cne (tgt := 53) hx hb dX2_letCome_26 (by decide) (by omega) (by omega) (fun c_7 => ?_) (fun c_7 => ?_)
        · refine lv_iinc (v := iI (x5 + 1)) (lv' := [(5, .int (iI (x5 + 1))), (0, .ref (ad 27)), (1, .ref (ad 57)), (2, .int (iI a2)), (3, .int (iI a3)), (4, .int (iI x4))]) hx hb dX2_letCome_53 hl (k := 5) rfl (by show iI _ + iI 1 = _; rw [iI_add]) (by decide) rfl (fun ls hl => ?_)
          refine lv_goto (tgt := 6) hx hb dX2_letCome_56 (by decide) ?_
          exact ih_6 x4 (x5 + 1) c18_3 _ _ _ (by omega) (by omega) (by omega) (by first | (rw [cn_y (by omega) (decide_eq_true (by omega))]; omega) | (rw [cn_n (by omega) (decide_eq_false (by omega))]; omega)) (by first | (rw [hI3]; exact lcF_hit (by omega) (by omega) (by omega)) | (rw [hI3]; exact (lcF_skip (by omega)).symm)) hP hS (lv_sub hl [1, 2, 3, 4, 5, 0] rfl)
        · refine lv_aload_n hx hb dX2_letCome_29 rfl (lv_at hl 1 rfl) ?_
          refine lv_iload hx hb dX2_letCome_30 (lv_at hl 5 rfl) ?_
          refine rwL_results_ranks C hP (by omega) (by omega) dX2_letCome_32 ?_
          show W p l e (gRm 0 0) s m args below meth c _ _ 0 0 Q (F0 m 33 ls [.int (iI (f 41 x5))])
          have r_8 : (-1) ≤ (f 41 x5) ∧ (f 41 x5) ≤ 17 := hP.2.2 41 x5
          refine lv_iload_n hx hb dX2_letCome_33 rfl (lv_at hl 2 rfl) ?_
          refine gi_cgt (tgt := 53) hx hb dX2_letCome_34 (by decide) (by omega) (by omega) (fun c_9 => ?_) (fun c_9 => ?_)
          · refine lv_iinc (v := iI (x5 + 1)) (lv' := [(5, .int (iI (x5 + 1))), (0, .ref (ad 27)), (1, .ref (ad 57)), (2, .int (iI a2)), (3, .int (iI a3)), (4, .int (iI x4))]) hx hb dX2_letCome_53 hl (k := 5) rfl (by show iI _ + iI 1 = _; rw [iI_add]) (by decide) rfl (fun ls hl => ?_)
            refine lv_goto (tgt := 6) hx hb dX2_letCome_56 (by decide) ?_
            exact ih_6 x4 (x5 + 1) c18_3 _ _ _ (by omega) (by omega) (by omega) (by first | (rw [cn_y (by omega) (decide_eq_true (by omega))]; omega) | (rw [cn_n (by omega) (decide_eq_false (by omega))]; omega)) (by first | (rw [hI3]; exact lcF_hit (by omega) (by omega) (by omega)) | (rw [hI3]; exact (lcF_skip (by omega)).symm)) hP hS (lv_sub hl [1, 2, 3, 4, 5, 0] rfl)
          · refine lv_aload_n hx hb dX2_letCome_37 rfl (lv_at hl 0 rfl) ?_
            refine rwG_field_latest C hP mF_X2_9 dX2_letCome_38 ?_
            refine lv_iload hx hb dX2_letCome_41 (lv_at hl 5 rfl) ?_
            refine lv_aload_n hx hb dX2_letCome_43 rfl (lv_at hl 0 rfl) ?_
            refine rwG_field_open C hP mF_X2_22 dX2_letCome_44 ?_
            show W p l e (gRm 0 0) s m args below meth c _ _ 0 0 Q (F0 m 47 ls [.int (iI (v 22)), .int (iI x5), .ref (ad 28)])
            refine lv_iconst (v := iI 1) hx hb dX2_letCome_47 rfl ?_
            refine gi_add (z := ((v 22) + 1)) hx hb dX2_letCome_48 rfl ?_
            refine rwS_field_latest (f1 := (va_up (va_up f 18 (u1 c18_3 x5 ((v 22) + 1))) 19 (f 19))) C hP hD hS (by omega) (by omega) (by omega) rfl (Or.inr (gF_up (V := rwV) (F := rwF) (gF_up (V := rwV) (F := rwF) (gR_up (V := rwV) (F := rwF) ⟨hok.1, hok.2⟩ 22 (hP.2.1 22)) 18 (u1_rng (hP.2.2 18) (show 0 ≤ ((v 22) + 1) ∧ ((v 22) + 1) ≤ 3 from (by omega)))) 19 (hP.2.2 19))) dX2_letCome_49 (fun H locs hP hS => ?_)
            refine lv_iinc (v := iI (x4 + 1)) (lv' := [(4, .int (iI (x4 + 1))), (0, .ref (ad 27)), (1, .ref (ad 57)), (2, .int (iI a2)), (3, .int (iI a3)), (5, .int (iI x5))]) hx hb dX2_letCome_50 hl (k := 4) rfl (by show iI _ + iI 1 = _; rw [iI_add]) (by decide) rfl (fun ls hl => ?_)
            refine lv_iinc (v := iI (x5 + 1)) (lv' := [(5, .int (iI (x5 + 1))), (4, .int (iI (x4 + 1))), (0, .ref (ad 27)), (1, .ref (ad 57)), (2, .int (iI a2)), (3, .int (iI a3))]) hx hb dX2_letCome_53 hl (k := 5) rfl (by show iI _ + iI 1 = _; rw [iI_add]) (by decide) rfl (fun ls hl => ?_)
            refine lv_goto (tgt := 6) hx hb dX2_letCome_56 (by decide) ?_
            exact ih_6 (x4 + 1) (x5 + 1) (u1 c18_3 x5 ((v 22) + 1)) _ _ _ (by omega) (by omega) (by omega) (by first | (rw [cn_y (by omega) (decide_eq_true (by omega))]; omega) | (rw [cn_n (by omega) (decide_eq_false (by omega))]; omega)) (by first | (rw [hI3]; exact lcF_hit (by omega) (by omega) (by omega)) | (rw [hI3]; exact (lcF_skip (by omega)).symm)) hP hS (lv_sub hl [2, 3, 4, 5, 1, 0] rfl)
  exact L_3 17 0 0 (f 18) _ _ _ (by omega) (by omega) (by omega) rfl lcF_0.symm hP hS (lv_sub hl [2, 3, 4, 5, 1, 0] rfl)

set_option maxHeartbeats 4000000 in
set_option maxRecDepth 100000 in
theorem c_X5_cellOf (l : Launch) (D : va_G) (k : Nat → ClassId) (A : Nat → Prop) (ad : Nat → Nat) (hD : rwD A k ad) (v : gV) (f g : gF) (a1 : Int) (a2 : Int) (a3 : Int) (h_a1 : inR a1) (h_a2 : inR a2) (h_a3 : inR a3) (h1 : 0 ≤ a1 ∧ a1 ≤ 3) (h2 : 0 ≤ a2 ∧ a2 ≤ 15) (h3 : 0 ≤ a3 ∧ a3 ≤ 4) : GM l D k A (rwT k ad) yX5_cellOf cX5_cellOf 3 (some .int) 0 0 [.int (iI a1), .int (iI a2), .int (iI a3)] v f g (fun r v1 f1 g1 => ∃ (z : Int), r = some (.int (iI z)) ∧ v = v1 ∧ f = f1 ∧ g = g1 ∧ (z = (a1 * 80 + a2 * 5 + a3))) := by
  refine GM.of (by decide) (Nat.le_of_ble_eq_true rfl) ?_
  intro p e s m args below meth c Q ls hQ C hml hr hlocks hP hl
  have hx := C.1
  have hb := C.2.1
  have hok := hP.2
  have hS : va_S A s.heap s.heap [] := va_S.rf
  have hl : lv_has ls 3 [(0, .int (iI a1)), (1, .int (iI a2)), (2, .int (iI a3))] := hl
  refine lv_iload_n hx hb dX5_cellOf_0 rfl (lv_at hl 0 rfl) ?_
  refine lv_bipush (v := iI 80) hx hb dX5_cellOf_1 (by decide) ?_
  refine gi_mul (z := (a1 * 80)) hx hb dX5_cellOf_3 rfl ?_
  refine lv_iload_n hx hb dX5_cellOf_4 rfl (lv_at hl 1 rfl) ?_
  refine lv_iconst (v := iI 5) hx hb dX5_cellOf_5 rfl ?_
  refine gi_mul (z := (a2 * 5)) hx hb dX5_cellOf_6 rfl ?_
  refine gi_add (z := ((a1 * 80) + (a2 * 5))) hx hb dX5_cellOf_7 rfl ?_
  refine lv_iload_n hx hb dX5_cellOf_8 rfl (lv_at hl 2 rfl) ?_
  refine gi_add (z := (((a1 * 80) + (a2 * 5)) + a3)) hx hb dX5_cellOf_9 rfl ?_
  exact g_iret hQ C hr hlocks hP hS dX5_cellOf_10 ⟨(((a1 * 80) + (a2 * 5)) + a3), rfl, rfl, rfl, rfl, (by first | omega | ((repeat' split) <;> omega))⟩

set_option maxHeartbeats 4000000 in
set_option maxRecDepth 100000 in
theorem c_X5_keyRow (l : Launch) (D : va_G) (k : Nat → ClassId) (A : Nat → Prop) (ad : Nat → Nat) (hD : rwD A k ad) (v : gV) (f g : gF) (a1 : Int) (a2 : Int) (h_a1 : inR a1) (h_a2 : inR a2) (h1 : 0 ≤ a1 ∧ a1 ≤ 3) (h2 : 0 ≤ a2 ∧ a2 ≤ 15) : GM l D k A (rwT k ad) yX5_keyRow cX5_keyRow 2 (some .int) 0 0 [.int (iI a1), .int (iI a2)] v f g (fun r v1 f1 g1 => ∃ (z : Int), r = some (.int (iI z)) ∧ v = v1 ∧ f = f1 ∧ g = g1 ∧ (z = ((a1 * 16 + a2) * 4))) := by
  refine GM.of (by decide) (Nat.le_of_ble_eq_true rfl) ?_
  intro p e s m args below meth c Q ls hQ C hml hr hlocks hP hl
  have hx := C.1
  have hb := C.2.1
  have hok := hP.2
  have hS : va_S A s.heap s.heap [] := va_S.rf
  have hl : lv_has ls 2 [(0, .int (iI a1)), (1, .int (iI a2))] := hl
  refine lv_iload_n hx hb dX5_keyRow_0 rfl (lv_at hl 0 rfl) ?_
  refine lv_bipush (v := iI 16) hx hb dX5_keyRow_1 (by decide) ?_
  refine gi_mul (z := (a1 * 16)) hx hb dX5_keyRow_3 rfl ?_
  refine lv_iload_n hx hb dX5_keyRow_4 rfl (lv_at hl 1 rfl) ?_
  refine gi_add (z := ((a1 * 16) + a2)) hx hb dX5_keyRow_5 rfl ?_
  refine lv_iconst (v := iI 4) hx hb dX5_keyRow_6 rfl ?_
  refine gi_mul (z := (((a1 * 16) + a2) * 4)) hx hb dX5_keyRow_7 rfl ?_
  exact g_iret hQ C hr hlocks hP hS dX5_keyRow_8 ⟨(((a1 * 16) + a2) * 4), rfl, rfl, rfl, rfl, (by first | omega | ((repeat' split) <;> omega))⟩
end
