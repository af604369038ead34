section
theorem dG_dX5_workKeys_0 : (decode cX5_workKeys 0 = .ok (.aload_n 0, 1)) ∧ (decode cX5_workKeys 1 = .ok (.getfield 33, 3)) ∧ (decode cX5_workKeys 4 = .ok (.lconst 0, 1)) ∧ (decode cX5_workKeys 5 = .ok (.invokestatic 123, 3)) ∧ (decode cX5_workKeys 8 = .ok (.iconst 0, 1)) ∧ (decode cX5_workKeys 9 = .ok (.istore_n 3, 1)) ∧ (decode cX5_workKeys 10 = .ok (.iload_n 3, 1)) ∧ (decode cX5_workKeys 11 = .ok (.aload_n 0, 1)) ∧ (decode cX5_workKeys 12 = .ok (.getfield 43, 3)) ∧ (decode cX5_workKeys 15 = .ok (.iload_n 1, 1)) ∧ (decode cX5_workKeys 16 = .ok (.iconst 0, 1)) ∧ (decode cX5_workKeys 17 = .ok (.invokevirtual 126, 3)) := by decide +kernel
theorem dX5_workKeys_0 : decode cX5_workKeys 0 = .ok (.aload_n 0, 1) := dG_dX5_workKeys_0.1
theorem dX5_workKeys_1 : decode cX5_workKeys 1 = .ok (.getfield 33, 3) := dG_dX5_workKeys_0.2.1
theorem dX5_workKeys_4 : decode cX5_workKeys 4 = .ok (.lconst 0, 1) := dG_dX5_workKeys_0.2.2.1
theorem dX5_workKeys_5 : decode cX5_workKeys 5 = .ok (.invokestatic 123, 3) := dG_dX5_workKeys_0.2.2.2.1
theorem dX5_workKeys_8 : decode cX5_workKeys 8 = .ok (.iconst 0, 1) := dG_dX5_workKeys_0.2.2.2.2.1
theorem dX5_workKeys_9 : decode cX5_workKeys 9 = .ok (.istore_n 3, 1) := dG_dX5_workKeys_0.2.2.2.2.2.1
theorem dX5_workKeys_10 : decode cX5_workKeys 10 = .ok (.iload_n 3, 1) := dG_dX5_workKeys_0.2.2.2.2.2.2.1
theorem dX5_workKeys_11 : decode cX5_workKeys 11 = .ok (.aload_n 0, 1) := dG_dX5_workKeys_0.2.2.2.2.2.2.2.1
theorem dX5_workKeys_12 : decode cX5_workKeys 12 = .ok (.getfield 43, 3) := dG_dX5_workKeys_0.2.2.2.2.2.2.2.2.1
theorem dX5_workKeys_15 : decode cX5_workKeys 15 = .ok (.iload_n 1, 1) := dG_dX5_workKeys_0.2.2.2.2.2.2.2.2.2.1
theorem dX5_workKeys_16 : decode cX5_workKeys 16 = .ok (.iconst 0, 1) := dG_dX5_workKeys_0.2.2.2.2.2.2.2.2.2.2.1
theorem dX5_workKeys_17 : decode cX5_workKeys 17 = .ok (.invokevirtual 126, 3) := dG_dX5_workKeys_0.2.2.2.2.2.2.2.2.2.2.2
theorem dG_dX5_workKeys_20 : (decode cX5_workKeys 20 = .ok (.if_icmp .ge 101, 3)) ∧ (decode cX5_workKeys 23 = .ok (.aload_n 0, 1)) ∧ (decode cX5_workKeys 24 = .ok (.iload_n 1, 1)) ∧ (decode cX5_workKeys 25 = .ok (.iload_n 2, 1)) ∧ (decode cX5_workKeys 26 = .ok (.iload_n 3, 1)) ∧ (decode cX5_workKeys 27 = .ok (.invokevirtual 131, 3)) ∧ (decode cX5_workKeys 30 = .ok (.aload_n 0, 1)) ∧ (decode cX5_workKeys 31 = .ok (.getfield 43, 3)) ∧ (decode cX5_workKeys 34 = .ok (.aload_n 0, 1)) ∧ (decode cX5_workKeys 35 = .ok (.getfield 27, 3)) ∧ (decode cX5_workKeys 38 = .ok (.invokevirtual 135, 3)) ∧ (decode cX5_workKeys 41 = .ok (.istore 4, 2)) := by decide +kernel
theorem dX5_workKeys_20 : decode cX5_workKeys 20 = .ok (.if_icmp .ge 101, 3) := dG_dX5_workKeys_20.1
theorem dX5_workKeys_23 : decode cX5_workKeys 23 = .ok (.aload_n 0, 1) := dG_dX5_workKeys_20.2.1
theorem dX5_workKeys_24 : decode cX5_workKeys 24 = .ok (.iload_n 1, 1) := dG_dX5_workKeys_20.2.2.1
theorem dX5_workKeys_25 : decode cX5_workKeys 25 = .ok (.iload_n 2, 1) := dG_dX5_workKeys_20.2.2.2.1
theorem dX5_workKeys_26 : decode cX5_workKeys 26 = .ok (.iload_n 3, 1) := dG_dX5_workKeys_20.2.2.2.2.1
theorem dX5_workKeys_27 : decode cX5_workKeys 27 = .ok (.invokevirtual 131, 3) := dG_dX5_workKeys_20.2.2.2.2.2.1
theorem dX5_workKeys_30 : decode cX5_workKeys 30 = .ok (.aload_n 0, 1) := dG_dX5_workKeys_20.2.2.2.2.2.2.1
theorem dX5_workKeys_31 : decode cX5_workKeys 31 = .ok (.getfield 43, 3) := dG_dX5_workKeys_20.2.2.2.2.2.2.2.1
theorem dX5_workKeys_34 : decode cX5_workKeys 34 = .ok (.aload_n 0, 1) := dG_dX5_workKeys_20.2.2.2.2.2.2.2.2.1
theorem dX5_workKeys_35 : decode cX5_workKeys 35 = .ok (.getfield 27, 3) := dG_dX5_workKeys_20.2.2.2.2.2.2.2.2.2.1
theorem dX5_workKeys_38 : decode cX5_workKeys 38 = .ok (.invokevirtual 135, 3) := dG_dX5_workKeys_20.2.2.2.2.2.2.2.2.2.2.1
theorem dX5_workKeys_41 : decode cX5_workKeys 41 = .ok (.istore 4, 2) := dG_dX5_workKeys_20.2.2.2.2.2.2.2.2.2.2.2
theorem dG_dX5_workKeys_43 : (decode cX5_workKeys 43 = .ok (.aload_n 0, 1)) ∧ (decode cX5_workKeys 44 = .ok (.getfield 33, 3)) ∧ (decode cX5_workKeys 47 = .ok (.iconst 0, 1)) ∧ (decode cX5_workKeys 48 = .ok (.dup2, 1)) ∧ (decode cX5_workKeys 49 = .ok (.laload, 1)) ∧ (decode cX5_workKeys 50 = .ok (.iload 4, 2)) ∧ (decode cX5_workKeys 52 = .ok (.i2l, 1)) ∧ (decode cX5_workKeys 53 = .ok (.ladd, 1)) ∧ (decode cX5_workKeys 54 = .ok (.lastore, 1)) ∧ (decode cX5_workKeys 55 = .ok (.aload_n 0, 1)) ∧ (decode cX5_workKeys 56 = .ok (.getfield 33, 3)) ∧ (decode cX5_workKeys 59 = .ok (.iconst 1, 1)) := by decide +kernel
theorem dX5_workKeys_43 : decode cX5_workKeys 43 = .ok (.aload_n 0, 1) := dG_dX5_workKeys_43.1
theorem dX5_workKeys_44 : decode cX5_workKeys 44 = .ok (.getfield 33, 3) := dG_dX5_workKeys_43.2.1
theorem dX5_workKeys_47 : decode cX5_workKeys 47 = .ok (.iconst 0, 1) := dG_dX5_workKeys_43.2.2.1
theorem dX5_workKeys_48 : decode cX5_workKeys 48 = .ok (.dup2, 1) := dG_dX5_workKeys_43.2.2.2.1
theorem dX5_workKeys_49 : decode cX5_workKeys 49 = .ok (.laload, 1) := dG_dX5_workKeys_43.2.2.2.2.1
theorem dX5_workKeys_50 : decode cX5_workKeys 50 = .ok (.iload 4, 2) := dG_dX5_workKeys_43.2.2.2.2.2.1
theorem dX5_workKeys_52 : decode cX5_workKeys 52 = .ok (.i2l, 1) := dG_dX5_workKeys_43.2.2.2.2.2.2.1
theorem dX5_workKeys_53 : decode cX5_workKeys 53 = .ok (.ladd, 1) := dG_dX5_workKeys_43.2.2.2.2.2.2.2.1
theorem dX5_workKeys_54 : decode cX5_workKeys 54 = .ok (.lastore, 1) := dG_dX5_workKeys_43.2.2.2.2.2.2.2.2.1
theorem dX5_workKeys_55 : decode cX5_workKeys 55 = .ok (.aload_n 0, 1) := dG_dX5_workKeys_43.2.2.2.2.2.2.2.2.2.1
theorem dX5_workKeys_56 : decode cX5_workKeys 56 = .ok (.getfield 33, 3) := dG_dX5_workKeys_43.2.2.2.2.2.2.2.2.2.2.1
theorem dX5_workKeys_59 : decode cX5_workKeys 59 = .ok (.iconst 1, 1) := dG_dX5_workKeys_43.2.2.2.2.2.2.2.2.2.2.2
theorem dG_dX5_workKeys_60 : (decode cX5_workKeys 60 = .ok (.iload_n 3, 1)) ∧ (decode cX5_workKeys 61 = .ok (.ifCond .ne 9, 3)) ∧ (decode cX5_workKeys 64 = .ok (.iload 4, 2)) ∧ (decode cX5_workKeys 66 = .ok (.i2l, 1)) ∧ (decode cX5_workKeys 67 = .ok (.goto 15, 3)) ∧ (decode cX5_workKeys 70 = .ok (.aload_n 0, 1)) ∧ (decode cX5_workKeys 71 = .ok (.getfield 33, 3)) ∧ (decode cX5_workKeys 74 = .ok (.iconst 1, 1)) ∧ (decode cX5_workKeys 75 = .ok (.laload, 1)) ∧ (decode cX5_workKeys 76 = .ok (.iload 4, 2)) ∧ (decode cX5_workKeys 78 = .ok (.i2l, 1)) ∧ (decode cX5_workKeys 79 = .ok (.invokestatic 139, 3)) := by decide +kernel
theorem dX5_workKeys_60 : decode cX5_workKeys 60 = .ok (.iload_n 3, 1) := dG_dX5_workKeys_60.1
theorem dX5_workKeys_61 : decode cX5_workKeys 61 = .ok (.ifCond .ne 9, 3) := dG_dX5_workKeys_60.2.1
theorem dX5_workKeys_64 : decode cX5_workKeys 64 = .ok (.iload 4, 2) := dG_dX5_workKeys_60.2.2.1
theorem dX5_workKeys_66 : decode cX5_workKeys 66 = .ok (.i2l, 1) := dG_dX5_workKeys_60.2.2.2.1
theorem dX5_workKeys_67 : decode cX5_workKeys 67 = .ok (.goto 15, 3) := dG_dX5_workKeys_60.2.2.2.2.1
theorem dX5_workKeys_70 : decode cX5_workKeys 70 = .ok (.aload_n 0, 1) := dG_dX5_workKeys_60.2.2.2.2.2.1
theorem dX5_workKeys_71 : decode cX5_workKeys 71 = .ok (.getfield 33, 3) := dG_dX5_workKeys_60.2.2.2.2.2.2.1
theorem dX5_workKeys_74 : decode cX5_workKeys 74 = .ok (.iconst 1, 1) := dG_dX5_workKeys_60.2.2.2.2.2.2.2.1
theorem dX5_workKeys_75 : decode cX5_workKeys 75 = .ok (.laload, 1) := dG_dX5_workKeys_60.2.2.2.2.2.2.2.2.1
theorem dX5_workKeys_76 : decode cX5_workKeys 76 = .ok (.iload 4, 2) := dG_dX5_workKeys_60.2.2.2.2.2.2.2.2.2.1
theorem dX5_workKeys_78 : decode cX5_workKeys 78 = .ok (.i2l, 1) := dG_dX5_workKeys_60.2.2.2.2.2.2.2.2.2.2.1
theorem dX5_workKeys_79 : decode cX5_workKeys 79 = .ok (.invokestatic 139, 3) := dG_dX5_workKeys_60.2.2.2.2.2.2.2.2.2.2.2
theorem dG_dX5_workKeys_82 : (decode cX5_workKeys 82 = .ok (.lastore, 1)) ∧ (decode cX5_workKeys 83 = .ok (.aload_n 0, 1)) ∧ (decode cX5_workKeys 84 = .ok (.getfield 33, 3)) ∧ (decode cX5_workKeys 87 = .ok (.iconst 2, 1)) ∧ (decode cX5_workKeys 88 = .ok (.dup2, 1)) ∧ (decode cX5_workKeys 89 = .ok (.laload, 1)) ∧ (decode cX5_workKeys 90 = .ok (.aload_n 0, 1)) ∧ (decode cX5_workKeys 91 = .ok (.getfield 27, 3)) ∧ (decode cX5_workKeys 94 = .ok (.iconst 0, 1)) ∧ (decode cX5_workKeys 95 = .ok (.iaload, 1)) ∧ (decode cX5_workKeys 96 = .ok (.i2l, 1)) ∧ (decode cX5_workKeys 97 = .ok (.ladd, 1)) := by decide +kernel
theorem dX5_workKeys_82 : decode cX5_workKeys 82 = .ok (.lastore, 1) := dG_dX5_workKeys_82.1
theorem dX5_workKeys_83 : decode cX5_workKeys 83 = .ok (.aload_n 0, 1) := dG_dX5_workKeys_82.2.1
theorem dX5_workKeys_84 : decode cX5_workKeys 84 = .ok (.getfield 33, 3) := dG_dX5_workKeys_82.2.2.1
theorem dX5_workKeys_87 : decode cX5_workKeys 87 = .ok (.iconst 2, 1) := dG_dX5_workKeys_82.2.2.2.1
theorem dX5_workKeys_88 : decode cX5_workKeys 88 = .ok (.dup2, 1) := dG_dX5_workKeys_82.2.2.2.2.1
theorem dX5_workKeys_89 : decode cX5_workKeys 89 = .ok (.laload, 1) := dG_dX5_workKeys_82.2.2.2.2.2.1
theorem dX5_workKeys_90 : decode cX5_workKeys 90 = .ok (.aload_n 0, 1) := dG_dX5_workKeys_82.2.2.2.2.2.2.1
theorem dX5_workKeys_91 : decode cX5_workKeys 91 = .ok (.getfield 27, 3) := dG_dX5_workKeys_82.2.2.2.2.2.2.2.1
theorem dX5_workKeys_94 : decode cX5_workKeys 94 = .ok (.iconst 0, 1) := dG_dX5_workKeys_82.2.2.2.2.2.2.2.2.1
theorem dX5_workKeys_95 : decode cX5_workKeys 95 = .ok (.iaload, 1) := dG_dX5_workKeys_82.2.2.2.2.2.2.2.2.2.1
theorem dX5_workKeys_96 : decode cX5_workKeys 96 = .ok (.i2l, 1) := dG_dX5_workKeys_82.2.2.2.2.2.2.2.2.2.2.1
theorem dX5_workKeys_97 : decode cX5_workKeys 97 = .ok (.ladd, 1) := dG_dX5_workKeys_82.2.2.2.2.2.2.2.2.2.2.2
theorem dG_dX5_workKeys_98 : (decode cX5_workKeys 98 = .ok (.lastore, 1)) ∧ (decode cX5_workKeys 99 = .ok (.aload_n 0, 1)) ∧ (decode cX5_workKeys 100 = .ok (.getfield 33, 3)) ∧ (decode cX5_workKeys 103 = .ok (.iconst 3, 1)) ∧ (decode cX5_workKeys 104 = .ok (.dup2, 1)) ∧ (decode cX5_workKeys 105 = .ok (.laload, 1)) ∧ (decode cX5_workKeys 106 = .ok (.aload_n 0, 1)) ∧ (decode cX5_workKeys 107 = .ok (.getfield 27, 3)) ∧ (decode cX5_workKeys 110 = .ok (.iconst 1, 1)) ∧ (decode cX5_workKeys 111 = .ok (.iaload, 1)) ∧ (decode cX5_workKeys 112 = .ok (.i2l, 1)) ∧ (decode cX5_workKeys 113 = .ok (.ladd, 1)) := by decide +kernel
theorem dX5_workKeys_98 : decode cX5_workKeys 98 = .ok (.lastore, 1) := dG_dX5_workKeys_98.1
theorem dX5_workKeys_99 : decode cX5_workKeys 99 = .ok (.aload_n 0, 1) := dG_dX5_workKeys_98.2.1
theorem dX5_workKeys_100 : decode cX5_workKeys 100 = .ok (.getfield 33, 3) := dG_dX5_workKeys_98.2.2.1
theorem dX5_workKeys_103 : decode cX5_workKeys 103 = .ok (.iconst 3, 1) := dG_dX5_workKeys_98.2.2.2.1
theorem dX5_workKeys_104 : decode cX5_workKeys 104 = .ok (.dup2, 1) := dG_dX5_workKeys_98.2.2.2.2.1
theorem dX5_workKeys_105 : decode cX5_workKeys 105 = .ok (.laload, 1) := dG_dX5_workKeys_98.2.2.2.2.2.1
theorem dX5_workKeys_106 : decode cX5_workKeys 106 = .ok (.aload_n 0, 1) := dG_dX5_workKeys_98.2.2.2.2.2.2.1
theorem dX5_workKeys_107 : decode cX5_workKeys 107 = .ok (.getfield 27, 3) := dG_dX5_workKeys_98.2.2.2.2.2.2.2.1
theorem dX5_workKeys_110 : decode cX5_workKeys 110 = .ok (.iconst 1, 1) := dG_dX5_workKeys_98.2.2.2.2.2.2.2.2.1
theorem dX5_workKeys_111 : decode cX5_workKeys 111 = .ok (.iaload, 1) := dG_dX5_workKeys_98.2.2.2.2.2.2.2.2.2.1
theorem dX5_workKeys_112 : decode cX5_workKeys 112 = .ok (.i2l, 1) := dG_dX5_workKeys_98.2.2.2.2.2.2.2.2.2.2.1
theorem dX5_workKeys_113 : decode cX5_workKeys 113 = .ok (.ladd, 1) := dG_dX5_workKeys_98.2.2.2.2.2.2.2.2.2.2.2
theorem dG_dX5_workKeys_114 : (decode cX5_workKeys 114 = .ok (.lastore, 1)) ∧ (decode cX5_workKeys 115 = .ok (.iinc 3 1, 3)) ∧ (decode cX5_workKeys 118 = .ok (.goto (-108), 3)) ∧ (decode cX5_workKeys 121 = .ok (.iconst 0, 1)) ∧ (decode cX5_workKeys 122 = .ok (.istore_n 3, 1)) ∧ (decode cX5_workKeys 123 = .ok (.iload_n 3, 1)) ∧ (decode cX5_workKeys 124 = .ok (.aload_n 0, 1)) ∧ (decode cX5_workKeys 125 = .ok (.getfield 43, 3)) ∧ (decode cX5_workKeys 128 = .ok (.getfield 145, 3)) ∧ (decode cX5_workKeys 131 = .ok (.if_icmp .ge 35, 3)) ∧ (decode cX5_workKeys 134 = .ok (.aload_n 0, 1)) ∧ (decode cX5_workKeys 135 = .ok (.getfield 37, 3)) := by decide +kernel
theorem dX5_workKeys_114 : decode cX5_workKeys 114 = .ok (.lastore, 1) := dG_dX5_workKeys_114.1
theorem dX5_workKeys_115 : decode cX5_workKeys 115 = .ok (.iinc 3 1, 3) := dG_dX5_workKeys_114.2.1
theorem dX5_workKeys_118 : decode cX5_workKeys 118 = .ok (.goto (-108), 3) := dG_dX5_workKeys_114.2.2.1
theorem dX5_workKeys_121 : decode cX5_workKeys 121 = .ok (.iconst 0, 1) := dG_dX5_workKeys_114.2.2.2.1
theorem dX5_workKeys_122 : decode cX5_workKeys 122 = .ok (.istore_n 3, 1) := dG_dX5_workKeys_114.2.2.2.2.1
theorem dX5_workKeys_123 : decode cX5_workKeys 123 = .ok (.iload_n 3, 1) := dG_dX5_workKeys_114.2.2.2.2.2.1
theorem dX5_workKeys_124 : decode cX5_workKeys 124 = .ok (.aload_n 0, 1) := dG_dX5_workKeys_114.2.2.2.2.2.2.1
theorem dX5_workKeys_125 : decode cX5_workKeys 125 = .ok (.getfield 43, 3) := dG_dX5_workKeys_114.2.2.2.2.2.2.2.1
theorem dX5_workKeys_128 : decode cX5_workKeys 128 = .ok (.getfield 145, 3) := dG_dX5_workKeys_114.2.2.2.2.2.2.2.2.1
theorem dX5_workKeys_131 : decode cX5_workKeys 131 = .ok (.if_icmp .ge 35, 3) := dG_dX5_workKeys_114.2.2.2.2.2.2.2.2.2.1
theorem dX5_workKeys_134 : decode cX5_workKeys 134 = .ok (.aload_n 0, 1) := dG_dX5_workKeys_114.2.2.2.2.2.2.2.2.2.2.1
theorem dX5_workKeys_135 : decode cX5_workKeys 135 = .ok (.getfield 37, 3) := dG_dX5_workKeys_114.2.2.2.2.2.2.2.2.2.2.2
theorem dG_dX5_workKeys_138 : (decode cX5_workKeys 138 = .ok (.iload_n 1, 1)) ∧ (decode cX5_workKeys 139 = .ok (.iload_n 2, 1)) ∧ (decode cX5_workKeys 140 = .ok (.invokestatic 148, 3)) ∧ (decode cX5_workKeys 143 = .ok (.iload_n 3, 1)) ∧ (decode cX5_workKeys 144 = .ok (.iadd, 1)) ∧ (decode cX5_workKeys 145 = .ok (.aload_n 0, 1)) ∧ (decode cX5_workKeys 146 = .ok (.getfield 33, 3)) ∧ (decode cX5_workKeys 149 = .ok (.aload_n 0, 1)) ∧ (decode cX5_workKeys 150 = .ok (.getfield 43, 3)) ∧ (decode cX5_workKeys 153 = .ok (.getfield 151, 3)) ∧ (decode cX5_workKeys 156 = .ok (.iload_n 3, 1)) ∧ (decode cX5_workKeys 157 = .ok (.iaload, 1)) := by decide +kernel
theorem dX5_workKeys_138 : decode cX5_workKeys 138 = .ok (.iload_n 1, 1) := dG_dX5_workKeys_138.1
theorem dX5_workKeys_139 : decode cX5_workKeys 139 = .ok (.iload_n 2, 1) := dG_dX5_workKeys_138.2.1
theorem dX5_workKeys_140 : decode cX5_workKeys 140 = .ok (.invokestatic 148, 3) := dG_dX5_workKeys_138.2.2.1
theorem dX5_workKeys_143 : decode cX5_workKeys 143 = .ok (.iload_n 3, 1) := dG_dX5_workKeys_138.2.2.2.1
theorem dX5_workKeys_144 : decode cX5_workKeys 144 = .ok (.iadd, 1) := dG_dX5_workKeys_138.2.2.2.2.1
theorem dX5_workKeys_145 : decode cX5_workKeys 145 = .ok (.aload_n 0, 1) := dG_dX5_workKeys_138.2.2.2.2.2.1
theorem dX5_workKeys_146 : decode cX5_workKeys 146 = .ok (.getfield 33, 3) := dG_dX5_workKeys_138.2.2.2.2.2.2.1
theorem dX5_workKeys_149 : decode cX5_workKeys 149 = .ok (.aload_n 0, 1) := dG_dX5_workKeys_138.2.2.2.2.2.2.2.1
theorem dX5_workKeys_150 : decode cX5_workKeys 150 = .ok (.getfield 43, 3) := dG_dX5_workKeys_138.2.2.2.2.2.2.2.2.1
theorem dX5_workKeys_153 : decode cX5_workKeys 153 = .ok (.getfield 151, 3) := dG_dX5_workKeys_138.2.2.2.2.2.2.2.2.2.1
theorem dX5_workKeys_156 : decode cX5_workKeys 156 = .ok (.iload_n 3, 1) := dG_dX5_workKeys_138.2.2.2.2.2.2.2.2.2.2.1
theorem dX5_workKeys_157 : decode cX5_workKeys 157 = .ok (.iaload, 1) := dG_dX5_workKeys_138.2.2.2.2.2.2.2.2.2.2.2
theorem dG_dX5_workKeys_158 : (decode cX5_workKeys 158 = .ok (.laload, 1)) ∧ (decode cX5_workKeys 159 = .ok (.lastore, 1)) ∧ (decode cX5_workKeys 160 = .ok (.iinc 3 1, 3)) ∧ (decode cX5_workKeys 163 = .ok (.goto (-40), 3)) ∧ (decode cX5_workKeys 166 = .ok (.return_, 1)) ∧ (decode cX5_keyOf 0 = .ok (.aload_n 0, 1)) ∧ (decode cX5_keyOf 1 = .ok (.getfield 37, 3)) ∧ (decode cX5_keyOf 4 = .ok (.iload_n 1, 1)) ∧ (decode cX5_keyOf 5 = .ok (.iload_n 2, 1)) ∧ (decode cX5_keyOf 6 = .ok (.invokestatic 148, 3)) ∧ (decode cX5_keyOf 9 = .ok (.iload_n 3, 1)) ∧ (decode cX5_keyOf 10 = .ok (.iadd, 1)) := by decide +kernel
theorem dX5_workKeys_158 : decode cX5_workKeys 158 = .ok (.laload, 1) := dG_dX5_workKeys_158.1
theorem dX5_workKeys_159 : decode cX5_workKeys 159 = .ok (.lastore, 1) := dG_dX5_workKeys_158.2.1
theorem dX5_workKeys_160 : decode cX5_workKeys 160 = .ok (.iinc 3 1, 3) := dG_dX5_workKeys_158.2.2.1
theorem dX5_workKeys_163 : decode cX5_workKeys 163 = .ok (.goto (-40), 3) := dG_dX5_workKeys_158.2.2.2.1
theorem dX5_workKeys_166 : decode cX5_workKeys 166 = .ok (.return_, 1) := dG_dX5_workKeys_158.2.2.2.2.1
theorem dX5_keyOf_0 : decode cX5_keyOf 0 = .ok (.aload_n 0, 1) := dG_dX5_workKeys_158.2.2.2.2.2.1
theorem dX5_keyOf_1 : decode cX5_keyOf 1 = .ok (.getfield 37, 3) := dG_dX5_workKeys_158.2.2.2.2.2.2.1
theorem dX5_keyOf_4 : decode cX5_keyOf 4 = .ok (.iload_n 1, 1) := dG_dX5_workKeys_158.2.2.2.2.2.2.2.1
theorem dX5_keyOf_5 : decode cX5_keyOf 5 = .ok (.iload_n 2, 1) := dG_dX5_workKeys_158.2.2.2.2.2.2.2.2.1
theorem dX5_keyOf_6 : decode cX5_keyOf 6 = .ok (.invokestatic 148, 3) := dG_dX5_workKeys_158.2.2.2.2.2.2.2.2.2.1
theorem dX5_keyOf_9 : decode cX5_keyOf 9 = .ok (.iload_n 3, 1) := dG_dX5_workKeys_158.2.2.2.2.2.2.2.2.2.2.1
theorem dX5_keyOf_10 : decode cX5_keyOf 10 = .ok (.iadd, 1) := dG_dX5_workKeys_158.2.2.2.2.2.2.2.2.2.2.2
theorem dG_dX5_keyOf_11 : (decode cX5_keyOf 11 = .ok (.laload, 1)) ∧ (decode cX5_keyOf 12 = .ok (.lreturn, 1)) ∧ (decode cX5_manyAhead 0 = .ok (.iconst 0, 1)) ∧ (decode cX5_manyAhead 1 = .ok (.istore_n 3, 1)) ∧ (decode cX5_manyAhead 2 = .ok (.iconst 0, 1)) ∧ (decode cX5_manyAhead 3 = .ok (.istore 4, 2)) ∧ (decode cX5_manyAhead 5 = .ok (.iload 4, 2)) ∧ (decode cX5_manyAhead 7 = .ok (.aload_n 0, 1)) ∧ (decode cX5_manyAhead 8 = .ok (.getfield 51, 3)) ∧ (decode cX5_manyAhead 11 = .ok (.getfield 157, 3)) ∧ (decode cX5_manyAhead 14 = .ok (.if_icmp .ge 36, 3)) ∧ (decode cX5_manyAhead 17 = .ok (.aload_n 0, 1)) := by decide +kernel
theorem dX5_keyOf_11 : decode cX5_keyOf 11 = .ok (.laload, 1) := dG_dX5_keyOf_11.1
theorem dX5_keyOf_12 : decode cX5_keyOf 12 = .ok (.lreturn, 1) := dG_dX5_keyOf_11.2.1
theorem dX5_manyAhead_0 : decode cX5_manyAhead 0 = .ok (.iconst 0, 1) := dG_dX5_keyOf_11.2.2.1
theorem dX5_manyAhead_1 : decode cX5_manyAhead 1 = .ok (.istore_n 3, 1) := dG_dX5_keyOf_11.2.2.2.1
theorem dX5_manyAhead_2 : decode cX5_manyAhead 2 = .ok (.iconst 0, 1) := dG_dX5_keyOf_11.2.2.2.2.1
theorem dX5_manyAhead_3 : decode cX5_manyAhead 3 = .ok (.istore 4, 2) := dG_dX5_keyOf_11.2.2.2.2.2.1
theorem dX5_manyAhead_5 : decode cX5_manyAhead 5 = .ok (.iload 4, 2) := dG_dX5_keyOf_11.2.2.2.2.2.2.1
theorem dX5_manyAhead_7 : decode cX5_manyAhead 7 = .ok (.aload_n 0, 1) := dG_dX5_keyOf_11.2.2.2.2.2.2.2.1
theorem dX5_manyAhead_8 : decode cX5_manyAhead 8 = .ok (.getfield 51, 3) := dG_dX5_keyOf_11.2.2.2.2.2.2.2.2.1
theorem dX5_manyAhead_11 : decode cX5_manyAhead 11 = .ok (.getfield 157, 3) := dG_dX5_keyOf_11.2.2.2.2.2.2.2.2.2.1
theorem dX5_manyAhead_14 : decode cX5_manyAhead 14 = .ok (.if_icmp .ge 36, 3) := dG_dX5_keyOf_11.2.2.2.2.2.2.2.2.2.2.1
theorem dX5_manyAhead_17 : decode cX5_manyAhead 17 = .ok (.aload_n 0, 1) := dG_dX5_keyOf_11.2.2.2.2.2.2.2.2.2.2.2
theorem dG_dX5_manyAhead_18 : (decode cX5_manyAhead 18 = .ok (.getfield 51, 3)) ∧ (decode cX5_manyAhead 21 = .ok (.iload_n 1, 1)) ∧ (decode cX5_manyAhead 22 = .ok (.iload 4, 2)) ∧ (decode cX5_manyAhead 24 = .ok (.invokevirtual 166, 3)) ∧ (decode cX5_manyAhead 27 = .ok (.ifCond .eq 17, 3)) ∧ (decode cX5_manyAhead 30 = .ok (.aload_n 0, 1)) ∧ (decode cX5_manyAhead 31 = .ok (.iload_n 1, 1)) ∧ (decode cX5_manyAhead 32 = .ok (.iload 4, 2)) ∧ (decode cX5_manyAhead 34 = .ok (.iload_n 2, 1)) ∧ (decode cX5_manyAhead 35 = .ok (.invokevirtual 177, 3)) ∧ (decode cX5_manyAhead 38 = .ok (.ifCond .eq 6, 3)) ∧ (decode cX5_manyAhead 41 = .ok (.iinc 3 1, 3)) := by decide +kernel
theorem dX5_manyAhead_18 : decode cX5_manyAhead 18 = .ok (.getfield 51, 3) := dG_dX5_manyAhead_18.1
theorem dX5_manyAhead_21 : decode cX5_manyAhead 21 = .ok (.iload_n 1, 1) := dG_dX5_manyAhead_18.2.1
theorem dX5_manyAhead_22 : decode cX5_manyAhead 22 = .ok (.iload 4, 2) := dG_dX5_manyAhead_18.2.2.1
theorem dX5_manyAhead_24 : decode cX5_manyAhead 24 = .ok (.invokevirtual 166, 3) := dG_dX5_manyAhead_18.2.2.2.1
theorem dX5_manyAhead_27 : decode cX5_manyAhead 27 = .ok (.ifCond .eq 17, 3) := dG_dX5_manyAhead_18.2.2.2.2.1
theorem dX5_manyAhead_30 : decode cX5_manyAhead 30 = .ok (.aload_n 0, 1) := dG_dX5_manyAhead_18.2.2.2.2.2.1
theorem dX5_manyAhead_31 : decode cX5_manyAhead 31 = .ok (.iload_n 1, 1) := dG_dX5_manyAhead_18.2.2.2.2.2.2.1
theorem dX5_manyAhead_32 : decode cX5_manyAhead 32 = .ok (.iload 4, 2) := dG_dX5_manyAhead_18.2.2.2.2.2.2.2.1
theorem dX5_manyAhead_34 : decode cX5_manyAhead 34 = .ok (.iload_n 2, 1) := dG_dX5_manyAhead_18.2.2.2.2.2.2.2.2.1
theorem dX5_manyAhead_35 : decode cX5_manyAhead 35 = .ok (.invokevirtual 177, 3) := dG_dX5_manyAhead_18.2.2.2.2.2.2.2.2.2.1
theorem dX5_manyAhead_38 : decode cX5_manyAhead 38 = .ok (.ifCond .eq 6, 3) := dG_dX5_manyAhead_18.2.2.2.2.2.2.2.2.2.2.1
theorem dX5_manyAhead_41 : decode cX5_manyAhead 41 = .ok (.iinc 3 1, 3) := dG_dX5_manyAhead_18.2.2.2.2.2.2.2.2.2.2.2
theorem dG_dX5_manyAhead_44 : (decode cX5_manyAhead 44 = .ok (.iinc 4 1, 3)) ∧ (decode cX5_manyAhead 47 = .ok (.goto (-42), 3)) ∧ (decode cX5_manyAhead 50 = .ok (.iload_n 3, 1)) ∧ (decode cX5_manyAhead 51 = .ok (.ireturn, 1)) ∧ (decode cX5_lowestAsked 0 = .ok (.aload_n 0, 1)) ∧ (decode cX5_lowestAsked 1 = .ok (.getfield 43, 3)) ∧ (decode cX5_lowestAsked 4 = .ok (.getfield 181, 3)) ∧ (decode cX5_lowestAsked 7 = .ok (.ifCond .eq 7, 3)) ∧ (decode cX5_lowestAsked 10 = .ok (.iconst 0, 1)) ∧ (decode cX5_lowestAsked 11 = .ok (.goto 4, 3)) ∧ (decode cX5_lowestAsked 14 = .ok (.iload_n 1, 1)) ∧ (decode cX5_lowestAsked 15 = .ok (.ireturn, 1)) := by decide +kernel
theorem dX5_manyAhead_44 : decode cX5_manyAhead 44 = .ok (.iinc 4 1, 3) := dG_dX5_manyAhead_44.1
theorem dX5_manyAhead_47 : decode cX5_manyAhead 47 = .ok (.goto (-42), 3) := dG_dX5_manyAhead_44.2.1
theorem dX5_manyAhead_50 : decode cX5_manyAhead 50 = .ok (.iload_n 3, 1) := dG_dX5_manyAhead_44.2.2.1
theorem dX5_manyAhead_51 : decode cX5_manyAhead 51 = .ok (.ireturn, 1) := dG_dX5_manyAhead_44.2.2.2.1
theorem dX5_lowestAsked_0 : decode cX5_lowestAsked 0 = .ok (.aload_n 0, 1) := dG_dX5_manyAhead_44.2.2.2.2.1
theorem dX5_lowestAsked_1 : decode cX5_lowestAsked 1 = .ok (.getfield 43, 3) := dG_dX5_manyAhead_44.2.2.2.2.2.1
theorem dX5_lowestAsked_4 : decode cX5_lowestAsked 4 = .ok (.getfield 181, 3) := dG_dX5_manyAhead_44.2.2.2.2.2.2.1
theorem dX5_lowestAsked_7 : decode cX5_lowestAsked 7 = .ok (.ifCond .eq 7, 3) := dG_dX5_manyAhead_44.2.2.2.2.2.2.2.1
theorem dX5_lowestAsked_10 : decode cX5_lowestAsked 10 = .ok (.iconst 0, 1) := dG_dX5_manyAhead_44.2.2.2.2.2.2.2.2.1
theorem dX5_lowestAsked_11 : decode cX5_lowestAsked 11 = .ok (.goto 4, 3) := dG_dX5_manyAhead_44.2.2.2.2.2.2.2.2.2.1
theorem dX5_lowestAsked_14 : decode cX5_lowestAsked 14 = .ok (.iload_n 1, 1) := dG_dX5_manyAhead_44.2.2.2.2.2.2.2.2.2.2.1
theorem dX5_lowestAsked_15 : decode cX5_lowestAsked 15 = .ok (.ireturn, 1) := dG_dX5_manyAhead_44.2.2.2.2.2.2.2.2.2.2.2
theorem dG_dX5_isAhead_0 : (decode cX5_isAhead 0 = .ok (.iload_n 1, 1)) ∧ (decode cX5_isAhead 1 = .ok (.istore 4, 2)) ∧ (decode cX5_isAhead 3 = .ok (.iload 4, 2)) ∧ (decode cX5_isAhead 5 = .ok (.aload_n 0, 1)) ∧ (decode cX5_isAhead 6 = .ok (.iload_n 1, 1)) ∧ (decode cX5_isAhead 7 = .ok (.invokevirtual 162, 3)) ∧ (decode cX5_isAhead 10 = .ok (.if_icmp .lt 101, 3)) ∧ (decode cX5_isAhead 13 = .ok (.iconst 0, 1)) ∧ (decode cX5_isAhead 14 = .ok (.istore 5, 2)) ∧ (decode cX5_isAhead 16 = .ok (.iload 5, 2)) ∧ (decode cX5_isAhead 18 = .ok (.aload_n 0, 1)) ∧ (decode cX5_isAhead 19 = .ok (.getfield 43, 3)) := by decide +kernel
theorem dX5_isAhead_0 : decode cX5_isAhead 0 = .ok (.iload_n 1, 1) := dG_dX5_isAhead_0.1
theorem dX5_isAhead_1 : decode cX5_isAhead 1 = .ok (.istore 4, 2) := dG_dX5_isAhead_0.2.1
theorem dX5_isAhead_3 : decode cX5_isAhead 3 = .ok (.iload 4, 2) := dG_dX5_isAhead_0.2.2.1
theorem dX5_isAhead_5 : decode cX5_isAhead 5 = .ok (.aload_n 0, 1) := dG_dX5_isAhead_0.2.2.2.1
theorem dX5_isAhead_6 : decode cX5_isAhead 6 = .ok (.iload_n 1, 1) := dG_dX5_isAhead_0.2.2.2.2.1
theorem dX5_isAhead_7 : decode cX5_isAhead 7 = .ok (.invokevirtual 162, 3) := dG_dX5_isAhead_0.2.2.2.2.2.1
theorem dX5_isAhead_10 : decode cX5_isAhead 10 = .ok (.if_icmp .lt 101, 3) := dG_dX5_isAhead_0.2.2.2.2.2.2.1
theorem dX5_isAhead_13 : decode cX5_isAhead 13 = .ok (.iconst 0, 1) := dG_dX5_isAhead_0.2.2.2.2.2.2.2.1
theorem dX5_isAhead_14 : decode cX5_isAhead 14 = .ok (.istore 5, 2) := dG_dX5_isAhead_0.2.2.2.2.2.2.2.2.1
theorem dX5_isAhead_16 : decode cX5_isAhead 16 = .ok (.iload 5, 2) := dG_dX5_isAhead_0.2.2.2.2.2.2.2.2.2.1
theorem dX5_isAhead_18 : decode cX5_isAhead 18 = .ok (.aload_n 0, 1) := dG_dX5_isAhead_0.2.2.2.2.2.2.2.2.2.2.1
theorem dX5_isAhead_19 : decode cX5_isAhead 19 = .ok (.getfield 43, 3) := dG_dX5_isAhead_0.2.2.2.2.2.2.2.2.2.2.2
theorem dG_dX5_isAhead_22 : (decode cX5_isAhead 22 = .ok (.getfield 145, 3)) ∧ (decode cX5_isAhead 25 = .ok (.if_icmp .ge 80, 3)) ∧ (decode cX5_isAhead 28 = .ok (.aload_n 0, 1)) ∧ (decode cX5_isAhead 29 = .ok (.iload 4, 2)) ∧ (decode cX5_isAhead 31 = .ok (.iload_n 2, 1)) ∧ (decode cX5_isAhead 32 = .ok (.iload 5, 2)) ∧ (decode cX5_isAhead 34 = .ok (.invokevirtual 185, 3)) ∧ (decode cX5_isAhead 37 = .ok (.lstore 6, 2)) ∧ (decode cX5_isAhead 39 = .ok (.aload_n 0, 1)) ∧ (decode cX5_isAhead 40 = .ok (.iload 4, 2)) ∧ (decode cX5_isAhead 42 = .ok (.iload_n 3, 1)) ∧ (decode cX5_isAhead 43 = .ok (.iload 5, 2)) := by decide +kernel
theorem dX5_isAhead_22 : decode cX5_isAhead 22 = .ok (.getfield 145, 3) := dG_dX5_isAhead_22.1
theorem dX5_isAhead_25 : decode cX5_isAhead 25 = .ok (.if_icmp .ge 80, 3) := dG_dX5_isAhead_22.2.1
theorem dX5_isAhead_28 : decode cX5_isAhead 28 = .ok (.aload_n 0, 1) := dG_dX5_isAhead_22.2.2.1
theorem dX5_isAhead_29 : decode cX5_isAhead 29 = .ok (.iload 4, 2) := dG_dX5_isAhead_22.2.2.2.1
theorem dX5_isAhead_31 : decode cX5_isAhead 31 = .ok (.iload_n 2, 1) := dG_dX5_isAhead_22.2.2.2.2.1
theorem dX5_isAhead_32 : decode cX5_isAhead 32 = .ok (.iload 5, 2) := dG_dX5_isAhead_22.2.2.2.2.2.1
theorem dX5_isAhead_34 : decode cX5_isAhead 34 = .ok (.invokevirtual 185, 3) := dG_dX5_isAhead_22.2.2.2.2.2.2.1
theorem dX5_isAhead_37 : decode cX5_isAhead 37 = .ok (.lstore 6, 2) := dG_dX5_isAhead_22.2.2.2.2.2.2.2.1
theorem dX5_isAhead_39 : decode cX5_isAhead 39 = .ok (.aload_n 0, 1) := dG_dX5_isAhead_22.2.2.2.2.2.2.2.2.1
theorem dX5_isAhead_40 : decode cX5_isAhead 40 = .ok (.iload 4, 2) := dG_dX5_isAhead_22.2.2.2.2.2.2.2.2.2.1
theorem dX5_isAhead_42 : decode cX5_isAhead 42 = .ok (.iload_n 3, 1) := dG_dX5_isAhead_22.2.2.2.2.2.2.2.2.2.2.1
theorem dX5_isAhead_43 : decode cX5_isAhead 43 = .ok (.iload 5, 2) := dG_dX5_isAhead_22.2.2.2.2.2.2.2.2.2.2.2
theorem dG_dX5_isAhead_45 : (decode cX5_isAhead 45 = .ok (.invokevirtual 185, 3)) ∧ (decode cX5_isAhead 48 = .ok (.lstore 8, 2)) ∧ (decode cX5_isAhead 50 = .ok (.lload 6, 2)) ∧ (decode cX5_isAhead 52 = .ok (.lload 8, 2)) ∧ (decode cX5_isAhead 54 = .ok (.lcmp, 1)) ∧ (decode cX5_isAhead 55 = .ok (.ifCond .eq 44, 3)) ∧ (decode cX5_isAhead 58 = .ok (.lload 6, 2)) ∧ (decode cX5_isAhead 60 = .ok (.lload 8, 2)) ∧ (decode cX5_isAhead 62 = .ok (.lcmp, 1)) ∧ (decode cX5_isAhead 63 = .ok (.ifCond .le 7, 3)) ∧ (decode cX5_isAhead 66 = .ok (.iconst 1, 1)) ∧ (decode cX5_isAhead 67 = .ok (.goto 4, 3)) := by decide +kernel
theorem dX5_isAhead_45 : decode cX5_isAhead 45 = .ok (.invokevirtual 185, 3) := dG_dX5_isAhead_45.1
theorem dX5_isAhead_48 : decode cX5_isAhead 48 = .ok (.lstore 8, 2) := dG_dX5_isAhead_45.2.1
theorem dX5_isAhead_50 : decode cX5_isAhead 50 = .ok (.lload 6, 2) := dG_dX5_isAhead_45.2.2.1
theorem dX5_isAhead_52 : decode cX5_isAhead 52 = .ok (.lload 8, 2) := dG_dX5_isAhead_45.2.2.2.1
theorem dX5_isAhead_54 : decode cX5_isAhead 54 = .ok (.lcmp, 1) := dG_dX5_isAhead_45.2.2.2.2.1
theorem dX5_isAhead_55 : decode cX5_isAhead 55 = .ok (.ifCond .eq 44, 3) := dG_dX5_isAhead_45.2.2.2.2.2.1
theorem dX5_isAhead_58 : decode cX5_isAhead 58 = .ok (.lload 6, 2) := dG_dX5_isAhead_45.2.2.2.2.2.2.1
theorem dX5_isAhead_60 : decode cX5_isAhead 60 = .ok (.lload 8, 2) := dG_dX5_isAhead_45.2.2.2.2.2.2.2.1
theorem dX5_isAhead_62 : decode cX5_isAhead 62 = .ok (.lcmp, 1) := dG_dX5_isAhead_45.2.2.2.2.2.2.2.2.1
theorem dX5_isAhead_63 : decode cX5_isAhead 63 = .ok (.ifCond .le 7, 3) := dG_dX5_isAhead_45.2.2.2.2.2.2.2.2.2.1
theorem dX5_isAhead_66 : decode cX5_isAhead 66 = .ok (.iconst 1, 1) := dG_dX5_isAhead_45.2.2.2.2.2.2.2.2.2.2.1
theorem dX5_isAhead_67 : decode cX5_isAhead 67 = .ok (.goto 4, 3) := dG_dX5_isAhead_45.2.2.2.2.2.2.2.2.2.2.2
theorem dG_dX5_isAhead_70 : (decode cX5_isAhead 70 = .ok (.iconst 0, 1)) ∧ (decode cX5_isAhead 71 = .ok (.aload_n 0, 1)) ∧ (decode cX5_isAhead 72 = .ok (.getfield 43, 3)) ∧ (decode cX5_isAhead 75 = .ok (.getfield 189, 3)) ∧ (decode cX5_isAhead 78 = .ok (.iload 5, 2)) ∧ (decode cX5_isAhead 80 = .ok (.iaload, 1)) ∧ (decode cX5_isAhead 81 = .ok (.iconst 1, 1)) ∧ (decode cX5_isAhead 82 = .ok (.if_icmp .ne 7, 3)) ∧ (decode cX5_isAhead 85 = .ok (.iconst 1, 1)) ∧ (decode cX5_isAhead 86 = .ok (.goto 4, 3)) ∧ (decode cX5_isAhead 89 = .ok (.iconst 0, 1)) ∧ (decode cX5_isAhead 90 = .ok (.if_icmp .ne 7, 3)) := by decide +kernel
theorem dX5_isAhead_70 : decode cX5_isAhead 70 = .ok (.iconst 0, 1) := dG_dX5_isAhead_70.1
theorem dX5_isAhead_71 : decode cX5_isAhead 71 = .ok (.aload_n 0, 1) := dG_dX5_isAhead_70.2.1
theorem dX5_isAhead_72 : decode cX5_isAhead 72 = .ok (.getfield 43, 3) := dG_dX5_isAhead_70.2.2.1
theorem dX5_isAhead_75 : decode cX5_isAhead 75 = .ok (.getfield 189, 3) := dG_dX5_isAhead_70.2.2.2.1
theorem dX5_isAhead_78 : decode cX5_isAhead 78 = .ok (.iload 5, 2) := dG_dX5_isAhead_70.2.2.2.2.1
theorem dX5_isAhead_80 : decode cX5_isAhead 80 = .ok (.iaload, 1) := dG_dX5_isAhead_70.2.2.2.2.2.1
theorem dX5_isAhead_81 : decode cX5_isAhead 81 = .ok (.iconst 1, 1) := dG_dX5_isAhead_70.2.2.2.2.2.2.1
theorem dX5_isAhead_82 : decode cX5_isAhead 82 = .ok (.if_icmp .ne 7, 3) := dG_dX5_isAhead_70.2.2.2.2.2.2.2.1
theorem dX5_isAhead_85 : decode cX5_isAhead 85 = .ok (.iconst 1, 1) := dG_dX5_isAhead_70.2.2.2.2.2.2.2.2.1
theorem dX5_isAhead_86 : decode cX5_isAhead 86 = .ok (.goto 4, 3) := dG_dX5_isAhead_70.2.2.2.2.2.2.2.2.2.1
theorem dX5_isAhead_89 : decode cX5_isAhead 89 = .ok (.iconst 0, 1) := dG_dX5_isAhead_70.2.2.2.2.2.2.2.2.2.2.1
theorem dX5_isAhead_90 : decode cX5_isAhead 90 = .ok (.if_icmp .ne 7, 3) := dG_dX5_isAhead_70.2.2.2.2.2.2.2.2.2.2.2
theorem dG_dX5_isAhead_93 : (decode cX5_isAhead 93 = .ok (.iconst 1, 1)) ∧ (decode cX5_isAhead 94 = .ok (.goto 4, 3)) ∧ (decode cX5_isAhead 97 = .ok (.iconst 0, 1)) ∧ (decode cX5_isAhead 98 = .ok (.ireturn, 1)) ∧ (decode cX5_isAhead 99 = .ok (.iinc 5 1, 3)) ∧ (decode cX5_isAhead 102 = .ok (.goto (-86), 3)) ∧ (decode cX5_isAhead 105 = .ok (.iinc 4 (-1), 3)) ∧ (decode cX5_isAhead 108 = .ok (.goto (-105), 3)) ∧ (decode cX5_isAhead 111 = .ok (.iconst 0, 1)) ∧ (decode cX5_isAhead 112 = .ok (.ireturn, 1)) ∧ (decode cJ6_bitCount_0f7a4 0 = .ok (.iload_n 0, 1)) ∧ (decode cJ6_bitCount_0f7a4 1 = .ok (.iload_n 0, 1)) := by decide +kernel
theorem dX5_isAhead_93 : decode cX5_isAhead 93 = .ok (.iconst 1, 1) := dG_dX5_isAhead_93.1
theorem dX5_isAhead_94 : decode cX5_isAhead 94 = .ok (.goto 4, 3) := dG_dX5_isAhead_93.2.1
theorem dX5_isAhead_97 : decode cX5_isAhead 97 = .ok (.iconst 0, 1) := dG_dX5_isAhead_93.2.2.1
theorem dX5_isAhead_98 : decode cX5_isAhead 98 = .ok (.ireturn, 1) := dG_dX5_isAhead_93.2.2.2.1
theorem dX5_isAhead_99 : decode cX5_isAhead 99 = .ok (.iinc 5 1, 3) := dG_dX5_isAhead_93.2.2.2.2.1
theorem dX5_isAhead_102 : decode cX5_isAhead 102 = .ok (.goto (-86), 3) := dG_dX5_isAhead_93.2.2.2.2.2.1
theorem dX5_isAhead_105 : decode cX5_isAhead 105 = .ok (.iinc 4 (-1), 3) := dG_dX5_isAhead_93.2.2.2.2.2.2.1
theorem dX5_isAhead_108 : decode cX5_isAhead 108 = .ok (.goto (-105), 3) := dG_dX5_isAhead_93.2.2.2.2.2.2.2.1
theorem dX5_isAhead_111 : decode cX5_isAhead 111 = .ok (.iconst 0, 1) := dG_dX5_isAhead_93.2.2.2.2.2.2.2.2.1
theorem dX5_isAhead_112 : decode cX5_isAhead 112 = .ok (.ireturn, 1) := dG_dX5_isAhead_93.2.2.2.2.2.2.2.2.2.1
theorem dJ6_bitCount_0f7a4_0 : decode cJ6_bitCount_0f7a4 0 = .ok (.iload_n 0, 1) := dG_dX5_isAhead_93.2.2.2.2.2.2.2.2.2.2.1
theorem dJ6_bitCount_0f7a4_1 : decode cJ6_bitCount_0f7a4 1 = .ok (.iload_n 0, 1) := dG_dX5_isAhead_93.2.2.2.2.2.2.2.2.2.2.2
theorem dG_dJ6_bitCount_0f7a4_2 : (decode cJ6_bitCount_0f7a4 2 = .ok (.iconst 1, 1)) ∧ (decode cJ6_bitCount_0f7a4 3 = .ok (.iushr, 1)) ∧ (decode cJ6_bitCount_0f7a4 4 = .ok (.ldc_w 265, 3)) ∧ (decode cJ6_bitCount_0f7a4 7 = .ok (.iand, 1)) ∧ (decode cJ6_bitCount_0f7a4 8 = .ok (.isub, 1)) ∧ (decode cJ6_bitCount_0f7a4 9 = .ok (.istore_n 0, 1)) ∧ (decode cJ6_bitCount_0f7a4 10 = .ok (.iload_n 0, 1)) ∧ (decode cJ6_bitCount_0f7a4 11 = .ok (.ldc_w 266, 3)) ∧ (decode cJ6_bitCount_0f7a4 14 = .ok (.iand, 1)) ∧ (decode cJ6_bitCount_0f7a4 15 = .ok (.iload_n 0, 1)) ∧ (decode cJ6_bitCount_0f7a4 16 = .ok (.iconst 2, 1)) ∧ (decode cJ6_bitCount_0f7a4 17 = .ok (.iushr, 1)) := by decide +kernel
theorem dJ6_bitCount_0f7a4_2 : decode cJ6_bitCount_0f7a4 2 = .ok (.iconst 1, 1) := dG_dJ6_bitCount_0f7a4_2.1
theorem dJ6_bitCount_0f7a4_3 : decode cJ6_bitCount_0f7a4 3 = .ok (.iushr, 1) := dG_dJ6_bitCount_0f7a4_2.2.1
theorem dJ6_bitCount_0f7a4_4 : decode cJ6_bitCount_0f7a4 4 = .ok (.ldc_w 265, 3) := dG_dJ6_bitCount_0f7a4_2.2.2.1
theorem dJ6_bitCount_0f7a4_7 : decode cJ6_bitCount_0f7a4 7 = .ok (.iand, 1) := dG_dJ6_bitCount_0f7a4_2.2.2.2.1
theorem dJ6_bitCount_0f7a4_8 : decode cJ6_bitCount_0f7a4 8 = .ok (.isub, 1) := dG_dJ6_bitCount_0f7a4_2.2.2.2.2.1
theorem dJ6_bitCount_0f7a4_9 : decode cJ6_bitCount_0f7a4 9 = .ok (.istore_n 0, 1) := dG_dJ6_bitCount_0f7a4_2.2.2.2.2.2.1
theorem dJ6_bitCount_0f7a4_10 : decode cJ6_bitCount_0f7a4 10 = .ok (.iload_n 0, 1) := dG_dJ6_bitCount_0f7a4_2.2.2.2.2.2.2.1
theorem dJ6_bitCount_0f7a4_11 : decode cJ6_bitCount_0f7a4 11 = .ok (.ldc_w 266, 3) := dG_dJ6_bitCount_0f7a4_2.2.2.2.2.2.2.2.1
theorem dJ6_bitCount_0f7a4_14 : decode cJ6_bitCount_0f7a4 14 = .ok (.iand, 1) := dG_dJ6_bitCount_0f7a4_2.2.2.2.2.2.2.2.2.1
theorem dJ6_bitCount_0f7a4_15 : decode cJ6_bitCount_0f7a4 15 = .ok (.iload_n 0, 1) := dG_dJ6_bitCount_0f7a4_2.2.2.2.2.2.2.2.2.2.1
theorem dJ6_bitCount_0f7a4_16 : decode cJ6_bitCount_0f7a4 16 = .ok (.iconst 2, 1) := dG_dJ6_bitCount_0f7a4_2.2.2.2.2.2.2.2.2.2.2.1
theorem dJ6_bitCount_0f7a4_17 : decode cJ6_bitCount_0f7a4 17 = .ok (.iushr, 1) := dG_dJ6_bitCount_0f7a4_2.2.2.2.2.2.2.2.2.2.2.2
theorem dG_dJ6_bitCount_0f7a4_18 : (decode cJ6_bitCount_0f7a4 18 = .ok (.ldc_w 266, 3)) ∧ (decode cJ6_bitCount_0f7a4 21 = .ok (.iand, 1)) ∧ (decode cJ6_bitCount_0f7a4 22 = .ok (.iadd, 1)) ∧ (decode cJ6_bitCount_0f7a4 23 = .ok (.istore_n 0, 1)) ∧ (decode cJ6_bitCount_0f7a4 24 = .ok (.iload_n 0, 1)) ∧ (decode cJ6_bitCount_0f7a4 25 = .ok (.iload_n 0, 1)) ∧ (decode cJ6_bitCount_0f7a4 26 = .ok (.iconst 4, 1)) ∧ (decode cJ6_bitCount_0f7a4 27 = .ok (.iushr, 1)) ∧ (decode cJ6_bitCount_0f7a4 28 = .ok (.iadd, 1)) ∧ (decode cJ6_bitCount_0f7a4 29 = .ok (.ldc_w 267, 3)) ∧ (decode cJ6_bitCount_0f7a4 32 = .ok (.iand, 1)) ∧ (decode cJ6_bitCount_0f7a4 33 = .ok (.istore_n 0, 1)) := by decide +kernel
theorem dJ6_bitCount_0f7a4_18 : decode cJ6_bitCount_0f7a4 18 = .ok (.ldc_w 266, 3) := dG_dJ6_bitCount_0f7a4_18.1
theorem dJ6_bitCount_0f7a4_21 : decode cJ6_bitCount_0f7a4 21 = .ok (.iand, 1) := dG_dJ6_bitCount_0f7a4_18.2.1
theorem dJ6_bitCount_0f7a4_22 : decode cJ6_bitCount_0f7a4 22 = .ok (.iadd, 1) := dG_dJ6_bitCount_0f7a4_18.2.2.1
theorem dJ6_bitCount_0f7a4_23 : decode cJ6_bitCount_0f7a4 23 = .ok (.istore_n 0, 1) := dG_dJ6_bitCount_0f7a4_18.2.2.2.1
theorem dJ6_bitCount_0f7a4_24 : decode cJ6_bitCount_0f7a4 24 = .ok (.iload_n 0, 1) := dG_dJ6_bitCount_0f7a4_18.2.2.2.2.1
theorem dJ6_bitCount_0f7a4_25 : decode cJ6_bitCount_0f7a4 25 = .ok (.iload_n 0, 1) := dG_dJ6_bitCount_0f7a4_18.2.2.2.2.2.1
theorem dJ6_bitCount_0f7a4_26 : decode cJ6_bitCount_0f7a4 26 = .ok (.iconst 4, 1) := dG_dJ6_bitCount_0f7a4_18.2.2.2.2.2.2.1
theorem dJ6_bitCount_0f7a4_27 : decode cJ6_bitCount_0f7a4 27 = .ok (.iushr, 1) := dG_dJ6_bitCount_0f7a4_18.2.2.2.2.2.2.2.1
theorem dJ6_bitCount_0f7a4_28 : decode cJ6_bitCount_0f7a4 28 = .ok (.iadd, 1) := dG_dJ6_bitCount_0f7a4_18.2.2.2.2.2.2.2.2.1
theorem dJ6_bitCount_0f7a4_29 : decode cJ6_bitCount_0f7a4 29 = .ok (.ldc_w 267, 3) := dG_dJ6_bitCount_0f7a4_18.2.2.2.2.2.2.2.2.2.1
theorem dJ6_bitCount_0f7a4_32 : decode cJ6_bitCount_0f7a4 32 = .ok (.iand, 1) := dG_dJ6_bitCount_0f7a4_18.2.2.2.2.2.2.2.2.2.2.1
theorem dJ6_bitCount_0f7a4_33 : decode cJ6_bitCount_0f7a4 33 = .ok (.istore_n 0, 1) := dG_dJ6_bitCount_0f7a4_18.2.2.2.2.2.2.2.2.2.2.2
theorem dG_dJ6_bitCount_0f7a4_34 : (decode cJ6_bitCount_0f7a4 34 = .ok (.iload_n 0, 1)) ∧ (decode cJ6_bitCount_0f7a4 35 = .ok (.iload_n 0, 1)) ∧ (decode cJ6_bitCount_0f7a4 36 = .ok (.bipush 8, 2)) ∧ (decode cJ6_bitCount_0f7a4 38 = .ok (.iushr, 1)) ∧ (decode cJ6_bitCount_0f7a4 39 = .ok (.iadd, 1)) ∧ (decode cJ6_bitCount_0f7a4 40 = .ok (.istore_n 0, 1)) ∧ (decode cJ6_bitCount_0f7a4 41 = .ok (.iload_n 0, 1)) ∧ (decode cJ6_bitCount_0f7a4 42 = .ok (.iload_n 0, 1)) ∧ (decode cJ6_bitCount_0f7a4 43 = .ok (.bipush 16, 2)) ∧ (decode cJ6_bitCount_0f7a4 45 = .ok (.iushr, 1)) ∧ (decode cJ6_bitCount_0f7a4 46 = .ok (.iadd, 1)) ∧ (decode cJ6_bitCount_0f7a4 47 = .ok (.istore_n 0, 1)) := by decide +kernel
theorem dJ6_bitCount_0f7a4_34 : decode cJ6_bitCount_0f7a4 34 = .ok (.iload_n 0, 1) := dG_dJ6_bitCount_0f7a4_34.1
theorem dJ6_bitCount_0f7a4_35 : decode cJ6_bitCount_0f7a4 35 = .ok (.iload_n 0, 1) := dG_dJ6_bitCount_0f7a4_34.2.1
theorem dJ6_bitCount_0f7a4_36 : decode cJ6_bitCount_0f7a4 36 = .ok (.bipush 8, 2) := dG_dJ6_bitCount_0f7a4_34.2.2.1
theorem dJ6_bitCount_0f7a4_38 : decode cJ6_bitCount_0f7a4 38 = .ok (.iushr, 1) := dG_dJ6_bitCount_0f7a4_34.2.2.2.1
theorem dJ6_bitCount_0f7a4_39 : decode cJ6_bitCount_0f7a4 39 = .ok (.iadd, 1) := dG_dJ6_bitCount_0f7a4_34.2.2.2.2.1
theorem dJ6_bitCount_0f7a4_40 : decode cJ6_bitCount_0f7a4 40 = .ok (.istore_n 0, 1) := dG_dJ6_bitCount_0f7a4_34.2.2.2.2.2.1
theorem dJ6_bitCount_0f7a4_41 : decode cJ6_bitCount_0f7a4 41 = .ok (.iload_n 0, 1) := dG_dJ6_bitCount_0f7a4_34.2.2.2.2.2.2.1
theorem dJ6_bitCount_0f7a4_42 : decode cJ6_bitCount_0f7a4 42 = .ok (.iload_n 0, 1) := dG_dJ6_bitCount_0f7a4_34.2.2.2.2.2.2.2.1
theorem dJ6_bitCount_0f7a4_43 : decode cJ6_bitCount_0f7a4 43 = .ok (.bipush 16, 2) := dG_dJ6_bitCount_0f7a4_34.2.2.2.2.2.2.2.2.1
theorem dJ6_bitCount_0f7a4_45 : decode cJ6_bitCount_0f7a4 45 = .ok (.iushr, 1) := dG_dJ6_bitCount_0f7a4_34.2.2.2.2.2.2.2.2.2.1
theorem dJ6_bitCount_0f7a4_46 : decode cJ6_bitCount_0f7a4 46 = .ok (.iadd, 1) := dG_dJ6_bitCount_0f7a4_34.2.2.2.2.2.2.2.2.2.2.1
theorem dJ6_bitCount_0f7a4_47 : decode cJ6_bitCount_0f7a4 47 = .ok (.istore_n 0, 1) := dG_dJ6_bitCount_0f7a4_34.2.2.2.2.2.2.2.2.2.2.2
theorem dG_dJ6_bitCount_0f7a4_48 : (decode cJ6_bitCount_0f7a4 48 = .ok (.iload_n 0, 1)) ∧ (decode cJ6_bitCount_0f7a4 49 = .ok (.bipush 63, 2)) ∧ (decode cJ6_bitCount_0f7a4 51 = .ok (.iand, 1)) ∧ (decode cJ6_bitCount_0f7a4 52 = .ok (.ireturn, 1)) := by decide +kernel
theorem dJ6_bitCount_0f7a4_48 : decode cJ6_bitCount_0f7a4 48 = .ok (.iload_n 0, 1) := dG_dJ6_bitCount_0f7a4_48.1
theorem dJ6_bitCount_0f7a4_49 : decode cJ6_bitCount_0f7a4 49 = .ok (.bipush 63, 2) := dG_dJ6_bitCount_0f7a4_48.2.1
theorem dJ6_bitCount_0f7a4_51 : decode cJ6_bitCount_0f7a4 51 = .ok (.iand, 1) := dG_dJ6_bitCount_0f7a4_48.2.2.1
theorem dJ6_bitCount_0f7a4_52 : decode cJ6_bitCount_0f7a4 52 = .ok (.ireturn, 1) := dG_dJ6_bitCount_0f7a4_48.2.2.2
end

section
set_option maxHeartbeats 4000000 in
set_option maxRecDepth 100000 in
theorem x_bitCount (l : Launch) (D : va_G) (k : Nat → ClassId) (A : Nat → Prop) (ad : Nat → Nat) (hD : rwD A k ad) (v : gV) (f g : gF) (a1 : Int) (h_a1 : inR a1) : GM l D k A (rwT k ad) yJ6_bitCount_0f7a4 cJ6_bitCount_0f7a4 1 (some .int) 0 0 [.int (iI a1)] v f g (fun r v1 f1 g1 => ∃ (z : Int), r = some (.int (iI z)) ∧ v = v1 ∧ f = f1 ∧ g = g1 ∧ (z = (bcI a1)) ∧ ((-2147483648) ≤ z ∧ z ≤ 2147483647)) := by
  refine GM.of (by decide) (Nat.le_of_ble_eq_true rfl) ?_
  intro p e s m args below meth c Q ls hQ C hml hr hlocks hP hl
  have hx := C.1
  have hb := C.2.1
  have hok := hP.2
  have hS : va_S A s.heap s.heap [] := va_S.rf
  have hl : lv_has ls 1 [(0, .int (iI a1))] := hl
  refine lv_iload_n hx hb dJ6_bitCount_0f7a4_0 rfl (lv_at hl 0 rfl) ?_
  refine lv_iload_n hx hb dJ6_bitCount_0f7a4_1 rfl (lv_at hl 0 rfl) ?_
  refine lv_iconst (v := iI 1) hx hb dJ6_bitCount_0f7a4_2 rfl ?_
  obtain ⟨x_1, ex_1, hx_1⟩ : ∃ z : Int, ((iI a1).toUInt32 >>> ((iI 1).toUInt32 &&& Int32.toUInt32 31)).toInt32 = iI z ∧ inR z := ⟨(((iI a1).toUInt32 >>> ((iI 1).toUInt32 &&& Int32.toUInt32 31)).toInt32).toInt, (iI_of _).symm, iI_rng _⟩
  refine gi_ushr (z := x_1) hx hb dJ6_bitCount_0f7a4_3 ex_1 ?_
  refine lv_ldcw (v := iI 1431655765) hx hb C.2.2.2.1 (C.2.2.1 _ (show Cond.constant RJ6 265 (iI 1431655765) ∈ gWs from mD_J6_265)) dJ6_bitCount_0f7a4_4 ?_
  obtain ⟨x_2, ex_2, hx_2⟩ : ∃ z : Int, iI x_1 &&& iI 1431655765 = iI z ∧ inR z := ⟨(iI x_1 &&& iI 1431655765).toInt, (iI_of _).symm, iI_rng _⟩
  refine gi_and (z := x_2) hx hb dJ6_bitCount_0f7a4_7 ex_2 ?_
  refine gi_sub (z := (a1 - x_2)) hx hb dJ6_bitCount_0f7a4_8 rfl ?_
  obtain ⟨x_3, ex_3, hx_3⟩ : ∃ z : Int, iI (a1 - x_2) = iI z ∧ inR z := ⟨(iI (a1 - x_2)).toInt, (iI_of _).symm, iI_rng _⟩
  refine gi_norm ex_3 ?_
  refine lv_istore_n (lv' := [(0, .int (iI x_3))]) hx hb dJ6_bitCount_0f7a4_9 rfl hl (by decide) rfl (fun ls hl => ?_)
  refine lv_iload_n hx hb dJ6_bitCount_0f7a4_10 rfl (lv_at hl 0 rfl) ?_
  refine lv_ldcw (v := iI 858993459) hx hb C.2.2.2.1 (C.2.2.1 _ (show Cond.constant RJ6 266 (iI 858993459) ∈ gWs from mD_J6_266)) dJ6_bitCount_0f7a4_11 ?_
  obtain ⟨x_4, ex_4, hx_4⟩ : ∃ z : Int, iI x_3 &&& iI 858993459 = iI z ∧ inR z := ⟨(iI x_3 &&& iI 858993459).toInt, (iI_of _).symm, iI_rng _⟩
  refine gi_and (z := x_4) hx hb dJ6_bitCount_0f7a4_14 ex_4 ?_
  refine lv_iload_n hx hb dJ6_bitCount_0f7a4_15 rfl (lv_at hl 0 rfl) ?_
  refine lv_iconst (v := iI 2) hx hb dJ6_bitCount_0f7a4_16 rfl ?_
  obtain ⟨x_5, ex_5, hx_5⟩ : ∃ z : Int, ((iI x_3).toUInt32 >>> ((iI 2).toUInt32 &&& Int32.toUInt32 31)).toInt32 = iI z ∧ inR z := ⟨(((iI x_3).toUInt32 >>> ((iI 2).toUInt32 &&& Int32.toUInt32 31)).toInt32).toInt, (iI_of _).symm, iI_rng _⟩
  refine gi_ushr (z := x_5) hx hb dJ6_bitCount_0f7a4_17 ex_5 ?_
  refine lv_ldcw (v := iI 858993459) hx hb C.2.2.2.1 (C.2.2.1 _ (show Cond.constant RJ6 266 (iI 858993459) ∈ gWs from mD_J6_266)) dJ6_bitCount_0f7a4_18 ?_
  obtain ⟨x_6, ex_6, hx_6⟩ : ∃ z : Int, iI x_5 &&& iI 858993459 = iI z ∧ inR z := ⟨(iI x_5 &&& iI 858993459).toInt, (iI_of _).symm, iI_rng _⟩
  refine gi_and (z := x_6) hx hb dJ6_bitCount_0f7a4_21 ex_6 ?_
  refine gi_add (z := (x_4 + x_6)) hx hb dJ6_bitCount_0f7a4_22 rfl ?_
  obtain ⟨x_7, ex_7, hx_7⟩ : ∃ z : Int, iI (x_4 + x_6) = iI z ∧ inR z := ⟨(iI (x_4 + x_6)).toInt, (iI_of _).symm, iI_rng _⟩
  refine gi_norm ex_7 ?_
  refine lv_istore_n (lv' := [(0, .int (iI x_7))]) hx hb dJ6_bitCount_0f7a4_23 rfl hl (by decide) rfl (fun ls hl => ?_)
  refine lv_iload_n hx hb dJ6_bitCount_0f7a4_24 rfl (lv_at hl 0 rfl) ?_
  refine lv_iload_n hx hb dJ6_bitCount_0f7a4_25 rfl (lv_at hl 0 rfl) ?_
  refine lv_iconst (v := iI 4) hx hb dJ6_bitCount_0f7a4_26 rfl ?_
  obtain ⟨x_8, ex_8, hx_8⟩ : ∃ z : Int, ((iI x_7).toUInt32 >>> ((iI 4).toUInt32 &&& Int32.toUInt32 31)).toInt32 = iI z ∧ inR z := ⟨(((iI x_7).toUInt32 >>> ((iI 4).toUInt32 &&& Int32.toUInt32 31)).toInt32).toInt, (iI_of _).symm, iI_rng _⟩
  refine gi_ushr (z := x_8) hx hb dJ6_bitCount_0f7a4_27 ex_8 ?_
  refine gi_add (z := (x_7 + x_8)) hx hb dJ6_bitCount_0f7a4_28 rfl ?_
  obtain ⟨x_9, ex_9, hx_9⟩ : ∃ z : Int, iI (x_7 + x_8) = iI z ∧ inR z := ⟨(iI (x_7 + x_8)).toInt, (iI_of _).symm, iI_rng _⟩
  refine gi_norm ex_9 ?_
  refine lv_ldcw (v := iI 252645135) hx hb C.2.2.2.1 (C.2.2.1 _ (show Cond.constant RJ6 267 (iI 252645135) ∈ gWs from mD_J6_267)) dJ6_bitCount_0f7a4_29 ?_
  obtain ⟨x_10, ex_10, hx_10⟩ : ∃ z : Int, iI x_9 &&& iI 252645135 = iI z ∧ inR z := ⟨(iI x_9 &&& iI 252645135).toInt, (iI_of _).symm, iI_rng _⟩
  refine gi_and (z := x_10) hx hb dJ6_bitCount_0f7a4_32 ex_10 ?_
  refine lv_istore_n (lv' := [(0, .int (iI x_10))]) hx hb dJ6_bitCount_0f7a4_33 rfl hl (by decide) rfl (fun ls hl => ?_)
  refine lv_iload_n hx hb dJ6_bitCount_0f7a4_34 rfl (lv_at hl 0 rfl) ?_
  refine lv_iload_n hx hb dJ6_bitCount_0f7a4_35 rfl (lv_at hl 0 rfl) ?_
  refine lv_bipush (v := iI 8) hx hb dJ6_bitCount_0f7a4_36 (by decide) ?_
  obtain ⟨x_11, ex_11, hx_11⟩ : ∃ z : Int, ((iI x_10).toUInt32 >>> ((iI 8).toUInt32 &&& Int32.toUInt32 31)).toInt32 = iI z ∧ inR z := ⟨(((iI x_10).toUInt32 >>> ((iI 8).toUInt32 &&& Int32.toUInt32 31)).toInt32).toInt, (iI_of _).symm, iI_rng _⟩
  refine gi_ushr (z := x_11) hx hb dJ6_bitCount_0f7a4_38 ex_11 ?_
  refine gi_add (z := (x_10 + x_11)) hx hb dJ6_bitCount_0f7a4_39 rfl ?_
  obtain ⟨x_12, ex_12, hx_12⟩ : ∃ z : Int, iI (x_10 + x_11) = iI z ∧ inR z := ⟨(iI (x_10 + x_11)).toInt, (iI_of _).symm, iI_rng _⟩
  refine gi_norm ex_12 ?_
  refine lv_istore_n (lv' := [(0, .int (iI x_12))]) hx hb dJ6_bitCount_0f7a4_40 rfl hl (by decide) rfl (fun ls hl => ?_)
  refine lv_iload_n hx hb dJ6_bitCount_0f7a4_41 rfl (lv_at hl 0 rfl) ?_
  refine lv_iload_n hx hb dJ6_bitCount_0f7a4_42 rfl (lv_at hl 0 rfl) ?_
  refine lv_bipush (v := iI 16) hx hb dJ6_bitCount_0f7a4_43 (by decide) ?_
  obtain ⟨x_13, ex_13, hx_13⟩ : ∃ z : Int, ((iI x_12).toUInt32 >>> ((iI 16).toUInt32 &&& Int32.toUInt32 31)).toInt32 = iI z ∧ inR z := ⟨(((iI x_12).toUInt32 >>> ((iI 16).toUInt32 &&& Int32.toUInt32 31)).toInt32).toInt, (iI_of _).symm, iI_rng _⟩
  refine gi_ushr (z := x_13) hx hb dJ6_bitCount_0f7a4_45 ex_13 ?_
  refine gi_add (z := (x_12 + x_13)) hx hb dJ6_bitCount_0f7a4_46 rfl ?_
  obtain ⟨x_14, ex_14, hx_14⟩ : ∃ z : Int, iI (x_12 + x_13) = iI z ∧ inR z := ⟨(iI (x_12 + x_13)).toInt, (iI_of _).symm, iI_rng _⟩
  refine gi_norm ex_14 ?_
  refine lv_istore_n (lv' := [(0, .int (iI x_14))]) hx hb dJ6_bitCount_0f7a4_47 rfl hl (by decide) rfl (fun ls hl => ?_)
  refine lv_iload_n hx hb dJ6_bitCount_0f7a4_48 rfl (lv_at hl 0 rfl) ?_
  refine lv_bipush (v := iI 63) hx hb dJ6_bitCount_0f7a4_49 (by decide) ?_
  obtain ⟨x_15, ex_15, hx_15⟩ : ∃ z : Int, iI x_14 &&& iI 63 = iI z ∧ inR z := ⟨(iI x_14 &&& iI 63).toInt, (iI_of _).symm, iI_rng _⟩
  refine gi_and (z := x_15) hx hb dJ6_bitCount_0f7a4_51 ex_15 ?_
  exact g_iret hQ C hr hlocks hP hS dJ6_bitCount_0f7a4_52 ⟨x_15, rfl, rfl, rfl, rfl, (by unfold bcI; rw [show bc1 (iI a1) = iI x_3 from by unfold bc1 bcU; rw [ex_1, ex_2, iI_sub, ex_3], show bc2 (iI x_3) = iI x_7 from by unfold bc2 bcU; rw [ex_4, ex_5, ex_6, iI_add, ex_7], show bc3 (iI x_7) = iI x_10 from by unfold bc3 bcU; rw [ex_8, iI_add, ex_9, ex_10], show bc4 (iI x_10) = iI x_12 from by unfold bc4 bcU; rw [ex_11, iI_add, ex_12], show bc5 (iI x_12) = iI x_14 from by unfold bc5 bcU; rw [ex_13, iI_add, ex_14], ex_15, iI_toInt (by omega)]), (by first | omega | ((repeat' split) <;> omega))⟩

set_option maxHeartbeats 4000000 in
set_option maxRecDepth 100000 in
theorem x_Re_workKeys (l : Launch) (D : va_G) (k : Nat → ClassId) (A : Nat → Prop) (ad : Nat → Nat) (hD : rwD A k ad) (v : gV) (f g : gF) (a1 : Int) (a2 : Int) (dd : Int) (h_a1 : inR a1) (h_a2 : inR a2) (hs : shOk (v 1) (f 1)) (h1 : 0 ≤ a1 ∧ a1 ≤ 3) (h2 : 0 ≤ a2 ∧ a2 ≤ 15) (hrd : a1 < (v 1)) (hsv : svOk (f 20) (f 21) (f 22) (f 26) (Fk (f 28) (f 29) (f 30) (f 25) (v 24) dd) (v 23) (f 36) (f 37) (f 38)) (hkn : ∀ k, 0 ≤ k → k < (v 23) → (f 34) k = (Fk (f 28) (f 29) (f 30) (f 25) (v 24) dd) k) : GM l D k A (rwT k ad) yX5_workKeys cX5_workKeys 5 none 3 85 [.ref (ad 47), .int (iI a1), .int (iI a2)] v f g (fun r v1 f1 g1 => ∃ (a39_ : Int → Int) (b0_ : Int → Int) (b2_ : Int → Int) (b3_ : Int → Int), r = none ∧ v = v1 ∧ (va_up f 39 a39_) = f1 ∧ (va_up (va_up (va_up g 0 b0_) 2 b2_) 3 b3_) = g1 ∧ (∀ j, 0 ≤ j → j < (v 3) → b3_ ((a1 * 16 + a2) * 4 + j) = kV (f 2) (f 3) (v 2) (gFd (f 20) (f 21) (f 22) (f 23) (f 24) (f 25) (f 26) (f 28) (f 29) (f 30) (f 15) (f 17) (v 23) (v 24) dd) ((f 1) (a1 * 4)) ((f 4) j) a1 a2) ∧ (∀ e, e < (a1 * 16 + a2) * 4 ∨ (a1 * 16 + a2) * 4 + 4 ≤ e → b3_ e = (g 3) e)) := by
  refine GM.of (by decide) (Nat.le_of_ble_eq_true rfl) ?_
  intro p e s m args below meth c Q ls hQ C hml hr hlocks hP hl
  have hx := C.1
  have hb := C.2.1
  have hok := hP.2
  have hS : va_S A s.heap s.heap [] := va_S.rf
  have hl : lv_has ls 5 [(0, .ref (ad 47)), (1, .int (iI a1)), (2, .int (iI a2))] := hl
  have hP : gWd D (rwT k ad) v (va_up f 39 (f 39)) (va_up (va_up (va_up g 0 (g 0)) 2 (g 2)) 3 (g 3)) s.heap := by rw [va_id, va_id, va_id, va_id]; exact hP
  have hnu : ∀ k, 0 ≤ (f 3) k ∧ (f 3) k ≤ 999999 := fun k => hok.2 3 k
  have hit : ∀ k, 0 ≤ (f 2) k ∧ (f 2) k ≤ 10 := fun k => hok.2 2 k
  have hFr : ∀ r t c i, (-2000000) ≤ gFd (f 20) (f 21) (f 22) (f 23) (f 24) (f 25) (f 26) (f 28) (f 29) (f 30) (f 15) (f 17) (v 23) (v 24) dd r t c i ∧ gFd (f 20) (f 21) (f 22) (f 23) (f 24) (f 25) (f 26) (f 28) (f 29) (f 30) (f 15) (f 17) (v 23) (v 24) dd r t c i ≤ 2000000 := fun r t c i => Fd_r (hok.2 25) (hok.2 29) (hok.2 24) (hok.2 23) (hok.1 23) i
  have hPr : ∀ r t c, (-1000000000) ≤ evR (f 2) (f 3) (gFd (f 20) (f 21) (f 22) (f 23) (f 24) (f 25) (f 26) (f 28) (f 29) (f 30) (f 15) (f 17) (v 23) (v 24) dd r t c) (v 2) ∧ evR (f 2) (f 3) (gFd (f 20) (f 21) (f 22) (f 23) (f 24) (f 25) (f 26) (f 28) (f 29) (f 30) (f 15) (f 17) (v 23) (v 24) dd r t c) (v 2) ≤ 1000000000 := fun r t c => pt_r hnu (fun k => (hit k).1) (hFr r t c)
  have hRR := (hs a1 (by omega) (by omega)).1
  have r_1 : 0 ≤ (v 3) ∧ (v 3) ≤ 4 := hok.1 3
  have r_2 : 0 ≤ (v 23) ∧ (v 23) ≤ 300 := hok.1 23
  refine lv_aload_n hx hb dX5_workKeys_0 rfl (lv_at hl 0 rfl) ?_
  refine rwG_results_totals C hP mF_X5_33 dX5_workKeys_1 ?_
  refine lv_lconst (v := iL 0) hx hb dX5_workKeys_4 (by decide) ?_
  refine g_cs (As := [.ref (ad 55), .long (iL 0)]) (rest := []) (n := 2) C hml (c_fillL l D k A (rwT k ad) (ad 55) 55 2 4 (fun _ _ _ => rfl) (fun _ _ _ _ => rfl) hD (by decide) v (va_up f 39 (f 39)) (va_up (va_up (va_up g 0 (g 0)) 2 (g 2)) 3 (g 3)) 0) mM_X5_123 mS_J7_fill_d0a16 mN_J7 mC_J7_fill_d0a16 (by decide +kernel) hP hS (fun _ h => h) ⟨Nat.le_of_ble_eq_true rfl, Nat.le_of_ble_eq_true rfl⟩ ⟨Nat.zero_le _, Nat.zero_le _⟩ hl.1 rfl rfl (Nat.le_of_ble_eq_true rfl) dX5_workKeys_5 (fun r v1 f1 g1 H locs hq hP _ hS => ?_)
  obtain ⟨rfl, rfl, rfl, rfl⟩ := hq
  show W p l e (gRm 3 85) s m args below meth c _ _ 0 0 Q (F0 m 8 ls [])
  have hP : gWd D (rwT k ad) v (va_up f 39 (f 39)) (va_up (va_up (va_up g 0 (g 0)) 2 (gfill (g 2) 4 0)) 3 (g 3)) H := ⟨hP.1, (gF_up (V := rwV) (F := rwF) ⟨hok.1, hok.2⟩ 39 (hP.2.2 39))⟩
  refine lv_iconst (v := iI 0) hx hb dX5_workKeys_8 rfl ?_
  refine lv_istore_n (lv' := [(3, .int (iI 0)), (0, .ref (ad 47)), (1, .int (iI a1)), (2, .int (iI a2))]) hx hb dX5_workKeys_9 rfl hl (by decide) rfl (fun ls hl => ?_)
  have L_3 : ∀ (n : Nat) (x3 : Int) (c39_3 : Int → Int) (d0_3 : Int → Int) (d2_3 : Int → Int) (H : Heap) (locs : List Loc) (ls : Array Slot), 5 - x3 < (n : Int) → (0 ≤ x3 ∧ x3 ≤ ((f 1) (a1 * 4))) → (d2_3 0 = sumI (fun t => evR (f 2) (f 3) (gFd (f 20) (f 21) (f 22) (f 23) (f 24) (f 25) (f 26) (f 28) (f 29) (f 30) (f 15) (f 17) (v 23) (v 24) dd a1 t a2) (v 2)) x3.toNat) → (d2_3 2 = sumI (fun t => gFd (f 20) (f 21) (f 22) (f 23) (f 24) (f 25) (f 26) (f 28) (f 29) (f 30) (f 15) (f 17) (v 23) (v 24) dd a1 t a2 0) x3.toNat) → (d2_3 3 = sumI (fun t => gFd (f 20) (f 21) (f 22) (f 23) (f 24) (f 25) (f 26) (f 28) (f 29) (f 30) (f 15) (f 17) (v 23) (v 24) dd a1 t a2 1) x3.toNat) → (0 < x3 → d2_3 1 = mxI (fun t => evR (f 2) (f 3) (gFd (f 20) (f 21) (f 22) (f 23) (f 24) (f 25) (f 26) (f 28) (f 29) (f 30) (f 15) (f 17) (v 23) (v 24) dd a1 t a2) (v 2)) x3.toNat) → gWd D (rwT k ad) v (va_up f 39 c39_3) (va_up (va_up (va_up g 0 d0_3) 2 d2_3) 3 (g 3)) H → va_S A s.heap H locs → lv_has ls 5 [(0, .ref (ad 47)), (1, .int (iI a1)), (2, .int (iI a2)), (3, .int (iI x3))] → W p l e (gRm 3 85) s m args below meth c H locs 0 0 Q (F0 m 10 ls []) := by
    intro n
    induction n with
    | zero =>
      intro x3 c39_3 d0_3 d2_3 H locs ls hn_3 i3_0 i3_1 i3_2 i3_3 i3_4 hP hS hl
      exfalso; omega
    | succ n ih_10 =>
      intro x3 c39_3 d0_3 d2_3 H locs ls hn_3 i3_0 i3_1 i3_2 i3_3 i3_4 hP hS hl
      have hI1 := i3_1
      have hI3 := i3_2
      have hI5 := i3_3
      have hI4 := i3_4
      have hmz : x3 = 0 → mxI (fun t => evR (f 2) (f 3) (gFd (f 20) (f 21) (f 22) (f 23) (f 24) (f 25) (f 26) (f 28) (f 29) (f 30) (f 15) (f 17) (v 23) (v 24) dd a1 t a2) (v 2)) x3.toNat = -1000000000 := fun h => by rw [h]; rfl
      refine lv_iload_n hx hb dX5_workKeys_10 rfl (lv_at hl 3 rfl) ?_
      refine lv_aload_n hx hb dX5_workKeys_11 rfl (lv_at hl 0 rfl) ?_
      refine rwG_results_laws C hP mF_X5_43 dX5_workKeys_12 ?_
      refine lv_iload_n hx hb dX5_workKeys_15 rfl (lv_at hl 1 rfl) ?_
      refine lv_iconst (v := iI 0) hx hb dX5_workKeys_16 rfl ?_
      refine g_cv (As := [.int (iI a1), .int (iI 0)]) (rest := [.int (iI x3)]) (n := 2) C hml (c_X4_shapeOf l D k A ad hD v (va_up f 39 c39_3) (va_up (va_up (va_up g 0 d0_3) 2 d2_3) 3 (g 3)) a1 0 (by omega) (by decide)) mM_X5_126 mI_X4_shapeOf mE_X4_shapeOf mN_X4 mC_X4_shapeOf (by decide +kernel) 2 (ci := 4) rfl rfl hP hS (fun _ h => h) ⟨Nat.le_of_ble_eq_true rfl, Nat.le_of_ble_eq_true rfl⟩ ⟨Nat.zero_le _, Nat.zero_le _⟩ hl.1 rfl rfl (Nat.le_of_ble_eq_true rfl) dX5_workKeys_17 (fun r_4 v_4 f_4 g_4 H locs hq_4 hP _ hS => ?_)
      obtain ⟨z_4, rfl, rfl, rfl, rfl, p0_4, p1_4⟩ := hq_4
      show W p l e (gRm 3 85) s m args below meth c _ _ 0 0 Q (F0 m 20 ls [.int (iI z_4), .int (iI x3)])
      replace p0_4 : z_4 = (if (0 ≤ a1 ∧ a1 < (v 1)) ∧ 0 ≤ (0 : Int) ∧ (0 : Int) < 4 then (f 1) (a1 * 4 + (0 : Int)) else 0) := p0_4
      replace p1_4 : 0 ≤ z_4 ∧ z_4 ≤ 999999 := p1_4
      have hz_4 : inR z_4 := (by first | omega | (rw [p0_4]; split <;> omega))
      have hR_4 : z_4 = (f 1) (a1 * 4) := by rw [p0_4, if_pos (by omega), Int.add_zero]
      refine gi_cge (tgt := 121) hx hb dX5_workKeys_20 (by decide) (by omega) (by omega) (fun c_5 => ?_) (fun c_5 => ?_)
      · have hxe : x3 = ((f 1) (a1 * 4)) := by omega
        rw [hxe] at hI1 hI3 hI5 hI4
        have hTk : ∀ kd, 0 ≤ kd → kd ≤ 3 → d2_3 kd = kV (f 2) (f 3) (v 2) (gFd (f 20) (f 21) (f 22) (f 23) (f 24) (f 25) (f 26) (f 28) (f 29) (f 30) (f 15) (f 17) (v 23) (v 24) dd) ((f 1) (a1 * 4)) kd a1 a2 := fun kd k0 k1 => kv_pick hI1 (hI4 (by omega)) hI3 hI5 ⟨k0, k1⟩
        refine lv_iconst (v := iI 0) hx hb dX5_workKeys_121 rfl ?_
        refine lv_istore_n (lv' := [(3, .int (iI 0)), (0, .ref (ad 47)), (1, .int (iI a1)), (2, .int (iI a2))]) hx hb dX5_workKeys_122 rfl hl (by decide) rfl (fun ls hl => ?_)
        have L_6 : ∀ (n : Nat) (x3 : Int) (d3_6 : Int → Int) (H : Heap) (locs : List Loc) (ls : Array Slot), 4 - x3 < (n : Int) → (0 ≤ x3 ∧ x3 ≤ (v 3)) → (∀ j, 0 ≤ j → j < x3 → d3_6 ((a1 * 16 + a2) * 4 + j) = kV (f 2) (f 3) (v 2) (gFd (f 20) (f 21) (f 22) (f 23) (f 24) (f 25) (f 26) (f 28) (f 29) (f 30) (f 15) (f 17) (v 23) (v 24) dd) ((f 1) (a1 * 4)) ((f 4) j) a1 a2) → (∀ e, e < (a1 * 16 + a2) * 4 ∨ (a1 * 16 + a2) * 4 + 4 ≤ e → d3_6 e = (g 3) e) → gWd D (rwT k ad) v (va_up f 39 c39_3) (va_up (va_up (va_up g 0 d0_3) 2 d2_3) 3 d3_6) H → va_S A s.heap H locs → lv_has ls 5 [(0, .ref (ad 47)), (1, .int (iI a1)), (2, .int (iI a2)), (3, .int (iI x3))] → W p l e (gRm 3 85) s m args below meth c H locs 0 0 Q (F0 m 123 ls []) := by
          intro n
          induction n with
          | zero =>
            intro x3 d3_6 H locs ls hn_6 i6_0 i6_1 i6_2 hP hS hl
            exfalso; omega
          | succ n ih_123 =>
            intro x3 d3_6 H locs ls hn_6 i6_0 i6_1 i6_2 hP hS hl
            have hJ1 := i6_1
            have hJ2 := i6_2
            refine lv_iload_n hx hb dX5_workKeys_123 rfl (lv_at hl 3 rfl) ?_
            refine lv_aload_n hx hb dX5_workKeys_124 rfl (lv_at hl 0 rfl) ?_
            refine rwG_results_laws C hP mF_X5_43 dX5_workKeys_125 ?_
            refine rwG_laws_keys C hP mF_X5_145 dX5_workKeys_128 ?_
            refine gi_cge (tgt := 166) hx hb dX5_workKeys_131 (by decide) (by omega) (by omega) (fun c_7 => ?_) (fun c_7 => ?_)
            · exact g_vret hQ C hr hlocks hP hS dX5_workKeys_166 ⟨c39_3, d0_3, d2_3, d3_6, rfl, rfl, rfl, rfl, (by rw [show (v 3) = x3 by omega]; exact hJ1), hJ2⟩
            · refine lv_aload_n hx hb dX5_workKeys_134 rfl (lv_at hl 0 rfl) ?_
              refine rwG_results_keyRows C hP mF_X5_37 dX5_workKeys_135 ?_
              refine lv_iload_n hx hb dX5_workKeys_138 rfl (lv_at hl 1 rfl) ?_
              refine lv_iload_n hx hb dX5_workKeys_139 rfl (lv_at hl 2 rfl) ?_
              refine g_cs (As := [.int (iI a1), .int (iI a2)]) (rest := [.ref (ad 56)]) (n := 2) C hml (c_X5_keyRow l D k A ad hD v (va_up f 39 c39_3) (va_up (va_up (va_up g 0 d0_3) 2 d2_3) 3 d3_6) a1 a2 (by omega) (by omega) (show 0 ≤ a1 ∧ a1 ≤ 3 from by omega) (show 0 ≤ a2 ∧ a2 ≤ 15 from by omega)) mM_X5_148 mS_X5_keyRow mN_X5 mC_X5_keyRow (by decide +kernel) hP hS (fun _ h => h) ⟨Nat.le_of_ble_eq_true rfl, Nat.le_of_ble_eq_true rfl⟩ ⟨Nat.zero_le _, Nat.zero_le _⟩ hl.1 rfl rfl (Nat.le_of_ble_eq_true rfl) dX5_workKeys_140 (fun r_8 v_8 f_8 g_8 H locs hq_8 hP _ hS => ?_)
              obtain ⟨z_8, rfl, rfl, rfl, rfl, p0_8⟩ := hq_8
              show W p l e (gRm 3 85) s m args below meth c _ _ 0 0 Q (F0 m 143 ls [.int (iI z_8), .ref (ad 56)])
              replace p0_8 : z_8 = ((a1 * 16 + a2) * 4) := p0_8
              have hz_8 : inR z_8 := (by first | omega | (rw [p0_8]; split <;> omega))
              refine lv_iload_n hx hb dX5_workKeys_143 rfl (lv_at hl 3 rfl) ?_
              refine gi_add (z := (z_8 + x3)) hx hb dX5_workKeys_144 rfl ?_
              refine lv_aload_n hx hb dX5_workKeys_145 rfl (lv_at hl 0 rfl) ?_
              refine rwG_results_totals C hP mF_X5_33 dX5_workKeys_146 ?_
              refine lv_aload_n hx hb dX5_workKeys_149 rfl (lv_at hl 0 rfl) ?_
              refine rwG_results_laws C hP mF_X5_43 dX5_workKeys_150 ?_
              refine rwG_laws_keyKind C hP mF_X5_151 dX5_workKeys_153 ?_
              refine lv_iload_n hx hb dX5_workKeys_156 rfl (lv_at hl 3 rfl) ?_
              refine rwL_laws_keyKind C hP (by omega) (by omega) dX5_workKeys_157 ?_
              show W p l e (gRm 3 85) s m args below meth c _ _ 0 0 Q (F0 m 158 ls [.int (iI (f 4 x3)), .ref (ad 55), .int (iI (z_8 + x3)), .ref (ad 56)])
              have r_9 : 0 ≤ (f 4 x3) ∧ (f 4 x3) ≤ 3 := hP.2.2 4 x3
              refine rwL_results_totals C hP (by omega) (by omega) dX5_workKeys_158 ?_
              show W p l e (gRm 3 85) s m args below meth c _ _ 0 0 Q (F0 m 159 ls [.long (iL (d2_3 (f 4 x3))), .int (iI (z_8 + x3)), .ref (ad 56)])
              refine rwS_results_keyRows (g1 := (va_up (va_up (va_up g 0 d0_3) 2 d2_3) 3 (u1 d3_6 (z_8 + x3) (d2_3 (f 4 x3))))) C hP hD hS (by omega) (by omega) rfl dX5_workKeys_159 (fun H locs hP hS => ?_)
              refine lv_iinc (v := iI (x3 + 1)) (lv' := [(3, .int (iI (x3 + 1))), (0, .ref (ad 47)), (1, .int (iI a1)), (2, .int (iI a2))]) hx hb dX5_workKeys_160 hl (k := 3) rfl (by show iI _ + iI 1 = _; rw [iI_add]) (by decide) rfl (fun ls hl => ?_)
              refine lv_goto (tgt := 123) hx hb dX5_workKeys_163 (by decide) ?_
              exact ih_123 (x3 + 1) (u1 d3_6 (z_8 + x3) (d2_3 (f 4 x3))) _ _ _ (by omega) (by omega) (kr_s (K := fun j => kV (f 2) (f 3) (v 2) (gFd (f 20) (f 21) (f 22) (f 23) (f 24) (f 25) (f 26) (f 28) (f 29) (f 30) (f 15) (f 17) (v 23) (v 24) dd) ((f 1) (a1 * 4)) ((f 4) j) a1 a2) hJ1 (by omega) (hTk _ (by omega) (by omega))) (kr_o (x := x3) hJ2 (by omega) (by omega)) hP hS (lv_sub hl [1, 2, 3, 0] rfl)
        exact L_6 5 0 (g 3) _ _ _ (by omega) (by omega) (fun j h0 h1 => by omega) (fun e _ => rfl) hP hS (lv_sub hl [1, 2, 3, 0] rfl)
      · refine lv_aload_n hx hb dX5_workKeys_23 rfl (lv_at hl 0 rfl) ?_
        refine lv_iload_n hx hb dX5_workKeys_24 rfl (lv_at hl 1 rfl) ?_
        refine lv_iload_n hx hb dX5_workKeys_25 rfl (lv_at hl 2 rfl) ?_
        refine lv_iload_n hx hb dX5_workKeys_26 rfl (lv_at hl 3 rfl) ?_
        refine g_cv (As := [.int (iI a1), .int (iI a2), .int (iI x3)]) (rest := []) (n := 3) C hml (x_Re_workFacts l D k A ad hD v (va_up f 39 c39_3) (va_up (va_up (va_up g 0 d0_3) 2 d2_3) 3 (g 3)) a1 a2 x3 dd (by omega) (by omega) (by omega) (show 0 ≤ a1 ∧ a1 ≤ 3 from by omega) (show 0 ≤ a2 ∧ a2 ≤ 15 from by omega) (show 0 ≤ x3 ∧ x3 ≤ 4 from by omega) (show svOk (f 20) (f 21) (f 22) (f 26) (Fk (f 28) (f 29) (f 30) (f 25) (v 24) dd) (v 23) (f 36) (f 37) (f 38) from hsv) (show ∀ k, 0 ≤ k → k < (v 23) → (f 34) k = (Fk (f 28) (f 29) (f 30) (f 25) (v 24) dd) k from hkn)) mM_X5_131 mI_X5_workFacts mE_X5_workFacts mN_X5 mC_X5_workFacts (by decide +kernel) 47 (ci := 5) rfl rfl hP hS (fun _ h => h) ⟨Nat.le_of_ble_eq_true rfl, Nat.le_of_ble_eq_true rfl⟩ ⟨Nat.zero_le _, Nat.zero_le _⟩ hl.1 rfl rfl (Nat.le_of_ble_eq_true rfl) dX5_workKeys_27 (fun r_10 v_10 f_10 g_10 H locs hq_10 hP _ hS => ?_)
        obtain ⟨a39_10, rfl, rfl, rfl, rfl, p0_10⟩ := hq_10
        show W p l e (gRm 3 85) s m args below meth c _ _ 0 0 Q (F0 m 30 ls [])
        have hP : gWd D (rwT k ad) v (va_up f 39 a39_10) (va_up (va_up (va_up g 0 d0_3) 2 d2_3) 3 (g 3)) H := ⟨hP.1, (gF_up (V := rwV) (F := rwF) ⟨hok.1, hok.2⟩ 39 (hP.2.2 39))⟩
        replace p0_10 : a39_10 0 = gFd (f 20) (f 21) (f 22) (f 23) (f 24) (f 25) (f 26) (f 28) (f 29) (f 30) (f 15) (f 17) (v 23) (v 24) dd a1 x3 a2 0 ∧ a39_10 1 = gFd (f 20) (f 21) (f 22) (f 23) (f 24) (f 25) (f 26) (f 28) (f 29) (f 30) (f 15) (f 17) (v 23) (v 24) dd a1 x3 a2 1 ∧ a39_10 2 = gFd (f 20) (f 21) (f 22) (f 23) (f 24) (f 25) (f 26) (f 28) (f 29) (f 30) (f 15) (f 17) (v 23) (v 24) dd a1 x3 a2 2 ∧ a39_10 3 = gFd (f 20) (f 21) (f 22) (f 23) (f 24) (f 25) (f 26) (f 28) (f 29) (f 30) (f 15) (f 17) (v 23) (v 24) dd a1 x3 a2 3 ∧ a39_10 4 = gFd (f 20) (f 21) (f 22) (f 23) (f 24) (f 25) (f 26) (f 28) (f 29) (f 30) (f 15) (f 17) (v 23) (v 24) dd a1 x3 a2 4 ∧ a39_10 5 = gFd (f 20) (f 21) (f 22) (f 23) (f 24) (f 25) (f 26) (f 28) (f 29) (f 30) (f 15) (f 17) (v 23) (v 24) dd a1 x3 a2 5 := p0_10
        have hF := p0_10
        refine lv_aload_n hx hb dX5_workKeys_30 rfl (lv_at hl 0 rfl) ?_
        refine rwG_results_laws C hP mF_X5_43 dX5_workKeys_31 ?_
        refine lv_aload_n hx hb dX5_workKeys_34 rfl (lv_at hl 0 rfl) ?_
        refine rwG_results_facts C hP mF_X5_27 dX5_workKeys_35 ?_
        refine g_cv (As := [.ref (ad 53)]) (rest := []) (n := 1) C hml (x_La_pointsFor l D k A ad hD v (va_up f 39 a39_10) (va_up (va_up (va_up g 0 d0_3) 2 d2_3) 3 (g 3))) mM_X5_135 mI_X4_pointsFor mE_X4_pointsFor mN_X4 mC_X4_pointsFor (by decide +kernel) 2 (ci := 4) rfl rfl hP hS (fun _ h => h) ⟨Nat.le_of_ble_eq_true rfl, Nat.le_of_ble_eq_true rfl⟩ ⟨Nat.zero_le _, Nat.zero_le _⟩ hl.1 rfl rfl (Nat.le_of_ble_eq_true rfl) dX5_workKeys_38 (fun r_11 v_11 f_11 g_11 H locs hq_11 hP _ hS => ?_)
        obtain ⟨z_11, b0_11, rfl, rfl, rfl, rfl, p0_11, p1_11⟩ := hq_11
        show W p l e (gRm 3 85) s m args below meth c _ _ 0 0 Q (F0 m 41 ls [.int (iI z_11)])
        have hP : gWd D (rwT k ad) v (va_up f 39 a39_10) (va_up (va_up (va_up g 0 b0_11) 2 d2_3) 3 (g 3)) H := ⟨hP.1, (gF_up (V := rwV) (F := rwF) ⟨hok.1, hok.2⟩ 39 (hP.2.2 39))⟩
        replace p0_11 : z_11 = (evR (f 2) (f 3) a39_10 (v 2)) := p0_11
        replace p1_11 : (-1000000000) ≤ z_11 ∧ z_11 ≤ 1000000000 := p1_11
        have hz_11 : inR z_11 := (by first | omega | (rw [p0_11]; split <;> omega))
        have hpt : z_11 = evR (f 2) (f 3) (gFd (f 20) (f 21) (f 22) (f 23) (f 24) (f 25) (f 26) (f 28) (f 29) (f 30) (f 15) (f 17) (v 23) (v 24) dd a1 x3 a2) (v 2) := by rw [p0_11]; unfold evR; rw [evL_fa (fun k => ⟨(hit k).1, by have := (hit k).2; omega⟩) (fun i i0 i1 => fa_i hF i0 i1)]
        refine lv_istore (lv' := [(4, .int (iI z_11)), (0, .ref (ad 47)), (1, .int (iI a1)), (2, .int (iI a2)), (3, .int (iI x3))]) hx hb dX5_workKeys_41 hl (by decide) rfl (fun ls hl => ?_)
        refine lv_aload_n hx hb dX5_workKeys_43 rfl (lv_at hl 1 rfl) ?_
        refine rwG_results_totals C hP mF_X5_33 dX5_workKeys_44 ?_
        refine lv_iconst (v := iI 0) hx hb dX5_workKeys_47 rfl ?_
        refine lv_dup2_11 hx hb dX5_workKeys_48 rfl rfl ?_
        refine rwL_results_totals C hP (by decide) (by decide) dX5_workKeys_49 ?_
        show W p l e (gRm 3 85) s m args below meth c _ _ 0 0 Q (F0 m 50 ls [.long (iL (d2_3 0)), .int (iI 0), .ref (ad 55)])
        refine lv_iload hx hb dX5_workKeys_50 (lv_at hl 0 rfl) ?_
        refine gi_i2l hx hb (by omega) dX5_workKeys_52 ?_
        refine gl_add (z := ((d2_3 0) + z_11)) hx hb dX5_workKeys_53 rfl ?_
        refine rwS_results_totals (g1 := (va_up (va_up (va_up g 0 b0_11) 2 (u1 d2_3 0 ((d2_3 0) + z_11))) 3 (g 3))) C hP hD hS (by decide) (by decide) rfl dX5_workKeys_54 (fun H locs hP hS => ?_)
        refine lv_aload_n hx hb dX5_workKeys_55 rfl (lv_at hl 1 rfl) ?_
        refine rwG_results_totals C hP mF_X5_33 dX5_workKeys_56 ?_
        refine lv_iconst (v := iI 1) hx hb dX5_workKeys_59 rfl ?_
        refine lv_iload_n hx hb dX5_workKeys_60 rfl (lv_at hl 4 rfl) ?_
        refine gi_zne (tgt := 70) hx hb dX5_workKeys_61 (by decide) (by omega) (fun c_12 => ?_) (fun c_12 => ?_)
        · refine lv_aload_n hx hb dX5_workKeys_70 rfl (lv_at hl 1 rfl) ?_
          refine rwG_results_totals C hP mF_X5_33 dX5_workKeys_71 ?_
          refine lv_iconst (v := iI 1) hx hb dX5_workKeys_74 rfl ?_
          refine rwL_results_totals C hP (by decide) (by decide) dX5_workKeys_75 ?_
          show W p l e (gRm 3 85) s m args below meth c _ _ 0 0 Q (F0 m 76 ls [.long (iL ((u1 d2_3 0 ((d2_3 0) + z_11)) 1)), .int (iI 1), .ref (ad 55)])
          refine lv_iload hx hb dX5_workKeys_76 (lv_at hl 0 rfl) ?_
          refine gi_i2l hx hb (by omega) dX5_workKeys_78 ?_
          have hT1 : (u1 d2_3 0 ((d2_3 0) + z_11)) 1 = mxI (fun t => evR (f 2) (f 3) (gFd (f 20) (f 21) (f 22) (f 23) (f 24) (f 25) (f 26) (f 28) (f 29) (f 30) (f 15) (f 17) (v 23) (v 24) dd a1 t a2) (v 2)) x3.toNat := hI4 (by omega)
          have hT1b := mxI_r (g := (fun t => evR (f 2) (f 3) (gFd (f 20) (f 21) (f 22) (f 23) (f 24) (f 25) (f 26) (f 28) (f 29) (f 30) (f 15) (f 17) (v 23) (v 24) dd a1 t a2) (v 2))) (fun t => hPr a1 t a2) x3.toNat
          refine gl_maxE C hml hl.1 mM_X5_139 (by omega) (by omega) (Nat.le_of_ble_eq_true rfl) (Nat.le_of_ble_eq_true rfl) dX5_workKeys_79 (fun x_13 hx_13 => ?_)
          refine rwS_results_totals (g1 := (va_up (va_up (va_up g 0 b0_11) 2 (u1 (u1 d2_3 0 ((d2_3 0) + z_11)) 1 x_13)) 3 (g 3))) C hP hD hS (by decide) (by decide) rfl dX5_workKeys_82 (fun H locs hP hS => ?_)
          refine lv_aload_n hx hb dX5_workKeys_83 rfl (lv_at hl 1 rfl) ?_
          refine rwG_results_totals C hP mF_X5_33 dX5_workKeys_84 ?_
          refine lv_iconst (v := iI 2) hx hb dX5_workKeys_87 rfl ?_
          refine lv_dup2_11 hx hb dX5_workKeys_88 rfl rfl ?_
          refine rwL_results_totals C hP (by decide) (by decide) dX5_workKeys_89 ?_
          show W p l e (gRm 3 85) s m args below meth c _ _ 0 0 Q (F0 m 90 ls [.long (iL ((u1 (u1 d2_3 0 ((d2_3 0) + z_11)) 1 x_13) 2)), .int (iI 2), .ref (ad 55)])
          refine lv_aload_n hx hb dX5_workKeys_90 rfl (lv_at hl 1 rfl) ?_
          refine rwG_results_facts C hP mF_X5_27 dX5_workKeys_91 ?_
          refine lv_iconst (v := iI 0) hx hb dX5_workKeys_94 rfl ?_
          refine rwL_results_facts C hP (by decide) (by decide) dX5_workKeys_95 ?_
          show W p l e (gRm 3 85) s m args below meth c _ _ 0 0 Q (F0 m 96 ls [.int (iI (a39_10 0)), .long (iL ((u1 (u1 d2_3 0 ((d2_3 0) + z_11)) 1 x_13) 2)), .int (iI 2), .ref (ad 55)])
          have r_14 : (-2000000) ≤ (a39_10 0) ∧ (a39_10 0) ≤ 2000000 := hP.2.2 39 0
          refine gi_i2l hx hb (by omega) dX5_workKeys_96 ?_
          refine gl_add (z := (((u1 (u1 d2_3 0 ((d2_3 0) + z_11)) 1 x_13) 2) + (a39_10 0))) hx hb dX5_workKeys_97 rfl ?_
          refine rwS_results_totals (g1 := (va_up (va_up (va_up g 0 b0_11) 2 (u1 (u1 (u1 d2_3 0 ((d2_3 0) + z_11)) 1 x_13) 2 (((u1 (u1 d2_3 0 ((d2_3 0) + z_11)) 1 x_13) 2) + (a39_10 0)))) 3 (g 3))) C hP hD hS (by decide) (by decide) rfl dX5_workKeys_98 (fun H locs hP hS => ?_)
          refine lv_aload_n hx hb dX5_workKeys_99 rfl (lv_at hl 1 rfl) ?_
          refine rwG_results_totals C hP mF_X5_33 dX5_workKeys_100 ?_
          refine lv_iconst (v := iI 3) hx hb dX5_workKeys_103 rfl ?_
          refine lv_dup2_11 hx hb dX5_workKeys_104 rfl rfl ?_
          refine rwL_results_totals C hP (by decide) (by decide) dX5_workKeys_105 ?_
          show W p l e (gRm 3 85) s m args below meth c _ _ 0 0 Q (F0 m 106 ls [.long (iL ((u1 (u1 (u1 d2_3 0 ((d2_3 0) + z_11)) 1 x_13) 2 (((u1 (u1 d2_3 0 ((d2_3 0) + z_11)) 1 x_13) 2) + (a39_10 0))) 3)), .int (iI 3), .ref (ad 55)])
          refine lv_aload_n hx hb dX5_workKeys_106 rfl (lv_at hl 1 rfl) ?_
          refine rwG_results_facts C hP mF_X5_27 dX5_workKeys_107 ?_
          refine lv_iconst (v := iI 1) hx hb dX5_workKeys_110 rfl ?_
          refine rwL_results_facts C hP (by decide) (by decide) dX5_workKeys_111 ?_
          show W p l e (gRm 3 85) s m args below meth c _ _ 0 0 Q (F0 m 112 ls [.int (iI (a39_10 1)), .long (iL ((u1 (u1 (u1 d2_3 0 ((d2_3 0) + z_11)) 1 x_13) 2 (((u1 (u1 d2_3 0 ((d2_3 0) + z_11)) 1 x_13) 2) + (a39_10 0))) 3)), .int (iI 3), .ref (ad 55)])
          have r_15 : (-2000000) ≤ (a39_10 1) ∧ (a39_10 1) ≤ 2000000 := hP.2.2 39 1
          refine gi_i2l hx hb (by omega) dX5_workKeys_112 ?_
          refine gl_add (z := (((u1 (u1 (u1 d2_3 0 ((d2_3 0) + z_11)) 1 x_13) 2 (((u1 (u1 d2_3 0 ((d2_3 0) + z_11)) 1 x_13) 2) + (a39_10 0))) 3) + (a39_10 1))) hx hb dX5_workKeys_113 rfl ?_
          refine rwS_results_totals (g1 := (va_up (va_up (va_up g 0 b0_11) 2 (u1 (u1 (u1 (u1 d2_3 0 ((d2_3 0) + z_11)) 1 x_13) 2 (((u1 (u1 d2_3 0 ((d2_3 0) + z_11)) 1 x_13) 2) + (a39_10 0))) 3 (((u1 (u1 (u1 d2_3 0 ((d2_3 0) + z_11)) 1 x_13) 2 (((u1 (u1 d2_3 0 ((d2_3 0) + z_11)) 1 x_13) 2) + (a39_10 0))) 3) + (a39_10 1)))) 3 (g 3))) C hP hD hS (by decide) (by decide) rfl dX5_workKeys_114 (fun H locs hP hS => ?_)
          refine lv_iinc (v := iI (x3 + 1)) (lv' := [(3, .int (iI (x3 + 1))), (4, .int (iI z_11)), (0, .ref (ad 47)), (1, .int (iI a1)), (2, .int (iI a2))]) hx hb dX5_workKeys_115 hl (k := 4) rfl (by show iI _ + iI 1 = _; rw [iI_add]) (by decide) rfl (fun ls hl => ?_)
          refine lv_goto (tgt := 10) hx hb dX5_workKeys_118 (by decide) ?_
          exact ih_10 (x3 + 1) a39_10 b0_11 (u1 (u1 (u1 (u1 d2_3 0 ((d2_3 0) + z_11)) 1 x_13) 2 (((u1 (u1 d2_3 0 ((d2_3 0) + z_11)) 1 x_13) 2) + (a39_10 0))) 3 (((u1 (u1 (u1 d2_3 0 ((d2_3 0) + z_11)) 1 x_13) 2 (((u1 (u1 d2_3 0 ((d2_3 0) + z_11)) 1 x_13) 2) + (a39_10 0))) 3) + (a39_10 1))) _ _ _ (by omega) (by omega) (tot4.1.trans (by rw [sumI_s (by omega), ← hI1, ← hpt])) (tot4.2.2.1.trans (by rw [sumI_s (by omega), ← hI3, ← hF.1]; rfl)) (tot4.2.2.2.trans (by rw [sumI_s (by omega), ← hI5, ← hF.2.1]; rfl)) (fun _ => tot4.2.1.trans (by rw [mxI_s (by omega), ← hpt]; split <;> omega)) hP hS (lv_sub hl [2, 3, 4, 0] rfl)
        · refine lv_iload hx hb dX5_workKeys_64 (lv_at hl 0 rfl) ?_
          refine gi_i2l hx hb (by omega) dX5_workKeys_66 ?_
          refine lv_goto (tgt := 82) hx hb dX5_workKeys_67 (by decide) ?_
          refine rwS_results_totals (g1 := (va_up (va_up (va_up g 0 b0_11) 2 (u1 (u1 d2_3 0 ((d2_3 0) + z_11)) 1 z_11)) 3 (g 3))) C hP hD hS (by decide) (by decide) rfl dX5_workKeys_82 (fun H locs hP hS => ?_)
          refine lv_aload_n hx hb dX5_workKeys_83 rfl (lv_at hl 1 rfl) ?_
          refine rwG_results_totals C hP mF_X5_33 dX5_workKeys_84 ?_
          refine lv_iconst (v := iI 2) hx hb dX5_workKeys_87 rfl ?_
          refine lv_dup2_11 hx hb dX5_workKeys_88 rfl rfl ?_
          refine rwL_results_totals C hP (by decide) (by decide) dX5_workKeys_89 ?_
          show W p l e (gRm 3 85) s m args below meth c _ _ 0 0 Q (F0 m 90 ls [.long (iL ((u1 (u1 d2_3 0 ((d2_3 0) + z_11)) 1 z_11) 2)), .int (iI 2), .ref (ad 55)])
          refine lv_aload_n hx hb dX5_workKeys_90 rfl (lv_at hl 1 rfl) ?_
          refine rwG_results_facts C hP mF_X5_27 dX5_workKeys_91 ?_
          refine lv_iconst (v := iI 0) hx hb dX5_workKeys_94 rfl ?_
          refine rwL_results_facts C hP (by decide) (by decide) dX5_workKeys_95 ?_
          show W p l e (gRm 3 85) s m args below meth c _ _ 0 0 Q (F0 m 96 ls [.int (iI (a39_10 0)), .long (iL ((u1 (u1 d2_3 0 ((d2_3 0) + z_11)) 1 z_11) 2)), .int (iI 2), .ref (ad 55)])
          have r_16 : (-2000000) ≤ (a39_10 0) ∧ (a39_10 0) ≤ 2000000 := hP.2.2 39 0
          refine gi_i2l hx hb (by omega) dX5_workKeys_96 ?_
          refine gl_add (z := (((u1 (u1 d2_3 0 ((d2_3 0) + z_11)) 1 z_11) 2) + (a39_10 0))) hx hb dX5_workKeys_97 rfl ?_
          refine rwS_results_totals (g1 := (va_up (va_up (va_up g 0 b0_11) 2 (u1 (u1 (u1 d2_3 0 ((d2_3 0) + z_11)) 1 z_11) 2 (((u1 (u1 d2_3 0 ((d2_3 0) + z_11)) 1 z_11) 2) + (a39_10 0)))) 3 (g 3))) C hP hD hS (by decide) (by decide) rfl dX5_workKeys_98 (fun H locs hP hS => ?_)
          refine lv_aload_n hx hb dX5_workKeys_99 rfl (lv_at hl 1 rfl) ?_
          refine rwG_results_totals C hP mF_X5_33 dX5_workKeys_100 ?_
          refine lv_iconst (v := iI 3) hx hb dX5_workKeys_103 rfl ?_
          refine lv_dup2_11 hx hb dX5_workKeys_104 rfl rfl ?_
          refine rwL_results_totals C hP (by decide) (by decide) dX5_workKeys_105 ?_
          show W p l e (gRm 3 85) s m args below meth c _ _ 0 0 Q (F0 m 106 ls [.long (iL ((u1 (u1 (u1 d2_3 0 ((d2_3 0) + z_11)) 1 z_11) 2 (((u1 (u1 d2_3 0 ((d2_3 0) + z_11)) 1 z_11) 2) + (a39_10 0))) 3)), .int (iI 3), .ref (ad 55)])
          refine lv_aload_n hx hb dX5_workKeys_106 rfl (lv_at hl 1 rfl) ?_
          refine rwG_results_facts C hP mF_X5_27 dX5_workKeys_107 ?_
          refine lv_iconst (v := iI 1) hx hb dX5_workKeys_110 rfl ?_
          refine rwL_results_facts C hP (by decide) (by decide) dX5_workKeys_111 ?_
          show W p l e (gRm 3 85) s m args below meth c _ _ 0 0 Q (F0 m 112 ls [.int (iI (a39_10 1)), .long (iL ((u1 (u1 (u1 d2_3 0 ((d2_3 0) + z_11)) 1 z_11) 2 (((u1 (u1 d2_3 0 ((d2_3 0) + z_11)) 1 z_11) 2) + (a39_10 0))) 3)), .int (iI 3), .ref (ad 55)])
          have r_17 : (-2000000) ≤ (a39_10 1) ∧ (a39_10 1) ≤ 2000000 := hP.2.2 39 1
          refine gi_i2l hx hb (by omega) dX5_workKeys_112 ?_
          refine gl_add (z := (((u1 (u1 (u1 d2_3 0 ((d2_3 0) + z_11)) 1 z_11) 2 (((u1 (u1 d2_3 0 ((d2_3 0) + z_11)) 1 z_11) 2) + (a39_10 0))) 3) + (a39_10 1))) hx hb dX5_workKeys_113 rfl ?_
          refine rwS_results_totals (g1 := (va_up (va_up (va_up g 0 b0_11) 2 (u1 (u1 (u1 (u1 d2_3 0 ((d2_3 0) + z_11)) 1 z_11) 2 (((u1 (u1 d2_3 0 ((d2_3 0) + z_11)) 1 z_11) 2) + (a39_10 0))) 3 (((u1 (u1 (u1 d2_3 0 ((d2_3 0) + z_11)) 1 z_11) 2 (((u1 (u1 d2_3 0 ((d2_3 0) + z_11)) 1 z_11) 2) + (a39_10 0))) 3) + (a39_10 1)))) 3 (g 3))) C hP hD hS (by decide) (by decide) rfl dX5_workKeys_114 (fun H locs hP hS => ?_)
          refine lv_iinc (v := iI (x3 + 1)) (lv' := [(3, .int (iI (x3 + 1))), (4, .int (iI z_11)), (0, .ref (ad 47)), (1, .int (iI a1)), (2, .int (iI a2))]) hx hb dX5_workKeys_115 hl (k := 4) rfl (by show iI _ + iI 1 = _; rw [iI_add]) (by decide) rfl (fun ls hl => ?_)
          refine lv_goto (tgt := 10) hx hb dX5_workKeys_118 (by decide) ?_
          exact ih_10 (x3 + 1) a39_10 b0_11 (u1 (u1 (u1 (u1 d2_3 0 ((d2_3 0) + z_11)) 1 z_11) 2 (((u1 (u1 d2_3 0 ((d2_3 0) + z_11)) 1 z_11) 2) + (a39_10 0))) 3 (((u1 (u1 (u1 d2_3 0 ((d2_3 0) + z_11)) 1 z_11) 2 (((u1 (u1 d2_3 0 ((d2_3 0) + z_11)) 1 z_11) 2) + (a39_10 0))) 3) + (a39_10 1))) _ _ _ (by omega) (by omega) (tot4.1.trans (by rw [sumI_s (by omega), ← hI1, ← hpt])) (tot4.2.2.1.trans (by rw [sumI_s (by omega), ← hI3, ← hF.1]; rfl)) (tot4.2.2.2.trans (by rw [sumI_s (by omega), ← hI5, ← hF.2.1]; rfl)) (fun _ => tot4.2.1.trans (by rw [mxI_s (by omega), ← hpt]; split <;> omega)) hP hS (lv_sub hl [2, 3, 4, 0] rfl)
  exact L_3 6 0 (f 39) (g 0) (gfill (g 2) 4 0) _ _ _ (by omega) (by omega) (show gfill _ 4 0 _ = 0 from if_pos (by decide)) (show gfill _ 4 0 _ = 0 from if_pos (by decide)) (show gfill _ 4 0 _ = 0 from if_pos (by decide)) (fun h => by omega) hP hS (lv_sub hl [1, 2, 3, 0] rfl)

set_option maxHeartbeats 4000000 in
set_option maxRecDepth 100000 in
theorem x_Re_keyOf (l : Launch) (D : va_G) (k : Nat → ClassId) (A : Nat → Prop) (ad : Nat → Nat) (hD : rwD A k ad) (v : gV) (f g : gF) (a1 : Int) (a2 : Int) (a3 : Int) (h_a1 : inR a1) (h_a2 : inR a2) (h_a3 : inR a3) (h1 : 0 ≤ a1 ∧ a1 ≤ 3) (h2 : 0 ≤ a2 ∧ a2 ≤ 15) (h3 : 0 ≤ a3 ∧ a3 < 4) : GM l D k A (rwT k ad) yX5_keyOf cX5_keyOf 4 (some .long) 1 21 [.ref (ad 47), .int (iI a1), .int (iI a2), .int (iI a3)] v f g (fun r v1 f1 g1 => ∃ (z : Int), r = some (.long (iL z)) ∧ v = v1 ∧ f = f1 ∧ g = g1 ∧ (z = (qG (g 3) a1 a2 a3))) := by
  refine GM.of (by decide) (Nat.le_of_ble_eq_true rfl) ?_
  intro p e s m args below meth c Q ls hQ C hml hr hlocks hP hl
  have hx := C.1
  have hb := C.2.1
  have hok := hP.2
  have hS : va_S A s.heap s.heap [] := va_S.rf
  have hl : lv_has ls 4 [(0, .ref (ad 47)), (1, .int (iI a1)), (2, .int (iI a2)), (3, .int (iI a3))] := hl
  refine lv_aload_n hx hb dX5_keyOf_0 rfl (lv_at hl 0 rfl) ?_
  refine rwG_results_keyRows C hP mF_X5_37 dX5_keyOf_1 ?_
  refine lv_iload_n hx hb dX5_keyOf_4 rfl (lv_at hl 1 rfl) ?_
  refine lv_iload_n hx hb dX5_keyOf_5 rfl (lv_at hl 2 rfl) ?_
  refine g_cs (As := [.int (iI a1), .int (iI a2)]) (rest := [.ref (ad 56)]) (n := 2) C hml (c_X5_keyRow l D k A ad hD v f g a1 a2 (by omega) (by omega) (show 0 ≤ a1 ∧ a1 ≤ 3 from by omega) (show 0 ≤ a2 ∧ a2 ≤ 15 from by omega)) mM_X5_148 mS_X5_keyRow mN_X5 mC_X5_keyRow (by decide +kernel) hP hS (fun _ h => h) ⟨Nat.le_of_ble_eq_true rfl, Nat.le_of_ble_eq_true rfl⟩ ⟨Nat.zero_le _, Nat.zero_le _⟩ hl.1 rfl rfl (Nat.le_of_ble_eq_true rfl) dX5_keyOf_6 (fun r_1 v_1 f_1 g_1 H locs hq_1 hP _ hS => ?_)
  obtain ⟨z_1, rfl, rfl, rfl, rfl, p0_1⟩ := hq_1
  show W p l e (gRm 1 21) s m args below meth c _ _ 0 0 Q (F0 m 9 ls [.int (iI z_1), .ref (ad 56)])
  replace p0_1 : z_1 = ((a1 * 16 + a2) * 4) := p0_1
  have hz_1 : inR z_1 := (by first | omega | (rw [p0_1]; split <;> omega))
  have hkr_ := p0_1
  refine lv_iload_n hx hb dX5_keyOf_9 rfl (lv_at hl 3 rfl) ?_
  refine gi_add (z := (z_1 + a3)) hx hb dX5_keyOf_10 rfl ?_
  refine rwL_results_keyRows C hP (by omega) (by omega) dX5_keyOf_11 ?_
  exact g_lret hQ C hr hlocks hP hS dX5_keyOf_12 ⟨(g 3 (z_1 + a3)), rfl, rfl, rfl, rfl, (by unfold qG; rw [hkr_])⟩

set_option maxHeartbeats 4000000 in
set_option maxRecDepth 100000 in
theorem c_X5_lowestAsked (l : Launch) (D : va_G) (k : Nat → ClassId) (A : Nat → Prop) (ad : Nat → Nat) (hD : rwD A k ad) (v : gV) (f g : gF) (a1 : Int) (h_a1 : inR a1) (h1 : 0 ≤ a1) : GM l D k A (rwT k ad) yX5_lowestAsked cX5_lowestAsked 2 (some .int) 0 0 [.ref (ad 47), .int (iI a1)] v f g (fun r v1 f1 g1 => ∃ (z : Int), r = some (.int (iI z)) ∧ v = v1 ∧ f = f1 ∧ g = g1 ∧ (z = (if (v 4) = 0 then a1 else 0)) ∧ (0 ≤ z ∧ z ≤ a1)) := by
  refine GM.of (by decide) (Nat.le_of_ble_eq_true rfl) ?_
  intro p e s m args below meth c Q ls hQ C hml hr hlocks hP hl
  have hx := C.1
  have hb := C.2.1
  have hok := hP.2
  have hS : va_S A s.heap s.heap [] := va_S.rf
  have hl : lv_has ls 2 [(0, .ref (ad 47)), (1, .int (iI a1))] := hl
  refine lv_aload_n hx hb dX5_lowestAsked_0 rfl (lv_at hl 0 rfl) ?_
  refine rwG_results_laws C hP mF_X5_43 dX5_lowestAsked_1 ?_
  refine rwG_laws_back C hP mF_X5_181 dX5_lowestAsked_4 ?_
  have r_1 : 0 ≤ (v 4) ∧ (v 4) ≤ 1 := hok.1 4
  refine gi_zeq (tgt := 14) hx hb dX5_lowestAsked_7 (by decide) (by omega) (fun c_2 => ?_) (fun c_2 => ?_)
  · refine lv_iload_n hx hb dX5_lowestAsked_14 rfl (lv_at hl 1 rfl) ?_
    exact g_iret hQ C hr hlocks hP hS dX5_lowestAsked_15 ⟨a1, rfl, rfl, rfl, rfl, (by first | omega | ((repeat' split) <;> omega)), (by first | omega | ((repeat' split) <;> omega))⟩
  · refine lv_iconst (v := iI 0) hx hb dX5_lowestAsked_10 rfl ?_
    refine lv_goto (tgt := 15) hx hb dX5_lowestAsked_11 (by decide) ?_
    exact g_iret hQ C hr hlocks hP hS dX5_lowestAsked_15 ⟨0, rfl, rfl, rfl, rfl, (by first | omega | ((repeat' split) <;> omega)), (by first | omega | ((repeat' split) <;> omega))⟩

set_option maxHeartbeats 4000000 in
set_option maxRecDepth 100000 in
theorem x_Re_isAhead (l : Launch) (D : va_G) (k : Nat → ClassId) (A : Nat → Prop) (ad : Nat → Nat) (hD : rwD A k ad) (v : gV) (f g : gF) (a1 : Int) (a2 : Int) (a3 : Int) (h_a1 : inR a1) (h_a2 : inR a2) (h_a3 : inR a3) (h1 : 0 ≤ a1 ∧ a1 ≤ 3) (h2 : 0 ≤ a2 ∧ a2 ≤ 15) (h3 : 0 ≤ a3 ∧ a3 ≤ 15) (hb_ : ∀ r k, 0 ≤ r → r ≤ a1 → ((v 4) = 0 → r = a1) → 0 ≤ k → k < (v 3) → ((-5000000000) ≤ (qG (g 3)) r a2 k ∧ (qG (g 3)) r a2 k ≤ 5000000000) ∧ ((-5000000000) ≤ (qG (g 3)) r a3 k ∧ (qG (g 3)) r a3 k ≤ 5000000000)) : GM l D k A (rwT k ad) yX5_isAhead cX5_isAhead 10 (some .boolean) 2 44 [.ref (ad 47), .int (iI a1), .int (iI a2), .int (iI a3)] v f g (fun r v1 f1 g1 => ∃ (z : Int), r = some (.int (iI z)) ∧ v = v1 ∧ f = f1 ∧ g = g1 ∧ (z = (if (ahR (qG (g 3)) (f 5) (v 3) (v 4) a2 a3 (a1 + 1).toNat) = 1 then 1 else 0))) := by
  refine GM.of (by decide) (Nat.le_of_ble_eq_true rfl) ?_
  intro p e s m args below meth c Q ls hQ C hml hr hlocks hP hl
  have hx := C.1
  have hb := C.2.1
  have hok := hP.2
  have hS : va_S A s.heap s.heap [] := va_S.rf
  have hl : lv_has ls 10 [(0, .ref (ad 47)), (1, .int (iI a1)), (2, .int (iI a2)), (3, .int (iI a3))] := hl
  have r_1 : 0 ≤ (v 3) ∧ (v 3) ≤ 4 := hok.1 3
  have r_2 : 0 ≤ (v 4) ∧ (v 4) ≤ 1 := hok.1 4
  refine lv_iload_n hx hb dX5_isAhead_0 rfl (lv_at hl 1 rfl) ?_
  refine lv_istore (lv' := [(4, .int (iI a1)), (0, .ref (ad 47)), (1, .int (iI a1)), (2, .int (iI a2)), (3, .int (iI a3))]) hx hb dX5_isAhead_1 hl (by decide) rfl (fun ls hl => ?_)
  have L_3 : ∀ (n : Nat) (x4 : Int) (H : Heap) (locs : List Loc) (ls : Array Slot), x4 + 1 < (n : Int) → ((-1) ≤ x4 ∧ x4 ≤ a1) → ((v 4) = 0 → a1 - 1 ≤ x4) → ((0 ≤ x4 ∧ ((v 4) = 0 → x4 = a1)) → ahR (qG (g 3)) (f 5) (v 3) (v 4) a2 a3 (x4 + 1).toNat = (ahR (qG (g 3)) (f 5) (v 3) (v 4) a2 a3 (a1 + 1).toNat)) → ((x4 < 0 ∨ ((v 4) = 0 ∧ x4 < a1)) → (ahR (qG (g 3)) (f 5) (v 3) (v 4) a2 a3 (a1 + 1).toNat) = 0) → gWd D (rwT k ad) v f g H → va_S A s.heap H locs → lv_has ls 10 [(0, .ref (ad 47)), (1, .int (iI a1)), (2, .int (iI a2)), (3, .int (iI a3)), (4, .int (iI x4))] → W p l e (gRm 2 44) s m args below meth c H locs 0 0 Q (F0 m 3 ls []) := by
    intro n
    induction n with
    | zero =>
      intro x4 H locs ls hn_3 i3_0 i3_1 i3_2 i3_3 hP hS hl
      exfalso; omega
    | succ n ih_3 =>
      intro x4 H locs ls hn_3 i3_0 i3_1 i3_2 i3_3 hP hS hl
      have hA0 := i3_2
      have hZ := i3_3
      refine lv_iload hx hb dX5_isAhead_3 (lv_at hl 4 rfl) ?_
      refine lv_aload_n hx hb dX5_isAhead_5 rfl (lv_at hl 0 rfl) ?_
      refine lv_iload_n hx hb dX5_isAhead_6 rfl (lv_at hl 1 rfl) ?_
      refine g_cv (As := [.int (iI a1)]) (rest := [.int (iI x4)]) (n := 1) C hml (c_X5_lowestAsked l D k A ad hD v f g a1 (by omega) (show 0 ≤ a1 from by omega)) mM_X5_162 mI_X5_lowestAsked mE_X5_lowestAsked mN_X5 mC_X5_lowestAsked (by decide +kernel) 47 (ci := 5) rfl rfl hP hS (fun _ h => h) ⟨Nat.le_of_ble_eq_true rfl, Nat.le_of_ble_eq_true rfl⟩ ⟨Nat.zero_le _, Nat.zero_le _⟩ hl.1 rfl rfl (Nat.le_of_ble_eq_true rfl) dX5_isAhead_7 (fun r_4 v_4 f_4 g_4 H locs hq_4 hP _ hS => ?_)
      obtain ⟨z_4, rfl, rfl, rfl, rfl, p0_4, p1_4⟩ := hq_4
      show W p l e (gRm 2 44) s m args below meth c _ _ 0 0 Q (F0 m 10 ls [.int (iI z_4), .int (iI x4)])
      replace p0_4 : z_4 = (if (v 4) = 0 then a1 else 0) := p0_4
      replace p1_4 : 0 ≤ z_4 ∧ z_4 ≤ a1 := p1_4
      have hz_4 : inR z_4 := (by first | omega | (rw [p0_4]; split <;> omega))
      refine gi_clt (tgt := 111) hx hb dX5_isAhead_10 (by decide) (by omega) (by omega) (fun c_5 => ?_) (fun c_5 => ?_)
      · refine lv_iconst (v := iI 0) hx hb dX5_isAhead_111 rfl ?_
        exact g_zret hQ C hr hlocks (by decide) hP hS dX5_isAhead_112 ⟨0, rfl, rfl, rfl, rfl, (by first | (rw [hZ (by omega)]; rfl) | (rw [← hA, ahR_s (by omega), ← hk5]; first | (rw [ahK_1 (by omega) (by omega)]; rfl) | (rw [ahK_2 (by omega) (by omega) (by omega)]; rfl)))⟩
      · have hA := hA0 ⟨by omega, by omega⟩
        refine lv_iconst (v := iI 0) hx hb dX5_isAhead_13 rfl ?_
        refine lv_istore (lv' := [(5, .int (iI 0)), (0, .ref (ad 47)), (1, .int (iI a1)), (2, .int (iI a2)), (3, .int (iI a3)), (4, .int (iI x4))]) hx hb dX5_isAhead_14 hl (by decide) rfl (fun ls hl => ?_)
        have L_6 : ∀ (n : Nat) (x5 : Int) (H : Heap) (locs : List Loc) (ls : Array Slot), 4 - x5 < (n : Int) → (0 ≤ x5 ∧ x5 ≤ (v 3)) → (ahK ((qG (g 3)) x4 a2) ((qG (g 3)) x4 a3) (f 5) ((v 3) - x5).toNat x5 = ahK ((qG (g 3)) x4 a2) ((qG (g 3)) x4 a3) (f 5) (v 3).toNat 0) → gWd D (rwT k ad) v f g H → va_S A s.heap H locs → lv_has ls 10 [(0, .ref (ad 47)), (1, .int (iI a1)), (2, .int (iI a2)), (3, .int (iI a3)), (4, .int (iI x4)), (5, .int (iI x5))] → W p l e (gRm 2 44) s m args below meth c H locs 0 0 Q (F0 m 16 ls []) := by
          intro n
          induction n with
          | zero =>
            intro x5 H locs ls hn_6 i6_0 i6_1 hP hS hl
            exfalso; omega
          | succ n ih_16 =>
            intro x5 H locs ls hn_6 i6_0 i6_1 hP hS hl
            have hk5 := i6_1
            refine lv_iload hx hb dX5_isAhead_16 (lv_at hl 5 rfl) ?_
            refine lv_aload_n hx hb dX5_isAhead_18 rfl (lv_at hl 0 rfl) ?_
            refine rwG_results_laws C hP mF_X5_43 dX5_isAhead_19 ?_
            refine rwG_laws_keys C hP mF_X5_145 dX5_isAhead_22 ?_
            refine gi_cge (tgt := 105) hx hb dX5_isAhead_25 (by decide) (by omega) (by omega) (fun c_7 => ?_) (fun c_7 => ?_)
            · refine lv_iinc (v := iI (x4 + (-1))) (lv' := [(4, .int (iI (x4 + (-1)))), (0, .ref (ad 47)), (1, .int (iI a1)), (2, .int (iI a2)), (3, .int (iI a3)), (5, .int (iI x5))]) hx hb dX5_isAhead_105 hl (k := 4) rfl (by show iI _ + iI (-1) = _; rw [iI_add]) (by decide) rfl (fun ls hl => ?_)
              refine lv_goto (tgt := 3) hx hb dX5_isAhead_108 (by decide) ?_
              exact ih_3 (x4 + (-1)) _ _ _ (by omega) (by omega) (by omega) (fun h => by rw [← hA, ahR_s (r := x4) (by omega), ← hk5, ahK_z (by omega), if_neg (fun q => q rfl), if_neg (by omega)]; congr 1; omega) (fun h => by rw [← hA, ahR_s (r := x4) (by omega), ← hk5, ahK_z (by omega), if_neg (fun q => q rfl)]; exact (if hb9 : (v 4) = 0 then (by rw [if_pos hb9]) else (by rw [if_neg hb9, show x4 = 0 by omega]; rfl))) hP hS (lv_sub hl [1, 2, 3, 4, 0] rfl)
            · refine lv_aload_n hx hb dX5_isAhead_28 rfl (lv_at hl 0 rfl) ?_
              refine lv_iload hx hb dX5_isAhead_29 (lv_at hl 4 rfl) ?_
              refine lv_iload_n hx hb dX5_isAhead_31 rfl (lv_at hl 2 rfl) ?_
              refine lv_iload hx hb dX5_isAhead_32 (lv_at hl 5 rfl) ?_
              refine g_cv (As := [.int (iI x4), .int (iI a2), .int (iI x5)]) (rest := []) (n := 3) C hml (x_Re_keyOf l D k A ad hD v f g x4 a2 x5 (by omega) (by omega) (by omega) (show 0 ≤ x4 ∧ x4 ≤ 3 from by omega) (show 0 ≤ a2 ∧ a2 ≤ 15 from by omega) (show 0 ≤ x5 ∧ x5 < 4 from by omega)) mM_X5_185 mI_X5_keyOf mE_X5_keyOf mN_X5 mC_X5_keyOf (by decide +kernel) 47 (ci := 5) rfl rfl hP hS (fun _ h => h) ⟨Nat.le_of_ble_eq_true rfl, Nat.le_of_ble_eq_true rfl⟩ ⟨Nat.zero_le _, Nat.zero_le _⟩ hl.1 rfl rfl (Nat.le_of_ble_eq_true rfl) dX5_isAhead_34 (fun r_8 v_8 f_8 g_8 H locs hq_8 hP _ hS => ?_)
              obtain ⟨z_8, rfl, rfl, rfl, rfl, p0_8⟩ := hq_8
              show W p l e (gRm 2 44) s m args below meth c _ _ 0 0 Q (F0 m 37 ls [.long (iL z_8)])
              replace p0_8 : z_8 = (qG (g 3) x4 a2 x5) := p0_8
              have hb1 := (hb_ x4 x5 (by omega) (by omega) (by omega) (by omega) (by omega)).1
              refine lv_lstore (lv' := [(6, .long (iL z_8)), (0, .ref (ad 47)), (1, .int (iI a1)), (2, .int (iI a2)), (3, .int (iI a3)), (4, .int (iI x4)), (5, .int (iI x5))]) hx hb dX5_isAhead_37 hl (by decide) rfl (fun ls hl => ?_)
              refine lv_aload_n hx hb dX5_isAhead_39 rfl (lv_at hl 1 rfl) ?_
              refine lv_iload hx hb dX5_isAhead_40 (lv_at hl 5 rfl) ?_
              refine lv_iload_n hx hb dX5_isAhead_42 rfl (lv_at hl 4 rfl) ?_
              refine lv_iload hx hb dX5_isAhead_43 (lv_at hl 6 rfl) ?_
              refine g_cv (As := [.int (iI x4), .int (iI a3), .int (iI x5)]) (rest := []) (n := 3) C hml (x_Re_keyOf l D k A ad hD v f g x4 a3 x5 (by omega) (by omega) (by omega) (show 0 ≤ x4 ∧ x4 ≤ 3 from by omega) (show 0 ≤ a3 ∧ a3 ≤ 15 from by omega) (show 0 ≤ x5 ∧ x5 < 4 from by omega)) mM_X5_185 mI_X5_keyOf mE_X5_keyOf mN_X5 mC_X5_keyOf (by decide +kernel) 47 (ci := 5) rfl rfl hP hS (fun _ h => h) ⟨Nat.le_of_ble_eq_true rfl, Nat.le_of_ble_eq_true rfl⟩ ⟨Nat.zero_le _, Nat.zero_le _⟩ hl.1 rfl rfl (Nat.le_of_ble_eq_true rfl) dX5_isAhead_45 (fun r_9 v_9 f_9 g_9 H locs hq_9 hP _ hS => ?_)
              obtain ⟨z_9, rfl, rfl, rfl, rfl, p0_9⟩ := hq_9
              show W p l e (gRm 2 44) s m args below meth c _ _ 0 0 Q (F0 m 48 ls [.long (iL z_9)])
              replace p0_9 : z_9 = (qG (g 3) x4 a3 x5) := p0_9
              have hb2 := (hb_ x4 x5 (by omega) (by omega) (by omega) (by omega) (by omega)).2
              refine lv_lstore (lv' := [(8, .long (iL z_9)), (6, .long (iL z_8)), (0, .ref (ad 47)), (1, .int (iI a1)), (2, .int (iI a2)), (3, .int (iI a3)), (4, .int (iI x4)), (5, .int (iI x5))]) hx hb dX5_isAhead_48 hl (by decide) rfl (fun ls hl => ?_)
              refine lv_lload hx hb dX5_isAhead_50 (lv_at hl 1 rfl) ?_
              refine lv_lload hx hb dX5_isAhead_52 (lv_at hl 0 rfl) ?_
              refine gl_cmpE hx hb (by omega) (by omega) dX5_isAhead_54 (fun x_10 hx_10 => ?_)
              refine gi_zeq (tgt := 99) hx hb dX5_isAhead_55 (by decide) (by omega) (fun c_11 => ?_) (fun c_11 => ?_)
              · refine lv_iinc (v := iI (x5 + 1)) (lv' := [(5, .int (iI (x5 + 1))), (8, .long (iL z_9)), (6, .long (iL z_8)), (0, .ref (ad 47)), (1, .int (iI a1)), (2, .int (iI a2)), (3, .int (iI a3)), (4, .int (iI x4))]) hx hb dX5_isAhead_99 hl (k := 7) rfl (by show iI _ + iI 1 = _; rw [iI_add]) (by decide) rfl (fun ls hl => ?_)
                refine lv_goto (tgt := 16) hx hb dX5_isAhead_102 (by decide) ?_
                exact ih_16 (x5 + 1) _ _ _ (by omega) (by omega) (by rw [← hk5]; exact (ahK_e (by omega) (by omega)).symm) hP hS (lv_sub hl [3, 4, 5, 6, 7, 0] rfl)
              · refine lv_lload hx hb dX5_isAhead_58 (lv_at hl 1 rfl) ?_
                refine lv_lload hx hb dX5_isAhead_60 (lv_at hl 0 rfl) ?_
                refine gl_cmpE hx hb (by omega) (by omega) dX5_isAhead_62 (fun x_12 hx_12 => ?_)
                refine gi_zle (tgt := 70) hx hb dX5_isAhead_63 (by decide) (by omega) (fun c_13 => ?_) (fun c_13 => ?_)
                · refine lv_iconst (v := iI 0) hx hb dX5_isAhead_70 rfl ?_
                  refine lv_aload_n hx hb dX5_isAhead_71 rfl (lv_at hl 2 rfl) ?_
                  refine rwG_results_laws C hP mF_X5_43 dX5_isAhead_72 ?_
                  refine rwG_laws_keyDown C hP mF_X5_189 dX5_isAhead_75 ?_
                  refine lv_iload hx hb dX5_isAhead_78 (lv_at hl 7 rfl) ?_
                  refine rwL_laws_keyDown C hP (by omega) (by omega) dX5_isAhead_80 ?_
                  have r_14 : 0 ≤ (f 5 x5) ∧ (f 5 x5) ≤ 1 := hP.2.2 5 x5
                  refine lv_iconst (v := iI 1) hx hb dX5_isAhead_81 rfl ?_
                  refine gi_cne (tgt := 89) hx hb dX5_isAhead_82 (by decide) (by omega) (by decide) (fun c_15 => ?_) (fun c_15 => ?_)
                  · refine lv_iconst (v := iI 0) hx hb dX5_isAhead_89 rfl ?_
                    refine gi_cne (tgt := 97) hx hb dX5_isAhead_90 (by decide) (by decide) (by decide) (fun c_16 => ?_) (fun c_16 => ?_)
                    · exfalso; omega
                    · refine lv_iconst (v := iI 1) hx hb dX5_isAhead_93 rfl ?_
                      refine lv_goto (tgt := 98) hx hb dX5_isAhead_94 (by decide) ?_
                      exact g_zret hQ C hr hlocks (by decide) hP hS dX5_isAhead_98 ⟨1, rfl, rfl, rfl, rfl, (by first | (rw [hZ (by omega)]; rfl) | (rw [← hA, ahR_s (by omega), ← hk5]; first | (rw [ahK_1 (by omega) (by omega)]; rfl) | (rw [ahK_2 (by omega) (by omega) (by omega)]; rfl)))⟩
                  · refine lv_iconst (v := iI 1) hx hb dX5_isAhead_85 rfl ?_
                    refine lv_goto (tgt := 90) hx hb dX5_isAhead_86 (by decide) ?_
                    refine gi_cne (tgt := 97) hx hb dX5_isAhead_90 (by decide) (by decide) (by decide) (fun c_17 => ?_) (fun c_17 => ?_)
                    · refine lv_iconst (v := iI 0) hx hb dX5_isAhead_97 rfl ?_
                      exact g_zret hQ C hr hlocks (by decide) hP hS dX5_isAhead_98 ⟨0, rfl, rfl, rfl, rfl, (by first | (rw [hZ (by omega)]; rfl) | (rw [← hA, ahR_s (by omega), ← hk5]; first | (rw [ahK_1 (by omega) (by omega)]; rfl) | (rw [ahK_2 (by omega) (by omega) (by omega)]; rfl)))⟩
                    · exfalso; omega
                · refine lv_iconst (v := iI 1) hx hb dX5_isAhead_66 rfl ?_
                  refine lv_goto (tgt := 71) hx hb dX5_isAhead_67 (by decide) ?_
                  refine lv_aload_n hx hb dX5_isAhead_71 rfl (lv_at hl 2 rfl) ?_
                  refine rwG_results_laws C hP mF_X5_43 dX5_isAhead_72 ?_
                  refine rwG_laws_keyDown C hP mF_X5_189 dX5_isAhead_75 ?_
                  refine lv_iload hx hb dX5_isAhead_78 (lv_at hl 7 rfl) ?_
                  refine rwL_laws_keyDown C hP (by omega) (by omega) dX5_isAhead_80 ?_
                  have r_18 : 0 ≤ (f 5 x5) ∧ (f 5 x5) ≤ 1 := hP.2.2 5 x5
                  refine lv_iconst (v := iI 1) hx hb dX5_isAhead_81 rfl ?_
                  refine gi_cne (tgt := 89) hx hb dX5_isAhead_82 (by decide) (by omega) (by decide) (fun c_19 => ?_) (fun c_19 => ?_)
                  · refine lv_iconst (v := iI 0) hx hb dX5_isAhead_89 rfl ?_
                    refine gi_cne (tgt := 97) hx hb dX5_isAhead_90 (by decide) (by decide) (by decide) (fun c_20 => ?_) (fun c_20 => ?_)
                    · refine lv_iconst (v := iI 0) hx hb dX5_isAhead_97 rfl ?_
                      exact g_zret hQ C hr hlocks (by decide) hP hS dX5_isAhead_98 ⟨0, rfl, rfl, rfl, rfl, (by first | (rw [hZ (by omega)]; rfl) | (rw [← hA, ahR_s (by omega), ← hk5]; first | (rw [ahK_1 (by omega) (by omega)]; rfl) | (rw [ahK_2 (by omega) (by omega) (by omega)]; rfl)))⟩
                    · exfalso; omega
                  · refine lv_iconst (v := iI 1) hx hb dX5_isAhead_85 rfl ?_
                    refine lv_goto (tgt := 90) hx hb dX5_isAhead_86 (by decide) ?_
                    refine gi_cne (tgt := 97) hx hb dX5_isAhead_90 (by decide) (by decide) (by decide) (fun c_21 => ?_) (fun c_21 => ?_)
                    · exfalso; omega
                    · refine lv_iconst (v := iI 1) hx hb dX5_isAhead_93 rfl ?_
                      refine lv_goto (tgt := 98) hx hb dX5_isAhead_94 (by decide) ?_
                      exact g_zret hQ C hr hlocks (by decide) hP hS dX5_isAhead_98 ⟨1, rfl, rfl, rfl, rfl, (by first | (rw [hZ (by omega)]; rfl) | (rw [← hA, ahR_s (by omega), ← hk5]; first | (rw [ahK_1 (by omega) (by omega)]; rfl) | (rw [ahK_2 (by omega) (by omega) (by omega)]; rfl)))⟩
        exact L_6 5 0 _ _ _ (by omega) (by omega) ahK_s0 hP hS (lv_sub hl [1, 2, 3, 4, 5, 0] rfl)
  exact L_3 5 a1 _ _ _ (by omega) (by omega) (by omega) (fun _ => rfl) (fun h => by omega) hP hS (lv_sub hl [1, 2, 3, 4, 0] rfl)

set_option maxHeartbeats 4000000 in
set_option maxRecDepth 100000 in
theorem x_Re_manyAhead (l : Launch) (D : va_G) (k : Nat → ClassId) (A : Nat → Prop) (ad : Nat → Nat) (hD : rwD A k ad) (v : gV) (f g : gF) (a1 : Int) (a2 : Int) (h_a1 : inR a1) (h_a2 : inR a2) (h1 : 0 ≤ a1 ∧ a1 ≤ 3) (h2 : 0 ≤ a2 ∧ a2 ≤ 15) (hin : a2 < (v 21) ∧ a1 ≤ (f 18) a2) (hbm : ∀ c, 0 ≤ c → c < (v 21) → a1 ≤ (f 18) c → ∀ r k, 0 ≤ r → r ≤ a1 → ((v 4) = 0 → r = a1) → 0 ≤ k → k < (v 3) → ((-5000000000) ≤ (qG (g 3)) r c k ∧ (qG (g 3)) r c k ≤ 5000000000)) : GM l D k A (rwT k ad) yX5_manyAhead cX5_manyAhead 5 (some .int) 3 73 [.ref (ad 47), .int (iI a1), .int (iI a2)] v f g (fun r v1 f1 g1 => ∃ (z : Int), r = some (.int (iI z)) ∧ v = v1 ∧ f = f1 ∧ g = g1 ∧ (z = (cn (pAh (qG (g 3)) (f 5) (v 3) (v 4) (f 18) a1 a2) (v 21).toNat)) ∧ (0 ≤ z ∧ z ≤ 16)) := by
  refine GM.of (by decide) (Nat.le_of_ble_eq_true rfl) ?_
  intro p e s m args below meth c Q ls hQ C hml hr hlocks hP hl
  have hx := C.1
  have hb := C.2.1
  have hok := hP.2
  have hS : va_S A s.heap s.heap [] := va_S.rf
  have hl : lv_has ls 5 [(0, .ref (ad 47)), (1, .int (iI a1)), (2, .int (iI a2))] := hl
  have r_1 : 0 ≤ (v 21) ∧ (v 21) ≤ 16 := hok.1 21
  refine lv_iconst (v := iI 0) hx hb dX5_manyAhead_0 rfl ?_
  refine lv_istore_n (lv' := [(3, .int (iI 0)), (0, .ref (ad 47)), (1, .int (iI a1)), (2, .int (iI a2))]) hx hb dX5_manyAhead_1 rfl hl (by decide) rfl (fun ls hl => ?_)
  refine lv_iconst (v := iI 0) hx hb dX5_manyAhead_2 rfl ?_
  refine lv_istore (lv' := [(4, .int (iI 0)), (3, .int (iI 0)), (0, .ref (ad 47)), (1, .int (iI a1)), (2, .int (iI a2))]) hx hb dX5_manyAhead_3 hl (by decide) rfl (fun ls hl => ?_)
  have L_2 : ∀ (n : Nat) (x3 : Int) (x4 : Int) (H : Heap) (locs : List Loc) (ls : Array Slot), 16 - x4 < (n : Int) → (0 ≤ x4 ∧ x4 ≤ (v 21)) → (0 ≤ x3 ∧ x3 ≤ x4) → (x3 = cn (pAh (qG (g 3)) (f 5) (v 3) (v 4) (f 18) a1 a2) x4.toNat) → gWd D (rwT k ad) v f g H → va_S A s.heap H locs → lv_has ls 5 [(0, .ref (ad 47)), (1, .int (iI a1)), (2, .int (iI a2)), (3, .int (iI x3)), (4, .int (iI x4))] → W p l e (gRm 3 73) s m args below meth c H locs 0 0 Q (F0 m 5 ls []) := by
    intro n
    induction n with
    | zero =>
      intro x3 x4 H locs ls hn_2 i2_0 i2_1 i2_2 hP hS hl
      exfalso; omega
    | succ n ih_5 =>
      intro x3 x4 H locs ls hn_2 i2_0 i2_1 i2_2 hP hS hl
      have hI2 := i2_2
      refine lv_iload hx hb dX5_manyAhead_5 (lv_at hl 4 rfl) ?_
      refine lv_aload_n hx hb dX5_manyAhead_7 rfl (lv_at hl 0 rfl) ?_
      refine rwG_results_field C hP mF_X5_51 dX5_manyAhead_8 ?_
      refine rwG_field_climbers C hP mF_X5_157 dX5_manyAhead_11 ?_
      refine gi_cge (tgt := 50) hx hb dX5_manyAhead_14 (by decide) (by omega) (by omega) (fun c_3 => ?_) (fun c_3 => ?_)
      · refine lv_iload_n hx hb dX5_manyAhead_50 rfl (lv_at hl 3 rfl) ?_
        exact g_iret hQ C hr hlocks hP hS dX5_manyAhead_51 ⟨x3, rfl, rfl, rfl, rfl, (by rw [show (v 21) = x4 by omega]; exact hI2), (by first | omega | ((repeat' split) <;> omega))⟩
      · refine lv_aload_n hx hb dX5_manyAhead_17 rfl (lv_at hl 0 rfl) ?_
        refine rwG_results_field C hP mF_X5_51 dX5_manyAhead_18 ?_
        refine lv_iload_n hx hb dX5_manyAhead_21 rfl (lv_at hl 1 rfl) ?_
        refine lv_iload hx hb dX5_manyAhead_22 (lv_at hl 4 rfl) ?_
        refine g_cv (As := [.int (iI a1), .int (iI x4)]) (rest := []) (n := 2) C hml (c_X2_isIn l D k A ad hD v f g a1 x4 (by omega) (by omega)) mM_X5_166 mI_X2_isIn mE_X2_isIn mN_X2 mC_X2_isIn (by decide +kernel) 27 (ci := 2) rfl rfl hP hS (fun _ h => h) ⟨Nat.le_of_ble_eq_true rfl, Nat.le_of_ble_eq_true rfl⟩ ⟨Nat.zero_le _, Nat.zero_le _⟩ hl.1 rfl rfl (Nat.le_of_ble_eq_true rfl) dX5_manyAhead_24 (fun r_4 v_4 f_4 g_4 H locs hq_4 hP _ hS => ?_)
        obtain ⟨z_4, rfl, rfl, rfl, rfl, p0_4⟩ := hq_4
        show W p l e (gRm 3 73) s m args below meth c _ _ 0 0 Q (F0 m 27 ls [.int (iI z_4)])
        replace p0_4 : z_4 = (if (0 ≤ x4 ∧ x4 < (v 21)) ∧ a1 ≤ (f 18) x4 then 1 else 0) := p0_4
        have w_4 := gif (P := (0 ≤ x4 ∧ x4 < (v 21)) ∧ a1 ≤ (f 18) x4) p0_4
        clear p0_4
        have hz_4 : inR z_4 := (by first | omega | (rw [p0_4]; split <;> omega))
        refine gi_zeq (tgt := 44) hx hb dX5_manyAhead_27 (by decide) (by omega) (fun c_5 => ?_) (fun c_5 => ?_)
        · have vz_4 := gif0 w_4 c_5
          clear w_4
          refine lv_iinc (v := iI (x4 + 1)) (lv' := [(4, .int (iI (x4 + 1))), (0, .ref (ad 47)), (1, .int (iI a1)), (2, .int (iI a2)), (3, .int (iI x3))]) hx hb dX5_manyAhead_44 hl (k := 4) rfl (by show iI _ + iI 1 = _; rw [iI_add]) (by decide) rfl (fun ls hl => ?_)
          refine lv_goto (tgt := 5) hx hb dX5_manyAhead_47 (by decide) ?_
          exact ih_5 x3 (x4 + 1) _ _ _ (by omega) (by omega) (by omega) (by first | (rw [cn_y (by omega) (decide_eq_true (by omega))]; omega) | (rw [cn_n (by omega) (decide_eq_false (by omega))]; omega)) hP hS (lv_sub hl [1, 2, 3, 4, 0] rfl)
        · have vz_4 := gif1 w_4 c_5
          clear w_4
          refine lv_aload_n hx hb dX5_manyAhead_30 rfl (lv_at hl 0 rfl) ?_
          refine lv_iload_n hx hb dX5_manyAhead_31 rfl (lv_at hl 1 rfl) ?_
          refine lv_iload hx hb dX5_manyAhead_32 (lv_at hl 4 rfl) ?_
          refine lv_iload_n hx hb dX5_manyAhead_34 rfl (lv_at hl 2 rfl) ?_
          refine g_cv (As := [.int (iI a1), .int (iI x4), .int (iI a2)]) (rest := []) (n := 3) C hml (x_Re_isAhead l D k A ad hD v f g a1 x4 a2 (by omega) (by omega) (by omega) (show 0 ≤ a1 ∧ a1 ≤ 3 from by omega) (show 0 ≤ x4 ∧ x4 ≤ 15 from by omega) (show 0 ≤ a2 ∧ a2 ≤ 15 from by omega) (show ∀ r k, 0 ≤ r → r ≤ a1 → ((v 4) = 0 → r = a1) → 0 ≤ k → k < (v 3) → ((-5000000000) ≤ (qG (g 3)) r x4 k ∧ (qG (g 3)) r x4 k ≤ 5000000000) ∧ ((-5000000000) ≤ (qG (g 3)) r a2 k ∧ (qG (g 3)) r a2 k ≤ 5000000000) from fun r k r0 r1 rb k0 k1 => ⟨hbm x4 (by omega) (by omega) (by omega) r k r0 r1 rb k0 k1, hbm a2 (by omega) (by omega) hin.2 r k r0 r1 rb k0 k1⟩)) mM_X5_177 mI_X5_isAhead mE_X5_isAhead mN_X5 mC_X5_isAhead (by decide +kernel) 47 (ci := 5) rfl rfl hP hS (fun _ h => h) ⟨Nat.le_of_ble_eq_true rfl, Nat.le_of_ble_eq_true rfl⟩ ⟨Nat.zero_le _, Nat.zero_le _⟩ hl.1 rfl rfl (Nat.le_of_ble_eq_true rfl) dX5_manyAhead_35 (fun r_6 v_6 f_6 g_6 H locs hq_6 hP _ hS => ?_)
          obtain ⟨z_6, rfl, rfl, rfl, rfl, p0_6⟩ := hq_6
          show W p l e (gRm 3 73) s m args below meth c _ _ 0 0 Q (F0 m 38 ls [.int (iI z_6)])
          replace p0_6 : z_6 = (if (ahR (qG (g 3)) (f 5) (v 3) (v 4) x4 a2 (a1 + 1).toNat) = 1 then 1 else 0) := p0_6
          have w_6 := gif (P := (ahR (qG (g 3)) (f 5) (v 3) (v 4) x4 a2 (a1 + 1).toNat) = 1) p0_6
          clear p0_6
          have hz_6 : inR z_6 := (by first | omega | (rw [p0_6]; split <;> omega))
          refine gi_zeq (tgt := 44) hx hb dX5_manyAhead_38 (by decide) (by omega) (fun c_7 => ?_) (fun c_7 => ?_)
          · have vz_6 := gif0 w_6 c_7
            clear w_6
            refine lv_iinc (v := iI (x4 + 1)) (lv' := [(4, .int (iI (x4 + 1))), (0, .ref (ad 47)), (1, .int (iI a1)), (2, .int (iI a2)), (3, .int (iI x3))]) hx hb dX5_manyAhead_44 hl (k := 4) rfl (by show iI _ + iI 1 = _; rw [iI_add]) (by decide) rfl (fun ls hl => ?_)
            refine lv_goto (tgt := 5) hx hb dX5_manyAhead_47 (by decide) ?_
            exact ih_5 x3 (x4 + 1) _ _ _ (by omega) (by omega) (by omega) (by first | (rw [cn_y (by omega) (decide_eq_true (by omega))]; omega) | (rw [cn_n (by omega) (decide_eq_false (by omega))]; omega)) hP hS (lv_sub hl [1, 2, 3, 4, 0] rfl)
          · have vz_6 := gif1 w_6 c_7
            clear w_6
            refine lv_iinc (v := iI (x3 + 1)) (lv' := [(3, .int (iI (x3 + 1))), (0, .ref (ad 47)), (1, .int (iI a1)), (2, .int (iI a2)), (4, .int (iI x4))]) hx hb dX5_manyAhead_41 hl (k := 3) rfl (by show iI _ + iI 1 = _; rw [iI_add]) (by decide) rfl (fun ls hl => ?_)
            refine lv_iinc (v := iI (x4 + 1)) (lv' := [(4, .int (iI (x4 + 1))), (3, .int (iI (x3 + 1))), (0, .ref (ad 47)), (1, .int (iI a1)), (2, .int (iI a2))]) hx hb dX5_manyAhead_44 hl (k := 4) rfl (by show iI _ + iI 1 = _; rw [iI_add]) (by decide) rfl (fun ls hl => ?_)
            refine lv_goto (tgt := 5) hx hb dX5_manyAhead_47 (by decide) ?_
            exact ih_5 (x3 + 1) (x4 + 1) _ _ _ (by omega) (by omega) (by omega) (by first | (rw [cn_y (by omega) (decide_eq_true (by omega))]; omega) | (rw [cn_n (by omega) (decide_eq_false (by omega))]; omega)) hP hS (lv_sub hl [2, 3, 4, 1, 0] rfl)
  exact L_2 17 0 0 _ _ _ (by omega) (by omega) (by omega) rfl hP hS (lv_sub hl [2, 3, 4, 1, 0] rfl)
end
