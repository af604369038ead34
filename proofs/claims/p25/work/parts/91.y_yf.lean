section
theorem dG_dX11_advance_0 : (decode cX11_advance 0 = .ok (.aload_n 0, 1)) ∧ (decode cX11_advance 1 = .ok (.iconst 0, 1)) ∧ (decode cX11_advance 2 = .ok (.putfield 146, 3)) ∧ (decode cX11_advance 5 = .ok (.aload_n 0, 1)) ∧ (decode cX11_advance 6 = .ok (.iconst 0, 1)) ∧ (decode cX11_advance 7 = .ok (.putfield 149, 3)) ∧ (decode cX11_advance 10 = .ok (.iload_n 1, 1)) ∧ (decode cX11_advance 11 = .ok (.iconst 1, 1)) ∧ (decode cX11_advance 12 = .ok (.if_icmp .lt 16, 3)) ∧ (decode cX11_advance 15 = .ok (.iload_n 1, 1)) ∧ (decode cX11_advance 16 = .ok (.bipush 16, 2)) ∧ (decode cX11_advance 18 = .ok (.if_icmp .gt 10, 3)) := by decide +kernel
theorem dX11_advance_0 : decode cX11_advance 0 = .ok (.aload_n 0, 1) := dG_dX11_advance_0.1
theorem dX11_advance_1 : decode cX11_advance 1 = .ok (.iconst 0, 1) := dG_dX11_advance_0.2.1
theorem dX11_advance_2 : decode cX11_advance 2 = .ok (.putfield 146, 3) := dG_dX11_advance_0.2.2.1
theorem dX11_advance_5 : decode cX11_advance 5 = .ok (.aload_n 0, 1) := dG_dX11_advance_0.2.2.2.1
theorem dX11_advance_6 : decode cX11_advance 6 = .ok (.iconst 0, 1) := dG_dX11_advance_0.2.2.2.2.1
theorem dX11_advance_7 : decode cX11_advance 7 = .ok (.putfield 149, 3) := dG_dX11_advance_0.2.2.2.2.2.1
theorem dX11_advance_10 : decode cX11_advance 10 = .ok (.iload_n 1, 1) := dG_dX11_advance_0.2.2.2.2.2.2.1
theorem dX11_advance_11 : decode cX11_advance 11 = .ok (.iconst 1, 1) := dG_dX11_advance_0.2.2.2.2.2.2.2.1
theorem dX11_advance_12 : decode cX11_advance 12 = .ok (.if_icmp .lt 16, 3) := dG_dX11_advance_0.2.2.2.2.2.2.2.2.1
theorem dX11_advance_15 : decode cX11_advance 15 = .ok (.iload_n 1, 1) := dG_dX11_advance_0.2.2.2.2.2.2.2.2.2.1
theorem dX11_advance_16 : decode cX11_advance 16 = .ok (.bipush 16, 2) := dG_dX11_advance_0.2.2.2.2.2.2.2.2.2.2.1
theorem dX11_advance_18 : decode cX11_advance 18 = .ok (.if_icmp .gt 10, 3) := dG_dX11_advance_0.2.2.2.2.2.2.2.2.2.2.2
theorem dG_dX11_advance_21 : (decode cX11_advance 21 = .ok (.iload_n 2, 1)) ∧ (decode cX11_advance 22 = .ok (.invokestatic 364, 3)) ∧ (decode cX11_advance 25 = .ok (.ifCond .ne 9, 3)) ∧ (decode cX11_advance 28 = .ok (.aload_n 0, 1)) ∧ (decode cX11_advance 29 = .ok (.iconst 2, 1)) ∧ (decode cX11_advance 30 = .ok (.invokevirtual 295, 3)) ∧ (decode cX11_advance 33 = .ok (.ireturn, 1)) ∧ (decode cX11_advance 34 = .ok (.iconst 0, 1)) ∧ (decode cX11_advance 35 = .ok (.istore_n 3, 1)) ∧ (decode cX11_advance 36 = .ok (.iload_n 3, 1)) ∧ (decode cX11_advance 37 = .ok (.aload_n 0, 1)) ∧ (decode cX11_advance 38 = .ok (.getfield 313, 3)) := by decide +kernel
theorem dX11_advance_21 : decode cX11_advance 21 = .ok (.iload_n 2, 1) := dG_dX11_advance_21.1
theorem dX11_advance_22 : decode cX11_advance 22 = .ok (.invokestatic 364, 3) := dG_dX11_advance_21.2.1
theorem dX11_advance_25 : decode cX11_advance 25 = .ok (.ifCond .ne 9, 3) := dG_dX11_advance_21.2.2.1
theorem dX11_advance_28 : decode cX11_advance 28 = .ok (.aload_n 0, 1) := dG_dX11_advance_21.2.2.2.1
theorem dX11_advance_29 : decode cX11_advance 29 = .ok (.iconst 2, 1) := dG_dX11_advance_21.2.2.2.2.1
theorem dX11_advance_30 : decode cX11_advance 30 = .ok (.invokevirtual 295, 3) := dG_dX11_advance_21.2.2.2.2.2.1
theorem dX11_advance_33 : decode cX11_advance 33 = .ok (.ireturn, 1) := dG_dX11_advance_21.2.2.2.2.2.2.1
theorem dX11_advance_34 : decode cX11_advance 34 = .ok (.iconst 0, 1) := dG_dX11_advance_21.2.2.2.2.2.2.2.1
theorem dX11_advance_35 : decode cX11_advance 35 = .ok (.istore_n 3, 1) := dG_dX11_advance_21.2.2.2.2.2.2.2.2.1
theorem dX11_advance_36 : decode cX11_advance 36 = .ok (.iload_n 3, 1) := dG_dX11_advance_21.2.2.2.2.2.2.2.2.2.1
theorem dX11_advance_37 : decode cX11_advance 37 = .ok (.aload_n 0, 1) := dG_dX11_advance_21.2.2.2.2.2.2.2.2.2.2.1
theorem dX11_advance_38 : decode cX11_advance 38 = .ok (.getfield 313, 3) := dG_dX11_advance_21.2.2.2.2.2.2.2.2.2.2.2
theorem dG_dX11_advance_41 : (decode cX11_advance 41 = .ok (.if_icmp .ge 23, 3)) ∧ (decode cX11_advance 44 = .ok (.aload_n 0, 1)) ∧ (decode cX11_advance 45 = .ok (.iload_n 3, 1)) ∧ (decode cX11_advance 46 = .ok (.invokevirtual 355, 3)) ∧ (decode cX11_advance 49 = .ok (.ifCond .lt 9, 3)) ∧ (decode cX11_advance 52 = .ok (.aload_n 0, 1)) ∧ (decode cX11_advance 53 = .ok (.iconst 5, 1)) ∧ (decode cX11_advance 54 = .ok (.invokevirtual 295, 3)) ∧ (decode cX11_advance 57 = .ok (.ireturn, 1)) ∧ (decode cX11_advance 58 = .ok (.iinc 3 1, 3)) ∧ (decode cX11_advance 61 = .ok (.goto (-25), 3)) ∧ (decode cX11_advance 64 = .ok (.aload_n 0, 1)) := by decide +kernel
theorem dX11_advance_41 : decode cX11_advance 41 = .ok (.if_icmp .ge 23, 3) := dG_dX11_advance_41.1
theorem dX11_advance_44 : decode cX11_advance 44 = .ok (.aload_n 0, 1) := dG_dX11_advance_41.2.1
theorem dX11_advance_45 : decode cX11_advance 45 = .ok (.iload_n 3, 1) := dG_dX11_advance_41.2.2.1
theorem dX11_advance_46 : decode cX11_advance 46 = .ok (.invokevirtual 355, 3) := dG_dX11_advance_41.2.2.2.1
theorem dX11_advance_49 : decode cX11_advance 49 = .ok (.ifCond .lt 9, 3) := dG_dX11_advance_41.2.2.2.2.1
theorem dX11_advance_52 : decode cX11_advance 52 = .ok (.aload_n 0, 1) := dG_dX11_advance_41.2.2.2.2.2.1
theorem dX11_advance_53 : decode cX11_advance 53 = .ok (.iconst 5, 1) := dG_dX11_advance_41.2.2.2.2.2.2.1
theorem dX11_advance_54 : decode cX11_advance 54 = .ok (.invokevirtual 295, 3) := dG_dX11_advance_41.2.2.2.2.2.2.2.1
theorem dX11_advance_57 : decode cX11_advance 57 = .ok (.ireturn, 1) := dG_dX11_advance_41.2.2.2.2.2.2.2.2.1
theorem dX11_advance_58 : decode cX11_advance 58 = .ok (.iinc 3 1, 3) := dG_dX11_advance_41.2.2.2.2.2.2.2.2.2.1
theorem dX11_advance_61 : decode cX11_advance 61 = .ok (.goto (-25), 3) := dG_dX11_advance_41.2.2.2.2.2.2.2.2.2.2.1
theorem dX11_advance_64 : decode cX11_advance 64 = .ok (.aload_n 0, 1) := dG_dX11_advance_41.2.2.2.2.2.2.2.2.2.2.2
theorem dG_dX11_advance_65 : (decode cX11_advance 65 = .ok (.getfield 82, 3)) ∧ (decode cX11_advance 68 = .ok (.ifCond .lt 16, 3)) ∧ (decode cX11_advance 71 = .ok (.aload_n 0, 1)) ∧ (decode cX11_advance 72 = .ok (.getfield 82, 3)) ∧ (decode cX11_advance 75 = .ok (.iconst 1, 1)) ∧ (decode cX11_advance 76 = .ok (.iadd, 1)) ∧ (decode cX11_advance 77 = .ok (.aload_n 0, 1)) ∧ (decode cX11_advance 78 = .ok (.getfield 301, 3)) ∧ (decode cX11_advance 81 = .ok (.if_icmp .lt 10, 3)) ∧ (decode cX11_advance 84 = .ok (.aload_n 0, 1)) ∧ (decode cX11_advance 85 = .ok (.bipush 10, 2)) ∧ (decode cX11_advance 87 = .ok (.invokevirtual 295, 3)) := by decide +kernel
theorem dX11_advance_65 : decode cX11_advance 65 = .ok (.getfield 82, 3) := dG_dX11_advance_65.1
theorem dX11_advance_68 : decode cX11_advance 68 = .ok (.ifCond .lt 16, 3) := dG_dX11_advance_65.2.1
theorem dX11_advance_71 : decode cX11_advance 71 = .ok (.aload_n 0, 1) := dG_dX11_advance_65.2.2.1
theorem dX11_advance_72 : decode cX11_advance 72 = .ok (.getfield 82, 3) := dG_dX11_advance_65.2.2.2.1
theorem dX11_advance_75 : decode cX11_advance 75 = .ok (.iconst 1, 1) := dG_dX11_advance_65.2.2.2.2.1
theorem dX11_advance_76 : decode cX11_advance 76 = .ok (.iadd, 1) := dG_dX11_advance_65.2.2.2.2.2.1
theorem dX11_advance_77 : decode cX11_advance 77 = .ok (.aload_n 0, 1) := dG_dX11_advance_65.2.2.2.2.2.2.1
theorem dX11_advance_78 : decode cX11_advance 78 = .ok (.getfield 301, 3) := dG_dX11_advance_65.2.2.2.2.2.2.2.1
theorem dX11_advance_81 : decode cX11_advance 81 = .ok (.if_icmp .lt 10, 3) := dG_dX11_advance_65.2.2.2.2.2.2.2.2.1
theorem dX11_advance_84 : decode cX11_advance 84 = .ok (.aload_n 0, 1) := dG_dX11_advance_65.2.2.2.2.2.2.2.2.2.1
theorem dX11_advance_85 : decode cX11_advance 85 = .ok (.bipush 10, 2) := dG_dX11_advance_65.2.2.2.2.2.2.2.2.2.2.1
theorem dX11_advance_87 : decode cX11_advance 87 = .ok (.invokevirtual 295, 3) := dG_dX11_advance_65.2.2.2.2.2.2.2.2.2.2.2
theorem dG_dX11_advance_90 : (decode cX11_advance 90 = .ok (.ireturn, 1)) ∧ (decode cX11_advance 91 = .ok (.iconst 0, 1)) ∧ (decode cX11_advance 92 = .ok (.istore_n 3, 1)) ∧ (decode cX11_advance 93 = .ok (.iload_n 3, 1)) ∧ (decode cX11_advance 94 = .ok (.aload_n 0, 1)) ∧ (decode cX11_advance 95 = .ok (.getfield 313, 3)) ∧ (decode cX11_advance 98 = .ok (.if_icmp .ge 46, 3)) ∧ (decode cX11_advance 101 = .ok (.aload_n 0, 1)) ∧ (decode cX11_advance 102 = .ok (.getfield 140, 3)) ∧ (decode cX11_advance 105 = .ok (.iload_n 3, 1)) ∧ (decode cX11_advance 106 = .ok (.aload_n 0, 1)) ∧ (decode cX11_advance 107 = .ok (.getfield 85, 3)) := by decide +kernel
theorem dX11_advance_90 : decode cX11_advance 90 = .ok (.ireturn, 1) := dG_dX11_advance_90.1
theorem dX11_advance_91 : decode cX11_advance 91 = .ok (.iconst 0, 1) := dG_dX11_advance_90.2.1
theorem dX11_advance_92 : decode cX11_advance 92 = .ok (.istore_n 3, 1) := dG_dX11_advance_90.2.2.1
theorem dX11_advance_93 : decode cX11_advance 93 = .ok (.iload_n 3, 1) := dG_dX11_advance_90.2.2.2.1
theorem dX11_advance_94 : decode cX11_advance 94 = .ok (.aload_n 0, 1) := dG_dX11_advance_90.2.2.2.2.1
theorem dX11_advance_95 : decode cX11_advance 95 = .ok (.getfield 313, 3) := dG_dX11_advance_90.2.2.2.2.2.1
theorem dX11_advance_98 : decode cX11_advance 98 = .ok (.if_icmp .ge 46, 3) := dG_dX11_advance_90.2.2.2.2.2.2.1
theorem dX11_advance_101 : decode cX11_advance 101 = .ok (.aload_n 0, 1) := dG_dX11_advance_90.2.2.2.2.2.2.2.1
theorem dX11_advance_102 : decode cX11_advance 102 = .ok (.getfield 140, 3) := dG_dX11_advance_90.2.2.2.2.2.2.2.2.1
theorem dX11_advance_105 : decode cX11_advance 105 = .ok (.iload_n 3, 1) := dG_dX11_advance_90.2.2.2.2.2.2.2.2.2.1
theorem dX11_advance_106 : decode cX11_advance 106 = .ok (.aload_n 0, 1) := dG_dX11_advance_90.2.2.2.2.2.2.2.2.2.2.1
theorem dX11_advance_107 : decode cX11_advance 107 = .ok (.getfield 85, 3) := dG_dX11_advance_90.2.2.2.2.2.2.2.2.2.2.2
theorem dG_dX11_advance_110 : (decode cX11_advance 110 = .ok (.bipush 16, 2)) ∧ (decode cX11_advance 112 = .ok (.aload_n 0, 1)) ∧ (decode cX11_advance 113 = .ok (.getfield 82, 3)) ∧ (decode cX11_advance 116 = .ok (.imul, 1)) ∧ (decode cX11_advance 117 = .ok (.iload_n 3, 1)) ∧ (decode cX11_advance 118 = .ok (.iadd, 1)) ∧ (decode cX11_advance 119 = .ok (.baload, 1)) ∧ (decode cX11_advance 120 = .ok (.ifCond .eq 16, 3)) ∧ (decode cX11_advance 123 = .ok (.aload_n 0, 1)) ∧ (decode cX11_advance 124 = .ok (.aload_n 0, 1)) ∧ (decode cX11_advance 125 = .ok (.getfield 82, 3)) ∧ (decode cX11_advance 128 = .ok (.iload_n 3, 1)) := by decide +kernel
theorem dX11_advance_110 : decode cX11_advance 110 = .ok (.bipush 16, 2) := dG_dX11_advance_110.1
theorem dX11_advance_112 : decode cX11_advance 112 = .ok (.aload_n 0, 1) := dG_dX11_advance_110.2.1
theorem dX11_advance_113 : decode cX11_advance 113 = .ok (.getfield 82, 3) := dG_dX11_advance_110.2.2.1
theorem dX11_advance_116 : decode cX11_advance 116 = .ok (.imul, 1) := dG_dX11_advance_110.2.2.2.1
theorem dX11_advance_117 : decode cX11_advance 117 = .ok (.iload_n 3, 1) := dG_dX11_advance_110.2.2.2.2.1
theorem dX11_advance_118 : decode cX11_advance 118 = .ok (.iadd, 1) := dG_dX11_advance_110.2.2.2.2.2.1
theorem dX11_advance_119 : decode cX11_advance 119 = .ok (.baload, 1) := dG_dX11_advance_110.2.2.2.2.2.2.1
theorem dX11_advance_120 : decode cX11_advance 120 = .ok (.ifCond .eq 16, 3) := dG_dX11_advance_110.2.2.2.2.2.2.2.1
theorem dX11_advance_123 : decode cX11_advance 123 = .ok (.aload_n 0, 1) := dG_dX11_advance_110.2.2.2.2.2.2.2.2.1
theorem dX11_advance_124 : decode cX11_advance 124 = .ok (.aload_n 0, 1) := dG_dX11_advance_110.2.2.2.2.2.2.2.2.2.1
theorem dX11_advance_125 : decode cX11_advance 125 = .ok (.getfield 82, 3) := dG_dX11_advance_110.2.2.2.2.2.2.2.2.2.2.1
theorem dX11_advance_128 : decode cX11_advance 128 = .ok (.iload_n 3, 1) := dG_dX11_advance_110.2.2.2.2.2.2.2.2.2.2.2
theorem dG_dX11_advance_129 : (decode cX11_advance 129 = .ok (.iload_n 2, 1)) ∧ (decode cX11_advance 130 = .ok (.invokevirtual 401, 3)) ∧ (decode cX11_advance 133 = .ok (.goto 4, 3)) ∧ (decode cX11_advance 136 = .ok (.iconst (-1), 1)) ∧ (decode cX11_advance 137 = .ok (.iastore, 1)) ∧ (decode cX11_advance 138 = .ok (.iinc 3 1, 3)) ∧ (decode cX11_advance 141 = .ok (.goto (-48), 3)) ∧ (decode cX11_advance 144 = .ok (.aload_n 0, 1)) ∧ (decode cX11_advance 145 = .ok (.getfield 82, 3)) ∧ (decode cX11_advance 148 = .ok (.iconst 1, 1)) ∧ (decode cX11_advance 149 = .ok (.iadd, 1)) ∧ (decode cX11_advance 150 = .ok (.istore_n 3, 1)) := by decide +kernel
theorem dX11_advance_129 : decode cX11_advance 129 = .ok (.iload_n 2, 1) := dG_dX11_advance_129.1
theorem dX11_advance_130 : decode cX11_advance 130 = .ok (.invokevirtual 401, 3) := dG_dX11_advance_129.2.1
theorem dX11_advance_133 : decode cX11_advance 133 = .ok (.goto 4, 3) := dG_dX11_advance_129.2.2.1
theorem dX11_advance_136 : decode cX11_advance 136 = .ok (.iconst (-1), 1) := dG_dX11_advance_129.2.2.2.1
theorem dX11_advance_137 : decode cX11_advance 137 = .ok (.iastore, 1) := dG_dX11_advance_129.2.2.2.2.1
theorem dX11_advance_138 : decode cX11_advance 138 = .ok (.iinc 3 1, 3) := dG_dX11_advance_129.2.2.2.2.2.1
theorem dX11_advance_141 : decode cX11_advance 141 = .ok (.goto (-48), 3) := dG_dX11_advance_129.2.2.2.2.2.2.1
theorem dX11_advance_144 : decode cX11_advance 144 = .ok (.aload_n 0, 1) := dG_dX11_advance_129.2.2.2.2.2.2.2.1
theorem dX11_advance_145 : decode cX11_advance 145 = .ok (.getfield 82, 3) := dG_dX11_advance_129.2.2.2.2.2.2.2.2.1
theorem dX11_advance_148 : decode cX11_advance 148 = .ok (.iconst 1, 1) := dG_dX11_advance_129.2.2.2.2.2.2.2.2.2.1
theorem dX11_advance_149 : decode cX11_advance 149 = .ok (.iadd, 1) := dG_dX11_advance_129.2.2.2.2.2.2.2.2.2.2.1
theorem dX11_advance_150 : decode cX11_advance 150 = .ok (.istore_n 3, 1) := dG_dX11_advance_129.2.2.2.2.2.2.2.2.2.2.2
theorem dG_dX11_advance_151 : (decode cX11_advance 151 = .ok (.iconst 0, 1)) ∧ (decode cX11_advance 152 = .ok (.istore 4, 2)) ∧ (decode cX11_advance 154 = .ok (.iload_n 1, 1)) ∧ (decode cX11_advance 155 = .ok (.istore 5, 2)) ∧ (decode cX11_advance 157 = .ok (.iload 5, 2)) ∧ (decode cX11_advance 159 = .ok (.iconst 1, 1)) ∧ (decode cX11_advance 160 = .ok (.if_icmp .lt 73, 3)) ∧ (decode cX11_advance 163 = .ok (.aload_n 0, 1)) ∧ (decode cX11_advance 164 = .ok (.getfield 313, 3)) ∧ (decode cX11_advance 167 = .ok (.iconst 1, 1)) ∧ (decode cX11_advance 168 = .ok (.isub, 1)) ∧ (decode cX11_advance 169 = .ok (.istore 6, 2)) := by decide +kernel
theorem dX11_advance_151 : decode cX11_advance 151 = .ok (.iconst 0, 1) := dG_dX11_advance_151.1
theorem dX11_advance_152 : decode cX11_advance 152 = .ok (.istore 4, 2) := dG_dX11_advance_151.2.1
theorem dX11_advance_154 : decode cX11_advance 154 = .ok (.iload_n 1, 1) := dG_dX11_advance_151.2.2.1
theorem dX11_advance_155 : decode cX11_advance 155 = .ok (.istore 5, 2) := dG_dX11_advance_151.2.2.2.1
theorem dX11_advance_157 : decode cX11_advance 157 = .ok (.iload 5, 2) := dG_dX11_advance_151.2.2.2.2.1
theorem dX11_advance_159 : decode cX11_advance 159 = .ok (.iconst 1, 1) := dG_dX11_advance_151.2.2.2.2.2.1
theorem dX11_advance_160 : decode cX11_advance 160 = .ok (.if_icmp .lt 73, 3) := dG_dX11_advance_151.2.2.2.2.2.2.1
theorem dX11_advance_163 : decode cX11_advance 163 = .ok (.aload_n 0, 1) := dG_dX11_advance_151.2.2.2.2.2.2.2.1
theorem dX11_advance_164 : decode cX11_advance 164 = .ok (.getfield 313, 3) := dG_dX11_advance_151.2.2.2.2.2.2.2.2.1
theorem dX11_advance_167 : decode cX11_advance 167 = .ok (.iconst 1, 1) := dG_dX11_advance_151.2.2.2.2.2.2.2.2.2.1
theorem dX11_advance_168 : decode cX11_advance 168 = .ok (.isub, 1) := dG_dX11_advance_151.2.2.2.2.2.2.2.2.2.2.1
theorem dX11_advance_169 : decode cX11_advance 169 = .ok (.istore 6, 2) := dG_dX11_advance_151.2.2.2.2.2.2.2.2.2.2.2
theorem dG_dX11_advance_171 : (decode cX11_advance 171 = .ok (.iload 6, 2)) ∧ (decode cX11_advance 173 = .ok (.ifCond .lt 54, 3)) ∧ (decode cX11_advance 176 = .ok (.aload_n 0, 1)) ∧ (decode cX11_advance 177 = .ok (.getfield 140, 3)) ∧ (decode cX11_advance 180 = .ok (.iload 6, 2)) ∧ (decode cX11_advance 182 = .ok (.iaload, 1)) ∧ (decode cX11_advance 183 = .ok (.iload 5, 2)) ∧ (decode cX11_advance 185 = .ok (.if_icmp .eq 6, 3)) ∧ (decode cX11_advance 188 = .ok (.goto 33, 3)) ∧ (decode cX11_advance 191 = .ok (.aload_n 0, 1)) ∧ (decode cX11_advance 192 = .ok (.getfield 85, 3)) ∧ (decode cX11_advance 195 = .ok (.bipush 16, 2)) := by decide +kernel
theorem dX11_advance_171 : decode cX11_advance 171 = .ok (.iload 6, 2) := dG_dX11_advance_171.1
theorem dX11_advance_173 : decode cX11_advance 173 = .ok (.ifCond .lt 54, 3) := dG_dX11_advance_171.2.1
theorem dX11_advance_176 : decode cX11_advance 176 = .ok (.aload_n 0, 1) := dG_dX11_advance_171.2.2.1
theorem dX11_advance_177 : decode cX11_advance 177 = .ok (.getfield 140, 3) := dG_dX11_advance_171.2.2.2.1
theorem dX11_advance_180 : decode cX11_advance 180 = .ok (.iload 6, 2) := dG_dX11_advance_171.2.2.2.2.1
theorem dX11_advance_182 : decode cX11_advance 182 = .ok (.iaload, 1) := dG_dX11_advance_171.2.2.2.2.2.1
theorem dX11_advance_183 : decode cX11_advance 183 = .ok (.iload 5, 2) := dG_dX11_advance_171.2.2.2.2.2.2.1
theorem dX11_advance_185 : decode cX11_advance 185 = .ok (.if_icmp .eq 6, 3) := dG_dX11_advance_171.2.2.2.2.2.2.2.1
theorem dX11_advance_188 : decode cX11_advance 188 = .ok (.goto 33, 3) := dG_dX11_advance_171.2.2.2.2.2.2.2.2.1
theorem dX11_advance_191 : decode cX11_advance 191 = .ok (.aload_n 0, 1) := dG_dX11_advance_171.2.2.2.2.2.2.2.2.2.1
theorem dX11_advance_192 : decode cX11_advance 192 = .ok (.getfield 85, 3) := dG_dX11_advance_171.2.2.2.2.2.2.2.2.2.2.1
theorem dX11_advance_195 : decode cX11_advance 195 = .ok (.bipush 16, 2) := dG_dX11_advance_171.2.2.2.2.2.2.2.2.2.2.2
theorem dG_dX11_advance_197 : (decode cX11_advance 197 = .ok (.iload_n 3, 1)) ∧ (decode cX11_advance 198 = .ok (.imul, 1)) ∧ (decode cX11_advance 199 = .ok (.iload 6, 2)) ∧ (decode cX11_advance 201 = .ok (.iadd, 1)) ∧ (decode cX11_advance 202 = .ok (.iconst 1, 1)) ∧ (decode cX11_advance 203 = .ok (.bastore, 1)) ∧ (decode cX11_advance 204 = .ok (.aload_n 0, 1)) ∧ (decode cX11_advance 205 = .ok (.getfield 88, 3)) ∧ (decode cX11_advance 208 = .ok (.bipush 16, 2)) ∧ (decode cX11_advance 210 = .ok (.iload_n 3, 1)) ∧ (decode cX11_advance 211 = .ok (.imul, 1)) ∧ (decode cX11_advance 212 = .ok (.iload 4, 2)) := by decide +kernel
theorem dX11_advance_197 : decode cX11_advance 197 = .ok (.iload_n 3, 1) := dG_dX11_advance_197.1
theorem dX11_advance_198 : decode cX11_advance 198 = .ok (.imul, 1) := dG_dX11_advance_197.2.1
theorem dX11_advance_199 : decode cX11_advance 199 = .ok (.iload 6, 2) := dG_dX11_advance_197.2.2.1
theorem dX11_advance_201 : decode cX11_advance 201 = .ok (.iadd, 1) := dG_dX11_advance_197.2.2.2.1
theorem dX11_advance_202 : decode cX11_advance 202 = .ok (.iconst 1, 1) := dG_dX11_advance_197.2.2.2.2.1
theorem dX11_advance_203 : decode cX11_advance 203 = .ok (.bastore, 1) := dG_dX11_advance_197.2.2.2.2.2.1
theorem dX11_advance_204 : decode cX11_advance 204 = .ok (.aload_n 0, 1) := dG_dX11_advance_197.2.2.2.2.2.2.1
theorem dX11_advance_205 : decode cX11_advance 205 = .ok (.getfield 88, 3) := dG_dX11_advance_197.2.2.2.2.2.2.2.1
theorem dX11_advance_208 : decode cX11_advance 208 = .ok (.bipush 16, 2) := dG_dX11_advance_197.2.2.2.2.2.2.2.2.1
theorem dX11_advance_210 : decode cX11_advance 210 = .ok (.iload_n 3, 1) := dG_dX11_advance_197.2.2.2.2.2.2.2.2.2.1
theorem dX11_advance_211 : decode cX11_advance 211 = .ok (.imul, 1) := dG_dX11_advance_197.2.2.2.2.2.2.2.2.2.2.1
theorem dX11_advance_212 : decode cX11_advance 212 = .ok (.iload 4, 2) := dG_dX11_advance_197.2.2.2.2.2.2.2.2.2.2.2
theorem dG_dX11_advance_214 : (decode cX11_advance 214 = .ok (.iadd, 1)) ∧ (decode cX11_advance 215 = .ok (.iload 6, 2)) ∧ (decode cX11_advance 217 = .ok (.iastore, 1)) ∧ (decode cX11_advance 218 = .ok (.iinc 4 1, 3)) ∧ (decode cX11_advance 221 = .ok (.iinc 6 (-1), 3)) ∧ (decode cX11_advance 224 = .ok (.goto (-53), 3)) ∧ (decode cX11_advance 227 = .ok (.iinc 5 (-1), 3)) ∧ (decode cX11_advance 230 = .ok (.goto (-73), 3)) ∧ (decode cX11_advance 233 = .ok (.aload_n 0, 1)) ∧ (decode cX11_advance 234 = .ok (.getfield 91, 3)) ∧ (decode cX11_advance 237 = .ok (.iload_n 3, 1)) ∧ (decode cX11_advance 238 = .ok (.iload 4, 2)) := by decide +kernel
theorem dX11_advance_214 : decode cX11_advance 214 = .ok (.iadd, 1) := dG_dX11_advance_214.1
theorem dX11_advance_215 : decode cX11_advance 215 = .ok (.iload 6, 2) := dG_dX11_advance_214.2.1
theorem dX11_advance_217 : decode cX11_advance 217 = .ok (.iastore, 1) := dG_dX11_advance_214.2.2.1
theorem dX11_advance_218 : decode cX11_advance 218 = .ok (.iinc 4 1, 3) := dG_dX11_advance_214.2.2.2.1
theorem dX11_advance_221 : decode cX11_advance 221 = .ok (.iinc 6 (-1), 3) := dG_dX11_advance_214.2.2.2.2.1
theorem dX11_advance_224 : decode cX11_advance 224 = .ok (.goto (-53), 3) := dG_dX11_advance_214.2.2.2.2.2.1
theorem dX11_advance_227 : decode cX11_advance 227 = .ok (.iinc 5 (-1), 3) := dG_dX11_advance_214.2.2.2.2.2.2.1
theorem dX11_advance_230 : decode cX11_advance 230 = .ok (.goto (-73), 3) := dG_dX11_advance_214.2.2.2.2.2.2.2.1
theorem dX11_advance_233 : decode cX11_advance 233 = .ok (.aload_n 0, 1) := dG_dX11_advance_214.2.2.2.2.2.2.2.2.1
theorem dX11_advance_234 : decode cX11_advance 234 = .ok (.getfield 91, 3) := dG_dX11_advance_214.2.2.2.2.2.2.2.2.2.1
theorem dX11_advance_237 : decode cX11_advance 237 = .ok (.iload_n 3, 1) := dG_dX11_advance_214.2.2.2.2.2.2.2.2.2.2.1
theorem dX11_advance_238 : decode cX11_advance 238 = .ok (.iload 4, 2) := dG_dX11_advance_214.2.2.2.2.2.2.2.2.2.2.2
theorem dG_dX11_advance_240 : (decode cX11_advance 240 = .ok (.iastore, 1)) ∧ (decode cX11_advance 241 = .ok (.aload_n 0, 1)) ∧ (decode cX11_advance 242 = .ok (.iload_n 3, 1)) ∧ (decode cX11_advance 243 = .ok (.putfield 82, 3)) ∧ (decode cX11_advance 246 = .ok (.iconst 0, 1)) ∧ (decode cX11_advance 247 = .ok (.istore 5, 2)) ∧ (decode cX11_advance 249 = .ok (.iload 5, 2)) ∧ (decode cX11_advance 251 = .ok (.aload_n 0, 1)) ∧ (decode cX11_advance 252 = .ok (.getfield 313, 3)) ∧ (decode cX11_advance 255 = .ok (.if_icmp .ge 17, 3)) ∧ (decode cX11_advance 258 = .ok (.aload_n 0, 1)) ∧ (decode cX11_advance 259 = .ok (.getfield 124, 3)) := by decide +kernel
theorem dX11_advance_240 : decode cX11_advance 240 = .ok (.iastore, 1) := dG_dX11_advance_240.1
theorem dX11_advance_241 : decode cX11_advance 241 = .ok (.aload_n 0, 1) := dG_dX11_advance_240.2.1
theorem dX11_advance_242 : decode cX11_advance 242 = .ok (.iload_n 3, 1) := dG_dX11_advance_240.2.2.1
theorem dX11_advance_243 : decode cX11_advance 243 = .ok (.putfield 82, 3) := dG_dX11_advance_240.2.2.2.1
theorem dX11_advance_246 : decode cX11_advance 246 = .ok (.iconst 0, 1) := dG_dX11_advance_240.2.2.2.2.1
theorem dX11_advance_247 : decode cX11_advance 247 = .ok (.istore 5, 2) := dG_dX11_advance_240.2.2.2.2.2.1
theorem dX11_advance_249 : decode cX11_advance 249 = .ok (.iload 5, 2) := dG_dX11_advance_240.2.2.2.2.2.2.1
theorem dX11_advance_251 : decode cX11_advance 251 = .ok (.aload_n 0, 1) := dG_dX11_advance_240.2.2.2.2.2.2.2.1
theorem dX11_advance_252 : decode cX11_advance 252 = .ok (.getfield 313, 3) := dG_dX11_advance_240.2.2.2.2.2.2.2.2.1
theorem dX11_advance_255 : decode cX11_advance 255 = .ok (.if_icmp .ge 17, 3) := dG_dX11_advance_240.2.2.2.2.2.2.2.2.2.1
theorem dX11_advance_258 : decode cX11_advance 258 = .ok (.aload_n 0, 1) := dG_dX11_advance_240.2.2.2.2.2.2.2.2.2.2.1
theorem dX11_advance_259 : decode cX11_advance 259 = .ok (.getfield 124, 3) := dG_dX11_advance_240.2.2.2.2.2.2.2.2.2.2.2
theorem dG_dX11_advance_262 : (decode cX11_advance 262 = .ok (.iload 5, 2)) ∧ (decode cX11_advance 264 = .ok (.iconst 0, 1)) ∧ (decode cX11_advance 265 = .ok (.iastore, 1)) ∧ (decode cX11_advance 266 = .ok (.iinc 5 1, 3)) ∧ (decode cX11_advance 269 = .ok (.goto (-20), 3)) ∧ (decode cX11_advance 272 = .ok (.iload 4, 2)) ∧ (decode cX11_advance 274 = .ok (.ireturn, 1)) ∧ (decode cX11_partsOf 0 = .ok (.iconst 0, 1)) ∧ (decode cX11_partsOf 1 = .ok (.istore 4, 2)) ∧ (decode cX11_partsOf 3 = .ok (.iload 4, 2)) ∧ (decode cX11_partsOf 5 = .ok (.aload_n 0, 1)) ∧ (decode cX11_partsOf 6 = .ok (.getfield 313, 3)) := by decide +kernel
theorem dX11_advance_262 : decode cX11_advance 262 = .ok (.iload 5, 2) := dG_dX11_advance_262.1
theorem dX11_advance_264 : decode cX11_advance 264 = .ok (.iconst 0, 1) := dG_dX11_advance_262.2.1
theorem dX11_advance_265 : decode cX11_advance 265 = .ok (.iastore, 1) := dG_dX11_advance_262.2.2.1
theorem dX11_advance_266 : decode cX11_advance 266 = .ok (.iinc 5 1, 3) := dG_dX11_advance_262.2.2.2.1
theorem dX11_advance_269 : decode cX11_advance 269 = .ok (.goto (-20), 3) := dG_dX11_advance_262.2.2.2.2.1
theorem dX11_advance_272 : decode cX11_advance 272 = .ok (.iload 4, 2) := dG_dX11_advance_262.2.2.2.2.2.1
theorem dX11_advance_274 : decode cX11_advance 274 = .ok (.ireturn, 1) := dG_dX11_advance_262.2.2.2.2.2.2.1
theorem dX11_partsOf_0 : decode cX11_partsOf 0 = .ok (.iconst 0, 1) := dG_dX11_advance_262.2.2.2.2.2.2.2.1
theorem dX11_partsOf_1 : decode cX11_partsOf 1 = .ok (.istore 4, 2) := dG_dX11_advance_262.2.2.2.2.2.2.2.2.1
theorem dX11_partsOf_3 : decode cX11_partsOf 3 = .ok (.iload 4, 2) := dG_dX11_advance_262.2.2.2.2.2.2.2.2.2.1
theorem dX11_partsOf_5 : decode cX11_partsOf 5 = .ok (.aload_n 0, 1) := dG_dX11_advance_262.2.2.2.2.2.2.2.2.2.2.1
theorem dX11_partsOf_6 : decode cX11_partsOf 6 = .ok (.getfield 313, 3) := dG_dX11_advance_262.2.2.2.2.2.2.2.2.2.2.2
theorem dG_dX11_partsOf_9 : (decode cX11_partsOf 9 = .ok (.if_icmp .ge 68, 3)) ∧ (decode cX11_partsOf 12 = .ok (.aload_n 0, 1)) ∧ (decode cX11_partsOf 13 = .ok (.getfield 143, 3)) ∧ (decode cX11_partsOf 16 = .ok (.iload 4, 2)) ∧ (decode cX11_partsOf 18 = .ok (.lconst 0, 1)) ∧ (decode cX11_partsOf 19 = .ok (.lastore, 1)) ∧ (decode cX11_partsOf 20 = .ok (.iconst 0, 1)) ∧ (decode cX11_partsOf 21 = .ok (.istore 5, 2)) ∧ (decode cX11_partsOf 23 = .ok (.iload 5, 2)) ∧ (decode cX11_partsOf 25 = .ok (.aload_n 0, 1)) ∧ (decode cX11_partsOf 26 = .ok (.getfield 20, 3)) ∧ (decode cX11_partsOf 29 = .ok (.iload_n 1, 1)) := by decide +kernel
theorem dX11_partsOf_9 : decode cX11_partsOf 9 = .ok (.if_icmp .ge 68, 3) := dG_dX11_partsOf_9.1
theorem dX11_partsOf_12 : decode cX11_partsOf 12 = .ok (.aload_n 0, 1) := dG_dX11_partsOf_9.2.1
theorem dX11_partsOf_13 : decode cX11_partsOf 13 = .ok (.getfield 143, 3) := dG_dX11_partsOf_9.2.2.1
theorem dX11_partsOf_16 : decode cX11_partsOf 16 = .ok (.iload 4, 2) := dG_dX11_partsOf_9.2.2.2.1
theorem dX11_partsOf_18 : decode cX11_partsOf 18 = .ok (.lconst 0, 1) := dG_dX11_partsOf_9.2.2.2.2.1
theorem dX11_partsOf_19 : decode cX11_partsOf 19 = .ok (.lastore, 1) := dG_dX11_partsOf_9.2.2.2.2.2.1
theorem dX11_partsOf_20 : decode cX11_partsOf 20 = .ok (.iconst 0, 1) := dG_dX11_partsOf_9.2.2.2.2.2.2.1
theorem dX11_partsOf_21 : decode cX11_partsOf 21 = .ok (.istore 5, 2) := dG_dX11_partsOf_9.2.2.2.2.2.2.2.1
theorem dX11_partsOf_23 : decode cX11_partsOf 23 = .ok (.iload 5, 2) := dG_dX11_partsOf_9.2.2.2.2.2.2.2.2.1
theorem dX11_partsOf_25 : decode cX11_partsOf 25 = .ok (.aload_n 0, 1) := dG_dX11_partsOf_9.2.2.2.2.2.2.2.2.2.1
theorem dX11_partsOf_26 : decode cX11_partsOf 26 = .ok (.getfield 20, 3) := dG_dX11_partsOf_9.2.2.2.2.2.2.2.2.2.2.1
theorem dX11_partsOf_29 : decode cX11_partsOf 29 = .ok (.iload_n 1, 1) := dG_dX11_partsOf_9.2.2.2.2.2.2.2.2.2.2.2
theorem dG_dX11_partsOf_30 : (decode cX11_partsOf 30 = .ok (.iaload, 1)) ∧ (decode cX11_partsOf 31 = .ok (.if_icmp .ge 40, 3)) ∧ (decode cX11_partsOf 34 = .ok (.iload_n 2, 1)) ∧ (decode cX11_partsOf 35 = .ok (.iload 5, 2)) ∧ (decode cX11_partsOf 37 = .ok (.ishr, 1)) ∧ (decode cX11_partsOf 38 = .ok (.iconst 1, 1)) ∧ (decode cX11_partsOf 39 = .ok (.iand, 1)) ∧ (decode cX11_partsOf 40 = .ok (.iconst 1, 1)) ∧ (decode cX11_partsOf 41 = .ok (.if_icmp .ne 24, 3)) ∧ (decode cX11_partsOf 44 = .ok (.aload_n 0, 1)) ∧ (decode cX11_partsOf 45 = .ok (.getfield 143, 3)) ∧ (decode cX11_partsOf 48 = .ok (.iload 4, 2)) := by decide +kernel
theorem dX11_partsOf_30 : decode cX11_partsOf 30 = .ok (.iaload, 1) := dG_dX11_partsOf_30.1
theorem dX11_partsOf_31 : decode cX11_partsOf 31 = .ok (.if_icmp .ge 40, 3) := dG_dX11_partsOf_30.2.1
theorem dX11_partsOf_34 : decode cX11_partsOf 34 = .ok (.iload_n 2, 1) := dG_dX11_partsOf_30.2.2.1
theorem dX11_partsOf_35 : decode cX11_partsOf 35 = .ok (.iload 5, 2) := dG_dX11_partsOf_30.2.2.2.1
theorem dX11_partsOf_37 : decode cX11_partsOf 37 = .ok (.ishr, 1) := dG_dX11_partsOf_30.2.2.2.2.1
theorem dX11_partsOf_38 : decode cX11_partsOf 38 = .ok (.iconst 1, 1) := dG_dX11_partsOf_30.2.2.2.2.2.1
theorem dX11_partsOf_39 : decode cX11_partsOf 39 = .ok (.iand, 1) := dG_dX11_partsOf_30.2.2.2.2.2.2.1
theorem dX11_partsOf_40 : decode cX11_partsOf 40 = .ok (.iconst 1, 1) := dG_dX11_partsOf_30.2.2.2.2.2.2.2.1
theorem dX11_partsOf_41 : decode cX11_partsOf 41 = .ok (.if_icmp .ne 24, 3) := dG_dX11_partsOf_30.2.2.2.2.2.2.2.2.1
theorem dX11_partsOf_44 : decode cX11_partsOf 44 = .ok (.aload_n 0, 1) := dG_dX11_partsOf_30.2.2.2.2.2.2.2.2.2.1
theorem dX11_partsOf_45 : decode cX11_partsOf 45 = .ok (.getfield 143, 3) := dG_dX11_partsOf_30.2.2.2.2.2.2.2.2.2.2.1
theorem dX11_partsOf_48 : decode cX11_partsOf 48 = .ok (.iload 4, 2) := dG_dX11_partsOf_30.2.2.2.2.2.2.2.2.2.2.2
theorem dG_dX11_partsOf_50 : (decode cX11_partsOf 50 = .ok (.dup2, 1)) ∧ (decode cX11_partsOf 51 = .ok (.laload, 1)) ∧ (decode cX11_partsOf 52 = .ok (.aload_n 0, 1)) ∧ (decode cX11_partsOf 53 = .ok (.iload_n 1, 1)) ∧ (decode cX11_partsOf 54 = .ok (.iload 5, 2)) ∧ (decode cX11_partsOf 56 = .ok (.iload 4, 2)) ∧ (decode cX11_partsOf 58 = .ok (.iload_n 3, 1)) ∧ (decode cX11_partsOf 59 = .ok (.invokevirtual 387, 3)) ∧ (decode cX11_partsOf 62 = .ok (.i2l, 1)) ∧ (decode cX11_partsOf 63 = .ok (.ladd, 1)) ∧ (decode cX11_partsOf 64 = .ok (.lastore, 1)) ∧ (decode cX11_partsOf 65 = .ok (.iinc 5 1, 3)) := by decide +kernel
theorem dX11_partsOf_50 : decode cX11_partsOf 50 = .ok (.dup2, 1) := dG_dX11_partsOf_50.1
theorem dX11_partsOf_51 : decode cX11_partsOf 51 = .ok (.laload, 1) := dG_dX11_partsOf_50.2.1
theorem dX11_partsOf_52 : decode cX11_partsOf 52 = .ok (.aload_n 0, 1) := dG_dX11_partsOf_50.2.2.1
theorem dX11_partsOf_53 : decode cX11_partsOf 53 = .ok (.iload_n 1, 1) := dG_dX11_partsOf_50.2.2.2.1
theorem dX11_partsOf_54 : decode cX11_partsOf 54 = .ok (.iload 5, 2) := dG_dX11_partsOf_50.2.2.2.2.1
theorem dX11_partsOf_56 : decode cX11_partsOf 56 = .ok (.iload 4, 2) := dG_dX11_partsOf_50.2.2.2.2.2.1
theorem dX11_partsOf_58 : decode cX11_partsOf 58 = .ok (.iload_n 3, 1) := dG_dX11_partsOf_50.2.2.2.2.2.2.1
theorem dX11_partsOf_59 : decode cX11_partsOf 59 = .ok (.invokevirtual 387, 3) := dG_dX11_partsOf_50.2.2.2.2.2.2.2.1
theorem dX11_partsOf_62 : decode cX11_partsOf 62 = .ok (.i2l, 1) := dG_dX11_partsOf_50.2.2.2.2.2.2.2.2.1
theorem dX11_partsOf_63 : decode cX11_partsOf 63 = .ok (.ladd, 1) := dG_dX11_partsOf_50.2.2.2.2.2.2.2.2.2.1
theorem dX11_partsOf_64 : decode cX11_partsOf 64 = .ok (.lastore, 1) := dG_dX11_partsOf_50.2.2.2.2.2.2.2.2.2.2.1
theorem dX11_partsOf_65 : decode cX11_partsOf 65 = .ok (.iinc 5 1, 3) := dG_dX11_partsOf_50.2.2.2.2.2.2.2.2.2.2.2
theorem dG_dX11_partsOf_68 : (decode cX11_partsOf 68 = .ok (.goto (-45), 3)) ∧ (decode cX11_partsOf 71 = .ok (.iinc 4 1, 3)) ∧ (decode cX11_partsOf 74 = .ok (.goto (-71), 3)) ∧ (decode cX11_partsOf 77 = .ok (.iconst 0, 1)) ∧ (decode cX11_partsOf 78 = .ok (.istore 4, 2)) ∧ (decode cX11_partsOf 80 = .ok (.iconst 0, 1)) ∧ (decode cX11_partsOf 81 = .ok (.istore 5, 2)) ∧ (decode cX11_partsOf 83 = .ok (.iload 5, 2)) ∧ (decode cX11_partsOf 85 = .ok (.aload_n 0, 1)) ∧ (decode cX11_partsOf 86 = .ok (.getfield 313, 3)) ∧ (decode cX11_partsOf 89 = .ok (.if_icmp .ge 88, 3)) ∧ (decode cX11_partsOf 92 = .ok (.iload 5, 2)) := by decide +kernel
theorem dX11_partsOf_68 : decode cX11_partsOf 68 = .ok (.goto (-45), 3) := dG_dX11_partsOf_68.1
theorem dX11_partsOf_71 : decode cX11_partsOf 71 = .ok (.iinc 4 1, 3) := dG_dX11_partsOf_68.2.1
theorem dX11_partsOf_74 : decode cX11_partsOf 74 = .ok (.goto (-71), 3) := dG_dX11_partsOf_68.2.2.1
theorem dX11_partsOf_77 : decode cX11_partsOf 77 = .ok (.iconst 0, 1) := dG_dX11_partsOf_68.2.2.2.1
theorem dX11_partsOf_78 : decode cX11_partsOf 78 = .ok (.istore 4, 2) := dG_dX11_partsOf_68.2.2.2.2.1
theorem dX11_partsOf_80 : decode cX11_partsOf 80 = .ok (.iconst 0, 1) := dG_dX11_partsOf_68.2.2.2.2.2.1
theorem dX11_partsOf_81 : decode cX11_partsOf 81 = .ok (.istore 5, 2) := dG_dX11_partsOf_68.2.2.2.2.2.2.1
theorem dX11_partsOf_83 : decode cX11_partsOf 83 = .ok (.iload 5, 2) := dG_dX11_partsOf_68.2.2.2.2.2.2.2.1
theorem dX11_partsOf_85 : decode cX11_partsOf 85 = .ok (.aload_n 0, 1) := dG_dX11_partsOf_68.2.2.2.2.2.2.2.2.1
theorem dX11_partsOf_86 : decode cX11_partsOf 86 = .ok (.getfield 313, 3) := dG_dX11_partsOf_68.2.2.2.2.2.2.2.2.2.1
theorem dX11_partsOf_89 : decode cX11_partsOf 89 = .ok (.if_icmp .ge 88, 3) := dG_dX11_partsOf_68.2.2.2.2.2.2.2.2.2.2.1
theorem dX11_partsOf_92 : decode cX11_partsOf 92 = .ok (.iload 5, 2) := dG_dX11_partsOf_68.2.2.2.2.2.2.2.2.2.2.2
theorem dG_dX11_partsOf_94 : (decode cX11_partsOf 94 = .ok (.iconst 1, 1)) ∧ (decode cX11_partsOf 95 = .ok (.iadd, 1)) ∧ (decode cX11_partsOf 96 = .ok (.istore 6, 2)) ∧ (decode cX11_partsOf 98 = .ok (.iload 6, 2)) ∧ (decode cX11_partsOf 100 = .ok (.aload_n 0, 1)) ∧ (decode cX11_partsOf 101 = .ok (.getfield 313, 3)) ∧ (decode cX11_partsOf 104 = .ok (.if_icmp .ge 67, 3)) ∧ (decode cX11_partsOf 107 = .ok (.iload 4, 2)) ∧ (decode cX11_partsOf 109 = .ok (.aload_n 0, 1)) ∧ (decode cX11_partsOf 110 = .ok (.getfield 85, 3)) ∧ (decode cX11_partsOf 113 = .ok (.bipush 16, 2)) ∧ (decode cX11_partsOf 115 = .ok (.iload_n 1, 1)) := by decide +kernel
theorem dX11_partsOf_94 : decode cX11_partsOf 94 = .ok (.iconst 1, 1) := dG_dX11_partsOf_94.1
theorem dX11_partsOf_95 : decode cX11_partsOf 95 = .ok (.iadd, 1) := dG_dX11_partsOf_94.2.1
theorem dX11_partsOf_96 : decode cX11_partsOf 96 = .ok (.istore 6, 2) := dG_dX11_partsOf_94.2.2.1
theorem dX11_partsOf_98 : decode cX11_partsOf 98 = .ok (.iload 6, 2) := dG_dX11_partsOf_94.2.2.2.1
theorem dX11_partsOf_100 : decode cX11_partsOf 100 = .ok (.aload_n 0, 1) := dG_dX11_partsOf_94.2.2.2.2.1
theorem dX11_partsOf_101 : decode cX11_partsOf 101 = .ok (.getfield 313, 3) := dG_dX11_partsOf_94.2.2.2.2.2.1
theorem dX11_partsOf_104 : decode cX11_partsOf 104 = .ok (.if_icmp .ge 67, 3) := dG_dX11_partsOf_94.2.2.2.2.2.2.1
theorem dX11_partsOf_107 : decode cX11_partsOf 107 = .ok (.iload 4, 2) := dG_dX11_partsOf_94.2.2.2.2.2.2.2.1
theorem dX11_partsOf_109 : decode cX11_partsOf 109 = .ok (.aload_n 0, 1) := dG_dX11_partsOf_94.2.2.2.2.2.2.2.2.1
theorem dX11_partsOf_110 : decode cX11_partsOf 110 = .ok (.getfield 85, 3) := dG_dX11_partsOf_94.2.2.2.2.2.2.2.2.2.1
theorem dX11_partsOf_113 : decode cX11_partsOf 113 = .ok (.bipush 16, 2) := dG_dX11_partsOf_94.2.2.2.2.2.2.2.2.2.2.1
theorem dX11_partsOf_115 : decode cX11_partsOf 115 = .ok (.iload_n 1, 1) := dG_dX11_partsOf_94.2.2.2.2.2.2.2.2.2.2.2
theorem dG_dX11_partsOf_116 : (decode cX11_partsOf 116 = .ok (.imul, 1)) ∧ (decode cX11_partsOf 117 = .ok (.iload 5, 2)) ∧ (decode cX11_partsOf 119 = .ok (.iadd, 1)) ∧ (decode cX11_partsOf 120 = .ok (.baload, 1)) ∧ (decode cX11_partsOf 121 = .ok (.ifCond .eq 40, 3)) ∧ (decode cX11_partsOf 124 = .ok (.aload_n 0, 1)) ∧ (decode cX11_partsOf 125 = .ok (.getfield 85, 3)) ∧ (decode cX11_partsOf 128 = .ok (.bipush 16, 2)) ∧ (decode cX11_partsOf 130 = .ok (.iload_n 1, 1)) ∧ (decode cX11_partsOf 131 = .ok (.imul, 1)) ∧ (decode cX11_partsOf 132 = .ok (.iload 6, 2)) ∧ (decode cX11_partsOf 134 = .ok (.iadd, 1)) := by decide +kernel
theorem dX11_partsOf_116 : decode cX11_partsOf 116 = .ok (.imul, 1) := dG_dX11_partsOf_116.1
theorem dX11_partsOf_117 : decode cX11_partsOf 117 = .ok (.iload 5, 2) := dG_dX11_partsOf_116.2.1
theorem dX11_partsOf_119 : decode cX11_partsOf 119 = .ok (.iadd, 1) := dG_dX11_partsOf_116.2.2.1
theorem dX11_partsOf_120 : decode cX11_partsOf 120 = .ok (.baload, 1) := dG_dX11_partsOf_116.2.2.2.1
theorem dX11_partsOf_121 : decode cX11_partsOf 121 = .ok (.ifCond .eq 40, 3) := dG_dX11_partsOf_116.2.2.2.2.1
theorem dX11_partsOf_124 : decode cX11_partsOf 124 = .ok (.aload_n 0, 1) := dG_dX11_partsOf_116.2.2.2.2.2.1
theorem dX11_partsOf_125 : decode cX11_partsOf 125 = .ok (.getfield 85, 3) := dG_dX11_partsOf_116.2.2.2.2.2.2.1
theorem dX11_partsOf_128 : decode cX11_partsOf 128 = .ok (.bipush 16, 2) := dG_dX11_partsOf_116.2.2.2.2.2.2.2.1
theorem dX11_partsOf_130 : decode cX11_partsOf 130 = .ok (.iload_n 1, 1) := dG_dX11_partsOf_116.2.2.2.2.2.2.2.2.1
theorem dX11_partsOf_131 : decode cX11_partsOf 131 = .ok (.imul, 1) := dG_dX11_partsOf_116.2.2.2.2.2.2.2.2.2.1
theorem dX11_partsOf_132 : decode cX11_partsOf 132 = .ok (.iload 6, 2) := dG_dX11_partsOf_116.2.2.2.2.2.2.2.2.2.2.1
theorem dX11_partsOf_134 : decode cX11_partsOf 134 = .ok (.iadd, 1) := dG_dX11_partsOf_116.2.2.2.2.2.2.2.2.2.2.2
theorem dG_dX11_partsOf_135 : (decode cX11_partsOf 135 = .ok (.baload, 1)) ∧ (decode cX11_partsOf 136 = .ok (.ifCond .eq 25, 3)) ∧ (decode cX11_partsOf 139 = .ok (.aload_n 0, 1)) ∧ (decode cX11_partsOf 140 = .ok (.getfield 143, 3)) ∧ (decode cX11_partsOf 143 = .ok (.iload 5, 2)) ∧ (decode cX11_partsOf 145 = .ok (.laload, 1)) ∧ (decode cX11_partsOf 146 = .ok (.aload_n 0, 1)) ∧ (decode cX11_partsOf 147 = .ok (.getfield 143, 3)) ∧ (decode cX11_partsOf 150 = .ok (.iload 6, 2)) ∧ (decode cX11_partsOf 152 = .ok (.laload, 1)) ∧ (decode cX11_partsOf 153 = .ok (.lcmp, 1)) ∧ (decode cX11_partsOf 154 = .ok (.ifCond .eq 7, 3)) := by decide +kernel
theorem dX11_partsOf_135 : decode cX11_partsOf 135 = .ok (.baload, 1) := dG_dX11_partsOf_135.1
theorem dX11_partsOf_136 : decode cX11_partsOf 136 = .ok (.ifCond .eq 25, 3) := dG_dX11_partsOf_135.2.1
theorem dX11_partsOf_139 : decode cX11_partsOf 139 = .ok (.aload_n 0, 1) := dG_dX11_partsOf_135.2.2.1
theorem dX11_partsOf_140 : decode cX11_partsOf 140 = .ok (.getfield 143, 3) := dG_dX11_partsOf_135.2.2.2.1
theorem dX11_partsOf_143 : decode cX11_partsOf 143 = .ok (.iload 5, 2) := dG_dX11_partsOf_135.2.2.2.2.1
theorem dX11_partsOf_145 : decode cX11_partsOf 145 = .ok (.laload, 1) := dG_dX11_partsOf_135.2.2.2.2.2.1
theorem dX11_partsOf_146 : decode cX11_partsOf 146 = .ok (.aload_n 0, 1) := dG_dX11_partsOf_135.2.2.2.2.2.2.1
theorem dX11_partsOf_147 : decode cX11_partsOf 147 = .ok (.getfield 143, 3) := dG_dX11_partsOf_135.2.2.2.2.2.2.2.1
theorem dX11_partsOf_150 : decode cX11_partsOf 150 = .ok (.iload 6, 2) := dG_dX11_partsOf_135.2.2.2.2.2.2.2.2.1
theorem dX11_partsOf_152 : decode cX11_partsOf 152 = .ok (.laload, 1) := dG_dX11_partsOf_135.2.2.2.2.2.2.2.2.2.1
theorem dX11_partsOf_153 : decode cX11_partsOf 153 = .ok (.lcmp, 1) := dG_dX11_partsOf_135.2.2.2.2.2.2.2.2.2.2.1
theorem dX11_partsOf_154 : decode cX11_partsOf 154 = .ok (.ifCond .eq 7, 3) := dG_dX11_partsOf_135.2.2.2.2.2.2.2.2.2.2.2
theorem dG_dX11_partsOf_157 : (decode cX11_partsOf 157 = .ok (.iconst 1, 1)) ∧ (decode cX11_partsOf 158 = .ok (.goto 4, 3)) ∧ (decode cX11_partsOf 161 = .ok (.iconst 0, 1)) ∧ (decode cX11_partsOf 162 = .ok (.iadd, 1)) ∧ (decode cX11_partsOf 163 = .ok (.istore 4, 2)) ∧ (decode cX11_partsOf 165 = .ok (.iinc 6 1, 3)) ∧ (decode cX11_partsOf 168 = .ok (.goto (-70), 3)) ∧ (decode cX11_partsOf 171 = .ok (.iinc 5 1, 3)) ∧ (decode cX11_partsOf 174 = .ok (.goto (-91), 3)) ∧ (decode cX11_partsOf 177 = .ok (.iload 4, 2)) ∧ (decode cX11_partsOf 179 = .ok (.ireturn, 1)) ∧ (decode cX11_parts 0 = .ok (.aload_n 0, 1)) := by decide +kernel
theorem dX11_partsOf_157 : decode cX11_partsOf 157 = .ok (.iconst 1, 1) := dG_dX11_partsOf_157.1
theorem dX11_partsOf_158 : decode cX11_partsOf 158 = .ok (.goto 4, 3) := dG_dX11_partsOf_157.2.1
theorem dX11_partsOf_161 : decode cX11_partsOf 161 = .ok (.iconst 0, 1) := dG_dX11_partsOf_157.2.2.1
theorem dX11_partsOf_162 : decode cX11_partsOf 162 = .ok (.iadd, 1) := dG_dX11_partsOf_157.2.2.2.1
theorem dX11_partsOf_163 : decode cX11_partsOf 163 = .ok (.istore 4, 2) := dG_dX11_partsOf_157.2.2.2.2.1
theorem dX11_partsOf_165 : decode cX11_partsOf 165 = .ok (.iinc 6 1, 3) := dG_dX11_partsOf_157.2.2.2.2.2.1
theorem dX11_partsOf_168 : decode cX11_partsOf 168 = .ok (.goto (-70), 3) := dG_dX11_partsOf_157.2.2.2.2.2.2.1
theorem dX11_partsOf_171 : decode cX11_partsOf 171 = .ok (.iinc 5 1, 3) := dG_dX11_partsOf_157.2.2.2.2.2.2.2.1
theorem dX11_partsOf_174 : decode cX11_partsOf 174 = .ok (.goto (-91), 3) := dG_dX11_partsOf_157.2.2.2.2.2.2.2.2.1
theorem dX11_partsOf_177 : decode cX11_partsOf 177 = .ok (.iload 4, 2) := dG_dX11_partsOf_157.2.2.2.2.2.2.2.2.2.1
theorem dX11_partsOf_179 : decode cX11_partsOf 179 = .ok (.ireturn, 1) := dG_dX11_partsOf_157.2.2.2.2.2.2.2.2.2.2.1
theorem dX11_parts_0 : decode cX11_parts 0 = .ok (.aload_n 0, 1) := dG_dX11_partsOf_157.2.2.2.2.2.2.2.2.2.2.2
theorem dG_dX11_parts_1 : (decode cX11_parts 1 = .ok (.iconst 0, 1)) ∧ (decode cX11_parts 2 = .ok (.putfield 146, 3)) ∧ (decode cX11_parts 5 = .ok (.aload_n 0, 1)) ∧ (decode cX11_parts 6 = .ok (.iconst 0, 1)) ∧ (decode cX11_parts 7 = .ok (.putfield 149, 3)) ∧ (decode cX11_parts 10 = .ok (.aload_n 0, 1)) ∧ (decode cX11_parts 11 = .ok (.iload_n 1, 1)) ∧ (decode cX11_parts 12 = .ok (.invokevirtual 325, 3)) ∧ (decode cX11_parts 15 = .ok (.ifCond .ne 9, 3)) ∧ (decode cX11_parts 18 = .ok (.aload_n 0, 1)) ∧ (decode cX11_parts 19 = .ok (.iconst 1, 1)) ∧ (decode cX11_parts 20 = .ok (.invokevirtual 295, 3)) := by decide +kernel
theorem dX11_parts_1 : decode cX11_parts 1 = .ok (.iconst 0, 1) := dG_dX11_parts_1.1
theorem dX11_parts_2 : decode cX11_parts 2 = .ok (.putfield 146, 3) := dG_dX11_parts_1.2.1
theorem dX11_parts_5 : decode cX11_parts 5 = .ok (.aload_n 0, 1) := dG_dX11_parts_1.2.2.1
theorem dX11_parts_6 : decode cX11_parts 6 = .ok (.iconst 0, 1) := dG_dX11_parts_1.2.2.2.1
theorem dX11_parts_7 : decode cX11_parts 7 = .ok (.putfield 149, 3) := dG_dX11_parts_1.2.2.2.2.1
theorem dX11_parts_10 : decode cX11_parts 10 = .ok (.aload_n 0, 1) := dG_dX11_parts_1.2.2.2.2.2.1
theorem dX11_parts_11 : decode cX11_parts 11 = .ok (.iload_n 1, 1) := dG_dX11_parts_1.2.2.2.2.2.2.1
theorem dX11_parts_12 : decode cX11_parts 12 = .ok (.invokevirtual 325, 3) := dG_dX11_parts_1.2.2.2.2.2.2.2.1
theorem dX11_parts_15 : decode cX11_parts 15 = .ok (.ifCond .ne 9, 3) := dG_dX11_parts_1.2.2.2.2.2.2.2.2.1
theorem dX11_parts_18 : decode cX11_parts 18 = .ok (.aload_n 0, 1) := dG_dX11_parts_1.2.2.2.2.2.2.2.2.2.1
theorem dX11_parts_19 : decode cX11_parts 19 = .ok (.iconst 1, 1) := dG_dX11_parts_1.2.2.2.2.2.2.2.2.2.2.1
theorem dX11_parts_20 : decode cX11_parts 20 = .ok (.invokevirtual 295, 3) := dG_dX11_parts_1.2.2.2.2.2.2.2.2.2.2.2
theorem dG_dX11_parts_23 : (decode cX11_parts 23 = .ok (.ireturn, 1)) ∧ (decode cX11_parts 24 = .ok (.iload_n 2, 1)) ∧ (decode cX11_parts 25 = .ok (.ifCond .lt 22, 3)) ∧ (decode cX11_parts 28 = .ok (.iload_n 2, 1)) ∧ (decode cX11_parts 29 = .ok (.iconst 1, 1)) ∧ (decode cX11_parts 30 = .ok (.aload_n 0, 1)) ∧ (decode cX11_parts 31 = .ok (.getfield 20, 3)) ∧ (decode cX11_parts 34 = .ok (.iload_n 1, 1)) ∧ (decode cX11_parts 35 = .ok (.iaload, 1)) ∧ (decode cX11_parts 36 = .ok (.ishl, 1)) ∧ (decode cX11_parts 37 = .ok (.if_icmp .ge 10, 3)) ∧ (decode cX11_parts 40 = .ok (.iload_n 3, 1)) := by decide +kernel
theorem dX11_parts_23 : decode cX11_parts 23 = .ok (.ireturn, 1) := dG_dX11_parts_23.1
theorem dX11_parts_24 : decode cX11_parts 24 = .ok (.iload_n 2, 1) := dG_dX11_parts_23.2.1
theorem dX11_parts_25 : decode cX11_parts 25 = .ok (.ifCond .lt 22, 3) := dG_dX11_parts_23.2.2.1
theorem dX11_parts_28 : decode cX11_parts 28 = .ok (.iload_n 2, 1) := dG_dX11_parts_23.2.2.2.1
theorem dX11_parts_29 : decode cX11_parts 29 = .ok (.iconst 1, 1) := dG_dX11_parts_23.2.2.2.2.1
theorem dX11_parts_30 : decode cX11_parts 30 = .ok (.aload_n 0, 1) := dG_dX11_parts_23.2.2.2.2.2.1
theorem dX11_parts_31 : decode cX11_parts 31 = .ok (.getfield 20, 3) := dG_dX11_parts_23.2.2.2.2.2.2.1
theorem dX11_parts_34 : decode cX11_parts 34 = .ok (.iload_n 1, 1) := dG_dX11_parts_23.2.2.2.2.2.2.2.1
theorem dX11_parts_35 : decode cX11_parts 35 = .ok (.iaload, 1) := dG_dX11_parts_23.2.2.2.2.2.2.2.2.1
theorem dX11_parts_36 : decode cX11_parts 36 = .ok (.ishl, 1) := dG_dX11_parts_23.2.2.2.2.2.2.2.2.2.1
theorem dX11_parts_37 : decode cX11_parts 37 = .ok (.if_icmp .ge 10, 3) := dG_dX11_parts_23.2.2.2.2.2.2.2.2.2.2.1
theorem dX11_parts_40 : decode cX11_parts 40 = .ok (.iload_n 3, 1) := dG_dX11_parts_23.2.2.2.2.2.2.2.2.2.2.2
theorem dG_dX11_parts_41 : (decode cX11_parts 41 = .ok (.invokestatic 364, 3)) ∧ (decode cX11_parts 44 = .ok (.ifCond .ne 9, 3)) ∧ (decode cX11_parts 47 = .ok (.aload_n 0, 1)) ∧ (decode cX11_parts 48 = .ok (.iconst 2, 1)) ∧ (decode cX11_parts 49 = .ok (.invokevirtual 295, 3)) ∧ (decode cX11_parts 52 = .ok (.ireturn, 1)) ∧ (decode cX11_parts 53 = .ok (.aload_n 0, 1)) ∧ (decode cX11_parts 54 = .ok (.iload_n 1, 1)) ∧ (decode cX11_parts 55 = .ok (.iload_n 2, 1)) ∧ (decode cX11_parts 56 = .ok (.iload_n 3, 1)) ∧ (decode cX11_parts 57 = .ok (.invokevirtual 405, 3)) ∧ (decode cX11_parts 60 = .ok (.ireturn, 1)) := by decide +kernel
theorem dX11_parts_41 : decode cX11_parts 41 = .ok (.invokestatic 364, 3) := dG_dX11_parts_41.1
theorem dX11_parts_44 : decode cX11_parts 44 = .ok (.ifCond .ne 9, 3) := dG_dX11_parts_41.2.1
theorem dX11_parts_47 : decode cX11_parts 47 = .ok (.aload_n 0, 1) := dG_dX11_parts_41.2.2.1
theorem dX11_parts_48 : decode cX11_parts 48 = .ok (.iconst 2, 1) := dG_dX11_parts_41.2.2.2.1
theorem dX11_parts_49 : decode cX11_parts 49 = .ok (.invokevirtual 295, 3) := dG_dX11_parts_41.2.2.2.2.1
theorem dX11_parts_52 : decode cX11_parts 52 = .ok (.ireturn, 1) := dG_dX11_parts_41.2.2.2.2.2.1
theorem dX11_parts_53 : decode cX11_parts 53 = .ok (.aload_n 0, 1) := dG_dX11_parts_41.2.2.2.2.2.2.1
theorem dX11_parts_54 : decode cX11_parts 54 = .ok (.iload_n 1, 1) := dG_dX11_parts_41.2.2.2.2.2.2.2.1
theorem dX11_parts_55 : decode cX11_parts 55 = .ok (.iload_n 2, 1) := dG_dX11_parts_41.2.2.2.2.2.2.2.2.1
theorem dX11_parts_56 : decode cX11_parts 56 = .ok (.iload_n 3, 1) := dG_dX11_parts_41.2.2.2.2.2.2.2.2.2.1
theorem dX11_parts_57 : decode cX11_parts 57 = .ok (.invokevirtual 405, 3) := dG_dX11_parts_41.2.2.2.2.2.2.2.2.2.2.1
theorem dX11_parts_60 : decode cX11_parts 60 = .ok (.ireturn, 1) := dG_dX11_parts_41.2.2.2.2.2.2.2.2.2.2.2
theorem dG_dX11_choose_0 : (decode cX11_choose 0 = .ok (.aload_n 0, 1)) ∧ (decode cX11_choose 1 = .ok (.iconst 0, 1)) ∧ (decode cX11_choose 2 = .ok (.putfield 146, 3)) ∧ (decode cX11_choose 5 = .ok (.aload_n 0, 1)) ∧ (decode cX11_choose 6 = .ok (.iconst 0, 1)) ∧ (decode cX11_choose 7 = .ok (.putfield 149, 3)) ∧ (decode cX11_choose 10 = .ok (.aload_n 0, 1)) ∧ (decode cX11_choose 11 = .ok (.iload_n 1, 1)) ∧ (decode cX11_choose 12 = .ok (.invokevirtual 325, 3)) ∧ (decode cX11_choose 15 = .ok (.ifCond .ne 9, 3)) ∧ (decode cX11_choose 18 = .ok (.aload_n 0, 1)) ∧ (decode cX11_choose 19 = .ok (.iconst 1, 1)) := by decide +kernel
theorem dX11_choose_0 : decode cX11_choose 0 = .ok (.aload_n 0, 1) := dG_dX11_choose_0.1
theorem dX11_choose_1 : decode cX11_choose 1 = .ok (.iconst 0, 1) := dG_dX11_choose_0.2.1
theorem dX11_choose_2 : decode cX11_choose 2 = .ok (.putfield 146, 3) := dG_dX11_choose_0.2.2.1
theorem dX11_choose_5 : decode cX11_choose 5 = .ok (.aload_n 0, 1) := dG_dX11_choose_0.2.2.2.1
theorem dX11_choose_6 : decode cX11_choose 6 = .ok (.iconst 0, 1) := dG_dX11_choose_0.2.2.2.2.1
theorem dX11_choose_7 : decode cX11_choose 7 = .ok (.putfield 149, 3) := dG_dX11_choose_0.2.2.2.2.2.1
theorem dX11_choose_10 : decode cX11_choose 10 = .ok (.aload_n 0, 1) := dG_dX11_choose_0.2.2.2.2.2.2.1
theorem dX11_choose_11 : decode cX11_choose 11 = .ok (.iload_n 1, 1) := dG_dX11_choose_0.2.2.2.2.2.2.2.1
theorem dX11_choose_12 : decode cX11_choose 12 = .ok (.invokevirtual 325, 3) := dG_dX11_choose_0.2.2.2.2.2.2.2.2.1
theorem dX11_choose_15 : decode cX11_choose 15 = .ok (.ifCond .ne 9, 3) := dG_dX11_choose_0.2.2.2.2.2.2.2.2.2.1
theorem dX11_choose_18 : decode cX11_choose 18 = .ok (.aload_n 0, 1) := dG_dX11_choose_0.2.2.2.2.2.2.2.2.2.2.1
theorem dX11_choose_19 : decode cX11_choose 19 = .ok (.iconst 1, 1) := dG_dX11_choose_0.2.2.2.2.2.2.2.2.2.2.2
theorem dG_dX11_choose_20 : (decode cX11_choose 20 = .ok (.invokevirtual 295, 3)) ∧ (decode cX11_choose 23 = .ok (.ireturn, 1)) ∧ (decode cX11_choose 24 = .ok (.iload_n 2, 1)) ∧ (decode cX11_choose 25 = .ok (.iconst 1, 1)) ∧ (decode cX11_choose 26 = .ok (.if_icmp .lt 20, 3)) ∧ (decode cX11_choose 29 = .ok (.iload_n 2, 1)) ∧ (decode cX11_choose 30 = .ok (.aload_n 0, 1)) ∧ (decode cX11_choose 31 = .ok (.getfield 20, 3)) ∧ (decode cX11_choose 34 = .ok (.iload_n 1, 1)) ∧ (decode cX11_choose 35 = .ok (.iaload, 1)) ∧ (decode cX11_choose 36 = .ok (.if_icmp .gt 10, 3)) ∧ (decode cX11_choose 39 = .ok (.iload_n 3, 1)) := by decide +kernel
theorem dX11_choose_20 : decode cX11_choose 20 = .ok (.invokevirtual 295, 3) := dG_dX11_choose_20.1
theorem dX11_choose_23 : decode cX11_choose 23 = .ok (.ireturn, 1) := dG_dX11_choose_20.2.1
theorem dX11_choose_24 : decode cX11_choose 24 = .ok (.iload_n 2, 1) := dG_dX11_choose_20.2.2.1
theorem dX11_choose_25 : decode cX11_choose 25 = .ok (.iconst 1, 1) := dG_dX11_choose_20.2.2.2.1
theorem dX11_choose_26 : decode cX11_choose 26 = .ok (.if_icmp .lt 20, 3) := dG_dX11_choose_20.2.2.2.2.1
theorem dX11_choose_29 : decode cX11_choose 29 = .ok (.iload_n 2, 1) := dG_dX11_choose_20.2.2.2.2.2.1
theorem dX11_choose_30 : decode cX11_choose 30 = .ok (.aload_n 0, 1) := dG_dX11_choose_20.2.2.2.2.2.2.1
theorem dX11_choose_31 : decode cX11_choose 31 = .ok (.getfield 20, 3) := dG_dX11_choose_20.2.2.2.2.2.2.2.1
theorem dX11_choose_34 : decode cX11_choose 34 = .ok (.iload_n 1, 1) := dG_dX11_choose_20.2.2.2.2.2.2.2.2.1
theorem dX11_choose_35 : decode cX11_choose 35 = .ok (.iaload, 1) := dG_dX11_choose_20.2.2.2.2.2.2.2.2.2.1
theorem dX11_choose_36 : decode cX11_choose 36 = .ok (.if_icmp .gt 10, 3) := dG_dX11_choose_20.2.2.2.2.2.2.2.2.2.2.1
theorem dX11_choose_39 : decode cX11_choose 39 = .ok (.iload_n 3, 1) := dG_dX11_choose_20.2.2.2.2.2.2.2.2.2.2.2
theorem dG_dX11_choose_40 : (decode cX11_choose 40 = .ok (.invokestatic 364, 3)) ∧ (decode cX11_choose 43 = .ok (.ifCond .ne 9, 3)) ∧ (decode cX11_choose 46 = .ok (.aload_n 0, 1)) ∧ (decode cX11_choose 47 = .ok (.iconst 2, 1)) ∧ (decode cX11_choose 48 = .ok (.invokevirtual 295, 3)) ∧ (decode cX11_choose 51 = .ok (.ireturn, 1)) ∧ (decode cX11_choose 52 = .ok (.iconst (-1), 1)) ∧ (decode cX11_choose 53 = .ok (.istore 4, 2)) ∧ (decode cX11_choose 55 = .ok (.iconst (-1), 1)) ∧ (decode cX11_choose 56 = .ok (.istore 5, 2)) ∧ (decode cX11_choose 58 = .ok (.iconst 0, 1)) ∧ (decode cX11_choose 59 = .ok (.istore 6, 2)) := by decide +kernel
theorem dX11_choose_40 : decode cX11_choose 40 = .ok (.invokestatic 364, 3) := dG_dX11_choose_40.1
theorem dX11_choose_43 : decode cX11_choose 43 = .ok (.ifCond .ne 9, 3) := dG_dX11_choose_40.2.1
theorem dX11_choose_46 : decode cX11_choose 46 = .ok (.aload_n 0, 1) := dG_dX11_choose_40.2.2.1
theorem dX11_choose_47 : decode cX11_choose 47 = .ok (.iconst 2, 1) := dG_dX11_choose_40.2.2.2.1
theorem dX11_choose_48 : decode cX11_choose 48 = .ok (.invokevirtual 295, 3) := dG_dX11_choose_40.2.2.2.2.1
theorem dX11_choose_51 : decode cX11_choose 51 = .ok (.ireturn, 1) := dG_dX11_choose_40.2.2.2.2.2.1
theorem dX11_choose_52 : decode cX11_choose 52 = .ok (.iconst (-1), 1) := dG_dX11_choose_40.2.2.2.2.2.2.1
theorem dX11_choose_53 : decode cX11_choose 53 = .ok (.istore 4, 2) := dG_dX11_choose_40.2.2.2.2.2.2.2.1
theorem dX11_choose_55 : decode cX11_choose 55 = .ok (.iconst (-1), 1) := dG_dX11_choose_40.2.2.2.2.2.2.2.2.1
theorem dX11_choose_56 : decode cX11_choose 56 = .ok (.istore 5, 2) := dG_dX11_choose_40.2.2.2.2.2.2.2.2.2.1
theorem dX11_choose_58 : decode cX11_choose 58 = .ok (.iconst 0, 1) := dG_dX11_choose_40.2.2.2.2.2.2.2.2.2.2.1
theorem dX11_choose_59 : decode cX11_choose 59 = .ok (.istore 6, 2) := dG_dX11_choose_40.2.2.2.2.2.2.2.2.2.2.2
theorem dG_dX11_choose_61 : (decode cX11_choose 61 = .ok (.iload 6, 2)) ∧ (decode cX11_choose 63 = .ok (.iconst 1, 1)) ∧ (decode cX11_choose 64 = .ok (.aload_n 0, 1)) ∧ (decode cX11_choose 65 = .ok (.getfield 20, 3)) ∧ (decode cX11_choose 68 = .ok (.iload_n 1, 1)) ∧ (decode cX11_choose 69 = .ok (.iaload, 1)) ∧ (decode cX11_choose 70 = .ok (.ishl, 1)) ∧ (decode cX11_choose 71 = .ok (.if_icmp .ge 49, 3)) ∧ (decode cX11_choose 74 = .ok (.iload 6, 2)) ∧ (decode cX11_choose 76 = .ok (.invokestatic 408, 3)) ∧ (decode cX11_choose 79 = .ok (.iload_n 2, 1)) ∧ (decode cX11_choose 80 = .ok (.if_icmp .eq 6, 3)) := by decide +kernel
theorem dX11_choose_61 : decode cX11_choose 61 = .ok (.iload 6, 2) := dG_dX11_choose_61.1
theorem dX11_choose_63 : decode cX11_choose 63 = .ok (.iconst 1, 1) := dG_dX11_choose_61.2.1
theorem dX11_choose_64 : decode cX11_choose 64 = .ok (.aload_n 0, 1) := dG_dX11_choose_61.2.2.1
theorem dX11_choose_65 : decode cX11_choose 65 = .ok (.getfield 20, 3) := dG_dX11_choose_61.2.2.2.1
theorem dX11_choose_68 : decode cX11_choose 68 = .ok (.iload_n 1, 1) := dG_dX11_choose_61.2.2.2.2.1
theorem dX11_choose_69 : decode cX11_choose 69 = .ok (.iaload, 1) := dG_dX11_choose_61.2.2.2.2.2.1
theorem dX11_choose_70 : decode cX11_choose 70 = .ok (.ishl, 1) := dG_dX11_choose_61.2.2.2.2.2.2.1
theorem dX11_choose_71 : decode cX11_choose 71 = .ok (.if_icmp .ge 49, 3) := dG_dX11_choose_61.2.2.2.2.2.2.2.1
theorem dX11_choose_74 : decode cX11_choose 74 = .ok (.iload 6, 2) := dG_dX11_choose_61.2.2.2.2.2.2.2.2.1
theorem dX11_choose_76 : decode cX11_choose 76 = .ok (.invokestatic 408, 3) := dG_dX11_choose_61.2.2.2.2.2.2.2.2.2.1
theorem dX11_choose_79 : decode cX11_choose 79 = .ok (.iload_n 2, 1) := dG_dX11_choose_61.2.2.2.2.2.2.2.2.2.2.1
theorem dX11_choose_80 : decode cX11_choose 80 = .ok (.if_icmp .eq 6, 3) := dG_dX11_choose_61.2.2.2.2.2.2.2.2.2.2.2
theorem dG_dX11_choose_83 : (decode cX11_choose 83 = .ok (.goto 31, 3)) ∧ (decode cX11_choose 86 = .ok (.aload_n 0, 1)) ∧ (decode cX11_choose 87 = .ok (.iload_n 1, 1)) ∧ (decode cX11_choose 88 = .ok (.iload 6, 2)) ∧ (decode cX11_choose 90 = .ok (.iload_n 3, 1)) ∧ (decode cX11_choose 91 = .ok (.invokevirtual 405, 3)) ∧ (decode cX11_choose 94 = .ok (.istore 7, 2)) ∧ (decode cX11_choose 96 = .ok (.iload 7, 2)) ∧ (decode cX11_choose 98 = .ok (.iload 5, 2)) ∧ (decode cX11_choose 100 = .ok (.if_icmp .gt 6, 3)) ∧ (decode cX11_choose 103 = .ok (.goto 11, 3)) ∧ (decode cX11_choose 106 = .ok (.iload 7, 2)) := by decide +kernel
theorem dX11_choose_83 : decode cX11_choose 83 = .ok (.goto 31, 3) := dG_dX11_choose_83.1
theorem dX11_choose_86 : decode cX11_choose 86 = .ok (.aload_n 0, 1) := dG_dX11_choose_83.2.1
theorem dX11_choose_87 : decode cX11_choose 87 = .ok (.iload_n 1, 1) := dG_dX11_choose_83.2.2.1
theorem dX11_choose_88 : decode cX11_choose 88 = .ok (.iload 6, 2) := dG_dX11_choose_83.2.2.2.1
theorem dX11_choose_90 : decode cX11_choose 90 = .ok (.iload_n 3, 1) := dG_dX11_choose_83.2.2.2.2.1
theorem dX11_choose_91 : decode cX11_choose 91 = .ok (.invokevirtual 405, 3) := dG_dX11_choose_83.2.2.2.2.2.1
theorem dX11_choose_94 : decode cX11_choose 94 = .ok (.istore 7, 2) := dG_dX11_choose_83.2.2.2.2.2.2.1
theorem dX11_choose_96 : decode cX11_choose 96 = .ok (.iload 7, 2) := dG_dX11_choose_83.2.2.2.2.2.2.2.1
theorem dX11_choose_98 : decode cX11_choose 98 = .ok (.iload 5, 2) := dG_dX11_choose_83.2.2.2.2.2.2.2.2.1
theorem dX11_choose_100 : decode cX11_choose 100 = .ok (.if_icmp .gt 6, 3) := dG_dX11_choose_83.2.2.2.2.2.2.2.2.2.1
theorem dX11_choose_103 : decode cX11_choose 103 = .ok (.goto 11, 3) := dG_dX11_choose_83.2.2.2.2.2.2.2.2.2.2.1
theorem dX11_choose_106 : decode cX11_choose 106 = .ok (.iload 7, 2) := dG_dX11_choose_83.2.2.2.2.2.2.2.2.2.2.2
theorem dG_dX11_choose_108 : (decode cX11_choose 108 = .ok (.istore 5, 2)) ∧ (decode cX11_choose 110 = .ok (.iload 6, 2)) ∧ (decode cX11_choose 112 = .ok (.istore 4, 2)) ∧ (decode cX11_choose 114 = .ok (.iinc 6 1, 3)) ∧ (decode cX11_choose 117 = .ok (.goto (-56), 3)) ∧ (decode cX11_choose 120 = .ok (.iload 4, 2)) ∧ (decode cX11_choose 122 = .ok (.ireturn, 1)) := by decide +kernel
theorem dX11_choose_108 : decode cX11_choose 108 = .ok (.istore 5, 2) := dG_dX11_choose_108.1
theorem dX11_choose_110 : decode cX11_choose 110 = .ok (.iload 6, 2) := dG_dX11_choose_108.2.1
theorem dX11_choose_112 : decode cX11_choose 112 = .ok (.istore 4, 2) := dG_dX11_choose_108.2.2.1
theorem dX11_choose_114 : decode cX11_choose 114 = .ok (.iinc 6 1, 3) := dG_dX11_choose_108.2.2.2.1
theorem dX11_choose_117 : decode cX11_choose 117 = .ok (.goto (-56), 3) := dG_dX11_choose_108.2.2.2.2.1
theorem dX11_choose_120 : decode cX11_choose 120 = .ok (.iload 4, 2) := dG_dX11_choose_108.2.2.2.2.2.1
theorem dX11_choose_122 : decode cX11_choose 122 = .ok (.ireturn, 1) := dG_dX11_choose_108.2.2.2.2.2.2
end

section
set_option maxHeartbeats 4000000 in
set_option maxRecDepth 100000 in
theorem y_bitCount (l : Launch) (D : va_G) (k : Nat → ClassId) (A : Nat → Prop) (ad : Nat → Nat) (hD : mdD A k ad) (v : gV) (f g : gF) (a1 : Int) (h_a1 : inR a1) : GM l D k A (mdT k ad) yJ6_bitCount_0f7a4 cJ6_bitCount_0f7a4 1 (some .int) 0 0 [.int (iI a1)] v f g (fun r v1 f1 g1 => ∃ (z : Int), r = some (.int (iI z)) ∧ v = v1 ∧ f = f1 ∧ g = g1 ∧ (z = (bcI a1)) ∧ ((-2147483648) ≤ z ∧ z ≤ 2147483647)) := by
  refine GM.of (by decide) (Nat.le_of_ble_eq_true rfl) ?_
  intro p e s m args below meth c Q ls hQ C hml hr hlocks hP hl
  have hx := C.1
  have hb := C.2.1
  have hok := hP.2
  have hS : va_S A s.heap s.heap [] := va_S.rf
  have hl : lv_has ls 1 [(0, .int (iI a1))] := hl
  refine lv_iload_n hx hb dJ6_bitCount_0f7a4_0 rfl (lv_at hl 0 rfl) ?_
  refine lv_iload_n hx hb dJ6_bitCount_0f7a4_1 rfl (lv_at hl 0 rfl) ?_
  refine lv_iconst (v := iI 1) hx hb dJ6_bitCount_0f7a4_2 rfl ?_
  obtain ⟨x_1, ex_1, hx_1⟩ : ∃ z : Int, ((iI a1).toUInt32 >>> ((iI 1).toUInt32 &&& Int32.toUInt32 31)).toInt32 = iI z ∧ inR z := ⟨(((iI a1).toUInt32 >>> ((iI 1).toUInt32 &&& Int32.toUInt32 31)).toInt32).toInt, (iI_of _).symm, iI_rng _⟩
  refine gi_ushr (z := x_1) hx hb dJ6_bitCount_0f7a4_3 ex_1 ?_
  refine lv_ldcw (v := iI 1431655765) hx hb C.2.2.2.1 (C.2.2.1 _ (show Cond.constant RJ6 265 (iI 1431655765) ∈ gWs from mD_J6_265)) dJ6_bitCount_0f7a4_4 ?_
  obtain ⟨x_2, ex_2, hx_2⟩ : ∃ z : Int, iI x_1 &&& iI 1431655765 = iI z ∧ inR z := ⟨(iI x_1 &&& iI 1431655765).toInt, (iI_of _).symm, iI_rng _⟩
  refine gi_and (z := x_2) hx hb dJ6_bitCount_0f7a4_7 ex_2 ?_
  refine gi_sub (z := (a1 - x_2)) hx hb dJ6_bitCount_0f7a4_8 rfl ?_
  obtain ⟨x_3, ex_3, hx_3⟩ : ∃ z : Int, iI (a1 - x_2) = iI z ∧ inR z := ⟨(iI (a1 - x_2)).toInt, (iI_of _).symm, iI_rng _⟩
  refine gi_norm ex_3 ?_
  refine lv_istore_n (lv' := [(0, .int (iI x_3))]) hx hb dJ6_bitCount_0f7a4_9 rfl hl (by decide) rfl (fun ls hl => ?_)
  refine lv_iload_n hx hb dJ6_bitCount_0f7a4_10 rfl (lv_at hl 0 rfl) ?_
  refine lv_ldcw (v := iI 858993459) hx hb C.2.2.2.1 (C.2.2.1 _ (show Cond.constant RJ6 266 (iI 858993459) ∈ gWs from mD_J6_266)) dJ6_bitCount_0f7a4_11 ?_
  obtain ⟨x_4, ex_4, hx_4⟩ : ∃ z : Int, iI x_3 &&& iI 858993459 = iI z ∧ inR z := ⟨(iI x_3 &&& iI 858993459).toInt, (iI_of _).symm, iI_rng _⟩
  refine gi_and (z := x_4) hx hb dJ6_bitCount_0f7a4_14 ex_4 ?_
  refine lv_iload_n hx hb dJ6_bitCount_0f7a4_15 rfl (lv_at hl 0 rfl) ?_
  refine lv_iconst (v := iI 2) hx hb dJ6_bitCount_0f7a4_16 rfl ?_
  obtain ⟨x_5, ex_5, hx_5⟩ : ∃ z : Int, ((iI x_3).toUInt32 >>> ((iI 2).toUInt32 &&& Int32.toUInt32 31)).toInt32 = iI z ∧ inR z := ⟨(((iI x_3).toUInt32 >>> ((iI 2).toUInt32 &&& Int32.toUInt32 31)).toInt32).toInt, (iI_of _).symm, iI_rng _⟩
  refine gi_ushr (z := x_5) hx hb dJ6_bitCount_0f7a4_17 ex_5 ?_
  refine lv_ldcw (v := iI 858993459) hx hb C.2.2.2.1 (C.2.2.1 _ (show Cond.constant RJ6 266 (iI 858993459) ∈ gWs from mD_J6_266)) dJ6_bitCount_0f7a4_18 ?_
  obtain ⟨x_6, ex_6, hx_6⟩ : ∃ z : Int, iI x_5 &&& iI 858993459 = iI z ∧ inR z := ⟨(iI x_5 &&& iI 858993459).toInt, (iI_of _).symm, iI_rng _⟩
  refine gi_and (z := x_6) hx hb dJ6_bitCount_0f7a4_21 ex_6 ?_
  refine gi_add (z := (x_4 + x_6)) hx hb dJ6_bitCount_0f7a4_22 rfl ?_
  obtain ⟨x_7, ex_7, hx_7⟩ : ∃ z : Int, iI (x_4 + x_6) = iI z ∧ inR z := ⟨(iI (x_4 + x_6)).toInt, (iI_of _).symm, iI_rng _⟩
  refine gi_norm ex_7 ?_
  refine lv_istore_n (lv' := [(0, .int (iI x_7))]) hx hb dJ6_bitCount_0f7a4_23 rfl hl (by decide) rfl (fun ls hl => ?_)
  refine lv_iload_n hx hb dJ6_bitCount_0f7a4_24 rfl (lv_at hl 0 rfl) ?_
  refine lv_iload_n hx hb dJ6_bitCount_0f7a4_25 rfl (lv_at hl 0 rfl) ?_
  refine lv_iconst (v := iI 4) hx hb dJ6_bitCount_0f7a4_26 rfl ?_
  obtain ⟨x_8, ex_8, hx_8⟩ : ∃ z : Int, ((iI x_7).toUInt32 >>> ((iI 4).toUInt32 &&& Int32.toUInt32 31)).toInt32 = iI z ∧ inR z := ⟨(((iI x_7).toUInt32 >>> ((iI 4).toUInt32 &&& Int32.toUInt32 31)).toInt32).toInt, (iI_of _).symm, iI_rng _⟩
  refine gi_ushr (z := x_8) hx hb dJ6_bitCount_0f7a4_27 ex_8 ?_
  refine gi_add (z := (x_7 + x_8)) hx hb dJ6_bitCount_0f7a4_28 rfl ?_
  obtain ⟨x_9, ex_9, hx_9⟩ : ∃ z : Int, iI (x_7 + x_8) = iI z ∧ inR z := ⟨(iI (x_7 + x_8)).toInt, (iI_of _).symm, iI_rng _⟩
  refine gi_norm ex_9 ?_
  refine lv_ldcw (v := iI 252645135) hx hb C.2.2.2.1 (C.2.2.1 _ (show Cond.constant RJ6 267 (iI 252645135) ∈ gWs from mD_J6_267)) dJ6_bitCount_0f7a4_29 ?_
  obtain ⟨x_10, ex_10, hx_10⟩ : ∃ z : Int, iI x_9 &&& iI 252645135 = iI z ∧ inR z := ⟨(iI x_9 &&& iI 252645135).toInt, (iI_of _).symm, iI_rng _⟩
  refine gi_and (z := x_10) hx hb dJ6_bitCount_0f7a4_32 ex_10 ?_
  refine lv_istore_n (lv' := [(0, .int (iI x_10))]) hx hb dJ6_bitCount_0f7a4_33 rfl hl (by decide) rfl (fun ls hl => ?_)
  refine lv_iload_n hx hb dJ6_bitCount_0f7a4_34 rfl (lv_at hl 0 rfl) ?_
  refine lv_iload_n hx hb dJ6_bitCount_0f7a4_35 rfl (lv_at hl 0 rfl) ?_
  refine lv_bipush (v := iI 8) hx hb dJ6_bitCount_0f7a4_36 (by decide) ?_
  obtain ⟨x_11, ex_11, hx_11⟩ : ∃ z : Int, ((iI x_10).toUInt32 >>> ((iI 8).toUInt32 &&& Int32.toUInt32 31)).toInt32 = iI z ∧ inR z := ⟨(((iI x_10).toUInt32 >>> ((iI 8).toUInt32 &&& Int32.toUInt32 31)).toInt32).toInt, (iI_of _).symm, iI_rng _⟩
  refine gi_ushr (z := x_11) hx hb dJ6_bitCount_0f7a4_38 ex_11 ?_
  refine gi_add (z := (x_10 + x_11)) hx hb dJ6_bitCount_0f7a4_39 rfl ?_
  obtain ⟨x_12, ex_12, hx_12⟩ : ∃ z : Int, iI (x_10 + x_11) = iI z ∧ inR z := ⟨(iI (x_10 + x_11)).toInt, (iI_of _).symm, iI_rng _⟩
  refine gi_norm ex_12 ?_
  refine lv_istore_n (lv' := [(0, .int (iI x_12))]) hx hb dJ6_bitCount_0f7a4_40 rfl hl (by decide) rfl (fun ls hl => ?_)
  refine lv_iload_n hx hb dJ6_bitCount_0f7a4_41 rfl (lv_at hl 0 rfl) ?_
  refine lv_iload_n hx hb dJ6_bitCount_0f7a4_42 rfl (lv_at hl 0 rfl) ?_
  refine lv_bipush (v := iI 16) hx hb dJ6_bitCount_0f7a4_43 (by decide) ?_
  obtain ⟨x_13, ex_13, hx_13⟩ : ∃ z : Int, ((iI x_12).toUInt32 >>> ((iI 16).toUInt32 &&& Int32.toUInt32 31)).toInt32 = iI z ∧ inR z := ⟨(((iI x_12).toUInt32 >>> ((iI 16).toUInt32 &&& Int32.toUInt32 31)).toInt32).toInt, (iI_of _).symm, iI_rng _⟩
  refine gi_ushr (z := x_13) hx hb dJ6_bitCount_0f7a4_45 ex_13 ?_
  refine gi_add (z := (x_12 + x_13)) hx hb dJ6_bitCount_0f7a4_46 rfl ?_
  obtain ⟨x_14, ex_14, hx_14⟩ : ∃ z : Int, iI (x_12 + x_13) = iI z ∧ inR z := ⟨(iI (x_12 + x_13)).toInt, (iI_of _).symm, iI_rng _⟩
  refine gi_norm ex_14 ?_
  refine lv_istore_n (lv' := [(0, .int (iI x_14))]) hx hb dJ6_bitCount_0f7a4_47 rfl hl (by decide) rfl (fun ls hl => ?_)
  refine lv_iload_n hx hb dJ6_bitCount_0f7a4_48 rfl (lv_at hl 0 rfl) ?_
  refine lv_bipush (v := iI 63) hx hb dJ6_bitCount_0f7a4_49 (by decide) ?_
  obtain ⟨x_15, ex_15, hx_15⟩ : ∃ z : Int, iI x_14 &&& iI 63 = iI z ∧ inR z := ⟨(iI x_14 &&& iI 63).toInt, (iI_of _).symm, iI_rng _⟩
  refine gi_and (z := x_15) hx hb dJ6_bitCount_0f7a4_51 ex_15 ?_
  exact g_iret hQ C hr hlocks hP hS dJ6_bitCount_0f7a4_52 ⟨x_15, rfl, rfl, rfl, rfl, (by unfold bcI; rw [show bc1 (iI a1) = iI x_3 from by unfold bc1 bcU; rw [ex_1, ex_2, iI_sub, ex_3], show bc2 (iI x_3) = iI x_7 from by unfold bc2 bcU; rw [ex_4, ex_5, ex_6, iI_add, ex_7], show bc3 (iI x_7) = iI x_10 from by unfold bc3 bcU; rw [ex_8, iI_add, ex_9, ex_10], show bc4 (iI x_10) = iI x_12 from by unfold bc4 bcU; rw [ex_11, iI_add, ex_12], show bc5 (iI x_12) = iI x_14 from by unfold bc5 bcU; rw [ex_13, iI_add, ex_14], ex_15, iI_toInt (by omega)]), (by first | omega | ((repeat' split) <;> omega))⟩

set_option maxHeartbeats 4000000 in
set_option maxRecDepth 100000 in
theorem y_partsOf (l : Launch) (D : va_G) (k : Nat → ClassId) (A : Nat → Prop) (ad : Nat → Nat) (hD : mdD A k ad) (v : gV) (f g : gF) (a1 : Int) (a2 : Int) (a3 : Int) (h_a1 : inR a1) (h_a2 : inR a2) (h_a3 : inR a3) (hrp : rpOk (v 13) (f 9)) (h1 : 0 ≤ a1 ∧ a1 ≤ 3) (h2 : 0 ≤ a2 ∧ a2 < pw2 ((f 1) a1)) : GM l D k A (mdT k ad) yX11_partsOf cX11_partsOf 7 (some .int) 3 87 [.ref (ad 0), .int (iI a1), .int (iI a2), .int (iI a3)] v f g (fun r v1 f1 g1 => ∃ (z : Int) (a37_ : Int → Int) (b1_ : Int → Int) (b2_ : Int → Int), r = some (.int (iI z)) ∧ v = v1 ∧ (va_up f 37 a37_) = f1 ∧ (va_up (va_up g 1 b1_) 2 b2_) = g1 ∧ (z = (prC (liF (f 21) a1) a1 (tgU (fun c t => evR (fun k => mcG ((f 9) k)) (f 10) (gFd (f 24) (f 25) (f 26) (f 27) (f 28) (f 29) (f 30) (f 31) (f 32) (f 33) (f 18) (f 19) (v 25) (v 26) a3 a1 t c) (v 13)) a2) (v 22).toNat)) ∧ (0 ≤ z ∧ z ≤ 256)) := by
  refine GM.of (by decide) (Nat.le_of_ble_eq_true rfl) ?_
  intro p e s m args below meth c Q ls hQ C hml hr hlocks hP hl
  have hx := C.1
  have hb := C.2.1
  have hok := hP.2
  have hS : va_S A s.heap s.heap [] := va_S.rf
  have hl : lv_has ls 7 [(0, .ref (ad 0)), (1, .int (iI a1)), (2, .int (iI a2)), (3, .int (iI a3))] := hl
  have hP : gWd D (mdT k ad) v (va_up f 37 (f 37)) (va_up (va_up g 1 (g 1)) 2 (g 2)) s.heap := by rw [va_id, va_id, va_id]; exact hP
  have hro : 0 ≤ (f 1) a1 ∧ (f 1) a1 ≤ 5 := hok.2 1 a1
  have hnu : ∀ k, 0 ≤ (f 10) k ∧ (f 10) k ≤ 999999 := fun k => hok.2 10 k
  have hit : ∀ k, 0 ≤ mcG ((f 9) k) ∧ mcG ((f 9) k) ≤ 11 := fun k => mcG_r (hok.2 9 k)
  have hFr : ∀ r t c i, (-2000000) ≤ gFd (f 24) (f 25) (f 26) (f 27) (f 28) (f 29) (f 30) (f 31) (f 32) (f 33) (f 18) (f 19) (v 25) (v 26) a3 r t c i ∧ gFd (f 24) (f 25) (f 26) (f 27) (f 28) (f 29) (f 30) (f 31) (f 32) (f 33) (f 18) (f 19) (v 25) (v 26) a3 r t c i ≤ 2000000 := fun r t c i => Fd_r (hok.2 29) (hok.2 32) (hok.2 28) (hok.2 27) (hok.1 25) i
  have hPr : ∀ r t c, (-1000000000) ≤ evR (fun k => mcG ((f 9) k)) (f 10) (gFd (f 24) (f 25) (f 26) (f 27) (f 28) (f 29) (f 30) (f 31) (f 32) (f 33) (f 18) (f 19) (v 25) (v 26) a3 r t c) (v 13) ∧ evR (fun k => mcG ((f 9) k)) (f 10) (gFd (f 24) (f 25) (f 26) (f 27) (f 28) (f 29) (f 30) (f 31) (f 32) (f 33) (f 18) (f 19) (v 25) (v 26) a3 r t c) (v 13) ≤ 1000000000 := fun r t c => pt_r hnu (fun k => (hit k).1) (hFr r t c)
  have hUr : ∀ c, (-10737418240) ≤ (tgU (fun c t => evR (fun k => mcG ((f 9) k)) (f 10) (gFd (f 24) (f 25) (f 26) (f 27) (f 28) (f 29) (f 30) (f 31) (f 32) (f 33) (f 18) (f 19) (v 25) (v 26) a3 a1 t c) (v 13)) a2) c ∧ (tgU (fun c t => evR (fun k => mcG ((f 9) k)) (f 10) (gFd (f 24) (f 25) (f 26) (f 27) (f 28) (f 29) (f 30) (f 31) (f 32) (f 33) (f 18) (f 19) (v 25) (v 26) a3 a1 t c) (v 13)) a2) c ≤ 10737418240 := fun c => by have h9 := tgS_r (p := (fun t => evR (fun k => mcG ((f 9) k)) (f 10) (gFd (f 24) (f 25) (f 26) (f 27) (f 28) (f 29) (f 30) (f 31) (f 32) (f 33) (f 18) (f 19) (v 25) (v 26) a3 a1 t c) (v 13))) (s := a2) (fun t => by have := hPr a1 t c; constructor <;> (show _ ≤ _; omega)) (5 : Int).toNat; have h8 : ((5 : Int).toNat : Int) = 5 := rfl; rw [h8] at h9; exact h9
  have r_1 : 0 ≤ (v 22) ∧ (v 22) ≤ 16 := hok.1 22
  have r_2 : 0 ≤ (v 25) ∧ (v 25) ≤ 300 := hok.1 25
  refine lv_iconst (v := iI 0) hx hb dX11_partsOf_0 rfl ?_
  refine lv_istore (lv' := [(4, .int (iI 0)), (0, .ref (ad 0)), (1, .int (iI a1)), (2, .int (iI a2)), (3, .int (iI a3))]) hx hb dX11_partsOf_1 hl (by decide) rfl (fun ls hl => ?_)
  have L_3 : ∀ (n : Nat) (x4 : Int) (c37_3 : Int → Int) (d1_3 : Int → Int) (d2_3 : Int → Int) (H : Heap) (locs : List Loc) (ls : Array Slot), 16 - x4 < (n : Int) → (0 ≤ x4 ∧ x4 ≤ (v 22)) → (∀ c, 0 ≤ c → c < x4 → d2_3 c = (tgU (fun c t => evR (fun k => mcG ((f 9) k)) (f 10) (gFd (f 24) (f 25) (f 26) (f 27) (f 28) (f 29) (f 30) (f 31) (f 32) (f 33) (f 18) (f 19) (v 25) (v 26) a3 a1 t c) (v 13)) a2) c) → gWd D (mdT k ad) v (va_up f 37 c37_3) (va_up (va_up g 1 d1_3) 2 d2_3) H → va_S A s.heap H locs → lv_has ls 7 [(0, .ref (ad 0)), (1, .int (iI a1)), (2, .int (iI a2)), (3, .int (iI a3)), (4, .int (iI x4))] → W p l e (gRm 3 87) s m args below meth c H locs 0 0 Q (F0 m 3 ls []) := by
    intro n
    induction n with
    | zero =>
      intro x4 c37_3 d1_3 d2_3 H locs ls hn_3 i3_0 i3_1 hP hS hl
      exfalso; omega
    | succ n ih_3 =>
      intro x4 c37_3 d1_3 d2_3 H locs ls hn_3 i3_0 i3_1 hP hS hl
      have hI := i3_1
      refine lv_iload hx hb dX11_partsOf_3 (lv_at hl 4 rfl) ?_
      refine lv_aload_n hx hb dX11_partsOf_5 rfl (lv_at hl 0 rfl) ?_
      refine mdG_climbers C hP mF_X11_313 dX11_partsOf_6 ?_
      refine gi_cge (tgt := 77) hx hb dX11_partsOf_9 (by decide) (by omega) (by omega) (fun c_4 => ?_) (fun c_4 => ?_)
      · have hU : ∀ c, 0 ≤ c → c < (v 22) → d2_3 c = (tgU (fun c t => evR (fun k => mcG ((f 9) k)) (f 10) (gFd (f 24) (f 25) (f 26) (f 27) (f 28) (f 29) (f 30) (f 31) (f 32) (f 33) (f 18) (f 19) (v 25) (v 26) a3 a1 t c) (v 13)) a2) c := fun c c0 c1 => hI c c0 (by omega)
        refine lv_iconst (v := iI 0) hx hb dX11_partsOf_77 rfl ?_
        refine lv_istore (lv' := [(4, .int (iI 0)), (0, .ref (ad 0)), (1, .int (iI a1)), (2, .int (iI a2)), (3, .int (iI a3))]) hx hb dX11_partsOf_78 hl (by decide) rfl (fun ls hl => ?_)
        refine lv_iconst (v := iI 0) hx hb dX11_partsOf_80 rfl ?_
        refine lv_istore (lv' := [(5, .int (iI 0)), (4, .int (iI 0)), (0, .ref (ad 0)), (1, .int (iI a1)), (2, .int (iI a2)), (3, .int (iI a3))]) hx hb dX11_partsOf_81 hl (by decide) rfl (fun ls hl => ?_)
        have L_5 : ∀ (n : Nat) (x4 : Int) (x5 : Int) (H : Heap) (locs : List Loc) (ls : Array Slot), 16 - x5 < (n : Int) → (0 ≤ x5 ∧ x5 ≤ (v 22)) → (0 ≤ x4 ∧ x4 ≤ x5 * 16) → (x4 = prD (liF (f 21) a1) a1 (tgU (fun c t => evR (fun k => mcG ((f 9) k)) (f 10) (gFd (f 24) (f 25) (f 26) (f 27) (f 28) (f 29) (f 30) (f 31) (f 32) (f 33) (f 18) (f 19) (v 25) (v 26) a3 a1 t c) (v 13)) a2) (v 22).toNat x5.toNat) → gWd D (mdT k ad) v (va_up f 37 c37_3) (va_up (va_up g 1 d1_3) 2 d2_3) H → va_S A s.heap H locs → lv_has ls 7 [(0, .ref (ad 0)), (1, .int (iI a1)), (2, .int (iI a2)), (3, .int (iI a3)), (4, .int (iI x4)), (5, .int (iI x5))] → W p l e (gRm 3 87) s m args below meth c H locs 0 0 Q (F0 m 83 ls []) := by
          intro n
          induction n with
          | zero =>
            intro x4 x5 H locs ls hn_5 i5_0 i5_1 i5_2 hP hS hl
            exfalso; omega
          | succ n ih_83 =>
            intro x4 x5 H locs ls hn_5 i5_0 i5_1 i5_2 hP hS hl
            have hL1 := i5_2
            refine lv_iload hx hb dX11_partsOf_83 (lv_at hl 5 rfl) ?_
            refine lv_aload_n hx hb dX11_partsOf_85 rfl (lv_at hl 0 rfl) ?_
            refine mdG_climbers C hP mF_X11_313 dX11_partsOf_86 ?_
            refine gi_cge (tgt := 177) hx hb dX11_partsOf_89 (by decide) (by omega) (by omega) (fun c_6 => ?_) (fun c_6 => ?_)
            · refine lv_iload hx hb dX11_partsOf_177 (lv_at hl 4 rfl) ?_
              exact g_iret hQ C hr hlocks hP hS dX11_partsOf_179 ⟨x4, c37_3, d1_3, d2_3, rfl, rfl, rfl, rfl, (by rw [hL1, show x5 = (v 22) by omega]; exact prD_prC _ _ _ _), (by first | omega | ((repeat' split) <;> omega))⟩
            · refine lv_iload hx hb dX11_partsOf_92 (lv_at hl 5 rfl) ?_
              refine lv_iconst (v := iI 1) hx hb dX11_partsOf_94 rfl ?_
              refine gi_add (z := (x5 + 1)) hx hb dX11_partsOf_95 rfl ?_
              refine lv_istore (lv' := [(6, .int (iI (x5 + 1))), (0, .ref (ad 0)), (1, .int (iI a1)), (2, .int (iI a2)), (3, .int (iI a3)), (4, .int (iI x4)), (5, .int (iI x5))]) hx hb dX11_partsOf_96 hl (by decide) rfl (fun ls hl => ?_)
              have L_7 : ∀ (n : Nat) (x4 : Int) (x6 : Int) (H : Heap) (locs : List Loc) (ls : Array Slot), 16 - x6 < (n : Int) → (x5 + 1 ≤ x6 ∧ x6 ≤ (v 22)) → (0 ≤ x4 ∧ x4 ≤ x5 * 16 + x6) → (x4 = prD (liF (f 21) a1) a1 (tgU (fun c t => evR (fun k => mcG ((f 9) k)) (f 10) (gFd (f 24) (f 25) (f 26) (f 27) (f 28) (f 29) (f 30) (f 31) (f 32) (f 33) (f 18) (f 19) (v 25) (v 26) a3 a1 t c) (v 13)) a2) (v 22).toNat x5.toNat + (cn (pPr (liF (f 21) a1) a1 (tgU (fun c t => evR (fun k => mcG ((f 9) k)) (f 10) (gFd (f 24) (f 25) (f 26) (f 27) (f 28) (f 29) (f 30) (f 31) (f 32) (f 33) (f 18) (f 19) (v 25) (v 26) a3 a1 t c) (v 13)) a2) x5) x6.toNat - cn (pPr (liF (f 21) a1) a1 (tgU (fun c t => evR (fun k => mcG ((f 9) k)) (f 10) (gFd (f 24) (f 25) (f 26) (f 27) (f 28) (f 29) (f 30) (f 31) (f 32) (f 33) (f 18) (f 19) (v 25) (v 26) a3 a1 t c) (v 13)) a2) x5) (x5 + 1).toNat)) → gWd D (mdT k ad) v (va_up f 37 c37_3) (va_up (va_up g 1 d1_3) 2 d2_3) H → va_S A s.heap H locs → lv_has ls 7 [(0, .ref (ad 0)), (1, .int (iI a1)), (2, .int (iI a2)), (3, .int (iI a3)), (4, .int (iI x4)), (5, .int (iI x5)), (6, .int (iI x6))] → W p l e (gRm 3 87) s m args below meth c H locs 0 0 Q (F0 m 98 ls []) := by
                intro n
                induction n with
                | zero =>
                  intro x4 x6 H locs ls hn_7 i7_0 i7_1 i7_2 hP hS hl
                  exfalso; omega
                | succ n ih_98 =>
                  intro x4 x6 H locs ls hn_7 i7_0 i7_1 i7_2 hP hS hl
                  have hL2 := i7_2
                  have hu1 : x5 < (v 22) → d2_3 x5 = (tgU (fun c t => evR (fun k => mcG ((f 9) k)) (f 10) (gFd (f 24) (f 25) (f 26) (f 27) (f 28) (f 29) (f 30) (f 31) (f 32) (f 33) (f 18) (f 19) (v 25) (v 26) a3 a1 t c) (v 13)) a2) x5 := fun h => hU x5 (by omega) h
                  have hu2 : x6 < (v 22) → d2_3 x6 = (tgU (fun c t => evR (fun k => mcG ((f 9) k)) (f 10) (gFd (f 24) (f 25) (f 26) (f 27) (f 28) (f 29) (f 30) (f 31) (f 32) (f 33) (f 18) (f 19) (v 25) (v 26) a3 a1 t c) (v 13)) a2) x6 := fun h => hU x6 (by omega) h
                  refine lv_iload hx hb dX11_partsOf_98 (lv_at hl 6 rfl) ?_
                  refine lv_aload_n hx hb dX11_partsOf_100 rfl (lv_at hl 0 rfl) ?_
                  refine mdG_climbers C hP mF_X11_313 dX11_partsOf_101 ?_
                  refine gi_cge (tgt := 171) hx hb dX11_partsOf_104 (by decide) (by omega) (by omega) (fun c_8 => ?_) (fun c_8 => ?_)
                  · refine lv_iinc (v := iI (x5 + 1)) (lv' := [(5, .int (iI (x5 + 1))), (0, .ref (ad 0)), (1, .int (iI a1)), (2, .int (iI a2)), (3, .int (iI a3)), (4, .int (iI x4)), (6, .int (iI x6))]) hx hb dX11_partsOf_171 hl (k := 5) rfl (by show iI _ + iI 1 = _; rw [iI_add]) (by decide) rfl (fun ls hl => ?_)
                    refine lv_goto (tgt := 83) hx hb dX11_partsOf_174 (by decide) ?_
                    exact ih_83 x4 (x5 + 1) _ _ _ (by omega) (by omega) (by omega) (by rw [prD_s (by omega)]; have h9 := hL2; rw [show x6 = (v 22) by omega] at h9; exact h9) hP hS (lv_sub hl [1, 2, 3, 4, 5, 0] rfl)
                  · refine lv_iload hx hb dX11_partsOf_107 (lv_at hl 4 rfl) ?_
                    refine lv_aload_n hx hb dX11_partsOf_109 rfl (lv_at hl 0 rfl) ?_
                    refine mdG_isIn C hP mF_X11_85 dX11_partsOf_110 ?_
                    refine lv_bipush (v := iI 16) hx hb dX11_partsOf_113 (by decide) ?_
                    refine lv_iload_n hx hb dX11_partsOf_115 rfl (lv_at hl 1 rfl) ?_
                    refine gi_mul (z := (16 * a1)) hx hb dX11_partsOf_116 rfl ?_
                    refine lv_iload hx hb dX11_partsOf_117 (lv_at hl 5 rfl) ?_
                    refine gi_add (z := ((16 * a1) + x5)) hx hb dX11_partsOf_119 rfl ?_
                    refine mdL_isIn C hP (by omega) (by omega) dX11_partsOf_120 ?_
                    show W p l e (gRm 3 87) s m args below meth c _ _ 0 0 Q (F0 m 121 ls [.int (iI (f 21 ((16 * a1) + x5))), .int (iI x4)])
                    have r_9 : 0 ≤ (f 21 ((16 * a1) + x5)) ∧ (f 21 ((16 * a1) + x5)) ≤ 1 := hP.2.2 21 ((16 * a1) + x5)
                    have hli_10 : (liF (f 21) a1) x5 = (if (f 21 ((16 * a1) + x5)) ≠ 0 then a1 else a1 - 1) := rfl
                    refine gi_zeq (tgt := 161) hx hb dX11_partsOf_121 (by decide) (by omega) (fun c_11 => ?_) (fun c_11 => ?_)
                    · refine lv_iconst (v := iI 0) hx hb dX11_partsOf_161 rfl ?_
                      refine gi_add (z := x4) hx hb dX11_partsOf_162 (by omega) ?_
                      refine lv_istore (lv' := [(4, .int (iI x4)), (0, .ref (ad 0)), (1, .int (iI a1)), (2, .int (iI a2)), (3, .int (iI a3)), (5, .int (iI x5)), (6, .int (iI x6))]) hx hb dX11_partsOf_163 hl (by decide) rfl (fun ls hl => ?_)
                      refine lv_iinc (v := iI (x6 + 1)) (lv' := [(6, .int (iI (x6 + 1))), (4, .int (iI x4)), (0, .ref (ad 0)), (1, .int (iI a1)), (2, .int (iI a2)), (3, .int (iI a3)), (5, .int (iI x5))]) hx hb dX11_partsOf_165 hl (k := 6) rfl (by show iI _ + iI 1 = _; rw [iI_add]) (by decide) rfl (fun ls hl => ?_)
                      refine lv_goto (tgt := 98) hx hb dX11_partsOf_168 (by decide) ?_
                      exact ih_98 x4 (x6 + 1) _ _ _ (by omega) (by omega) (by omega) (by first | (rw [cn_y (x := x6) (by omega) (decide_eq_true ⟨by omega, by have := hu1 (by omega); have := hu2 (by omega); omega⟩)]; omega) | (rw [cn_n (x := x6) (by omega) (decide_eq_false (fun h => by have h1 := h.1; have h2 := h.2; have := hu1 (by omega); have := hu2 (by omega); omega))]; omega)) hP hS (lv_sub hl [2, 3, 4, 5, 1, 6, 0] rfl)
                    · refine lv_aload_n hx hb dX11_partsOf_124 rfl (lv_at hl 0 rfl) ?_
                      refine mdG_isIn C hP mF_X11_85 dX11_partsOf_125 ?_
                      refine lv_bipush (v := iI 16) hx hb dX11_partsOf_128 (by decide) ?_
                      refine lv_iload_n hx hb dX11_partsOf_130 rfl (lv_at hl 1 rfl) ?_
                      refine gi_mul (z := (16 * a1)) hx hb dX11_partsOf_131 rfl ?_
                      refine lv_iload hx hb dX11_partsOf_132 (lv_at hl 6 rfl) ?_
                      refine gi_add (z := ((16 * a1) + x6)) hx hb dX11_partsOf_134 rfl ?_
                      refine mdL_isIn C hP (by omega) (by omega) dX11_partsOf_135 ?_
                      show W p l e (gRm 3 87) s m args below meth c _ _ 0 0 Q (F0 m 136 ls [.int (iI (f 21 ((16 * a1) + x6))), .int (iI x4)])
                      have r_12 : 0 ≤ (f 21 ((16 * a1) + x6)) ∧ (f 21 ((16 * a1) + x6)) ≤ 1 := hP.2.2 21 ((16 * a1) + x6)
                      have hli_13 : (liF (f 21) a1) x6 = (if (f 21 ((16 * a1) + x6)) ≠ 0 then a1 else a1 - 1) := rfl
                      refine gi_zeq (tgt := 161) hx hb dX11_partsOf_136 (by decide) (by omega) (fun c_14 => ?_) (fun c_14 => ?_)
                      · refine lv_iconst (v := iI 0) hx hb dX11_partsOf_161 rfl ?_
                        refine gi_add (z := x4) hx hb dX11_partsOf_162 (by omega) ?_
                        refine lv_istore (lv' := [(4, .int (iI x4)), (0, .ref (ad 0)), (1, .int (iI a1)), (2, .int (iI a2)), (3, .int (iI a3)), (5, .int (iI x5)), (6, .int (iI x6))]) hx hb dX11_partsOf_163 hl (by decide) rfl (fun ls hl => ?_)
                        refine lv_iinc (v := iI (x6 + 1)) (lv' := [(6, .int (iI (x6 + 1))), (4, .int (iI x4)), (0, .ref (ad 0)), (1, .int (iI a1)), (2, .int (iI a2)), (3, .int (iI a3)), (5, .int (iI x5))]) hx hb dX11_partsOf_165 hl (k := 6) rfl (by show iI _ + iI 1 = _; rw [iI_add]) (by decide) rfl (fun ls hl => ?_)
                        refine lv_goto (tgt := 98) hx hb dX11_partsOf_168 (by decide) ?_
                        exact ih_98 x4 (x6 + 1) _ _ _ (by omega) (by omega) (by omega) (by first | (rw [cn_y (x := x6) (by omega) (decide_eq_true ⟨by omega, by have := hu1 (by omega); have := hu2 (by omega); omega⟩)]; omega) | (rw [cn_n (x := x6) (by omega) (decide_eq_false (fun h => by have h1 := h.1; have h2 := h.2; have := hu1 (by omega); have := hu2 (by omega); omega))]; omega)) hP hS (lv_sub hl [2, 3, 4, 5, 1, 6, 0] rfl)
                      · have hu3 := hu1 (by omega)
                        have hu4 := hu2 (by omega)
                        have hu5 := hUr x5
                        have hu6 := hUr x6
                        refine lv_aload_n hx hb dX11_partsOf_139 rfl (lv_at hl 0 rfl) ?_
                        refine mdG_sums C hP mF_X11_143 dX11_partsOf_140 ?_
                        refine lv_iload hx hb dX11_partsOf_143 (lv_at hl 5 rfl) ?_
                        refine mdL_sums C hP (by omega) (by omega) dX11_partsOf_145 ?_
                        show W p l e (gRm 3 87) s m args below meth c _ _ 0 0 Q (F0 m 146 ls [.long (iL (d2_3 x5)), .int (iI x4)])
                        refine lv_aload_n hx hb dX11_partsOf_146 rfl (lv_at hl 0 rfl) ?_
                        refine mdG_sums C hP mF_X11_143 dX11_partsOf_147 ?_
                        refine lv_iload hx hb dX11_partsOf_150 (lv_at hl 6 rfl) ?_
                        refine mdL_sums C hP (by omega) (by omega) dX11_partsOf_152 ?_
                        show W p l e (gRm 3 87) s m args below meth c _ _ 0 0 Q (F0 m 153 ls [.long (iL (d2_3 x6)), .long (iL (d2_3 x5)), .int (iI x4)])
                        refine gl_cmpE hx hb (by omega) (by omega) dX11_partsOf_153 (fun x_15 hx_15 => ?_)
                        refine gi_zeq (tgt := 161) hx hb dX11_partsOf_154 (by decide) (by omega) (fun c_16 => ?_) (fun c_16 => ?_)
                        · refine lv_iconst (v := iI 0) hx hb dX11_partsOf_161 rfl ?_
                          refine gi_add (z := x4) hx hb dX11_partsOf_162 (by omega) ?_
                          refine lv_istore (lv' := [(4, .int (iI x4)), (0, .ref (ad 0)), (1, .int (iI a1)), (2, .int (iI a2)), (3, .int (iI a3)), (5, .int (iI x5)), (6, .int (iI x6))]) hx hb dX11_partsOf_163 hl (by decide) rfl (fun ls hl => ?_)
                          refine lv_iinc (v := iI (x6 + 1)) (lv' := [(6, .int (iI (x6 + 1))), (4, .int (iI x4)), (0, .ref (ad 0)), (1, .int (iI a1)), (2, .int (iI a2)), (3, .int (iI a3)), (5, .int (iI x5))]) hx hb dX11_partsOf_165 hl (k := 6) rfl (by show iI _ + iI 1 = _; rw [iI_add]) (by decide) rfl (fun ls hl => ?_)
                          refine lv_goto (tgt := 98) hx hb dX11_partsOf_168 (by decide) ?_
                          exact ih_98 x4 (x6 + 1) _ _ _ (by omega) (by omega) (by omega) (by first | (rw [cn_y (x := x6) (by omega) (decide_eq_true ⟨by omega, by have := hu1 (by omega); have := hu2 (by omega); omega⟩)]; omega) | (rw [cn_n (x := x6) (by omega) (decide_eq_false (fun h => by have h1 := h.1; have h2 := h.2; have := hu1 (by omega); have := hu2 (by omega); omega))]; omega)) hP hS (lv_sub hl [2, 3, 4, 5, 1, 6, 0] rfl)
                        · refine lv_iconst (v := iI 1) hx hb dX11_partsOf_157 rfl ?_
                          refine lv_goto (tgt := 162) hx hb dX11_partsOf_158 (by decide) ?_
                          refine gi_add (z := (x4 + 1)) hx hb dX11_partsOf_162 rfl ?_
                          refine lv_istore (lv' := [(4, .int (iI (x4 + 1))), (0, .ref (ad 0)), (1, .int (iI a1)), (2, .int (iI a2)), (3, .int (iI a3)), (5, .int (iI x5)), (6, .int (iI x6))]) hx hb dX11_partsOf_163 hl (by decide) rfl (fun ls hl => ?_)
                          refine lv_iinc (v := iI (x6 + 1)) (lv' := [(6, .int (iI (x6 + 1))), (4, .int (iI (x4 + 1))), (0, .ref (ad 0)), (1, .int (iI a1)), (2, .int (iI a2)), (3, .int (iI a3)), (5, .int (iI x5))]) hx hb dX11_partsOf_165 hl (k := 6) rfl (by show iI _ + iI 1 = _; rw [iI_add]) (by decide) rfl (fun ls hl => ?_)
                          refine lv_goto (tgt := 98) hx hb dX11_partsOf_168 (by decide) ?_
                          exact ih_98 (x4 + 1) (x6 + 1) _ _ _ (by omega) (by omega) (by omega) (by first | (rw [cn_y (x := x6) (by omega) (decide_eq_true ⟨by omega, by have := hu1 (by omega); have := hu2 (by omega); omega⟩)]; omega) | (rw [cn_n (x := x6) (by omega) (decide_eq_false (fun h => by have h1 := h.1; have h2 := h.2; have := hu1 (by omega); have := hu2 (by omega); omega))]; omega)) hP hS (lv_sub hl [2, 3, 4, 5, 1, 6, 0] rfl)
              exact L_7 17 x4 (x5 + 1) _ _ _ (by omega) (by omega) (by omega) (by omega) hP hS (lv_sub hl [1, 2, 3, 4, 5, 6, 0] rfl)
        exact L_5 17 0 0 _ _ _ (by omega) (by omega) (by omega) rfl hP hS (lv_sub hl [2, 3, 4, 5, 1, 0] rfl)
      · refine lv_aload_n hx hb dX11_partsOf_12 rfl (lv_at hl 0 rfl) ?_
        refine mdG_sums C hP mF_X11_143 dX11_partsOf_13 ?_
        refine lv_iload hx hb dX11_partsOf_16 (lv_at hl 4 rfl) ?_
        refine lv_lconst (v := iL 0) hx hb dX11_partsOf_18 (by decide) ?_
        refine mdS_sums (g1 := (va_up (va_up g 1 d1_3) 2 (u1 d2_3 x4 0))) C hP hD hS (by omega) (by omega) rfl dX11_partsOf_19 (fun H locs hP hS => ?_)
        refine lv_iconst (v := iI 0) hx hb dX11_partsOf_20 rfl ?_
        refine lv_istore (lv' := [(5, .int (iI 0)), (0, .ref (ad 0)), (1, .int (iI a1)), (2, .int (iI a2)), (3, .int (iI a3)), (4, .int (iI x4))]) hx hb dX11_partsOf_21 hl (by decide) rfl (fun ls hl => ?_)
        have L_17 : ∀ (n : Nat) (x5 : Int) (c37_17 : Int → Int) (d1_17 : Int → Int) (d2_17 : Int → Int) (H : Heap) (locs : List Loc) (ls : Array Slot), 5 - x5 < (n : Int) → (0 ≤ x5 ∧ x5 ≤ (f 1) a1) → (∀ c, 0 ≤ c → c < x4 → d2_17 c = (tgU (fun c t => evR (fun k => mcG ((f 9) k)) (f 10) (gFd (f 24) (f 25) (f 26) (f 27) (f 28) (f 29) (f 30) (f 31) (f 32) (f 33) (f 18) (f 19) (v 25) (v 26) a3 a1 t c) (v 13)) a2) c) → (d2_17 x4 = tgS (fun t => evR (fun k => mcG ((f 9) k)) (f 10) (gFd (f 24) (f 25) (f 26) (f 27) (f 28) (f 29) (f 30) (f 31) (f 32) (f 33) (f 18) (f 19) (v 25) (v 26) a3 a1 t x4) (v 13)) a2 x5.toNat) → gWd D (mdT k ad) v (va_up f 37 c37_17) (va_up (va_up g 1 d1_17) 2 d2_17) H → va_S A s.heap H locs → lv_has ls 7 [(0, .ref (ad 0)), (1, .int (iI a1)), (2, .int (iI a2)), (3, .int (iI a3)), (4, .int (iI x4)), (5, .int (iI x5))] → W p l e (gRm 3 87) s m args below meth c H locs 0 0 Q (F0 m 23 ls []) := by
          intro n
          induction n with
          | zero =>
            intro x5 c37_17 d1_17 d2_17 H locs ls hn_17 i17_0 i17_1 i17_2 hP hS hl
            exfalso; omega
          | succ n ih_23 =>
            intro x5 c37_17 d1_17 d2_17 H locs ls hn_17 i17_0 i17_1 i17_2 hP hS hl
            have hJ := i17_1
            have hJ2 := i17_2
            refine lv_iload hx hb dX11_partsOf_23 (lv_at hl 5 rfl) ?_
            refine lv_aload_n hx hb dX11_partsOf_25 rfl (lv_at hl 0 rfl) ?_
            refine mdG_routes C hP mF_X11_20 dX11_partsOf_26 ?_
            refine lv_iload_n hx hb dX11_partsOf_29 rfl (lv_at hl 1 rfl) ?_
            refine mdL_routes C hP (by omega) (by omega) dX11_partsOf_30 ?_
            show W p l e (gRm 3 87) s m args below meth c _ _ 0 0 Q (F0 m 31 ls [.int (iI (f 1 a1)), .int (iI x5)])
            have r_18 : 0 ≤ (f 1 a1) ∧ (f 1 a1) ≤ 5 := hP.2.2 1 a1
            refine gi_cge (tgt := 71) hx hb dX11_partsOf_31 (by decide) (by omega) (by omega) (fun c_19 => ?_) (fun c_19 => ?_)
            · refine lv_iinc (v := iI (x4 + 1)) (lv' := [(4, .int (iI (x4 + 1))), (0, .ref (ad 0)), (1, .int (iI a1)), (2, .int (iI a2)), (3, .int (iI a3)), (5, .int (iI x5))]) hx hb dX11_partsOf_71 hl (k := 4) rfl (by show iI _ + iI 1 = _; rw [iI_add]) (by decide) rfl (fun ls hl => ?_)
              refine lv_goto (tgt := 3) hx hb dX11_partsOf_74 (by decide) ?_
              exact ih_3 (x4 + 1) c37_17 d1_17 d2_17 _ _ _ (by omega) (by omega) (sm_next (K := (tgU (fun c t => evR (fun k => mcG ((f 9) k)) (f 10) (gFd (f 24) (f 25) (f 26) (f 27) (f 28) (f 29) (f 30) (f 31) (f 32) (f 33) (f 18) (f 19) (v 25) (v 26) a3 a1 t c) (v 13)) a2)) hJ (by rw [hJ2, show x5 = (f 1) a1 by omega]; exact tgS_R (by omega) (fun t t0 t1 => by have := bt_hi (t := t) h2 hro ⟨t0, t1⟩; omega))) hP hS (lv_sub hl [1, 2, 3, 4, 0] rfl)
            · refine lv_iload_n hx hb dX11_partsOf_34 rfl (lv_at hl 2 rfl) ?_
              refine lv_iload hx hb dX11_partsOf_35 (lv_at hl 5 rfl) ?_
              obtain ⟨x_20, ex_20, hx_20⟩ : ∃ z : Int, iI a2 >>> (iI x5 &&& 31) = iI z ∧ inR z := ⟨(iI a2 >>> (iI x5 &&& 31)).toInt, (iI_of _).symm, iI_rng _⟩
              refine gi_shr (z := x_20) hx hb dX11_partsOf_37 ex_20 ?_
              refine lv_iconst (v := iI 1) hx hb dX11_partsOf_38 rfl ?_
              obtain ⟨x_21, ex_21, hx_21⟩ := gAnd x_20 1 1 (by decide) (by decide)
              refine gi_and (z := x_21) hx hb dX11_partsOf_39 ex_21 ?_
              have hbt : btI a2 x5 = x_21 := bt_of ex_20 ex_21 (by omega)
              refine lv_iconst (v := iI 1) hx hb dX11_partsOf_40 rfl ?_
              refine gi_cne (tgt := 65) hx hb dX11_partsOf_41 (by decide) (by omega) (by decide) (fun c_22 => ?_) (fun c_22 => ?_)
              · refine lv_iinc (v := iI (x5 + 1)) (lv' := [(5, .int (iI (x5 + 1))), (0, .ref (ad 0)), (1, .int (iI a1)), (2, .int (iI a2)), (3, .int (iI a3)), (4, .int (iI x4))]) hx hb dX11_partsOf_65 hl (k := 5) rfl (by show iI _ + iI 1 = _; rw [iI_add]) (by decide) rfl (fun ls hl => ?_)
                refine lv_goto (tgt := 23) hx hb dX11_partsOf_68 (by decide) ?_
                exact ih_23 (x5 + 1) c37_17 d1_17 d2_17 _ _ _ (by omega) (by omega) (by first | exact hJ | exact sm_keep (K := (tgU (fun c t => evR (fun k => mcG ((f 9) k)) (f 10) (gFd (f 24) (f 25) (f 26) (f 27) (f 28) (f 29) (f 30) (f 31) (f 32) (f 33) (f 18) (f 19) (v 25) (v 26) a3 a1 t c) (v 13)) a2)) hJ) (by rw [tgS_s (by omega), hbt]; first | (rw [if_neg (by omega), Int.add_zero]; exact hJ2) | (rw [if_pos (by omega), u1_s, ← hJ2, ← hpt])) hP hS (lv_sub hl [1, 2, 3, 4, 5, 0] rfl)
              · refine lv_aload_n hx hb dX11_partsOf_44 rfl (lv_at hl 0 rfl) ?_
                refine mdG_sums C hP mF_X11_143 dX11_partsOf_45 ?_
                refine lv_iload hx hb dX11_partsOf_48 (lv_at hl 4 rfl) ?_
                refine lv_dup2_11 hx hb dX11_partsOf_50 rfl rfl ?_
                refine mdL_sums C hP (by omega) (by omega) dX11_partsOf_51 ?_
                show W p l e (gRm 3 87) s m args below meth c _ _ 0 0 Q (F0 m 52 ls [.long (iL (d2_17 x4)), .int (iI x4), .ref (ad 41)])
                refine lv_aload_n hx hb dX11_partsOf_52 rfl (lv_at hl 0 rfl) ?_
                refine lv_iload_n hx hb dX11_partsOf_53 rfl (lv_at hl 1 rfl) ?_
                refine lv_iload hx hb dX11_partsOf_54 (lv_at hl 5 rfl) ?_
                refine lv_iload hx hb dX11_partsOf_56 (lv_at hl 4 rfl) ?_
                refine lv_iload_n hx hb dX11_partsOf_58 rfl (lv_at hl 3 rfl) ?_
                refine g_cv (As := [.int (iI a1), .int (iI x5), .int (iI x4), .int (iI a3)]) (rest := [.long (iL (d2_17 x4)), .int (iI x4), .ref (ad 41)]) (n := 4) C hml (y_pointsOf l D k A ad hD v (va_up f 37 c37_17) (va_up (va_up g 1 d1_17) 2 d2_17) a1 x5 x4 a3 (by omega) (by omega) (by omega) (by omega) (show rpOk (v 13) (f 9) from hrp) (show 0 ≤ a1 ∧ a1 ≤ 3 from by omega) (show 0 ≤ x5 ∧ x5 ≤ 4 from by omega)) mM_X11_387 mI_X11_pointsOf mE_X11_pointsOf mN_X11 mC_X11_pointsOf (by decide +kernel) 0 (ci := 11) rfl rfl hP hS (fun _ h => h) ⟨Nat.le_of_ble_eq_true rfl, Nat.le_of_ble_eq_true rfl⟩ ⟨Nat.zero_le _, Nat.zero_le _⟩ hl.1 rfl rfl (Nat.le_of_ble_eq_true rfl) dX11_partsOf_59 (fun r_23 v_23 f_23 g_23 H locs hq_23 hP _ hS => ?_)
                obtain ⟨z_23, a37_23, b1_23, rfl, rfl, rfl, rfl, p0_23, p1_23, p2_23⟩ := hq_23
                show W p l e (gRm 3 87) s m args below meth c _ _ 0 0 Q (F0 m 62 ls [.int (iI z_23), .long (iL (d2_17 x4)), .int (iI x4), .ref (ad 41)])
                have hP : gWd D (mdT k ad) v (va_up f 37 a37_23) (va_up (va_up g 1 b1_23) 2 d2_17) H := ⟨hP.1, (gF_up (V := mdV) (F := mdF) ⟨hok.1, hok.2⟩ 37 (hP.2.2 37))⟩
                replace p0_23 : z_23 = (evR (fun k => mcG ((f 9) k)) (f 10) (gFd (f 24) (f 25) (f 26) (f 27) (f 28) (f 29) (f 30) (f 31) (f 32) (f 33) (f 18) (f 19) (v 25) (v 26) a3 a1 x5 x4) (v 13)) := p0_23
                replace p1_23 : (-1000000000) ≤ z_23 ∧ z_23 ≤ 1000000000 := p1_23
                replace p2_23 : a37_23 0 = gFd (f 24) (f 25) (f 26) (f 27) (f 28) (f 29) (f 30) (f 31) (f 32) (f 33) (f 18) (f 19) (v 25) (v 26) a3 a1 x5 x4 0 ∧ a37_23 1 = gFd (f 24) (f 25) (f 26) (f 27) (f 28) (f 29) (f 30) (f 31) (f 32) (f 33) (f 18) (f 19) (v 25) (v 26) a3 a1 x5 x4 1 ∧ a37_23 2 = gFd (f 24) (f 25) (f 26) (f 27) (f 28) (f 29) (f 30) (f 31) (f 32) (f 33) (f 18) (f 19) (v 25) (v 26) a3 a1 x5 x4 2 ∧ a37_23 3 = gFd (f 24) (f 25) (f 26) (f 27) (f 28) (f 29) (f 30) (f 31) (f 32) (f 33) (f 18) (f 19) (v 25) (v 26) a3 a1 x5 x4 3 ∧ a37_23 4 = gFd (f 24) (f 25) (f 26) (f 27) (f 28) (f 29) (f 30) (f 31) (f 32) (f 33) (f 18) (f 19) (v 25) (v 26) a3 a1 x5 x4 4 ∧ a37_23 5 = gFd (f 24) (f 25) (f 26) (f 27) (f 28) (f 29) (f 30) (f 31) (f 32) (f 33) (f 18) (f 19) (v 25) (v 26) a3 a1 x5 x4 5 := p2_23
                have hz_23 : inR z_23 := (by first | omega | (rw [p0_23]; split <;> omega))
                have hpt := p0_23
                clear p0_23 p2_23
                refine gi_i2l hx hb (by omega) dX11_partsOf_62 ?_
                refine gl_add (z := ((d2_17 x4) + z_23)) hx hb dX11_partsOf_63 rfl ?_
                refine mdS_sums (g1 := (va_up (va_up g 1 b1_23) 2 (u1 d2_17 x4 ((d2_17 x4) + z_23)))) C hP hD hS (by omega) (by omega) rfl dX11_partsOf_64 (fun H locs hP hS => ?_)
                refine lv_iinc (v := iI (x5 + 1)) (lv' := [(5, .int (iI (x5 + 1))), (0, .ref (ad 0)), (1, .int (iI a1)), (2, .int (iI a2)), (3, .int (iI a3)), (4, .int (iI x4))]) hx hb dX11_partsOf_65 hl (k := 5) rfl (by show iI _ + iI 1 = _; rw [iI_add]) (by decide) rfl (fun ls hl => ?_)
                refine lv_goto (tgt := 23) hx hb dX11_partsOf_68 (by decide) ?_
                exact ih_23 (x5 + 1) a37_23 b1_23 (u1 d2_17 x4 ((d2_17 x4) + z_23)) _ _ _ (by omega) (by omega) (by first | exact hJ | exact sm_keep (K := (tgU (fun c t => evR (fun k => mcG ((f 9) k)) (f 10) (gFd (f 24) (f 25) (f 26) (f 27) (f 28) (f 29) (f 30) (f 31) (f 32) (f 33) (f 18) (f 19) (v 25) (v 26) a3 a1 t c) (v 13)) a2)) hJ) (by rw [tgS_s (by omega), hbt]; first | (rw [if_neg (by omega), Int.add_zero]; exact hJ2) | (rw [if_pos (by omega), u1_s, ← hJ2, ← hpt])) hP hS (lv_sub hl [1, 2, 3, 4, 5, 0] rfl)
        exact L_17 6 0 c37_3 d1_3 (u1 d2_3 x4 0) _ _ _ (by omega) (by omega) (sm_keep (K := (tgU (fun c t => evR (fun k => mcG ((f 9) k)) (f 10) (gFd (f 24) (f 25) (f 26) (f 27) (f 28) (f 29) (f 30) (f 31) (f 32) (f 33) (f 18) (f 19) (v 25) (v 26) a3 a1 t c) (v 13)) a2)) hI) (by rw [u1_s]; rfl) hP hS (lv_sub hl [1, 2, 3, 4, 5, 0] rfl)
  exact L_3 17 0 (f 37) (g 1) (g 2) _ _ _ (by omega) (by omega) (fun c h0 h1 => by omega) hP hS (lv_sub hl [1, 2, 3, 4, 0] rfl)

set_option maxHeartbeats 4000000 in
set_option maxRecDepth 100000 in
theorem y_parts (l : Launch) (D : va_G) (k : Nat → ClassId) (A : Nat → Prop) (ad : Nat → Nat) (hD : mdD A k ad) (v : gV) (f g : gF) (a1 : Int) (a2 : Int) (a3 : Int) (h_a1 : inR a1) (h_a2 : inR a2) (h_a3 : inR a3) (hrp : 0 < (v 12) → rpOk (v 13) (f 9)) : GM l D k A (mdT k ad) yX11_parts cX11_parts 4 (some .int) 4 113 [.ref (ad 0), .int (iI a1), .int (iI a2), .int (iI a3)] v f g (fun r v1 f1 g1 => ∃ (z : Int) (w0 : Int) (a37_ : Int → Int) (b1_ : Int → Int) (b2_ : Int → Int), r = some (.int (iI z)) ∧ (va_up (va_up v 0 w0) 1 0) = v1 ∧ (va_up f 37 a37_) = f1 ∧ (va_up (va_up g 1 b1_) 2 b2_) = g1 ∧ (z = (if w0 ≠ 0 then (-1) else prC (liF (f 21) a1) a1 (tgU (fun c t => evR (fun k => mcG ((f 9) k)) (f 10) (gFd (f 24) (f 25) (f 26) (f 27) (f 28) (f 29) (f 30) (f 31) (f 32) (f 33) (f 18) (f 19) (v 25) (v 26) a3 a1 t c) (v 13)) a2) (v 22).toNat)) ∧ ((-1) ≤ z ∧ z ≤ 256) ∧ (w0 = (if ¬ (0 ≤ a1 ∧ a1 < (v 12)) then 1 else if a2 < 0 ∨ pw2 ((f 1) a1) ≤ a2 ∨ ¬ (0 ≤ a3 ∧ a3 ≤ 999) then 2 else 0))) := by
  refine GM.of (by decide) (Nat.le_of_ble_eq_true rfl) ?_
  intro p e s m args below meth c Q ls hQ C hml hr hlocks hP hl
  have hx := C.1
  have hb := C.2.1
  have hok := hP.2
  have hS : va_S A s.heap s.heap [] := va_S.rf
  have hl : lv_has ls 4 [(0, .ref (ad 0)), (1, .int (iI a1)), (2, .int (iI a2)), (3, .int (iI a3))] := hl
  have hP : gWd D (mdT k ad) (va_up (va_up v 0 (v 0)) 1 (v 1)) (va_up f 37 (f 37)) (va_up (va_up g 1 (g 1)) 2 (g 2)) s.heap := by rw [va_id, va_id, va_id, va_id, va_id]; exact hP
  have r_1 : 0 ≤ (v 12) ∧ (v 12) ≤ 4 := hok.1 12
  refine lv_aload_n hx hb dX11_parts_0 rfl (lv_at hl 0 rfl) ?_
  refine lv_iconst (v := iI 0) hx hb dX11_parts_1 rfl ?_
  refine mdP_thrown (v1 := (va_up (va_up v 0 (v 0)) 1 0)) C hP hD hS mF_X11_146 (by decide) rfl (Or.inr (gF_up (V := mdV) (F := mdF) (gR_up (V := mdV) (F := mdF) (gR_up (V := mdV) (F := mdF) ⟨hok.1, hok.2⟩ 0 (hP.2.1 0)) 1 (show 0 ≤ 0 ∧ 0 ≤ 0 from by decide)) 37 (hP.2.2 37))) dX11_parts_2 (fun H locs hP hS => ?_)
  refine lv_aload_n hx hb dX11_parts_5 rfl (lv_at hl 0 rfl) ?_
  refine lv_iconst (v := iI 0) hx hb dX11_parts_6 rfl ?_
  refine mdP_status (v1 := (va_up (va_up v 0 0) 1 0)) C hP hD hS mF_X11_149 (by decide) rfl (Or.inr (gF_up (V := mdV) (F := mdF) (gR_up (V := mdV) (F := mdF) (gR_up (V := mdV) (F := mdF) ⟨hok.1, hok.2⟩ 0 (show 0 ≤ 0 ∧ 0 ≤ 10 from by decide)) 1 (hP.2.1 1)) 37 (hP.2.2 37))) dX11_parts_7 (fun H locs hP hS => ?_)
  refine lv_aload_n hx hb dX11_parts_10 rfl (lv_at hl 0 rfl) ?_
  refine lv_iload_n hx hb dX11_parts_11 rfl (lv_at hl 1 rfl) ?_
  refine g_cv (As := [.int (iI a1)]) (rest := []) (n := 1) C hml (m_X11_isRound l D k A ad hD (va_up (va_up v 0 0) 1 0) (va_up f 37 (f 37)) (va_up (va_up g 1 (g 1)) 2 (g 2)) a1 (by omega)) mM_X11_325 mI_X11_isRound mE_X11_isRound mN_X11 mC_X11_isRound (by decide +kernel) 0 (ci := 11) rfl rfl hP hS (fun _ h => h) ⟨Nat.le_of_ble_eq_true rfl, Nat.le_of_ble_eq_true rfl⟩ ⟨Nat.zero_le _, Nat.zero_le _⟩ hl.1 rfl rfl (Nat.le_of_ble_eq_true rfl) dX11_parts_12 (fun r_2 v_2 f_2 g_2 H locs hq_2 hP _ hS => ?_)
  obtain ⟨z_2, rfl, rfl, rfl, rfl, p0_2⟩ := hq_2
  show W p l e (gRm 4 113) s m args below meth c _ _ 0 0 Q (F0 m 15 ls [.int (iI z_2)])
  replace p0_2 : z_2 = (if 0 ≤ a1 ∧ a1 < (v 12) then 1 else 0) := p0_2
  have w_2 := gif (P := 0 ≤ a1 ∧ a1 < (v 12)) p0_2
  clear p0_2
  have hz_2 : inR z_2 := (by first | omega | (rw [p0_2]; split <;> omega))
  refine gi_zne (tgt := 24) hx hb dX11_parts_15 (by decide) (by omega) (fun c_3 => ?_) (fun c_3 => ?_)
  · have vz_2 := gif1 w_2 c_3
    have voz_2 := gif1o w_2 c_3
    clear w_2
    refine lv_iload_n hx hb dX11_parts_24 rfl (lv_at hl 2 rfl) ?_
    refine gi_zlt (tgt := 47) hx hb dX11_parts_25 (by decide) (by omega) (fun c_4 => ?_) (fun c_4 => ?_)
    · refine lv_aload_n hx hb dX11_parts_47 rfl (lv_at hl 0 rfl) ?_
      refine lv_iconst (v := iI 2) hx hb dX11_parts_48 rfl ?_
      refine g_cv (As := [.int (iI 2)]) (rest := []) (n := 1) C hml (m_X11_refuse l D k A ad hD (va_up (va_up v 0 0) 1 0) (va_up f 37 (f 37)) (va_up (va_up g 1 (g 1)) 2 (g 2)) 2 (by decide) (show 0 ≤ (2 : Int) ∧ (2 : Int) ≤ 10 from by omega)) mM_X11_295 mI_X11_refuse mE_X11_refuse mN_X11 mC_X11_refuse (by decide +kernel) 0 (ci := 11) rfl rfl hP hS (fun _ h => h) ⟨Nat.le_of_ble_eq_true rfl, Nat.le_of_ble_eq_true rfl⟩ ⟨Nat.zero_le _, Nat.zero_le _⟩ hl.1 rfl rfl (Nat.le_of_ble_eq_true rfl) dX11_parts_49 (fun r_5 v_5 f_5 g_5 H locs hq_5 hP _ hS => ?_)
      obtain ⟨rfl, rfl, rfl, rfl⟩ := hq_5
      show W p l e (gRm 4 113) s m args below meth c _ _ 0 0 Q (F0 m 52 ls [.int (iI (-1))])
      have hP : gWd D (mdT k ad) (va_up (va_up v 0 (2 : Int)) 1 0) (va_up f 37 (f 37)) (va_up (va_up g 1 (g 1)) 2 (g 2)) H := ⟨hP.1, (gF_up (V := mdV) (F := mdF) (gR_up (V := mdV) (F := mdF) (gR_up (V := mdV) (F := mdF) ⟨hok.1, hok.2⟩ 0 (hP.2.1 0)) 1 (hP.2.1 1)) 37 (hP.2.2 37))⟩
      exact g_iret hQ C hr hlocks hP hS dX11_parts_52 ⟨(-1), (2 : Int), (f 37), (g 1), (g 2), rfl, rfl, rfl, rfl, (by first | (rw [if_pos (by omega)]) | (rw [if_neg (by omega)]; exact hpo)), (by first | omega | ((repeat' split) <;> omega)), (by first | omega | ((repeat' split) <;> omega))⟩
    · refine lv_iload_n hx hb dX11_parts_28 rfl (lv_at hl 2 rfl) ?_
      refine lv_iconst (v := iI 1) hx hb dX11_parts_29 rfl ?_
      refine lv_aload_n hx hb dX11_parts_30 rfl (lv_at hl 0 rfl) ?_
      refine mdG_routes C hP mF_X11_20 dX11_parts_31 ?_
      refine lv_iload_n hx hb dX11_parts_34 rfl (lv_at hl 1 rfl) ?_
      refine mdL_routes C hP (by omega) (by omega) dX11_parts_35 ?_
      show W p l e (gRm 4 113) s m args below meth c _ _ 0 0 Q (F0 m 36 ls [.int (iI (f 1 a1)), .int (iI 1), .int (iI a2)])
      have r_6 : 0 ≤ (f 1 a1) ∧ (f 1 a1) ≤ 5 := hP.2.2 1 a1
      have q_7 := pw2_r (f 1 a1)
      refine gi_shl (z := (pw2 (f 1 a1))) hx hb dX11_parts_36 (gShlE (f 1 a1) (by omega)) ?_
      refine gi_cge (tgt := 47) hx hb dX11_parts_37 (by decide) (by omega) (by omega) (fun c_8 => ?_) (fun c_8 => ?_)
      · refine lv_aload_n hx hb dX11_parts_47 rfl (lv_at hl 0 rfl) ?_
        refine lv_iconst (v := iI 2) hx hb dX11_parts_48 rfl ?_
        refine g_cv (As := [.int (iI 2)]) (rest := []) (n := 1) C hml (m_X11_refuse l D k A ad hD (va_up (va_up v 0 0) 1 0) (va_up f 37 (f 37)) (va_up (va_up g 1 (g 1)) 2 (g 2)) 2 (by decide) (show 0 ≤ (2 : Int) ∧ (2 : Int) ≤ 10 from by omega)) mM_X11_295 mI_X11_refuse mE_X11_refuse mN_X11 mC_X11_refuse (by decide +kernel) 0 (ci := 11) rfl rfl hP hS (fun _ h => h) ⟨Nat.le_of_ble_eq_true rfl, Nat.le_of_ble_eq_true rfl⟩ ⟨Nat.zero_le _, Nat.zero_le _⟩ hl.1 rfl rfl (Nat.le_of_ble_eq_true rfl) dX11_parts_49 (fun r_9 v_9 f_9 g_9 H locs hq_9 hP _ hS => ?_)
        obtain ⟨rfl, rfl, rfl, rfl⟩ := hq_9
        show W p l e (gRm 4 113) s m args below meth c _ _ 0 0 Q (F0 m 52 ls [.int (iI (-1))])
        have hP : gWd D (mdT k ad) (va_up (va_up v 0 (2 : Int)) 1 0) (va_up f 37 (f 37)) (va_up (va_up g 1 (g 1)) 2 (g 2)) H := ⟨hP.1, (gF_up (V := mdV) (F := mdF) (gR_up (V := mdV) (F := mdF) (gR_up (V := mdV) (F := mdF) ⟨hok.1, hok.2⟩ 0 (hP.2.1 0)) 1 (hP.2.1 1)) 37 (hP.2.2 37))⟩
        exact g_iret hQ C hr hlocks hP hS dX11_parts_52 ⟨(-1), (2 : Int), (f 37), (g 1), (g 2), rfl, rfl, rfl, rfl, (by first | (rw [if_pos (by omega)]) | (rw [if_neg (by omega)]; exact hpo)), (by first | omega | ((repeat' split) <;> omega)), (by first | omega | ((repeat' split) <;> omega))⟩
      · refine lv_iload_n hx hb dX11_parts_40 rfl (lv_at hl 3 rfl) ?_
        refine g_cs (As := [.int (iI a3)]) (rest := []) (n := 1) C hml (m_X11_isDay l D k A ad hD (va_up (va_up v 0 0) 1 0) (va_up f 37 (f 37)) (va_up (va_up g 1 (g 1)) 2 (g 2)) a3 (by omega)) mM_X11_364 mS_X11_isDay mN_X11 mC_X11_isDay (by decide +kernel) hP hS (fun _ h => h) ⟨Nat.le_of_ble_eq_true rfl, Nat.le_of_ble_eq_true rfl⟩ ⟨Nat.zero_le _, Nat.zero_le _⟩ hl.1 rfl rfl (Nat.le_of_ble_eq_true rfl) dX11_parts_41 (fun r_10 v_10 f_10 g_10 H locs hq_10 hP _ hS => ?_)
        obtain ⟨z_10, rfl, rfl, rfl, rfl, p0_10⟩ := hq_10
        show W p l e (gRm 4 113) s m args below meth c _ _ 0 0 Q (F0 m 44 ls [.int (iI z_10)])
        replace p0_10 : z_10 = (if 0 ≤ a3 ∧ a3 ≤ 999 then 1 else 0) := p0_10
        have w_10 := gif (P := 0 ≤ a3 ∧ a3 ≤ 999) p0_10
        clear p0_10
        have hz_10 : inR z_10 := (by first | omega | (rw [p0_10]; split <;> omega))
        refine gi_zne (tgt := 53) hx hb dX11_parts_44 (by decide) (by omega) (fun c_11 => ?_) (fun c_11 => ?_)
        · have vz_10 := gif1 w_10 c_11
          have voz_10 := gif1o w_10 c_11
          clear w_10
          refine lv_aload_n hx hb dX11_parts_53 rfl (lv_at hl 0 rfl) ?_
          refine lv_iload_n hx hb dX11_parts_54 rfl (lv_at hl 1 rfl) ?_
          refine lv_iload_n hx hb dX11_parts_55 rfl (lv_at hl 2 rfl) ?_
          refine lv_iload_n hx hb dX11_parts_56 rfl (lv_at hl 3 rfl) ?_
          refine g_cv (As := [.int (iI a1), .int (iI a2), .int (iI a3)]) (rest := []) (n := 3) C hml (y_partsOf l D k A ad hD (va_up (va_up v 0 0) 1 0) (va_up f 37 (f 37)) (va_up (va_up g 1 (g 1)) 2 (g 2)) a1 a2 a3 (by omega) (by omega) (by omega) (show rpOk (v 13) (f 9) from hrp (by omega)) (show 0 ≤ a1 ∧ a1 ≤ 3 from by omega) (show 0 ≤ a2 ∧ a2 < pw2 ((f 1) a1) from by omega)) mM_X11_405 mI_X11_partsOf mE_X11_partsOf mN_X11 mC_X11_partsOf (by decide +kernel) 0 (ci := 11) rfl rfl hP hS (fun _ h => h) ⟨Nat.le_of_ble_eq_true rfl, Nat.le_of_ble_eq_true rfl⟩ ⟨Nat.zero_le _, Nat.zero_le _⟩ hl.1 rfl rfl (Nat.le_of_ble_eq_true rfl) dX11_parts_57 (fun r_12 v_12 f_12 g_12 H locs hq_12 hP _ hS => ?_)
          obtain ⟨z_12, a37_12, b1_12, b2_12, rfl, rfl, rfl, rfl, p0_12, p1_12⟩ := hq_12
          show W p l e (gRm 4 113) s m args below meth c _ _ 0 0 Q (F0 m 60 ls [.int (iI z_12)])
          have hP : gWd D (mdT k ad) (va_up (va_up v 0 0) 1 0) (va_up f 37 a37_12) (va_up (va_up g 1 b1_12) 2 b2_12) H := ⟨hP.1, (gF_up (V := mdV) (F := mdF) (gR_up (V := mdV) (F := mdF) (gR_up (V := mdV) (F := mdF) ⟨hok.1, hok.2⟩ 0 (hP.2.1 0)) 1 (hP.2.1 1)) 37 (hP.2.2 37))⟩
          replace p0_12 : z_12 = (prC (liF (f 21) a1) a1 (tgU (fun c t => evR (fun k => mcG ((f 9) k)) (f 10) (gFd (f 24) (f 25) (f 26) (f 27) (f 28) (f 29) (f 30) (f 31) (f 32) (f 33) (f 18) (f 19) (v 25) (v 26) a3 a1 t c) (v 13)) a2) (v 22).toNat) := p0_12
          replace p1_12 : 0 ≤ z_12 ∧ z_12 ≤ 256 := p1_12
          have hz_12 : inR z_12 := (by first | omega | (rw [p0_12]; split <;> omega))
          have hpo := p0_12
          clear p0_12
          exact g_iret hQ C hr hlocks hP hS dX11_parts_60 ⟨z_12, 0, a37_12, b1_12, b2_12, rfl, rfl, rfl, rfl, (by first | (rw [if_pos (by omega)]) | (rw [if_neg (by omega)]; exact hpo)), (by first | omega | ((repeat' split) <;> omega)), (by first | omega | ((repeat' split) <;> omega))⟩
        · have vz_10 := gif0 w_10 c_11
          clear w_10
          refine lv_aload_n hx hb dX11_parts_47 rfl (lv_at hl 0 rfl) ?_
          refine lv_iconst (v := iI 2) hx hb dX11_parts_48 rfl ?_
          refine g_cv (As := [.int (iI 2)]) (rest := []) (n := 1) C hml (m_X11_refuse l D k A ad hD (va_up (va_up v 0 0) 1 0) (va_up f 37 (f 37)) (va_up (va_up g 1 (g 1)) 2 (g 2)) 2 (by decide) (show 0 ≤ (2 : Int) ∧ (2 : Int) ≤ 10 from by omega)) mM_X11_295 mI_X11_refuse mE_X11_refuse mN_X11 mC_X11_refuse (by decide +kernel) 0 (ci := 11) rfl rfl hP hS (fun _ h => h) ⟨Nat.le_of_ble_eq_true rfl, Nat.le_of_ble_eq_true rfl⟩ ⟨Nat.zero_le _, Nat.zero_le _⟩ hl.1 rfl rfl (Nat.le_of_ble_eq_true rfl) dX11_parts_49 (fun r_13 v_13 f_13 g_13 H locs hq_13 hP _ hS => ?_)
          obtain ⟨rfl, rfl, rfl, rfl⟩ := hq_13
          show W p l e (gRm 4 113) s m args below meth c _ _ 0 0 Q (F0 m 52 ls [.int (iI (-1))])
          have hP : gWd D (mdT k ad) (va_up (va_up v 0 (2 : Int)) 1 0) (va_up f 37 (f 37)) (va_up (va_up g 1 (g 1)) 2 (g 2)) H := ⟨hP.1, (gF_up (V := mdV) (F := mdF) (gR_up (V := mdV) (F := mdF) (gR_up (V := mdV) (F := mdF) ⟨hok.1, hok.2⟩ 0 (hP.2.1 0)) 1 (hP.2.1 1)) 37 (hP.2.2 37))⟩
          exact g_iret hQ C hr hlocks hP hS dX11_parts_52 ⟨(-1), (2 : Int), (f 37), (g 1), (g 2), rfl, rfl, rfl, rfl, (by first | (rw [if_pos (by omega)]) | (rw [if_neg (by omega)]; exact hpo)), (by first | omega | ((repeat' split) <;> omega)), (by first | omega | ((repeat' split) <;> omega))⟩
  · have vz_2 := gif0 w_2 c_3
    clear w_2
    refine lv_aload_n hx hb dX11_parts_18 rfl (lv_at hl 0 rfl) ?_
    refine lv_iconst (v := iI 1) hx hb dX11_parts_19 rfl ?_
    refine g_cv (As := [.int (iI 1)]) (rest := []) (n := 1) C hml (m_X11_refuse l D k A ad hD (va_up (va_up v 0 0) 1 0) (va_up f 37 (f 37)) (va_up (va_up g 1 (g 1)) 2 (g 2)) 1 (by decide) (show 0 ≤ (1 : Int) ∧ (1 : Int) ≤ 10 from by omega)) mM_X11_295 mI_X11_refuse mE_X11_refuse mN_X11 mC_X11_refuse (by decide +kernel) 0 (ci := 11) rfl rfl hP hS (fun _ h => h) ⟨Nat.le_of_ble_eq_true rfl, Nat.le_of_ble_eq_true rfl⟩ ⟨Nat.zero_le _, Nat.zero_le _⟩ hl.1 rfl rfl (Nat.le_of_ble_eq_true rfl) dX11_parts_20 (fun r_14 v_14 f_14 g_14 H locs hq_14 hP _ hS => ?_)
    obtain ⟨rfl, rfl, rfl, rfl⟩ := hq_14
    show W p l e (gRm 4 113) s m args below meth c _ _ 0 0 Q (F0 m 23 ls [.int (iI (-1))])
    have hP : gWd D (mdT k ad) (va_up (va_up v 0 (1 : Int)) 1 0) (va_up f 37 (f 37)) (va_up (va_up g 1 (g 1)) 2 (g 2)) H := ⟨hP.1, (gF_up (V := mdV) (F := mdF) (gR_up (V := mdV) (F := mdF) (gR_up (V := mdV) (F := mdF) ⟨hok.1, hok.2⟩ 0 (hP.2.1 0)) 1 (hP.2.1 1)) 37 (hP.2.2 37))⟩
    exact g_iret hQ C hr hlocks hP hS dX11_parts_23 ⟨(-1), (1 : Int), (f 37), (g 1), (g 2), rfl, rfl, rfl, rfl, (by first | (rw [if_pos (by omega)]) | (rw [if_neg (by omega)]; exact hpo)), (by first | omega | ((repeat' split) <;> omega)), (by first | omega | ((repeat' split) <;> omega))⟩

set_option maxHeartbeats 4000000 in
set_option maxRecDepth 100000 in
theorem y_choose (l : Launch) (D : va_G) (k : Nat → ClassId) (A : Nat → Prop) (ad : Nat → Nat) (hD : mdD A k ad) (v : gV) (f g : gF) (a1 : Int) (a2 : Int) (a3 : Int) (h_a1 : inR a1) (h_a2 : inR a2) (h_a3 : inR a3) (hrp : 0 < (v 12) → rpOk (v 13) (f 9)) : GM l D k A (mdT k ad) yX11_choose cX11_choose 8 (some .int) 4 113 [.ref (ad 0), .int (iI a1), .int (iI a2), .int (iI a3)] v f g (fun r v1 f1 g1 => ∃ (z : Int) (w0 : Int) (a37_ : Int → Int) (b1_ : Int → Int) (b2_ : Int → Int), r = some (.int (iI z)) ∧ (va_up (va_up v 0 w0) 1 0) = v1 ∧ (va_up f 37 a37_) = f1 ∧ (va_up (va_up g 1 b1_) 2 b2_) = g1 ∧ (z = (if w0 ≠ 0 then (-1) else (bsF (fun s => prC (liF (f 21) a1) a1 (tgU (fun c t => evR (fun k => mcG ((f 9) k)) (f 10) (gFd (f 24) (f 25) (f 26) (f 27) (f 28) (f 29) (f 30) (f 31) (f 32) (f 33) (f 18) (f 19) (v 25) (v 26) a3 a1 t c) (v 13)) s) (v 22).toNat) bcI a2 (pw2 ((f 1) a1)).toNat).1)) ∧ ((-1) ≤ z ∧ z ≤ 31) ∧ (w0 = (if ¬ (0 ≤ a1 ∧ a1 < (v 12)) then 1 else if a2 < 1 ∨ (f 1) a1 < a2 ∨ ¬ (0 ≤ a3 ∧ a3 ≤ 999) then 2 else 0))) := by
  refine GM.of (by decide) (Nat.le_of_ble_eq_true rfl) ?_
  intro p e s m args below meth c Q ls hQ C hml hr hlocks hP hl
  have hx := C.1
  have hb := C.2.1
  have hok := hP.2
  have hS : va_S A s.heap s.heap [] := va_S.rf
  have hl : lv_has ls 8 [(0, .ref (ad 0)), (1, .int (iI a1)), (2, .int (iI a2)), (3, .int (iI a3))] := hl
  have hP : gWd D (mdT k ad) (va_up (va_up v 0 (v 0)) 1 (v 1)) (va_up f 37 (f 37)) (va_up (va_up g 1 (g 1)) 2 (g 2)) s.heap := by rw [va_id, va_id, va_id, va_id, va_id]; exact hP
  have hp2 := pw2_r ((f 1) a1)
  have r_1 : 0 ≤ (v 12) ∧ (v 12) ≤ 4 := hok.1 12
  refine lv_aload_n hx hb dX11_choose_0 rfl (lv_at hl 0 rfl) ?_
  refine lv_iconst (v := iI 0) hx hb dX11_choose_1 rfl ?_
  refine mdP_thrown (v1 := (va_up (va_up v 0 (v 0)) 1 0)) C hP hD hS mF_X11_146 (by decide) rfl (Or.inr (gF_up (V := mdV) (F := mdF) (gR_up (V := mdV) (F := mdF) (gR_up (V := mdV) (F := mdF) ⟨hok.1, hok.2⟩ 0 (hP.2.1 0)) 1 (show 0 ≤ 0 ∧ 0 ≤ 0 from by decide)) 37 (hP.2.2 37))) dX11_choose_2 (fun H locs hP hS => ?_)
  refine lv_aload_n hx hb dX11_choose_5 rfl (lv_at hl 0 rfl) ?_
  refine lv_iconst (v := iI 0) hx hb dX11_choose_6 rfl ?_
  refine mdP_status (v1 := (va_up (va_up v 0 0) 1 0)) C hP hD hS mF_X11_149 (by decide) rfl (Or.inr (gF_up (V := mdV) (F := mdF) (gR_up (V := mdV) (F := mdF) (gR_up (V := mdV) (F := mdF) ⟨hok.1, hok.2⟩ 0 (show 0 ≤ 0 ∧ 0 ≤ 10 from by decide)) 1 (hP.2.1 1)) 37 (hP.2.2 37))) dX11_choose_7 (fun H locs hP hS => ?_)
  refine lv_aload_n hx hb dX11_choose_10 rfl (lv_at hl 0 rfl) ?_
  refine lv_iload_n hx hb dX11_choose_11 rfl (lv_at hl 1 rfl) ?_
  refine g_cv (As := [.int (iI a1)]) (rest := []) (n := 1) C hml (m_X11_isRound l D k A ad hD (va_up (va_up v 0 0) 1 0) (va_up f 37 (f 37)) (va_up (va_up g 1 (g 1)) 2 (g 2)) a1 (by omega)) mM_X11_325 mI_X11_isRound mE_X11_isRound mN_X11 mC_X11_isRound (by decide +kernel) 0 (ci := 11) rfl rfl hP hS (fun _ h => h) ⟨Nat.le_of_ble_eq_true rfl, Nat.le_of_ble_eq_true rfl⟩ ⟨Nat.zero_le _, Nat.zero_le _⟩ hl.1 rfl rfl (Nat.le_of_ble_eq_true rfl) dX11_choose_12 (fun r_2 v_2 f_2 g_2 H locs hq_2 hP _ hS => ?_)
  obtain ⟨z_2, rfl, rfl, rfl, rfl, p0_2⟩ := hq_2
  show W p l e (gRm 4 113) s m args below meth c _ _ 0 0 Q (F0 m 15 ls [.int (iI z_2)])
  replace p0_2 : z_2 = (if 0 ≤ a1 ∧ a1 < (v 12) then 1 else 0) := p0_2
  have w_2 := gif (P := 0 ≤ a1 ∧ a1 < (v 12)) p0_2
  clear p0_2
  have hz_2 : inR z_2 := (by first | omega | (rw [p0_2]; split <;> omega))
  refine gi_zne (tgt := 24) hx hb dX11_choose_15 (by decide) (by omega) (fun c_3 => ?_) (fun c_3 => ?_)
  · have vz_2 := gif1 w_2 c_3
    have voz_2 := gif1o w_2 c_3
    clear w_2
    refine lv_iload_n hx hb dX11_choose_24 rfl (lv_at hl 2 rfl) ?_
    refine lv_iconst (v := iI 1) hx hb dX11_choose_25 rfl ?_
    refine gi_clt (tgt := 46) hx hb dX11_choose_26 (by decide) (by omega) (by decide) (fun c_4 => ?_) (fun c_4 => ?_)
    · refine lv_aload_n hx hb dX11_choose_46 rfl (lv_at hl 0 rfl) ?_
      refine lv_iconst (v := iI 2) hx hb dX11_choose_47 rfl ?_
      refine g_cv (As := [.int (iI 2)]) (rest := []) (n := 1) C hml (m_X11_refuse l D k A ad hD (va_up (va_up v 0 0) 1 0) (va_up f 37 (f 37)) (va_up (va_up g 1 (g 1)) 2 (g 2)) 2 (by decide) (show 0 ≤ (2 : Int) ∧ (2 : Int) ≤ 10 from by omega)) mM_X11_295 mI_X11_refuse mE_X11_refuse mN_X11 mC_X11_refuse (by decide +kernel) 0 (ci := 11) rfl rfl hP hS (fun _ h => h) ⟨Nat.le_of_ble_eq_true rfl, Nat.le_of_ble_eq_true rfl⟩ ⟨Nat.zero_le _, Nat.zero_le _⟩ hl.1 rfl rfl (Nat.le_of_ble_eq_true rfl) dX11_choose_48 (fun r_5 v_5 f_5 g_5 H locs hq_5 hP _ hS => ?_)
      obtain ⟨rfl, rfl, rfl, rfl⟩ := hq_5
      show W p l e (gRm 4 113) s m args below meth c _ _ 0 0 Q (F0 m 51 ls [.int (iI (-1))])
      have hP : gWd D (mdT k ad) (va_up (va_up v 0 (2 : Int)) 1 0) (va_up f 37 (f 37)) (va_up (va_up g 1 (g 1)) 2 (g 2)) H := ⟨hP.1, (gF_up (V := mdV) (F := mdF) (gR_up (V := mdV) (F := mdF) (gR_up (V := mdV) (F := mdF) ⟨hok.1, hok.2⟩ 0 (hP.2.1 0)) 1 (hP.2.1 1)) 37 (hP.2.2 37))⟩
      exact g_iret hQ C hr hlocks hP hS dX11_choose_51 ⟨(-1), (2 : Int), (f 37), (g 1), (g 2), rfl, rfl, rfl, rfl, (by first | (rw [if_pos (by omega)]) | (rw [if_neg (by omega), show pw2 ((f 1) a1) = x6 by omega, hI])), (by first | omega | ((repeat' split) <;> omega)), (by first | omega | ((repeat' split) <;> omega))⟩
    · refine lv_iload_n hx hb dX11_choose_29 rfl (lv_at hl 2 rfl) ?_
      refine lv_aload_n hx hb dX11_choose_30 rfl (lv_at hl 0 rfl) ?_
      refine mdG_routes C hP mF_X11_20 dX11_choose_31 ?_
      refine lv_iload_n hx hb dX11_choose_34 rfl (lv_at hl 1 rfl) ?_
      refine mdL_routes C hP (by omega) (by omega) dX11_choose_35 ?_
      show W p l e (gRm 4 113) s m args below meth c _ _ 0 0 Q (F0 m 36 ls [.int (iI (f 1 a1)), .int (iI a2)])
      have r_6 : 0 ≤ (f 1 a1) ∧ (f 1 a1) ≤ 5 := hP.2.2 1 a1
      refine gi_cgt (tgt := 46) hx hb dX11_choose_36 (by decide) (by omega) (by omega) (fun c_7 => ?_) (fun c_7 => ?_)
      · refine lv_aload_n hx hb dX11_choose_46 rfl (lv_at hl 0 rfl) ?_
        refine lv_iconst (v := iI 2) hx hb dX11_choose_47 rfl ?_
        refine g_cv (As := [.int (iI 2)]) (rest := []) (n := 1) C hml (m_X11_refuse l D k A ad hD (va_up (va_up v 0 0) 1 0) (va_up f 37 (f 37)) (va_up (va_up g 1 (g 1)) 2 (g 2)) 2 (by decide) (show 0 ≤ (2 : Int) ∧ (2 : Int) ≤ 10 from by omega)) mM_X11_295 mI_X11_refuse mE_X11_refuse mN_X11 mC_X11_refuse (by decide +kernel) 0 (ci := 11) rfl rfl hP hS (fun _ h => h) ⟨Nat.le_of_ble_eq_true rfl, Nat.le_of_ble_eq_true rfl⟩ ⟨Nat.zero_le _, Nat.zero_le _⟩ hl.1 rfl rfl (Nat.le_of_ble_eq_true rfl) dX11_choose_48 (fun r_8 v_8 f_8 g_8 H locs hq_8 hP _ hS => ?_)
        obtain ⟨rfl, rfl, rfl, rfl⟩ := hq_8
        show W p l e (gRm 4 113) s m args below meth c _ _ 0 0 Q (F0 m 51 ls [.int (iI (-1))])
        have hP : gWd D (mdT k ad) (va_up (va_up v 0 (2 : Int)) 1 0) (va_up f 37 (f 37)) (va_up (va_up g 1 (g 1)) 2 (g 2)) H := ⟨hP.1, (gF_up (V := mdV) (F := mdF) (gR_up (V := mdV) (F := mdF) (gR_up (V := mdV) (F := mdF) ⟨hok.1, hok.2⟩ 0 (hP.2.1 0)) 1 (hP.2.1 1)) 37 (hP.2.2 37))⟩
        exact g_iret hQ C hr hlocks hP hS dX11_choose_51 ⟨(-1), (2 : Int), (f 37), (g 1), (g 2), rfl, rfl, rfl, rfl, (by first | (rw [if_pos (by omega)]) | (rw [if_neg (by omega), show pw2 ((f 1) a1) = x6 by omega, hI])), (by first | omega | ((repeat' split) <;> omega)), (by first | omega | ((repeat' split) <;> omega))⟩
      · refine lv_iload_n hx hb dX11_choose_39 rfl (lv_at hl 3 rfl) ?_
        refine g_cs (As := [.int (iI a3)]) (rest := []) (n := 1) C hml (m_X11_isDay l D k A ad hD (va_up (va_up v 0 0) 1 0) (va_up f 37 (f 37)) (va_up (va_up g 1 (g 1)) 2 (g 2)) a3 (by omega)) mM_X11_364 mS_X11_isDay mN_X11 mC_X11_isDay (by decide +kernel) hP hS (fun _ h => h) ⟨Nat.le_of_ble_eq_true rfl, Nat.le_of_ble_eq_true rfl⟩ ⟨Nat.zero_le _, Nat.zero_le _⟩ hl.1 rfl rfl (Nat.le_of_ble_eq_true rfl) dX11_choose_40 (fun r_9 v_9 f_9 g_9 H locs hq_9 hP _ hS => ?_)
        obtain ⟨z_9, rfl, rfl, rfl, rfl, p0_9⟩ := hq_9
        show W p l e (gRm 4 113) s m args below meth c _ _ 0 0 Q (F0 m 43 ls [.int (iI z_9)])
        replace p0_9 : z_9 = (if 0 ≤ a3 ∧ a3 ≤ 999 then 1 else 0) := p0_9
        have w_9 := gif (P := 0 ≤ a3 ∧ a3 ≤ 999) p0_9
        clear p0_9
        have hz_9 : inR z_9 := (by first | omega | (rw [p0_9]; split <;> omega))
        refine gi_zne (tgt := 52) hx hb dX11_choose_43 (by decide) (by omega) (fun c_10 => ?_) (fun c_10 => ?_)
        · have vz_9 := gif1 w_9 c_10
          have voz_9 := gif1o w_9 c_10
          clear w_9
          refine lv_iconst (v := iI (-1)) hx hb dX11_choose_52 rfl ?_
          refine lv_istore (lv' := [(4, .int (iI (-1))), (0, .ref (ad 0)), (1, .int (iI a1)), (2, .int (iI a2)), (3, .int (iI a3))]) hx hb dX11_choose_53 hl (by decide) rfl (fun ls hl => ?_)
          refine lv_iconst (v := iI (-1)) hx hb dX11_choose_55 rfl ?_
          refine lv_istore (lv' := [(5, .int (iI (-1))), (4, .int (iI (-1))), (0, .ref (ad 0)), (1, .int (iI a1)), (2, .int (iI a2)), (3, .int (iI a3))]) hx hb dX11_choose_56 hl (by decide) rfl (fun ls hl => ?_)
          refine lv_iconst (v := iI 0) hx hb dX11_choose_58 rfl ?_
          refine lv_istore (lv' := [(6, .int (iI 0)), (5, .int (iI (-1))), (4, .int (iI (-1))), (0, .ref (ad 0)), (1, .int (iI a1)), (2, .int (iI a2)), (3, .int (iI a3))]) hx hb dX11_choose_59 hl (by decide) rfl (fun ls hl => ?_)
          have L_11 : ∀ (n : Nat) (x4 : Int) (x5 : Int) (x6 : Int) (c37_11 : Int → Int) (d1_11 : Int → Int) (d2_11 : Int → Int) (H : Heap) (locs : List Loc) (ls : Array Slot), 32 - x6 < (n : Int) → (0 ≤ x6 ∧ x6 ≤ 32 ∧ x6 ≤ pw2 ((f 1) a1)) → ((-1) ≤ x4 ∧ x4 ≤ 31) → ((-1) ≤ x5 ∧ x5 ≤ 256) → ((bsF (fun s => prC (liF (f 21) a1) a1 (tgU (fun c t => evR (fun k => mcG ((f 9) k)) (f 10) (gFd (f 24) (f 25) (f 26) (f 27) (f 28) (f 29) (f 30) (f 31) (f 32) (f 33) (f 18) (f 19) (v 25) (v 26) a3 a1 t c) (v 13)) s) (v 22).toNat) bcI a2 x6.toNat) = (x4, x5)) → gWd D (mdT k ad) (va_up (va_up v 0 0) 1 0) (va_up f 37 c37_11) (va_up (va_up g 1 d1_11) 2 d2_11) H → va_S A s.heap H locs → lv_has ls 8 [(0, .ref (ad 0)), (1, .int (iI a1)), (2, .int (iI a2)), (3, .int (iI a3)), (4, .int (iI x4)), (5, .int (iI x5)), (6, .int (iI x6))] → W p l e (gRm 4 113) s m args below meth c H locs 0 0 Q (F0 m 61 ls []) := by
            intro n
            induction n with
            | zero =>
              intro x4 x5 x6 c37_11 d1_11 d2_11 H locs ls hn_11 i11_0 i11_1 i11_2 i11_3 hP hS hl
              exfalso; omega
            | succ n ih_61 =>
              intro x4 x5 x6 c37_11 d1_11 d2_11 H locs ls hn_11 i11_0 i11_1 i11_2 i11_3 hP hS hl
              have hI := i11_3
              refine lv_iload hx hb dX11_choose_61 (lv_at hl 6 rfl) ?_
              refine lv_iconst (v := iI 1) hx hb dX11_choose_63 rfl ?_
              refine lv_aload_n hx hb dX11_choose_64 rfl (lv_at hl 0 rfl) ?_
              refine mdG_routes C hP mF_X11_20 dX11_choose_65 ?_
              refine lv_iload_n hx hb dX11_choose_68 rfl (lv_at hl 1 rfl) ?_
              refine mdL_routes C hP (by omega) (by omega) dX11_choose_69 ?_
              show W p l e (gRm 4 113) s m args below meth c _ _ 0 0 Q (F0 m 70 ls [.int (iI (f 1 a1)), .int (iI 1), .int (iI x6)])
              have q_12 := pw2_r (f 1 a1)
              refine gi_shl (z := (pw2 (f 1 a1))) hx hb dX11_choose_70 (gShlE (f 1 a1) (by omega)) ?_
              refine gi_cge (tgt := 120) hx hb dX11_choose_71 (by decide) (by omega) (by omega) (fun c_13 => ?_) (fun c_13 => ?_)
              · refine lv_iload hx hb dX11_choose_120 (lv_at hl 4 rfl) ?_
                exact g_iret hQ C hr hlocks hP hS dX11_choose_122 ⟨x4, 0, c37_11, d1_11, d2_11, rfl, rfl, rfl, rfl, (by first | (rw [if_pos (by omega)]) | (rw [if_neg (by omega), show pw2 ((f 1) a1) = x6 by omega, hI])), (by first | omega | ((repeat' split) <;> omega)), (by first | omega | ((repeat' split) <;> omega))⟩
              · refine lv_iload hx hb dX11_choose_74 (lv_at hl 6 rfl) ?_
                refine g_cs (As := [.int (iI x6)]) (rest := []) (n := 1) C hml (y_bitCount l D k A ad hD (va_up (va_up v 0 0) 1 0) (va_up f 37 c37_11) (va_up (va_up g 1 d1_11) 2 d2_11) x6 (by omega)) mM_X11_408 mS_J6_bitCount_0f7a4 mN_J6 mC_J6_bitCount_0f7a4 (by decide +kernel) hP hS (fun _ h => h) ⟨Nat.le_of_ble_eq_true rfl, Nat.le_of_ble_eq_true rfl⟩ ⟨Nat.zero_le _, Nat.zero_le _⟩ hl.1 rfl rfl (Nat.le_of_ble_eq_true rfl) dX11_choose_76 (fun r_14 v_14 f_14 g_14 H locs hq_14 hP _ hS => ?_)
                obtain ⟨z_14, rfl, rfl, rfl, rfl, p0_14, p1_14⟩ := hq_14
                show W p l e (gRm 4 113) s m args below meth c _ _ 0 0 Q (F0 m 79 ls [.int (iI z_14)])
                replace p0_14 : z_14 = (bcI x6) := p0_14
                replace p1_14 : (-2147483648) ≤ z_14 ∧ z_14 ≤ 2147483647 := p1_14
                have hz_14 : inR z_14 := (by first | omega | (rw [p0_14]; split <;> omega))
                refine lv_iload_n hx hb dX11_choose_79 rfl (lv_at hl 2 rfl) ?_
                refine gi_ceq (tgt := 86) hx hb dX11_choose_80 (by decide) (by omega) (by omega) (fun c_15 => ?_) (fun c_15 => ?_)
                · refine lv_aload_n hx hb dX11_choose_86 rfl (lv_at hl 0 rfl) ?_
                  refine lv_iload_n hx hb dX11_choose_87 rfl (lv_at hl 1 rfl) ?_
                  refine lv_iload hx hb dX11_choose_88 (lv_at hl 6 rfl) ?_
                  refine lv_iload_n hx hb dX11_choose_90 rfl (lv_at hl 3 rfl) ?_
                  refine g_cv (As := [.int (iI a1), .int (iI x6), .int (iI a3)]) (rest := []) (n := 3) C hml (y_partsOf l D k A ad hD (va_up (va_up v 0 0) 1 0) (va_up f 37 c37_11) (va_up (va_up g 1 d1_11) 2 d2_11) a1 x6 a3 (by omega) (by omega) (by omega) (show rpOk (v 13) (f 9) from hrp (by omega)) (show 0 ≤ a1 ∧ a1 ≤ 3 from by omega) (show 0 ≤ x6 ∧ x6 < pw2 ((f 1) a1) from by omega)) mM_X11_405 mI_X11_partsOf mE_X11_partsOf mN_X11 mC_X11_partsOf (by decide +kernel) 0 (ci := 11) rfl rfl hP hS (fun _ h => h) ⟨Nat.le_of_ble_eq_true rfl, Nat.le_of_ble_eq_true rfl⟩ ⟨Nat.zero_le _, Nat.zero_le _⟩ hl.1 rfl rfl (Nat.le_of_ble_eq_true rfl) dX11_choose_91 (fun r_16 v_16 f_16 g_16 H locs hq_16 hP _ hS => ?_)
                  obtain ⟨z_16, a37_16, b1_16, b2_16, rfl, rfl, rfl, rfl, p0_16, p1_16⟩ := hq_16
                  show W p l e (gRm 4 113) s m args below meth c _ _ 0 0 Q (F0 m 94 ls [.int (iI z_16)])
                  have hP : gWd D (mdT k ad) (va_up (va_up v 0 0) 1 0) (va_up f 37 a37_16) (va_up (va_up g 1 b1_16) 2 b2_16) H := ⟨hP.1, (gF_up (V := mdV) (F := mdF) (gR_up (V := mdV) (F := mdF) (gR_up (V := mdV) (F := mdF) ⟨hok.1, hok.2⟩ 0 (hP.2.1 0)) 1 (hP.2.1 1)) 37 (hP.2.2 37))⟩
                  replace p0_16 : z_16 = (prC (liF (f 21) a1) a1 (tgU (fun c t => evR (fun k => mcG ((f 9) k)) (f 10) (gFd (f 24) (f 25) (f 26) (f 27) (f 28) (f 29) (f 30) (f 31) (f 32) (f 33) (f 18) (f 19) (v 25) (v 26) a3 a1 t c) (v 13)) x6) (v 22).toNat) := p0_16
                  replace p1_16 : 0 ≤ z_16 ∧ z_16 ≤ 256 := p1_16
                  have hz_16 : inR z_16 := (by first | omega | (rw [p0_16]; split <;> omega))
                  have hpo := p0_16
                  clear p0_16
                  refine lv_istore (lv' := [(7, .int (iI z_16)), (0, .ref (ad 0)), (1, .int (iI a1)), (2, .int (iI a2)), (3, .int (iI a3)), (4, .int (iI x4)), (5, .int (iI x5)), (6, .int (iI x6))]) hx hb dX11_choose_94 hl (by decide) rfl (fun ls hl => ?_)
                  refine lv_iload hx hb dX11_choose_96 (lv_at hl 0 rfl) ?_
                  refine lv_iload hx hb dX11_choose_98 (lv_at hl 6 rfl) ?_
                  refine gi_cgt (tgt := 106) hx hb dX11_choose_100 (by decide) (by omega) (by omega) (fun c_17 => ?_) (fun c_17 => ?_)
                  · refine lv_iload hx hb dX11_choose_106 (lv_at hl 0 rfl) ?_
                    refine lv_istore (lv' := [(5, .int (iI z_16)), (7, .int (iI z_16)), (0, .ref (ad 0)), (1, .int (iI a1)), (2, .int (iI a2)), (3, .int (iI a3)), (4, .int (iI x4)), (6, .int (iI x6))]) hx hb dX11_choose_108 hl (by decide) rfl (fun ls hl => ?_)
                    refine lv_iload hx hb dX11_choose_110 (lv_at hl 7 rfl) ?_
                    refine lv_istore (lv' := [(4, .int (iI x6)), (5, .int (iI z_16)), (7, .int (iI z_16)), (0, .ref (ad 0)), (1, .int (iI a1)), (2, .int (iI a2)), (3, .int (iI a3)), (6, .int (iI x6))]) hx hb dX11_choose_112 hl (by decide) rfl (fun ls hl => ?_)
                    refine lv_iinc (v := iI (x6 + 1)) (lv' := [(6, .int (iI (x6 + 1))), (4, .int (iI x6)), (5, .int (iI z_16)), (7, .int (iI z_16)), (0, .ref (ad 0)), (1, .int (iI a1)), (2, .int (iI a2)), (3, .int (iI a3))]) hx hb dX11_choose_114 hl (k := 7) rfl (by show iI _ + iI 1 = _; rw [iI_add]) (by decide) rfl (fun ls hl => ?_)
                    refine lv_goto (tgt := 61) hx hb dX11_choose_117 (by decide) ?_
                    exact ih_61 x6 z_16 (x6 + 1) a37_16 b1_16 b2_16 _ _ _ (by omega) (by omega) (by omega) (by omega) (by rw [bsF_s (by omega), hI]; first | (rw [if_pos ⟨by omega, by show _ < prC _ _ _ _; rw [← hpo]; show x5 < _; omega⟩]; rw [hpo]) | (rw [if_neg (fun h => by have h1 := h.1; first | omega | (have h2 : _ < prC _ _ _ _ := h.2; rw [← hpo] at h2; have h2 : x5 < _ := h2; omega))])) hP hS (lv_sub hl [4, 5, 6, 7, 1, 2, 0] rfl)
                  · refine lv_goto (tgt := 114) hx hb dX11_choose_103 (by decide) ?_
                    refine lv_iinc (v := iI (x6 + 1)) (lv' := [(6, .int (iI (x6 + 1))), (7, .int (iI z_16)), (0, .ref (ad 0)), (1, .int (iI a1)), (2, .int (iI a2)), (3, .int (iI a3)), (4, .int (iI x4)), (5, .int (iI x5))]) hx hb dX11_choose_114 hl (k := 7) rfl (by show iI _ + iI 1 = _; rw [iI_add]) (by decide) rfl (fun ls hl => ?_)
                    refine lv_goto (tgt := 61) hx hb dX11_choose_117 (by decide) ?_
                    exact ih_61 x4 x5 (x6 + 1) a37_16 b1_16 b2_16 _ _ _ (by omega) (by omega) (by omega) (by omega) (by rw [bsF_s (by omega), hI]; first | (rw [if_pos ⟨by omega, by show _ < prC _ _ _ _; rw [← hpo]; show x5 < _; omega⟩]; rw [hpo]) | (rw [if_neg (fun h => by have h1 := h.1; first | omega | (have h2 : _ < prC _ _ _ _ := h.2; rw [← hpo] at h2; have h2 : x5 < _ := h2; omega))])) hP hS (lv_sub hl [2, 3, 4, 5, 6, 7, 0] rfl)
                · refine lv_goto (tgt := 114) hx hb dX11_choose_83 (by decide) ?_
                  refine lv_iinc (v := iI (x6 + 1)) (lv' := [(6, .int (iI (x6 + 1))), (0, .ref (ad 0)), (1, .int (iI a1)), (2, .int (iI a2)), (3, .int (iI a3)), (4, .int (iI x4)), (5, .int (iI x5))]) hx hb dX11_choose_114 hl (k := 6) rfl (by show iI _ + iI 1 = _; rw [iI_add]) (by decide) rfl (fun ls hl => ?_)
                  refine lv_goto (tgt := 61) hx hb dX11_choose_117 (by decide) ?_
                  exact ih_61 x4 x5 (x6 + 1) c37_11 d1_11 d2_11 _ _ _ (by omega) (by omega) (by omega) (by omega) (by rw [bsF_s (by omega), hI]; first | (rw [if_pos ⟨by omega, by show _ < prC _ _ _ _; rw [← hpo]; show x5 < _; omega⟩]; rw [hpo]) | (rw [if_neg (fun h => by have h1 := h.1; first | omega | (have h2 : _ < prC _ _ _ _ := h.2; rw [← hpo] at h2; have h2 : x5 < _ := h2; omega))])) hP hS (lv_sub hl [1, 2, 3, 4, 5, 6, 0] rfl)
          exact L_11 33 (-1) (-1) 0 (f 37) (g 1) (g 2) _ _ _ (by omega) (by omega) (by omega) (by omega) rfl hP hS (lv_sub hl [3, 4, 5, 6, 2, 1, 0] rfl)
        · have vz_9 := gif0 w_9 c_10
          clear w_9
          refine lv_aload_n hx hb dX11_choose_46 rfl (lv_at hl 0 rfl) ?_
          refine lv_iconst (v := iI 2) hx hb dX11_choose_47 rfl ?_
          refine g_cv (As := [.int (iI 2)]) (rest := []) (n := 1) C hml (m_X11_refuse l D k A ad hD (va_up (va_up v 0 0) 1 0) (va_up f 37 (f 37)) (va_up (va_up g 1 (g 1)) 2 (g 2)) 2 (by decide) (show 0 ≤ (2 : Int) ∧ (2 : Int) ≤ 10 from by omega)) mM_X11_295 mI_X11_refuse mE_X11_refuse mN_X11 mC_X11_refuse (by decide +kernel) 0 (ci := 11) rfl rfl hP hS (fun _ h => h) ⟨Nat.le_of_ble_eq_true rfl, Nat.le_of_ble_eq_true rfl⟩ ⟨Nat.zero_le _, Nat.zero_le _⟩ hl.1 rfl rfl (Nat.le_of_ble_eq_true rfl) dX11_choose_48 (fun r_18 v_18 f_18 g_18 H locs hq_18 hP _ hS => ?_)
          obtain ⟨rfl, rfl, rfl, rfl⟩ := hq_18
          show W p l e (gRm 4 113) s m args below meth c _ _ 0 0 Q (F0 m 51 ls [.int (iI (-1))])
          have hP : gWd D (mdT k ad) (va_up (va_up v 0 (2 : Int)) 1 0) (va_up f 37 (f 37)) (va_up (va_up g 1 (g 1)) 2 (g 2)) H := ⟨hP.1, (gF_up (V := mdV) (F := mdF) (gR_up (V := mdV) (F := mdF) (gR_up (V := mdV) (F := mdF) ⟨hok.1, hok.2⟩ 0 (hP.2.1 0)) 1 (hP.2.1 1)) 37 (hP.2.2 37))⟩
          exact g_iret hQ C hr hlocks hP hS dX11_choose_51 ⟨(-1), (2 : Int), (f 37), (g 1), (g 2), rfl, rfl, rfl, rfl, (by first | (rw [if_pos (by omega)]) | (rw [if_neg (by omega), show pw2 ((f 1) a1) = x6 by omega, hI])), (by first | omega | ((repeat' split) <;> omega)), (by first | omega | ((repeat' split) <;> omega))⟩
  · have vz_2 := gif0 w_2 c_3
    clear w_2
    refine lv_aload_n hx hb dX11_choose_18 rfl (lv_at hl 0 rfl) ?_
    refine lv_iconst (v := iI 1) hx hb dX11_choose_19 rfl ?_
    refine g_cv (As := [.int (iI 1)]) (rest := []) (n := 1) C hml (m_X11_refuse l D k A ad hD (va_up (va_up v 0 0) 1 0) (va_up f 37 (f 37)) (va_up (va_up g 1 (g 1)) 2 (g 2)) 1 (by decide) (show 0 ≤ (1 : Int) ∧ (1 : Int) ≤ 10 from by omega)) mM_X11_295 mI_X11_refuse mE_X11_refuse mN_X11 mC_X11_refuse (by decide +kernel) 0 (ci := 11) rfl rfl hP hS (fun _ h => h) ⟨Nat.le_of_ble_eq_true rfl, Nat.le_of_ble_eq_true rfl⟩ ⟨Nat.zero_le _, Nat.zero_le _⟩ hl.1 rfl rfl (Nat.le_of_ble_eq_true rfl) dX11_choose_20 (fun r_19 v_19 f_19 g_19 H locs hq_19 hP _ hS => ?_)
    obtain ⟨rfl, rfl, rfl, rfl⟩ := hq_19
    show W p l e (gRm 4 113) s m args below meth c _ _ 0 0 Q (F0 m 23 ls [.int (iI (-1))])
    have hP : gWd D (mdT k ad) (va_up (va_up v 0 (1 : Int)) 1 0) (va_up f 37 (f 37)) (va_up (va_up g 1 (g 1)) 2 (g 2)) H := ⟨hP.1, (gF_up (V := mdV) (F := mdF) (gR_up (V := mdV) (F := mdF) (gR_up (V := mdV) (F := mdF) ⟨hok.1, hok.2⟩ 0 (hP.2.1 0)) 1 (hP.2.1 1)) 37 (hP.2.2 37))⟩
    exact g_iret hQ C hr hlocks hP hS dX11_choose_23 ⟨(-1), (1 : Int), (f 37), (g 1), (g 2), rfl, rfl, rfl, rfl, (by first | (rw [if_pos (by omega)]) | (rw [if_neg (by omega), show pw2 ((f 1) a1) = x6 by omega, hI])), (by first | omega | ((repeat' split) <;> omega)), (by first | omega | ((repeat' split) <;> omega))⟩

set_option maxHeartbeats 4000000 in
set_option maxRecDepth 100000 in
theorem y_advance (l : Launch) (D : va_G) (k : Nat → ClassId) (A : Nat → Prop) (ad : Nat → Nat) (hD : mdD A k ad) (v : gV) (f g : gF) (a1 : Int) (a2 : Int) (on : Int → Int) (h_a1 : inR a1) (h_a2 : inR a2) (hrp : 0 < (v 12) → rpOk (v 13) (f 9)) (hO : OI (v 25) (f 24) (f 30) on) : GM l D k A (mdT k ad) yX11_advance cX11_advance 7 (some .int) 6 172 [.ref (ad 0), .int (iI a1), .int (iI a2)] v f g (fun r v1 f1 g1 => ∃ (z : Int) (w0 : Int) (a37_ : Int → Int) (a38_ : Int → Int) (a22_ : Int → Int) (a34_ : Int → Int) (b1_ : Int → Int), r = some (.int (iI z)) ∧ (va_up (va_up (va_up v 0 w0) 1 0) 23 (if w0 = 0 then (v 23) + 1 else (v 23))) = v1 ∧ (va_up (va_up (va_up (va_up (va_up (va_up f 37 a37_) 38 a38_) 21 (if w0 = 0 then aiP (f 21) (pAv (rkF (kvF (fun k => mcG ((f 9) k)) (f 10) (f 13) (f 1) (v 13) (gFd (f 24) (f 25) (f 26) (f 27) (f 28) (f 29) (f 30) (f 31) (f 32) (f 33) (f 18) (f 19) (v 25) (v 26) a2)) (fun k => 1 - (f 15) k) (v 14) (v 18) (liF (f 21) (v 23)) (v 22) (v 23)) a1) ((v 23) + 1) (v 22) else (f 21))) 22 a22_) 23 (if w0 = 0 then u1 (f 23) ((v 23) + 1) (cn (pAv (rkF (kvF (fun k => mcG ((f 9) k)) (f 10) (f 13) (f 1) (v 13) (gFd (f 24) (f 25) (f 26) (f 27) (f 28) (f 29) (f 30) (f 31) (f 32) (f 33) (f 18) (f 19) (v 25) (v 26) a2)) (fun k => 1 - (f 15) k) (v 14) (v 18) (liF (f 21) (v 23)) (v 22) (v 23)) a1) (v 22).toNat) else (f 23))) 34 a34_) = f1 ∧ (va_up g 1 b1_) = g1 ∧ (z = (if w0 ≠ 0 then (-1) else cn (pAv (rkF (kvF (fun k => mcG ((f 9) k)) (f 10) (f 13) (f 1) (v 13) (gFd (f 24) (f 25) (f 26) (f 27) (f 28) (f 29) (f 30) (f 31) (f 32) (f 33) (f 18) (f 19) (v 25) (v 26) a2)) (fun k => 1 - (f 15) k) (v 14) (v 18) (liF (f 21) (v 23)) (v 22) (v 23)) a1) (v 22).toNat)) ∧ ((-1) ≤ z ∧ z ≤ 16) ∧ (w0 = (if a1 < 1 ∨ 16 < a1 ∨ ¬ (0 ≤ a2 ∧ a2 ≤ 999) then 2 else if 1 ≤ cn (pOn on) (v 22).toNat then 5 else if (v 23) < 0 ∨ (v 12) ≤ (v 23) + 1 then 10 else 0)) ∧ (∀ c, 0 ≤ c → c < (v 22) → a34_ c = (if w0 = 0 then 0 else (f 34) c))) := by
  refine GM.of (by decide) (Nat.le_of_ble_eq_true rfl) ?_
  intro p e s m args below meth c Q ls hQ C hml hr hlocks hP hl
  have hx := C.1
  have hb := C.2.1
  have hok := hP.2
  have hS : va_S A s.heap s.heap [] := va_S.rf
  have hl : lv_has ls 7 [(0, .ref (ad 0)), (1, .int (iI a1)), (2, .int (iI a2))] := hl
  have hP : gWd D (mdT k ad) (va_up (va_up (va_up v 0 (v 0)) 1 (v 1)) 23 (v 23)) (va_up (va_up (va_up (va_up (va_up (va_up f 37 (f 37)) 38 (f 38)) 21 (f 21)) 22 (f 22)) 23 (f 23)) 34 (f 34)) (va_up g 1 (g 1)) s.heap := by rw [va_id, va_id, va_id, va_id, va_id, va_id, va_id, va_id, va_id, va_id]; exact hP
  have r_1 : 0 ≤ (v 22) ∧ (v 22) ≤ 16 := hok.1 22
  have r_2 : (-1) ≤ (v 23) ∧ (v 23) ≤ 3 := hok.1 23
  have r_3 : 0 ≤ (v 12) ∧ (v 12) ≤ 4 := hok.1 12
  refine lv_aload_n hx hb dX11_advance_0 rfl (lv_at hl 0 rfl) ?_
  refine lv_iconst (v := iI 0) hx hb dX11_advance_1 rfl ?_
  refine mdP_thrown (v1 := (va_up (va_up (va_up v 0 (v 0)) 1 0) 23 (v 23))) C hP hD hS mF_X11_146 (by decide) rfl (Or.inr (gF_up (V := mdV) (F := mdF) (gF_up (V := mdV) (F := mdF) (gF_up (V := mdV) (F := mdF) (gF_up (V := mdV) (F := mdF) (gF_up (V := mdV) (F := mdF) (gF_up (V := mdV) (F := mdF) (gR_up (V := mdV) (F := mdF) (gR_up (V := mdV) (F := mdF) (gR_up (V := mdV) (F := mdF) ⟨hok.1, hok.2⟩ 0 (hP.2.1 0)) 1 (show 0 ≤ 0 ∧ 0 ≤ 0 from by decide)) 23 (hP.2.1 23)) 37 (hP.2.2 37)) 38 (hP.2.2 38)) 21 (hP.2.2 21)) 22 (hP.2.2 22)) 23 (hP.2.2 23)) 34 (hP.2.2 34))) dX11_advance_2 (fun H locs hP hS => ?_)
  refine lv_aload_n hx hb dX11_advance_5 rfl (lv_at hl 0 rfl) ?_
  refine lv_iconst (v := iI 0) hx hb dX11_advance_6 rfl ?_
  refine mdP_status (v1 := (va_up (va_up (va_up v 0 0) 1 0) 23 (v 23))) C hP hD hS mF_X11_149 (by decide) rfl (Or.inr (gF_up (V := mdV) (F := mdF) (gF_up (V := mdV) (F := mdF) (gF_up (V := mdV) (F := mdF) (gF_up (V := mdV) (F := mdF) (gF_up (V := mdV) (F := mdF) (gF_up (V := mdV) (F := mdF) (gR_up (V := mdV) (F := mdF) (gR_up (V := mdV) (F := mdF) (gR_up (V := mdV) (F := mdF) ⟨hok.1, hok.2⟩ 0 (show 0 ≤ 0 ∧ 0 ≤ 10 from by decide)) 1 (hP.2.1 1)) 23 (hP.2.1 23)) 37 (hP.2.2 37)) 38 (hP.2.2 38)) 21 (hP.2.2 21)) 22 (hP.2.2 22)) 23 (hP.2.2 23)) 34 (hP.2.2 34))) dX11_advance_7 (fun H locs hP hS => ?_)
  refine lv_iload_n hx hb dX11_advance_10 rfl (lv_at hl 1 rfl) ?_
  refine lv_iconst (v := iI 1) hx hb dX11_advance_11 rfl ?_
  refine gi_clt (tgt := 28) hx hb dX11_advance_12 (by decide) (by omega) (by decide) (fun c_4 => ?_) (fun c_4 => ?_)
  · refine lv_aload_n hx hb dX11_advance_28 rfl (lv_at hl 0 rfl) ?_
    refine lv_iconst (v := iI 2) hx hb dX11_advance_29 rfl ?_
    refine g_cv (As := [.int (iI 2)]) (rest := []) (n := 1) C hml (m_X11_refuse l D k A ad hD (va_up (va_up (va_up v 0 0) 1 0) 23 (v 23)) (va_up (va_up (va_up (va_up (va_up (va_up f 37 (f 37)) 38 (f 38)) 21 (f 21)) 22 (f 22)) 23 (f 23)) 34 (f 34)) (va_up g 1 (g 1)) 2 (by decide) (show 0 ≤ (2 : Int) ∧ (2 : Int) ≤ 10 from by omega)) mM_X11_295 mI_X11_refuse mE_X11_refuse mN_X11 mC_X11_refuse (by decide +kernel) 0 (ci := 11) rfl rfl hP hS (fun _ h => h) ⟨Nat.le_of_ble_eq_true rfl, Nat.le_of_ble_eq_true rfl⟩ ⟨Nat.zero_le _, Nat.zero_le _⟩ hl.1 rfl rfl (Nat.le_of_ble_eq_true rfl) dX11_advance_30 (fun r_5 v_5 f_5 g_5 H locs hq_5 hP _ hS => ?_)
    obtain ⟨rfl, rfl, rfl, rfl⟩ := hq_5
    show W p l e (gRm 6 172) s m args below meth c _ _ 0 0 Q (F0 m 33 ls [.int (iI (-1))])
    have hP : gWd D (mdT k ad) (va_up (va_up (va_up v 0 (2 : Int)) 1 0) 23 (v 23)) (va_up (va_up (va_up (va_up (va_up (va_up f 37 (f 37)) 38 (f 38)) 21 (f 21)) 22 (f 22)) 23 (f 23)) 34 (f 34)) (va_up g 1 (g 1)) H := ⟨hP.1, (gF_up (V := mdV) (F := mdF) (gF_up (V := mdV) (F := mdF) (gF_up (V := mdV) (F := mdF) (gF_up (V := mdV) (F := mdF) (gF_up (V := mdV) (F := mdF) (gF_up (V := mdV) (F := mdF) (gR_up (V := mdV) (F := mdF) (gR_up (V := mdV) (F := mdF) (gR_up (V := mdV) (F := mdF) ⟨hok.1, hok.2⟩ 0 (hP.2.1 0)) 1 (hP.2.1 1)) 23 (hP.2.1 23)) 37 (hP.2.2 37)) 38 (hP.2.2 38)) 21 (hP.2.2 21)) 22 (hP.2.2 22)) 23 (hP.2.2 23)) 34 (hP.2.2 34))⟩
    exact g_iret hQ C hr hlocks hP hS dX11_advance_33 ⟨(-1), (2 : Int), (f 37), (f 38), (f 22), (f 34), (g 1), rfl, (by rw [show ((if (2 : Int) = 0 then (v 23) + 1 else (v 23)) : Int) = (v 23) from by first | rfl | omega | ((repeat' split) <;> omega)]), (by rw [show ((if (2 : Int) = 0 then aiP (f 21) (pAv (rkF (kvF (fun k => mcG ((f 9) k)) (f 10) (f 13) (f 1) (v 13) (gFd (f 24) (f 25) (f 26) (f 27) (f 28) (f 29) (f 30) (f 31) (f 32) (f 33) (f 18) (f 19) (v 25) (v 26) a2)) (fun k => 1 - (f 15) k) (v 14) (v 18) (liF (f 21) (v 23)) (v 22) (v 23)) a1) ((v 23) + 1) (v 22) else (f 21)) : Int → Int) = (f 21) from by first | rfl | (rw [if_neg (by omega)]) | (rw [if_pos rfl]; exact hin.symm), show ((if (2 : Int) = 0 then u1 (f 23) ((v 23) + 1) (cn (pAv (rkF (kvF (fun k => mcG ((f 9) k)) (f 10) (f 13) (f 1) (v 13) (gFd (f 24) (f 25) (f 26) (f 27) (f 28) (f 29) (f 30) (f 31) (f 32) (f 33) (f 18) (f 19) (v 25) (v 26) a2)) (fun k => 1 - (f 15) k) (v 14) (v 18) (liF (f 21) (v 23)) (v 22) (v 23)) a1) (v 22).toNat) else (f 23)) : Int → Int) = (f 23) from by first | rfl | (rw [if_neg (by omega)]) | (rw [if_pos rfl, hcn])]), rfl, (by first | (rw [if_pos (by omega)]) | (rw [if_neg (by omega)]; exact hcn)), (by first | omega | ((repeat' split) <;> omega)), (by first | (rw [if_pos (by omega)]) | (rw [if_neg (by omega), if_pos (cn_hi (x := 0) (by omega) (by omega) (decide_eq_true (by omega)))]) | (rw [if_neg (by omega), if_neg (by rw [show (v 22) = x3 by omega, hI]; decide)]; first | rw [if_pos (by omega)] | rw [if_neg (by omega)]) | (rw [if_neg (by omega), if_neg (by rw [hI0]; decide)]; first | rw [if_pos (by omega)] | rw [if_neg (by omega)])), (by first | (intro c c0 c1; rw [if_neg (by omega)]) | (intro c c0 c1; rw [if_pos rfl]; exact hC c c0 (by omega)))⟩
  · refine lv_iload_n hx hb dX11_advance_15 rfl (lv_at hl 1 rfl) ?_
    refine lv_bipush (v := iI 16) hx hb dX11_advance_16 (by decide) ?_
    refine gi_cgt (tgt := 28) hx hb dX11_advance_18 (by decide) (by omega) (by decide) (fun c_6 => ?_) (fun c_6 => ?_)
    · refine lv_aload_n hx hb dX11_advance_28 rfl (lv_at hl 0 rfl) ?_
      refine lv_iconst (v := iI 2) hx hb dX11_advance_29 rfl ?_
      refine g_cv (As := [.int (iI 2)]) (rest := []) (n := 1) C hml (m_X11_refuse l D k A ad hD (va_up (va_up (va_up v 0 0) 1 0) 23 (v 23)) (va_up (va_up (va_up (va_up (va_up (va_up f 37 (f 37)) 38 (f 38)) 21 (f 21)) 22 (f 22)) 23 (f 23)) 34 (f 34)) (va_up g 1 (g 1)) 2 (by decide) (show 0 ≤ (2 : Int) ∧ (2 : Int) ≤ 10 from by omega)) mM_X11_295 mI_X11_refuse mE_X11_refuse mN_X11 mC_X11_refuse (by decide +kernel) 0 (ci := 11) rfl rfl hP hS (fun _ h => h) ⟨Nat.le_of_ble_eq_true rfl, Nat.le_of_ble_eq_true rfl⟩ ⟨Nat.zero_le _, Nat.zero_le _⟩ hl.1 rfl rfl (Nat.le_of_ble_eq_true rfl) dX11_advance_30 (fun r_7 v_7 f_7 g_7 H locs hq_7 hP _ hS => ?_)
      obtain ⟨rfl, rfl, rfl, rfl⟩ := hq_7
      show W p l e (gRm 6 172) s m args below meth c _ _ 0 0 Q (F0 m 33 ls [.int (iI (-1))])
      have hP : gWd D (mdT k ad) (va_up (va_up (va_up v 0 (2 : Int)) 1 0) 23 (v 23)) (va_up (va_up (va_up (va_up (va_up (va_up f 37 (f 37)) 38 (f 38)) 21 (f 21)) 22 (f 22)) 23 (f 23)) 34 (f 34)) (va_up g 1 (g 1)) H := ⟨hP.1, (gF_up (V := mdV) (F := mdF) (gF_up (V := mdV) (F := mdF) (gF_up (V := mdV) (F := mdF) (gF_up (V := mdV) (F := mdF) (gF_up (V := mdV) (F := mdF) (gF_up (V := mdV) (F := mdF) (gR_up (V := mdV) (F := mdF) (gR_up (V := mdV) (F := mdF) (gR_up (V := mdV) (F := mdF) ⟨hok.1, hok.2⟩ 0 (hP.2.1 0)) 1 (hP.2.1 1)) 23 (hP.2.1 23)) 37 (hP.2.2 37)) 38 (hP.2.2 38)) 21 (hP.2.2 21)) 22 (hP.2.2 22)) 23 (hP.2.2 23)) 34 (hP.2.2 34))⟩
      exact g_iret hQ C hr hlocks hP hS dX11_advance_33 ⟨(-1), (2 : Int), (f 37), (f 38), (f 22), (f 34), (g 1), rfl, (by rw [show ((if (2 : Int) = 0 then (v 23) + 1 else (v 23)) : Int) = (v 23) from by first | rfl | omega | ((repeat' split) <;> omega)]), (by rw [show ((if (2 : Int) = 0 then aiP (f 21) (pAv (rkF (kvF (fun k => mcG ((f 9) k)) (f 10) (f 13) (f 1) (v 13) (gFd (f 24) (f 25) (f 26) (f 27) (f 28) (f 29) (f 30) (f 31) (f 32) (f 33) (f 18) (f 19) (v 25) (v 26) a2)) (fun k => 1 - (f 15) k) (v 14) (v 18) (liF (f 21) (v 23)) (v 22) (v 23)) a1) ((v 23) + 1) (v 22) else (f 21)) : Int → Int) = (f 21) from by first | rfl | (rw [if_neg (by omega)]) | (rw [if_pos rfl]; exact hin.symm), show ((if (2 : Int) = 0 then u1 (f 23) ((v 23) + 1) (cn (pAv (rkF (kvF (fun k => mcG ((f 9) k)) (f 10) (f 13) (f 1) (v 13) (gFd (f 24) (f 25) (f 26) (f 27) (f 28) (f 29) (f 30) (f 31) (f 32) (f 33) (f 18) (f 19) (v 25) (v 26) a2)) (fun k => 1 - (f 15) k) (v 14) (v 18) (liF (f 21) (v 23)) (v 22) (v 23)) a1) (v 22).toNat) else (f 23)) : Int → Int) = (f 23) from by first | rfl | (rw [if_neg (by omega)]) | (rw [if_pos rfl, hcn])]), rfl, (by first | (rw [if_pos (by omega)]) | (rw [if_neg (by omega)]; exact hcn)), (by first | omega | ((repeat' split) <;> omega)), (by first | (rw [if_pos (by omega)]) | (rw [if_neg (by omega), if_pos (cn_hi (x := 0) (by omega) (by omega) (decide_eq_true (by omega)))]) | (rw [if_neg (by omega), if_neg (by rw [show (v 22) = x3 by omega, hI]; decide)]; first | rw [if_pos (by omega)] | rw [if_neg (by omega)]) | (rw [if_neg (by omega), if_neg (by rw [hI0]; decide)]; first | rw [if_pos (by omega)] | rw [if_neg (by omega)])), (by first | (intro c c0 c1; rw [if_neg (by omega)]) | (intro c c0 c1; rw [if_pos rfl]; exact hC c c0 (by omega)))⟩
    · refine lv_iload_n hx hb dX11_advance_21 rfl (lv_at hl 2 rfl) ?_
      refine g_cs (As := [.int (iI a2)]) (rest := []) (n := 1) C hml (m_X11_isDay l D k A ad hD (va_up (va_up (va_up v 0 0) 1 0) 23 (v 23)) (va_up (va_up (va_up (va_up (va_up (va_up f 37 (f 37)) 38 (f 38)) 21 (f 21)) 22 (f 22)) 23 (f 23)) 34 (f 34)) (va_up g 1 (g 1)) a2 (by omega)) mM_X11_364 mS_X11_isDay mN_X11 mC_X11_isDay (by decide +kernel) hP hS (fun _ h => h) ⟨Nat.le_of_ble_eq_true rfl, Nat.le_of_ble_eq_true rfl⟩ ⟨Nat.zero_le _, Nat.zero_le _⟩ hl.1 rfl rfl (Nat.le_of_ble_eq_true rfl) dX11_advance_22 (fun r_8 v_8 f_8 g_8 H locs hq_8 hP _ hS => ?_)
      obtain ⟨z_8, rfl, rfl, rfl, rfl, p0_8⟩ := hq_8
      show W p l e (gRm 6 172) s m args below meth c _ _ 0 0 Q (F0 m 25 ls [.int (iI z_8)])
      replace p0_8 : z_8 = (if 0 ≤ a2 ∧ a2 ≤ 999 then 1 else 0) := p0_8
      have w_8 := gif (P := 0 ≤ a2 ∧ a2 ≤ 999) p0_8
      clear p0_8
      have hz_8 : inR z_8 := (by first | omega | (rw [p0_8]; split <;> omega))
      refine gi_zne (tgt := 34) hx hb dX11_advance_25 (by decide) (by omega) (fun c_9 => ?_) (fun c_9 => ?_)
      · have vz_8 := gif1 w_8 c_9
        have voz_8 := gif1o w_8 c_9
        clear w_8
        refine lv_iconst (v := iI 0) hx hb dX11_advance_34 rfl ?_
        refine lv_istore_n (lv' := [(3, .int (iI 0)), (0, .ref (ad 0)), (1, .int (iI a1)), (2, .int (iI a2))]) hx hb dX11_advance_35 rfl hl (by decide) rfl (fun ls hl => ?_)
        have L_10 : ∀ (n : Nat) (x3 : Int) (H : Heap) (locs : List Loc) (ls : Array Slot), 16 - x3 < (n : Int) → (0 ≤ x3 ∧ x3 ≤ (v 22)) → (cn (pOn on) x3.toNat = 0) → gWd D (mdT k ad) (va_up (va_up (va_up v 0 0) 1 0) 23 (v 23)) (va_up (va_up (va_up (va_up (va_up (va_up f 37 (f 37)) 38 (f 38)) 21 (f 21)) 22 (f 22)) 23 (f 23)) 34 (f 34)) (va_up g 1 (g 1)) H → va_S A s.heap H locs → lv_has ls 7 [(0, .ref (ad 0)), (1, .int (iI a1)), (2, .int (iI a2)), (3, .int (iI x3))] → W p l e (gRm 6 172) s m args below meth c H locs 0 0 Q (F0 m 36 ls []) := by
          intro n
          induction n with
          | zero =>
            intro x3 H locs ls hn_10 i10_0 i10_1 hP hS hl
            exfalso; omega
          | succ n ih_36 =>
            intro x3 H locs ls hn_10 i10_0 i10_1 hP hS hl
            have hI := i10_1
            refine lv_iload_n hx hb dX11_advance_36 rfl (lv_at hl 3 rfl) ?_
            refine lv_aload_n hx hb dX11_advance_37 rfl (lv_at hl 0 rfl) ?_
            refine mdG_climbers C hP mF_X11_313 dX11_advance_38 ?_
            show W p l e (gRm 6 172) s m args below meth c _ _ 0 0 Q (F0 m 41 ls [.int (iI (v 22)), .int (iI x3)])
            refine gi_cge (tgt := 64) hx hb dX11_advance_41 (by decide) (by omega) (by omega) (fun c_11 => ?_) (fun c_11 => ?_)
            · have hI0 : cn (pOn on) (v 22).toNat = 0 := by rw [show (v 22) = x3 by omega]; exact hI
              refine lv_aload_n hx hb dX11_advance_64 rfl (lv_at hl 0 rfl) ?_
              refine mdG_open C hP mF_X11_82 dX11_advance_65 ?_
              show W p l e (gRm 6 172) s m args below meth c _ _ 0 0 Q (F0 m 68 ls [.int (iI (v 23))])
              refine gi_zlt (tgt := 84) hx hb dX11_advance_68 (by decide) (by omega) (fun c_12 => ?_) (fun c_12 => ?_)
              · refine lv_aload_n hx hb dX11_advance_84 rfl (lv_at hl 0 rfl) ?_
                refine lv_bipush (v := iI 10) hx hb dX11_advance_85 (by decide) ?_
                refine g_cv (As := [.int (iI 10)]) (rest := []) (n := 1) C hml (m_X11_refuse l D k A ad hD (va_up (va_up (va_up v 0 0) 1 0) 23 (v 23)) (va_up (va_up (va_up (va_up (va_up (va_up f 37 (f 37)) 38 (f 38)) 21 (f 21)) 22 (f 22)) 23 (f 23)) 34 (f 34)) (va_up g 1 (g 1)) 10 (by decide) (show 0 ≤ (10 : Int) ∧ (10 : Int) ≤ 10 from by omega)) mM_X11_295 mI_X11_refuse mE_X11_refuse mN_X11 mC_X11_refuse (by decide +kernel) 0 (ci := 11) rfl rfl hP hS (fun _ h => h) ⟨Nat.le_of_ble_eq_true rfl, Nat.le_of_ble_eq_true rfl⟩ ⟨Nat.zero_le _, Nat.zero_le _⟩ hl.1 rfl rfl (Nat.le_of_ble_eq_true rfl) dX11_advance_87 (fun r_13 v_13 f_13 g_13 H locs hq_13 hP _ hS => ?_)
                obtain ⟨rfl, rfl, rfl, rfl⟩ := hq_13
                show W p l e (gRm 6 172) s m args below meth c _ _ 0 0 Q (F0 m 90 ls [.int (iI (-1))])
                have hP : gWd D (mdT k ad) (va_up (va_up (va_up v 0 (10 : Int)) 1 0) 23 (v 23)) (va_up (va_up (va_up (va_up (va_up (va_up f 37 (f 37)) 38 (f 38)) 21 (f 21)) 22 (f 22)) 23 (f 23)) 34 (f 34)) (va_up g 1 (g 1)) H := ⟨hP.1, (gF_up (V := mdV) (F := mdF) (gF_up (V := mdV) (F := mdF) (gF_up (V := mdV) (F := mdF) (gF_up (V := mdV) (F := mdF) (gF_up (V := mdV) (F := mdF) (gF_up (V := mdV) (F := mdF) (gR_up (V := mdV) (F := mdF) (gR_up (V := mdV) (F := mdF) (gR_up (V := mdV) (F := mdF) ⟨hok.1, hok.2⟩ 0 (hP.2.1 0)) 1 (hP.2.1 1)) 23 (hP.2.1 23)) 37 (hP.2.2 37)) 38 (hP.2.2 38)) 21 (hP.2.2 21)) 22 (hP.2.2 22)) 23 (hP.2.2 23)) 34 (hP.2.2 34))⟩
                exact g_iret hQ C hr hlocks hP hS dX11_advance_90 ⟨(-1), (10 : Int), (f 37), (f 38), (f 22), (f 34), (g 1), rfl, (by rw [show ((if (10 : Int) = 0 then (v 23) + 1 else (v 23)) : Int) = (v 23) from by first | rfl | omega | ((repeat' split) <;> omega)]), (by rw [show ((if (10 : Int) = 0 then aiP (f 21) (pAv (rkF (kvF (fun k => mcG ((f 9) k)) (f 10) (f 13) (f 1) (v 13) (gFd (f 24) (f 25) (f 26) (f 27) (f 28) (f 29) (f 30) (f 31) (f 32) (f 33) (f 18) (f 19) (v 25) (v 26) a2)) (fun k => 1 - (f 15) k) (v 14) (v 18) (liF (f 21) (v 23)) (v 22) (v 23)) a1) ((v 23) + 1) (v 22) else (f 21)) : Int → Int) = (f 21) from by first | rfl | (rw [if_neg (by omega)]) | (rw [if_pos rfl]; exact hin.symm), show ((if (10 : Int) = 0 then u1 (f 23) ((v 23) + 1) (cn (pAv (rkF (kvF (fun k => mcG ((f 9) k)) (f 10) (f 13) (f 1) (v 13) (gFd (f 24) (f 25) (f 26) (f 27) (f 28) (f 29) (f 30) (f 31) (f 32) (f 33) (f 18) (f 19) (v 25) (v 26) a2)) (fun k => 1 - (f 15) k) (v 14) (v 18) (liF (f 21) (v 23)) (v 22) (v 23)) a1) (v 22).toNat) else (f 23)) : Int → Int) = (f 23) from by first | rfl | (rw [if_neg (by omega)]) | (rw [if_pos rfl, hcn])]), rfl, (by first | (rw [if_pos (by omega)]) | (rw [if_neg (by omega)]; exact hcn)), (by first | omega | ((repeat' split) <;> omega)), (by first | (rw [if_pos (by omega)]) | (rw [if_neg (by omega), if_pos (cn_hi (x := 0) (by omega) (by omega) (decide_eq_true (by omega)))]) | (rw [if_neg (by omega), if_neg (by rw [show (v 22) = x3 by omega, hI]; decide)]; first | rw [if_pos (by omega)] | rw [if_neg (by omega)]) | (rw [if_neg (by omega), if_neg (by rw [hI0]; decide)]; first | rw [if_pos (by omega)] | rw [if_neg (by omega)])), (by first | (intro c c0 c1; rw [if_neg (by omega)]) | (intro c c0 c1; rw [if_pos rfl]; exact hC c c0 (by omega)))⟩
              · refine lv_aload_n hx hb dX11_advance_71 rfl (lv_at hl 0 rfl) ?_
                refine mdG_open C hP mF_X11_82 dX11_advance_72 ?_
                show W p l e (gRm 6 172) s m args below meth c _ _ 0 0 Q (F0 m 75 ls [.int (iI (v 23))])
                refine lv_iconst (v := iI 1) hx hb dX11_advance_75 rfl ?_
                refine gi_add (z := ((v 23) + 1)) hx hb dX11_advance_76 rfl ?_
                refine lv_aload_n hx hb dX11_advance_77 rfl (lv_at hl 0 rfl) ?_
                refine mdG_rounds C hP mF_X11_301 dX11_advance_78 ?_
                show W p l e (gRm 6 172) s m args below meth c _ _ 0 0 Q (F0 m 81 ls [.int (iI (v 12)), .int (iI ((v 23) + 1))])
                refine gi_clt (tgt := 91) hx hb dX11_advance_81 (by decide) (by omega) (by omega) (fun c_14 => ?_) (fun c_14 => ?_)
                · refine lv_iconst (v := iI 0) hx hb dX11_advance_91 rfl ?_
                  refine lv_istore_n (lv' := [(3, .int (iI 0)), (0, .ref (ad 0)), (1, .int (iI a1)), (2, .int (iI a2))]) hx hb dX11_advance_92 rfl hl (by decide) rfl (fun ls hl => ?_)
                  have L_15 : ∀ (n : Nat) (x3 : Int) (c37_15 : Int → Int) (c38_15 : Int → Int) (d1_15 : Int → Int) (H : Heap) (locs : List Loc) (ls : Array Slot), 16 - x3 < (n : Int) → (0 ≤ x3 ∧ x3 ≤ (v 22)) → (∀ c, 0 ≤ c → c < x3 → c38_15 c = rkF (kvF (fun k => mcG ((f 9) k)) (f 10) (f 13) (f 1) (v 13) (gFd (f 24) (f 25) (f 26) (f 27) (f 28) (f 29) (f 30) (f 31) (f 32) (f 33) (f 18) (f 19) (v 25) (v 26) a2)) (fun k => 1 - (f 15) k) (v 14) (v 18) (liF (f 21) (v 23)) (v 22) (v 23) c) → gWd D (mdT k ad) (va_up (va_up (va_up v 0 0) 1 0) 23 (v 23)) (va_up (va_up (va_up (va_up (va_up (va_up f 37 c37_15) 38 c38_15) 21 (f 21)) 22 (f 22)) 23 (f 23)) 34 (f 34)) (va_up g 1 d1_15) H → va_S A s.heap H locs → lv_has ls 7 [(0, .ref (ad 0)), (1, .int (iI a1)), (2, .int (iI a2)), (3, .int (iI x3))] → W p l e (gRm 6 172) s m args below meth c H locs 0 0 Q (F0 m 93 ls []) := by
                    intro n
                    induction n with
                    | zero =>
                      intro x3 c37_15 c38_15 d1_15 H locs ls hn_15 i15_0 i15_1 hP hS hl
                      exfalso; omega
                    | succ n ih_93 =>
                      intro x3 c37_15 c38_15 d1_15 H locs ls hn_15 i15_0 i15_1 hP hS hl
                      have hK := i15_1
                      refine lv_iload_n hx hb dX11_advance_93 rfl (lv_at hl 3 rfl) ?_
                      refine lv_aload_n hx hb dX11_advance_94 rfl (lv_at hl 0 rfl) ?_
                      refine mdG_climbers C hP mF_X11_313 dX11_advance_95 ?_
                      show W p l e (gRm 6 172) s m args below meth c _ _ 0 0 Q (F0 m 98 ls [.int (iI (v 22)), .int (iI x3)])
                      refine gi_cge (tgt := 144) hx hb dX11_advance_98 (by decide) (by omega) (by omega) (fun c_16 => ?_) (fun c_16 => ?_)
                      · have hKc : ∀ c, 0 ≤ c → c < (v 22) → c38_15 c = rkF (kvF (fun k => mcG ((f 9) k)) (f 10) (f 13) (f 1) (v 13) (gFd (f 24) (f 25) (f 26) (f 27) (f 28) (f 29) (f 30) (f 31) (f 32) (f 33) (f 18) (f 19) (v 25) (v 26) a2)) (fun k => 1 - (f 15) k) (v 14) (v 18) (liF (f 21) (v 23)) (v 22) (v 23) c := fun c c0 c1 => hK c c0 (by omega)
                        refine lv_aload_n hx hb dX11_advance_144 rfl (lv_at hl 0 rfl) ?_
                        refine mdG_open C hP mF_X11_82 dX11_advance_145 ?_
                        show W p l e (gRm 6 172) s m args below meth c _ _ 0 0 Q (F0 m 148 ls [.int (iI (v 23))])
                        refine lv_iconst (v := iI 1) hx hb dX11_advance_148 rfl ?_
                        refine gi_add (z := ((v 23) + 1)) hx hb dX11_advance_149 rfl ?_
                        refine lv_istore_n (lv' := [(3, .int (iI ((v 23) + 1))), (0, .ref (ad 0)), (1, .int (iI a1)), (2, .int (iI a2))]) hx hb dX11_advance_150 rfl hl (by decide) rfl (fun ls hl => ?_)
                        refine lv_iconst (v := iI 0) hx hb dX11_advance_151 rfl ?_
                        refine lv_istore (lv' := [(4, .int (iI 0)), (3, .int (iI ((v 23) + 1))), (0, .ref (ad 0)), (1, .int (iI a1)), (2, .int (iI a2))]) hx hb dX11_advance_152 hl (by decide) rfl (fun ls hl => ?_)
                        refine lv_iload_n hx hb dX11_advance_154 rfl (lv_at hl 3 rfl) ?_
                        refine lv_istore (lv' := [(5, .int (iI a1)), (4, .int (iI 0)), (3, .int (iI ((v 23) + 1))), (0, .ref (ad 0)), (1, .int (iI a1)), (2, .int (iI a2))]) hx hb dX11_advance_155 hl (by decide) rfl (fun ls hl => ?_)
                        have L_17 : ∀ (n : Nat) (x4 : Int) (x5 : Int) (c21_17 : Int → Int) (c22_17 : Int → Int) (H : Heap) (locs : List Loc) (ls : Array Slot), x5 < (n : Int) → (0 ≤ x5 ∧ x5 ≤ a1) → (x4 = cn (cP c38_15 x5 a1 ((v 22) - 1)) (v 22).toNat) → (0 ≤ x4 ∧ x4 ≤ 16) → (c21_17 = aiP (f 21) (cP c38_15 x5 a1 ((v 22) - 1)) ((v 23) + 1) (v 22)) → gWd D (mdT k ad) (va_up (va_up (va_up v 0 0) 1 0) 23 (v 23)) (va_up (va_up (va_up (va_up (va_up (va_up f 37 c37_15) 38 c38_15) 21 c21_17) 22 c22_17) 23 (f 23)) 34 (f 34)) (va_up g 1 d1_15) H → va_S A s.heap H locs → lv_has ls 7 [(0, .ref (ad 0)), (1, .int (iI a1)), (2, .int (iI a2)), (3, .int (iI ((v 23) + 1))), (4, .int (iI x4)), (5, .int (iI x5))] → W p l e (gRm 6 172) s m args below meth c H locs 0 0 Q (F0 m 157 ls []) := by
                          intro n
                          induction n with
                          | zero =>
                            intro x4 x5 c21_17 c22_17 H locs ls hn_17 i17_0 i17_1 i17_2 i17_3 hP hS hl
                            exfalso; omega
                          | succ n ih_157 =>
                            intro x4 x5 c21_17 c22_17 H locs ls hn_17 i17_0 i17_1 i17_2 i17_3 hP hS hl
                            have hA1 := i17_1
                            have hA3 := i17_3
                            refine lv_iload hx hb dX11_advance_157 (lv_at hl 5 rfl) ?_
                            refine lv_iconst (v := iI 1) hx hb dX11_advance_159 rfl ?_
                            refine gi_clt (tgt := 233) hx hb dX11_advance_160 (by decide) (by omega) (by decide) (fun c_18 => ?_) (fun c_18 => ?_)
                            · have e5 : x5 = 0 := by omega
                              have hcn : x4 = cn (pAv (rkF (kvF (fun k => mcG ((f 9) k)) (f 10) (f 13) (f 1) (v 13) (gFd (f 24) (f 25) (f 26) (f 27) (f 28) (f 29) (f 30) (f 31) (f 32) (f 33) (f 18) (f 19) (v 25) (v 26) a2)) (fun k => 1 - (f 15) k) (v 14) (v 18) (liF (f 21) (v 23)) (v 22) (v 23)) a1) (v 22).toNat := by rw [hA1, e5]; exact cn_eq (fun j j0 j1 => by rw [cP_av (by omega), pAv_eq (hKc j j0 j1)])
                              have hin : c21_17 = aiP (f 21) (pAv (rkF (kvF (fun k => mcG ((f 9) k)) (f 10) (f 13) (f 1) (v 13) (gFd (f 24) (f 25) (f 26) (f 27) (f 28) (f 29) (f 30) (f 31) (f 32) (f 33) (f 18) (f 19) (v 25) (v 26) a2)) (fun k => 1 - (f 15) k) (v 14) (v 18) (liF (f 21) (v 23)) (v 22) (v 23)) a1) ((v 23) + 1) (v 22) := by rw [hA3, e5]; exact aiP_eq (fun j j0 j1 => by rw [cP_av (by omega), pAv_eq (hKc j j0 j1)])
                              refine lv_aload_n hx hb dX11_advance_233 rfl (lv_at hl 0 rfl) ?_
                              refine mdG_orderMany C hP mF_X11_91 dX11_advance_234 ?_
                              refine lv_iload_n hx hb dX11_advance_237 rfl (lv_at hl 3 rfl) ?_
                              refine lv_iload hx hb dX11_advance_238 (lv_at hl 4 rfl) ?_
                              refine mdS_orderMany (f1 := (va_up (va_up (va_up (va_up (va_up (va_up f 37 c37_15) 38 c38_15) 21 c21_17) 22 c22_17) 23 (u1 (f 23) ((v 23) + 1) x4)) 34 (f 34))) C hP hD hS (by omega) (by omega) (by omega) rfl (Or.inr (gF_up (V := mdV) (F := mdF) (gF_up (V := mdV) (F := mdF) (gF_up (V := mdV) (F := mdF) (gF_up (V := mdV) (F := mdF) (gF_up (V := mdV) (F := mdF) (gF_up (V := mdV) (F := mdF) (gR_up (V := mdV) (F := mdF) (gR_up (V := mdV) (F := mdF) (gR_up (V := mdV) (F := mdF) ⟨hok.1, hok.2⟩ 0 (hP.2.1 0)) 1 (hP.2.1 1)) 23 (hP.2.1 23)) 37 (hP.2.2 37)) 38 (hP.2.2 38)) 21 (hP.2.2 21)) 22 (hP.2.2 22)) 23 (u1_rng (hP.2.2 23) (show 0 ≤ x4 ∧ x4 ≤ 16 from (by omega)))) 34 (hP.2.2 34))) dX11_advance_240 (fun H locs hP hS => ?_)
                              refine lv_aload_n hx hb dX11_advance_241 rfl (lv_at hl 0 rfl) ?_
                              refine lv_iload_n hx hb dX11_advance_242 rfl (lv_at hl 3 rfl) ?_
                              refine mdP_open (v1 := (va_up (va_up (va_up v 0 0) 1 0) 23 ((v 23) + 1))) C hP hD hS mF_X11_82 (by omega) rfl (Or.inr (gF_up (V := mdV) (F := mdF) (gF_up (V := mdV) (F := mdF) (gF_up (V := mdV) (F := mdF) (gF_up (V := mdV) (F := mdF) (gF_up (V := mdV) (F := mdF) (gF_up (V := mdV) (F := mdF) (gR_up (V := mdV) (F := mdF) (gR_up (V := mdV) (F := mdF) (gR_up (V := mdV) (F := mdF) ⟨hok.1, hok.2⟩ 0 (hP.2.1 0)) 1 (hP.2.1 1)) 23 (show (-1) ≤ ((v 23) + 1) ∧ ((v 23) + 1) ≤ 3 from by omega)) 37 (hP.2.2 37)) 38 (hP.2.2 38)) 21 (hP.2.2 21)) 22 (hP.2.2 22)) 23 (hP.2.2 23)) 34 (hP.2.2 34))) dX11_advance_243 (fun H locs hP hS => ?_)
                              refine lv_iconst (v := iI 0) hx hb dX11_advance_246 rfl ?_
                              refine lv_istore (lv' := [(5, .int (iI 0)), (0, .ref (ad 0)), (1, .int (iI a1)), (2, .int (iI a2)), (3, .int (iI ((v 23) + 1))), (4, .int (iI x4))]) hx hb dX11_advance_247 hl (by decide) rfl (fun ls hl => ?_)
                              have L_19 : ∀ (n : Nat) (x5 : Int) (c34_19 : Int → Int) (H : Heap) (locs : List Loc) (ls : Array Slot), 16 - x5 < (n : Int) → (0 ≤ x5 ∧ x5 ≤ (v 22)) → (∀ c, 0 ≤ c → c < x5 → c34_19 c = 0) → gWd D (mdT k ad) (va_up (va_up (va_up v 0 0) 1 0) 23 ((v 23) + 1)) (va_up (va_up (va_up (va_up (va_up (va_up f 37 c37_15) 38 c38_15) 21 c21_17) 22 c22_17) 23 (u1 (f 23) ((v 23) + 1) x4)) 34 c34_19) (va_up g 1 d1_15) H → va_S A s.heap H locs → lv_has ls 7 [(0, .ref (ad 0)), (1, .int (iI a1)), (2, .int (iI a2)), (3, .int (iI ((v 23) + 1))), (4, .int (iI x4)), (5, .int (iI x5))] → W p l e (gRm 6 172) s m args below meth c H locs 0 0 Q (F0 m 249 ls []) := by
                                intro n
                                induction n with
                                | zero =>
                                  intro x5 c34_19 H locs ls hn_19 i19_0 i19_1 hP hS hl
                                  exfalso; omega
                                | succ n ih_249 =>
                                  intro x5 c34_19 H locs ls hn_19 i19_0 i19_1 hP hS hl
                                  have hC := i19_1
                                  refine lv_iload hx hb dX11_advance_249 (lv_at hl 5 rfl) ?_
                                  refine lv_aload_n hx hb dX11_advance_251 rfl (lv_at hl 0 rfl) ?_
                                  refine mdG_climbers C hP mF_X11_313 dX11_advance_252 ?_
                                  show W p l e (gRm 6 172) s m args below meth c _ _ 0 0 Q (F0 m 255 ls [.int (iI (v 22)), .int (iI x5)])
                                  refine gi_cge (tgt := 272) hx hb dX11_advance_255 (by decide) (by omega) (by omega) (fun c_20 => ?_) (fun c_20 => ?_)
                                  · refine lv_iload hx hb dX11_advance_272 (lv_at hl 4 rfl) ?_
                                    exact g_iret hQ C hr hlocks hP hS dX11_advance_274 ⟨x4, 0, c37_15, c38_15, c22_17, c34_19, d1_15, rfl, (by rw [show ((if (0 : Int) = 0 then (v 23) + 1 else (v 23)) : Int) = ((v 23) + 1) from by first | rfl | omega | ((repeat' split) <;> omega)]), (by rw [show ((if (0 : Int) = 0 then aiP (f 21) (pAv (rkF (kvF (fun k => mcG ((f 9) k)) (f 10) (f 13) (f 1) (v 13) (gFd (f 24) (f 25) (f 26) (f 27) (f 28) (f 29) (f 30) (f 31) (f 32) (f 33) (f 18) (f 19) (v 25) (v 26) a2)) (fun k => 1 - (f 15) k) (v 14) (v 18) (liF (f 21) (v 23)) (v 22) (v 23)) a1) ((v 23) + 1) (v 22) else (f 21)) : Int → Int) = c21_17 from by first | rfl | (rw [if_neg (by omega)]) | (rw [if_pos rfl]; exact hin.symm), show ((if (0 : Int) = 0 then u1 (f 23) ((v 23) + 1) (cn (pAv (rkF (kvF (fun k => mcG ((f 9) k)) (f 10) (f 13) (f 1) (v 13) (gFd (f 24) (f 25) (f 26) (f 27) (f 28) (f 29) (f 30) (f 31) (f 32) (f 33) (f 18) (f 19) (v 25) (v 26) a2)) (fun k => 1 - (f 15) k) (v 14) (v 18) (liF (f 21) (v 23)) (v 22) (v 23)) a1) (v 22).toNat) else (f 23)) : Int → Int) = (u1 (f 23) ((v 23) + 1) x4) from by first | rfl | (rw [if_neg (by omega)]) | (rw [if_pos rfl, hcn])]), rfl, (by first | (rw [if_pos (by omega)]) | (rw [if_neg (by omega)]; exact hcn)), (by first | omega | ((repeat' split) <;> omega)), (by first | (rw [if_pos (by omega)]) | (rw [if_neg (by omega), if_pos (cn_hi (x := 0) (by omega) (by omega) (decide_eq_true (by omega)))]) | (rw [if_neg (by omega), if_neg (by rw [show (v 22) = x3 by omega, hI]; decide)]; first | rw [if_pos (by omega)] | rw [if_neg (by omega)]) | (rw [if_neg (by omega), if_neg (by rw [hI0]; decide)]; first | rw [if_pos (by omega)] | rw [if_neg (by omega)])), (by first | (intro c c0 c1; rw [if_neg (by omega)]) | (intro c c0 c1; rw [if_pos rfl]; exact hC c c0 (by omega)))⟩
                                  · refine lv_aload_n hx hb dX11_advance_258 rfl (lv_at hl 0 rfl) ?_
                                    refine mdG_outs C hP mF_X11_124 dX11_advance_259 ?_
                                    refine lv_iload hx hb dX11_advance_262 (lv_at hl 5 rfl) ?_
                                    refine lv_iconst (v := iI 0) hx hb dX11_advance_264 rfl ?_
                                    refine mdS_outs (f1 := (va_up (va_up (va_up (va_up (va_up (va_up f 37 c37_15) 38 c38_15) 21 c21_17) 22 c22_17) 23 (u1 (f 23) ((v 23) + 1) x4)) 34 (u1 c34_19 x5 0))) C hP hD hS (by omega) (by omega) (by decide) rfl (Or.inr (gF_up (V := mdV) (F := mdF) (gF_up (V := mdV) (F := mdF) (gF_up (V := mdV) (F := mdF) (gF_up (V := mdV) (F := mdF) (gF_up (V := mdV) (F := mdF) (gF_up (V := mdV) (F := mdF) (gR_up (V := mdV) (F := mdF) (gR_up (V := mdV) (F := mdF) (gR_up (V := mdV) (F := mdF) ⟨hok.1, hok.2⟩ 0 (hP.2.1 0)) 1 (hP.2.1 1)) 23 (hP.2.1 23)) 37 (hP.2.2 37)) 38 (hP.2.2 38)) 21 (hP.2.2 21)) 22 (hP.2.2 22)) 23 (hP.2.2 23)) 34 (u1_rng (hP.2.2 34) (show 0 ≤ 0 ∧ 0 ≤ 20 from (by decide))))) dX11_advance_265 (fun H locs hP hS => ?_)
                                    refine lv_iinc (v := iI (x5 + 1)) (lv' := [(5, .int (iI (x5 + 1))), (0, .ref (ad 0)), (1, .int (iI a1)), (2, .int (iI a2)), (3, .int (iI ((v 23) + 1))), (4, .int (iI x4))]) hx hb dX11_advance_266 hl (k := 5) rfl (by show iI _ + iI 1 = _; rw [iI_add]) (by decide) rfl (fun ls hl => ?_)
                                    refine lv_goto (tgt := 249) hx hb dX11_advance_269 (by decide) ?_
                                    exact ih_249 (x5 + 1) (u1 c34_19 x5 0) _ _ _ (by omega) (by omega) (fun c h0 h1 => by unfold u1; split; rfl; exact hC c h0 (by omega)) hP hS (lv_sub hl [1, 2, 3, 4, 5, 0] rfl)
                              exact L_19 17 0 (f 34) _ _ _ (by omega) (by omega) (fun c h0 h1 => by omega) hP hS (lv_sub hl [1, 2, 3, 4, 5, 0] rfl)
                            · refine lv_aload_n hx hb dX11_advance_163 rfl (lv_at hl 0 rfl) ?_
                              refine mdG_climbers C hP mF_X11_313 dX11_advance_164 ?_
                              show W p l e (gRm 6 172) s m args below meth c _ _ 0 0 Q (F0 m 167 ls [.int (iI (v 22))])
                              refine lv_iconst (v := iI 1) hx hb dX11_advance_167 rfl ?_
                              refine gi_sub (z := ((v 22) - 1)) hx hb dX11_advance_168 rfl ?_
                              refine lv_istore (lv' := [(6, .int (iI ((v 22) - 1))), (0, .ref (ad 0)), (1, .int (iI a1)), (2, .int (iI a2)), (3, .int (iI ((v 23) + 1))), (4, .int (iI x4)), (5, .int (iI x5))]) hx hb dX11_advance_169 hl (by decide) rfl (fun ls hl => ?_)
                              have L_21 : ∀ (n : Nat) (x4 : Int) (x6 : Int) (c21_21 : Int → Int) (c22_21 : Int → Int) (H : Heap) (locs : List Loc) (ls : Array Slot), x6 + 1 < (n : Int) → ((-1) ≤ x6 ∧ x6 < (v 22)) → (x4 = cn (cP c38_15 x5 a1 x6) (v 22).toNat) → (0 ≤ x4 ∧ x4 ≤ 16) → (c21_21 = aiP (f 21) (cP c38_15 x5 a1 x6) ((v 23) + 1) (v 22)) → gWd D (mdT k ad) (va_up (va_up (va_up v 0 0) 1 0) 23 (v 23)) (va_up (va_up (va_up (va_up (va_up (va_up f 37 c37_15) 38 c38_15) 21 c21_21) 22 c22_21) 23 (f 23)) 34 (f 34)) (va_up g 1 d1_15) H → va_S A s.heap H locs → lv_has ls 7 [(0, .ref (ad 0)), (1, .int (iI a1)), (2, .int (iI a2)), (3, .int (iI ((v 23) + 1))), (4, .int (iI x4)), (5, .int (iI x5)), (6, .int (iI x6))] → W p l e (gRm 6 172) s m args below meth c H locs 0 0 Q (F0 m 171 ls []) := by
                                intro n
                                induction n with
                                | zero =>
                                  intro x4 x6 c21_21 c22_21 H locs ls hn_21 i21_0 i21_1 i21_2 i21_3 hP hS hl
                                  exfalso; omega
                                | succ n ih_171 =>
                                  intro x4 x6 c21_21 c22_21 H locs ls hn_21 i21_0 i21_1 i21_2 i21_3 hP hS hl
                                  have hB3 := i21_3
                                  refine lv_iload hx hb dX11_advance_171 (lv_at hl 6 rfl) ?_
                                  refine gi_zlt (tgt := 227) hx hb dX11_advance_173 (by decide) (by omega) (fun c_22 => ?_) (fun c_22 => ?_)
                                  · refine lv_iinc (v := iI (x5 + (-1))) (lv' := [(5, .int (iI (x5 + (-1)))), (0, .ref (ad 0)), (1, .int (iI a1)), (2, .int (iI a2)), (3, .int (iI ((v 23) + 1))), (4, .int (iI x4)), (6, .int (iI x6))]) hx hb dX11_advance_227 hl (k := 5) rfl (by show iI _ + iI (-1) = _; rw [iI_add]) (by decide) rfl (fun ls hl => ?_)
                                    refine lv_goto (tgt := 157) hx hb dX11_advance_230 (by decide) ?_
                                    exact ih_157 x4 (x5 + (-1)) c21_21 c22_21 _ _ _ (by omega) (by omega) (by have e6 : x6 = -1 := (by omega); subst e6; have q := cP_next (a := c38_15) (m := (v 22)) (show x5 ≤ a1 by omega); omega) (by omega) (by have e6 : x6 = -1 := (by omega); subst e6; rw [hB3]; exact aiP_eq (fun j j0 j1 => decide_eq_decide.mpr ⟨fun q => by omega, fun q => by omega⟩)) hP hS (lv_sub hl [1, 2, 3, 4, 5, 0] rfl)
                                  · refine lv_aload_n hx hb dX11_advance_176 rfl (lv_at hl 0 rfl) ?_
                                    refine mdG_ranks C hP mF_X11_140 dX11_advance_177 ?_
                                    refine lv_iload hx hb dX11_advance_180 (lv_at hl 6 rfl) ?_
                                    refine mdL_ranks C hP (by omega) (by omega) dX11_advance_182 ?_
                                    show W p l e (gRm 6 172) s m args below meth c _ _ 0 0 Q (F0 m 183 ls [.int (iI (c38_15 x6))])
                                    have r_23 : (-1) ≤ (c38_15 x6) ∧ (c38_15 x6) ≤ 17 := hP.2.2 38 x6
                                    have qh_24 := fun h => cP_hit (a := c38_15) (r := x5) (t := a1) (c := x6) (m := (v 22)) (by omega) (by omega) h
                                    have qs_25 := fun h => cP_skip (a := c38_15) (r := x5) (t := a1) (c := x6) h (v 22).toNat
                                    refine lv_iload hx hb dX11_advance_183 (lv_at hl 5 rfl) ?_
                                    refine gi_ceq (tgt := 191) hx hb dX11_advance_185 (by decide) (by omega) (by omega) (fun c_26 => ?_) (fun c_26 => ?_)
                                    · refine lv_aload_n hx hb dX11_advance_191 rfl (lv_at hl 0 rfl) ?_
                                      refine mdG_isIn C hP mF_X11_85 dX11_advance_192 ?_
                                      refine lv_bipush (v := iI 16) hx hb dX11_advance_195 (by decide) ?_
                                      refine lv_iload_n hx hb dX11_advance_197 rfl (lv_at hl 3 rfl) ?_
                                      refine gi_mul (z := (16 * ((v 23) + 1))) hx hb dX11_advance_198 rfl ?_
                                      refine lv_iload hx hb dX11_advance_199 (lv_at hl 6 rfl) ?_
                                      refine gi_add (z := ((16 * ((v 23) + 1)) + x6)) hx hb dX11_advance_201 rfl ?_
                                      refine lv_iconst (v := iI 1) hx hb dX11_advance_202 rfl ?_
                                      refine mdS_isIn (f1 := (va_up (va_up (va_up (va_up (va_up (va_up f 37 c37_15) 38 c38_15) 21 (u1 c21_21 ((16 * ((v 23) + 1)) + x6) 1)) 22 c22_21) 23 (f 23)) 34 (f 34))) C hP hD hS (by omega) (by omega) (by decide) (by decide) rfl (Or.inr (gF_up (V := mdV) (F := mdF) (gF_up (V := mdV) (F := mdF) (gF_up (V := mdV) (F := mdF) (gF_up (V := mdV) (F := mdF) (gF_up (V := mdV) (F := mdF) (gF_up (V := mdV) (F := mdF) (gR_up (V := mdV) (F := mdF) (gR_up (V := mdV) (F := mdF) (gR_up (V := mdV) (F := mdF) ⟨hok.1, hok.2⟩ 0 (hP.2.1 0)) 1 (hP.2.1 1)) 23 (hP.2.1 23)) 37 (hP.2.2 37)) 38 (hP.2.2 38)) 21 (u1_rng (hP.2.2 21) (show 0 ≤ 1 ∧ 1 ≤ 1 from (by decide)))) 22 (hP.2.2 22)) 23 (hP.2.2 23)) 34 (hP.2.2 34))) dX11_advance_203 (fun H locs hP hS => ?_)
                                      refine lv_aload_n hx hb dX11_advance_204 rfl (lv_at hl 0 rfl) ?_
                                      refine mdG_order C hP mF_X11_88 dX11_advance_205 ?_
                                      refine lv_bipush (v := iI 16) hx hb dX11_advance_208 (by decide) ?_
                                      refine lv_iload_n hx hb dX11_advance_210 rfl (lv_at hl 3 rfl) ?_
                                      refine gi_mul (z := (16 * ((v 23) + 1))) hx hb dX11_advance_211 rfl ?_
                                      refine lv_iload hx hb dX11_advance_212 (lv_at hl 4 rfl) ?_
                                      refine gi_add (z := ((16 * ((v 23) + 1)) + x4)) hx hb dX11_advance_214 rfl ?_
                                      refine lv_iload hx hb dX11_advance_215 (lv_at hl 6 rfl) ?_
                                      refine mdS_order (f1 := (va_up (va_up (va_up (va_up (va_up (va_up f 37 c37_15) 38 c38_15) 21 (u1 c21_21 ((16 * ((v 23) + 1)) + x6) 1)) 22 (u1 c22_21 ((16 * ((v 23) + 1)) + x4) x6)) 23 (f 23)) 34 (f 34))) C hP hD hS (by omega) (by omega) (by omega) rfl (Or.inr (gF_up (V := mdV) (F := mdF) (gF_up (V := mdV) (F := mdF) (gF_up (V := mdV) (F := mdF) (gF_up (V := mdV) (F := mdF) (gF_up (V := mdV) (F := mdF) (gF_up (V := mdV) (F := mdF) (gR_up (V := mdV) (F := mdF) (gR_up (V := mdV) (F := mdF) (gR_up (V := mdV) (F := mdF) ⟨hok.1, hok.2⟩ 0 (hP.2.1 0)) 1 (hP.2.1 1)) 23 (hP.2.1 23)) 37 (hP.2.2 37)) 38 (hP.2.2 38)) 21 (hP.2.2 21)) 22 (u1_rng (hP.2.2 22) (show 0 ≤ x6 ∧ x6 ≤ 15 from (by omega)))) 23 (hP.2.2 23)) 34 (hP.2.2 34))) dX11_advance_217 (fun H locs hP hS => ?_)
                                      refine lv_iinc (v := iI (x4 + 1)) (lv' := [(4, .int (iI (x4 + 1))), (0, .ref (ad 0)), (1, .int (iI a1)), (2, .int (iI a2)), (3, .int (iI ((v 23) + 1))), (5, .int (iI x5)), (6, .int (iI x6))]) hx hb dX11_advance_218 hl (k := 4) rfl (by show iI _ + iI 1 = _; rw [iI_add]) (by decide) rfl (fun ls hl => ?_)
                                      refine lv_iinc (v := iI (x6 + (-1))) (lv' := [(6, .int (iI (x6 + (-1)))), (4, .int (iI (x4 + 1))), (0, .ref (ad 0)), (1, .int (iI a1)), (2, .int (iI a2)), (3, .int (iI ((v 23) + 1))), (5, .int (iI x5))]) hx hb dX11_advance_221 hl (k := 6) rfl (by show iI _ + iI (-1) = _; rw [iI_add]) (by decide) rfl (fun ls hl => ?_)
                                      refine lv_goto (tgt := 171) hx hb dX11_advance_224 (by decide) ?_
                                      exact ih_171 (x4 + 1) (x6 + (-1)) (u1 c21_21 ((16 * ((v 23) + 1)) + x6) 1) (u1 c22_21 ((16 * ((v 23) + 1)) + x4) x6) _ _ _ (by omega) (by omega) (by omega) (by omega) (by first | (rw [hB3]; exact aiP_hit (c := x6) (by omega) (by omega) (decide_eq_true (by omega)) (fun j hj => decide_eq_decide.mpr ⟨fun q => by omega, fun q => by omega⟩)) | (rw [hB3]; exact aiP_eq (fun j j0 j1 => cP_one (by omega)))) hP hS (lv_sub hl [2, 3, 4, 5, 1, 6, 0] rfl)
                                    · refine lv_goto (tgt := 221) hx hb dX11_advance_188 (by decide) ?_
                                      refine lv_iinc (v := iI (x6 + (-1))) (lv' := [(6, .int (iI (x6 + (-1)))), (0, .ref (ad 0)), (1, .int (iI a1)), (2, .int (iI a2)), (3, .int (iI ((v 23) + 1))), (4, .int (iI x4)), (5, .int (iI x5))]) hx hb dX11_advance_221 hl (k := 6) rfl (by show iI _ + iI (-1) = _; rw [iI_add]) (by decide) rfl (fun ls hl => ?_)
                                      refine lv_goto (tgt := 171) hx hb dX11_advance_224 (by decide) ?_
                                      exact ih_171 x4 (x6 + (-1)) c21_21 c22_21 _ _ _ (by omega) (by omega) (by omega) (by omega) (by first | (rw [hB3]; exact aiP_hit (c := x6) (by omega) (by omega) (decide_eq_true (by omega)) (fun j hj => decide_eq_decide.mpr ⟨fun q => by omega, fun q => by omega⟩)) | (rw [hB3]; exact aiP_eq (fun j j0 j1 => cP_one (by omega)))) hP hS (lv_sub hl [1, 2, 3, 4, 5, 6, 0] rfl)
                              exact L_21 17 x4 ((v 22) - 1) c21_17 c22_17 _ _ _ (by omega) (by omega) (by omega) (by omega) hA3 hP hS (lv_sub hl [1, 2, 3, 4, 5, 6, 0] rfl)
                        exact L_17 17 0 a1 (f 21) (f 22) _ _ _ (by omega) (by omega) (cP_start _ _ _).symm (by omega) (aiP_none (fun j j0 j1 => decide_eq_false (by omega))).symm hP hS (lv_sub hl [3, 4, 5, 2, 1, 0] rfl)
                      · refine lv_aload_n hx hb dX11_advance_101 rfl (lv_at hl 0 rfl) ?_
                        refine mdG_ranks C hP mF_X11_140 dX11_advance_102 ?_
                        refine lv_iload_n hx hb dX11_advance_105 rfl (lv_at hl 3 rfl) ?_
                        refine lv_aload_n hx hb dX11_advance_106 rfl (lv_at hl 0 rfl) ?_
                        refine mdG_isIn C hP mF_X11_85 dX11_advance_107 ?_
                        refine lv_bipush (v := iI 16) hx hb dX11_advance_110 (by decide) ?_
                        refine lv_aload_n hx hb dX11_advance_112 rfl (lv_at hl 0 rfl) ?_
                        refine mdG_open C hP mF_X11_82 dX11_advance_113 ?_
                        show W p l e (gRm 6 172) s m args below meth c _ _ 0 0 Q (F0 m 116 ls [.int (iI (v 23)), .int (iI 16), .ref (ad 22), .int (iI x3), .ref (ad 40)])
                        refine gi_mul (z := (16 * (v 23))) hx hb dX11_advance_116 rfl ?_
                        refine lv_iload_n hx hb dX11_advance_117 rfl (lv_at hl 3 rfl) ?_
                        refine gi_add (z := ((16 * (v 23)) + x3)) hx hb dX11_advance_118 rfl ?_
                        refine mdL_isIn C hP (by omega) (by omega) dX11_advance_119 ?_
                        show W p l e (gRm 6 172) s m args below meth c _ _ 0 0 Q (F0 m 120 ls [.int (iI (f 21 ((16 * (v 23)) + x3))), .int (iI x3), .ref (ad 40)])
                        have r_27 : 0 ≤ (f 21 ((16 * (v 23)) + x3)) ∧ (f 21 ((16 * (v 23)) + x3)) ≤ 1 := hP.2.2 21 ((16 * (v 23)) + x3)
                        have hli : liF (f 21) (v 23) x3 = (if (f 21 ((16 * (v 23)) + x3)) ≠ 0 then (v 23) else (v 23) - 1) := rfl
                        refine gi_zeq (tgt := 136) hx hb dX11_advance_120 (by decide) (by omega) (fun c_29 => ?_) (fun c_29 => ?_)
                        · refine lv_iconst (v := iI (-1)) hx hb dX11_advance_136 rfl ?_
                          refine mdS_ranks (f1 := (va_up (va_up (va_up (va_up (va_up (va_up f 37 c37_15) 38 (u1 c38_15 x3 (-1))) 21 (f 21)) 22 (f 22)) 23 (f 23)) 34 (f 34))) C hP hD hS (by omega) (by omega) (by decide) rfl (Or.inr (gF_up (V := mdV) (F := mdF) (gF_up (V := mdV) (F := mdF) (gF_up (V := mdV) (F := mdF) (gF_up (V := mdV) (F := mdF) (gF_up (V := mdV) (F := mdF) (gF_up (V := mdV) (F := mdF) (gR_up (V := mdV) (F := mdF) (gR_up (V := mdV) (F := mdF) (gR_up (V := mdV) (F := mdF) ⟨hok.1, hok.2⟩ 0 (hP.2.1 0)) 1 (hP.2.1 1)) 23 (hP.2.1 23)) 37 (hP.2.2 37)) 38 (u1_rng (hP.2.2 38) (show (-1) ≤ (-1) ∧ (-1) ≤ 17 from (by decide)))) 21 (hP.2.2 21)) 22 (hP.2.2 22)) 23 (hP.2.2 23)) 34 (hP.2.2 34))) dX11_advance_137 (fun H locs hP hS => ?_)
                          refine lv_iinc (v := iI (x3 + 1)) (lv' := [(3, .int (iI (x3 + 1))), (0, .ref (ad 0)), (1, .int (iI a1)), (2, .int (iI a2))]) hx hb dX11_advance_138 hl (k := 3) rfl (by show iI _ + iI 1 = _; rw [iI_add]) (by decide) rfl (fun ls hl => ?_)
                          refine lv_goto (tgt := 93) hx hb dX11_advance_141 (by decide) ?_
                          exact ih_93 (x3 + 1) c37_15 (u1 c38_15 x3 (-1)) d1_15 _ _ _ (by omega) (by omega) (rk_s (K := rkF (kvF (fun k => mcG ((f 9) k)) (f 10) (f 13) (f 1) (v 13) (gFd (f 24) (f 25) (f 26) (f 27) (f 28) (f 29) (f 30) (f 31) (f 32) (f 33) (f 18) (f 19) (v 25) (v 26) a2)) (fun k => 1 - (f 15) k) (v 14) (v 18) (liF (f 21) (v 23)) (v 22) (v 23)) hK (by unfold rkF; first | (rw [if_neg (by omega)]) | (rw [if_pos (by omega)]; exact hrk))) hP hS (lv_sub hl [1, 2, 3, 0] rfl)
                        · refine lv_aload_n hx hb dX11_advance_123 rfl (lv_at hl 0 rfl) ?_
                          refine lv_aload_n hx hb dX11_advance_124 rfl (lv_at hl 0 rfl) ?_
                          refine mdG_open C hP mF_X11_82 dX11_advance_125 ?_
                          show W p l e (gRm 6 172) s m args below meth c _ _ 0 0 Q (F0 m 128 ls [.int (iI (v 23)), .ref (ad 0), .int (iI x3), .ref (ad 40)])
                          refine lv_iload_n hx hb dX11_advance_128 rfl (lv_at hl 3 rfl) ?_
                          refine lv_iload_n hx hb dX11_advance_129 rfl (lv_at hl 2 rfl) ?_
                          refine g_cv (As := [.int (iI (v 23)), .int (iI x3), .int (iI a2)]) (rest := [.int (iI x3), .ref (ad 40)]) (n := 3) C hml (y_rankOf l D k A ad hD (va_up (va_up (va_up v 0 0) 1 0) 23 (v 23)) (va_up (va_up (va_up (va_up (va_up (va_up f 37 c37_15) 38 c38_15) 21 (f 21)) 22 (f 22)) 23 (f 23)) 34 (f 34)) (va_up g 1 d1_15) (v 23) x3 a2 (by omega) (by omega) (by omega) (show rpOk (v 13) (f 9) from hrp (by omega)) (show 0 ≤ (v 23) ∧ (v 23) ≤ 3 from by omega)) mM_X11_401 mI_X11_rankOf mE_X11_rankOf mN_X11 mC_X11_rankOf (by decide +kernel) 0 (ci := 11) rfl rfl hP hS (fun _ h => h) ⟨Nat.le_of_ble_eq_true rfl, Nat.le_of_ble_eq_true rfl⟩ ⟨Nat.zero_le _, Nat.zero_le _⟩ hl.1 rfl rfl (Nat.le_of_ble_eq_true rfl) dX11_advance_130 (fun r_30 v_30 f_30 g_30 H locs hq_30 hP _ hS => ?_)
                          obtain ⟨z_30, a37_30, b1_30, rfl, rfl, rfl, rfl, p0_30, p1_30⟩ := hq_30
                          show W p l e (gRm 6 172) s m args below meth c _ _ 0 0 Q (F0 m 133 ls [.int (iI z_30), .int (iI x3), .ref (ad 40)])
                          have hP : gWd D (mdT k ad) (va_up (va_up (va_up v 0 0) 1 0) 23 (v 23)) (va_up (va_up (va_up (va_up (va_up (va_up f 37 a37_30) 38 c38_15) 21 (f 21)) 22 (f 22)) 23 (f 23)) 34 (f 34)) (va_up g 1 b1_30) H := ⟨hP.1, (gF_up (V := mdV) (F := mdF) (gF_up (V := mdV) (F := mdF) (gF_up (V := mdV) (F := mdF) (gF_up (V := mdV) (F := mdF) (gF_up (V := mdV) (F := mdF) (gF_up (V := mdV) (F := mdF) (gR_up (V := mdV) (F := mdF) (gR_up (V := mdV) (F := mdF) (gR_up (V := mdV) (F := mdF) ⟨hok.1, hok.2⟩ 0 (hP.2.1 0)) 1 (hP.2.1 1)) 23 (hP.2.1 23)) 37 (hP.2.2 37)) 38 (hP.2.2 38)) 21 (hP.2.2 21)) 22 (hP.2.2 22)) 23 (hP.2.2 23)) 34 (hP.2.2 34))⟩
                          replace p0_30 : z_30 = (1 + cn (pAh (kvF (fun k => mcG ((f 9) k)) (f 10) (f 13) (f 1) (v 13) (gFd (f 24) (f 25) (f 26) (f 27) (f 28) (f 29) (f 30) (f 31) (f 32) (f 33) (f 18) (f 19) (v 25) (v 26) a2)) (fun k => 1 - (f 15) k) (v 14) (v 18) (liF (f 21) (v 23)) (v 23) x3) (v 22).toNat) := p0_30
                          replace p1_30 : 1 ≤ z_30 ∧ z_30 ≤ 17 := p1_30
                          have hz_30 : inR z_30 := (by first | omega | (rw [p0_30]; split <;> omega))
                          have hrk := p0_30
                          clear p0_30
                          refine lv_goto (tgt := 137) hx hb dX11_advance_133 (by decide) ?_
                          refine mdS_ranks (f1 := (va_up (va_up (va_up (va_up (va_up (va_up f 37 a37_30) 38 (u1 c38_15 x3 z_30)) 21 (f 21)) 22 (f 22)) 23 (f 23)) 34 (f 34))) C hP hD hS (by omega) (by omega) (by omega) rfl (Or.inr (gF_up (V := mdV) (F := mdF) (gF_up (V := mdV) (F := mdF) (gF_up (V := mdV) (F := mdF) (gF_up (V := mdV) (F := mdF) (gF_up (V := mdV) (F := mdF) (gF_up (V := mdV) (F := mdF) (gR_up (V := mdV) (F := mdF) (gR_up (V := mdV) (F := mdF) (gR_up (V := mdV) (F := mdF) ⟨hok.1, hok.2⟩ 0 (hP.2.1 0)) 1 (hP.2.1 1)) 23 (hP.2.1 23)) 37 (hP.2.2 37)) 38 (u1_rng (hP.2.2 38) (show (-1) ≤ z_30 ∧ z_30 ≤ 17 from (by omega)))) 21 (hP.2.2 21)) 22 (hP.2.2 22)) 23 (hP.2.2 23)) 34 (hP.2.2 34))) dX11_advance_137 (fun H locs hP hS => ?_)
                          refine lv_iinc (v := iI (x3 + 1)) (lv' := [(3, .int (iI (x3 + 1))), (0, .ref (ad 0)), (1, .int (iI a1)), (2, .int (iI a2))]) hx hb dX11_advance_138 hl (k := 3) rfl (by show iI _ + iI 1 = _; rw [iI_add]) (by decide) rfl (fun ls hl => ?_)
                          refine lv_goto (tgt := 93) hx hb dX11_advance_141 (by decide) ?_
                          exact ih_93 (x3 + 1) a37_30 (u1 c38_15 x3 z_30) b1_30 _ _ _ (by omega) (by omega) (rk_s (K := rkF (kvF (fun k => mcG ((f 9) k)) (f 10) (f 13) (f 1) (v 13) (gFd (f 24) (f 25) (f 26) (f 27) (f 28) (f 29) (f 30) (f 31) (f 32) (f 33) (f 18) (f 19) (v 25) (v 26) a2)) (fun k => 1 - (f 15) k) (v 14) (v 18) (liF (f 21) (v 23)) (v 22) (v 23)) hK (by unfold rkF; first | (rw [if_neg (by omega)]) | (rw [if_pos (by omega)]; exact hrk))) hP hS (lv_sub hl [1, 2, 3, 0] rfl)
                  exact L_15 17 0 (f 37) (f 38) (g 1) _ _ _ (by omega) (by omega) (fun c h0 h1 => by omega) hP hS (lv_sub hl [1, 2, 3, 0] rfl)
                · refine lv_aload_n hx hb dX11_advance_84 rfl (lv_at hl 0 rfl) ?_
                  refine lv_bipush (v := iI 10) hx hb dX11_advance_85 (by decide) ?_
                  refine g_cv (As := [.int (iI 10)]) (rest := []) (n := 1) C hml (m_X11_refuse l D k A ad hD (va_up (va_up (va_up v 0 0) 1 0) 23 (v 23)) (va_up (va_up (va_up (va_up (va_up (va_up f 37 (f 37)) 38 (f 38)) 21 (f 21)) 22 (f 22)) 23 (f 23)) 34 (f 34)) (va_up g 1 (g 1)) 10 (by decide) (show 0 ≤ (10 : Int) ∧ (10 : Int) ≤ 10 from by omega)) mM_X11_295 mI_X11_refuse mE_X11_refuse mN_X11 mC_X11_refuse (by decide +kernel) 0 (ci := 11) rfl rfl hP hS (fun _ h => h) ⟨Nat.le_of_ble_eq_true rfl, Nat.le_of_ble_eq_true rfl⟩ ⟨Nat.zero_le _, Nat.zero_le _⟩ hl.1 rfl rfl (Nat.le_of_ble_eq_true rfl) dX11_advance_87 (fun r_31 v_31 f_31 g_31 H locs hq_31 hP _ hS => ?_)
                  obtain ⟨rfl, rfl, rfl, rfl⟩ := hq_31
                  show W p l e (gRm 6 172) s m args below meth c _ _ 0 0 Q (F0 m 90 ls [.int (iI (-1))])
                  have hP : gWd D (mdT k ad) (va_up (va_up (va_up v 0 (10 : Int)) 1 0) 23 (v 23)) (va_up (va_up (va_up (va_up (va_up (va_up f 37 (f 37)) 38 (f 38)) 21 (f 21)) 22 (f 22)) 23 (f 23)) 34 (f 34)) (va_up g 1 (g 1)) H := ⟨hP.1, (gF_up (V := mdV) (F := mdF) (gF_up (V := mdV) (F := mdF) (gF_up (V := mdV) (F := mdF) (gF_up (V := mdV) (F := mdF) (gF_up (V := mdV) (F := mdF) (gF_up (V := mdV) (F := mdF) (gR_up (V := mdV) (F := mdF) (gR_up (V := mdV) (F := mdF) (gR_up (V := mdV) (F := mdF) ⟨hok.1, hok.2⟩ 0 (hP.2.1 0)) 1 (hP.2.1 1)) 23 (hP.2.1 23)) 37 (hP.2.2 37)) 38 (hP.2.2 38)) 21 (hP.2.2 21)) 22 (hP.2.2 22)) 23 (hP.2.2 23)) 34 (hP.2.2 34))⟩
                  exact g_iret hQ C hr hlocks hP hS dX11_advance_90 ⟨(-1), (10 : Int), (f 37), (f 38), (f 22), (f 34), (g 1), rfl, (by rw [show ((if (10 : Int) = 0 then (v 23) + 1 else (v 23)) : Int) = (v 23) from by first | rfl | omega | ((repeat' split) <;> omega)]), (by rw [show ((if (10 : Int) = 0 then aiP (f 21) (pAv (rkF (kvF (fun k => mcG ((f 9) k)) (f 10) (f 13) (f 1) (v 13) (gFd (f 24) (f 25) (f 26) (f 27) (f 28) (f 29) (f 30) (f 31) (f 32) (f 33) (f 18) (f 19) (v 25) (v 26) a2)) (fun k => 1 - (f 15) k) (v 14) (v 18) (liF (f 21) (v 23)) (v 22) (v 23)) a1) ((v 23) + 1) (v 22) else (f 21)) : Int → Int) = (f 21) from by first | rfl | (rw [if_neg (by omega)]) | (rw [if_pos rfl]; exact hin.symm), show ((if (10 : Int) = 0 then u1 (f 23) ((v 23) + 1) (cn (pAv (rkF (kvF (fun k => mcG ((f 9) k)) (f 10) (f 13) (f 1) (v 13) (gFd (f 24) (f 25) (f 26) (f 27) (f 28) (f 29) (f 30) (f 31) (f 32) (f 33) (f 18) (f 19) (v 25) (v 26) a2)) (fun k => 1 - (f 15) k) (v 14) (v 18) (liF (f 21) (v 23)) (v 22) (v 23)) a1) (v 22).toNat) else (f 23)) : Int → Int) = (f 23) from by first | rfl | (rw [if_neg (by omega)]) | (rw [if_pos rfl, hcn])]), rfl, (by first | (rw [if_pos (by omega)]) | (rw [if_neg (by omega)]; exact hcn)), (by first | omega | ((repeat' split) <;> omega)), (by first | (rw [if_pos (by omega)]) | (rw [if_neg (by omega), if_pos (cn_hi (x := 0) (by omega) (by omega) (decide_eq_true (by omega)))]) | (rw [if_neg (by omega), if_neg (by rw [show (v 22) = x3 by omega, hI]; decide)]; first | rw [if_pos (by omega)] | rw [if_neg (by omega)]) | (rw [if_neg (by omega), if_neg (by rw [hI0]; decide)]; first | rw [if_pos (by omega)] | rw [if_neg (by omega)])), (by first | (intro c c0 c1; rw [if_neg (by omega)]) | (intro c c0 c1; rw [if_pos rfl]; exact hC c c0 (by omega)))⟩
            · refine lv_aload_n hx hb dX11_advance_44 rfl (lv_at hl 0 rfl) ?_
              refine lv_iload_n hx hb dX11_advance_45 rfl (lv_at hl 3 rfl) ?_
              refine g_cv (As := [.int (iI x3)]) (rest := []) (n := 1) C hml (y_openTry l D k A ad hD (va_up (va_up (va_up v 0 0) 1 0) 23 (v 23)) (va_up (va_up (va_up (va_up (va_up (va_up f 37 (f 37)) 38 (f 38)) 21 (f 21)) 22 (f 22)) 23 (f 23)) 34 (f 34)) (va_up g 1 (g 1)) x3 on (by omega) (show OI (v 25) (f 24) (f 30) on from hO) (show 0 ≤ x3 ∧ x3 ≤ 15 from by omega)) mM_X11_355 mI_X11_openTry mE_X11_openTry mN_X11 mC_X11_openTry (by decide +kernel) 0 (ci := 11) rfl rfl hP hS (fun _ h => h) ⟨Nat.le_of_ble_eq_true rfl, Nat.le_of_ble_eq_true rfl⟩ ⟨Nat.zero_le _, Nat.zero_le _⟩ hl.1 rfl rfl (Nat.le_of_ble_eq_true rfl) dX11_advance_46 (fun r_32 v_32 f_32 g_32 H locs hq_32 hP _ hS => ?_)
              obtain ⟨z_32, rfl, rfl, rfl, rfl, p0_32, p1_32⟩ := hq_32
              show W p l e (gRm 6 172) s m args below meth c _ _ 0 0 Q (F0 m 49 ls [.int (iI z_32)])
              replace p0_32 : z_32 = (on x3 - 1) := p0_32
              replace p1_32 : (-1) ≤ z_32 ∧ z_32 ≤ 299 := p1_32
              have hz_32 : inR z_32 := (by first | omega | (rw [p0_32]; split <;> omega))
              refine gi_zlt (tgt := 58) hx hb dX11_advance_49 (by decide) (by omega) (fun c_33 => ?_) (fun c_33 => ?_)
              · refine lv_iinc (v := iI (x3 + 1)) (lv' := [(3, .int (iI (x3 + 1))), (0, .ref (ad 0)), (1, .int (iI a1)), (2, .int (iI a2))]) hx hb dX11_advance_58 hl (k := 3) rfl (by show iI _ + iI 1 = _; rw [iI_add]) (by decide) rfl (fun ls hl => ?_)
                refine lv_goto (tgt := 36) hx hb dX11_advance_61 (by decide) ?_
                exact ih_36 (x3 + 1) _ _ _ (by omega) (by omega) (by rw [cn_n (by omega) (decide_eq_false (by omega))]; exact hI) hP hS (lv_sub hl [1, 2, 3, 0] rfl)
              · refine lv_aload_n hx hb dX11_advance_52 rfl (lv_at hl 0 rfl) ?_
                refine lv_iconst (v := iI 5) hx hb dX11_advance_53 rfl ?_
                refine g_cv (As := [.int (iI 5)]) (rest := []) (n := 1) C hml (m_X11_refuse l D k A ad hD (va_up (va_up (va_up v 0 0) 1 0) 23 (v 23)) (va_up (va_up (va_up (va_up (va_up (va_up f 37 (f 37)) 38 (f 38)) 21 (f 21)) 22 (f 22)) 23 (f 23)) 34 (f 34)) (va_up g 1 (g 1)) 5 (by decide) (show 0 ≤ (5 : Int) ∧ (5 : Int) ≤ 10 from by omega)) mM_X11_295 mI_X11_refuse mE_X11_refuse mN_X11 mC_X11_refuse (by decide +kernel) 0 (ci := 11) rfl rfl hP hS (fun _ h => h) ⟨Nat.le_of_ble_eq_true rfl, Nat.le_of_ble_eq_true rfl⟩ ⟨Nat.zero_le _, Nat.zero_le _⟩ hl.1 rfl rfl (Nat.le_of_ble_eq_true rfl) dX11_advance_54 (fun r_34 v_34 f_34 g_34 H locs hq_34 hP _ hS => ?_)
                obtain ⟨rfl, rfl, rfl, rfl⟩ := hq_34
                show W p l e (gRm 6 172) s m args below meth c _ _ 0 0 Q (F0 m 57 ls [.int (iI (-1))])
                have hP : gWd D (mdT k ad) (va_up (va_up (va_up v 0 (5 : Int)) 1 0) 23 (v 23)) (va_up (va_up (va_up (va_up (va_up (va_up f 37 (f 37)) 38 (f 38)) 21 (f 21)) 22 (f 22)) 23 (f 23)) 34 (f 34)) (va_up g 1 (g 1)) H := ⟨hP.1, (gF_up (V := mdV) (F := mdF) (gF_up (V := mdV) (F := mdF) (gF_up (V := mdV) (F := mdF) (gF_up (V := mdV) (F := mdF) (gF_up (V := mdV) (F := mdF) (gF_up (V := mdV) (F := mdF) (gR_up (V := mdV) (F := mdF) (gR_up (V := mdV) (F := mdF) (gR_up (V := mdV) (F := mdF) ⟨hok.1, hok.2⟩ 0 (hP.2.1 0)) 1 (hP.2.1 1)) 23 (hP.2.1 23)) 37 (hP.2.2 37)) 38 (hP.2.2 38)) 21 (hP.2.2 21)) 22 (hP.2.2 22)) 23 (hP.2.2 23)) 34 (hP.2.2 34))⟩
                exact g_iret hQ C hr hlocks hP hS dX11_advance_57 ⟨(-1), (5 : Int), (f 37), (f 38), (f 22), (f 34), (g 1), rfl, (by rw [show ((if (5 : Int) = 0 then (v 23) + 1 else (v 23)) : Int) = (v 23) from by first | rfl | omega | ((repeat' split) <;> omega)]), (by rw [show ((if (5 : Int) = 0 then aiP (f 21) (pAv (rkF (kvF (fun k => mcG ((f 9) k)) (f 10) (f 13) (f 1) (v 13) (gFd (f 24) (f 25) (f 26) (f 27) (f 28) (f 29) (f 30) (f 31) (f 32) (f 33) (f 18) (f 19) (v 25) (v 26) a2)) (fun k => 1 - (f 15) k) (v 14) (v 18) (liF (f 21) (v 23)) (v 22) (v 23)) a1) ((v 23) + 1) (v 22) else (f 21)) : Int → Int) = (f 21) from by first | rfl | (rw [if_neg (by omega)]) | (rw [if_pos rfl]; exact hin.symm), show ((if (5 : Int) = 0 then u1 (f 23) ((v 23) + 1) (cn (pAv (rkF (kvF (fun k => mcG ((f 9) k)) (f 10) (f 13) (f 1) (v 13) (gFd (f 24) (f 25) (f 26) (f 27) (f 28) (f 29) (f 30) (f 31) (f 32) (f 33) (f 18) (f 19) (v 25) (v 26) a2)) (fun k => 1 - (f 15) k) (v 14) (v 18) (liF (f 21) (v 23)) (v 22) (v 23)) a1) (v 22).toNat) else (f 23)) : Int → Int) = (f 23) from by first | rfl | (rw [if_neg (by omega)]) | (rw [if_pos rfl, hcn])]), rfl, (by first | (rw [if_pos (by omega)]) | (rw [if_neg (by omega)]; exact hcn)), (by first | omega | ((repeat' split) <;> omega)), (by first | (rw [if_pos (by omega)]) | (rw [if_neg (by omega), if_pos (cn_hi (x := x3) (by omega) (by omega) (decide_eq_true (by omega)))]) | (rw [if_neg (by omega), if_neg (by rw [show (v 22) = x3 by omega, hI]; decide)]; first | rw [if_pos (by omega)] | rw [if_neg (by omega)]) | (rw [if_neg (by omega), if_neg (by rw [hI0]; decide)]; first | rw [if_pos (by omega)] | rw [if_neg (by omega)])), (by first | (intro c c0 c1; rw [if_neg (by omega)]) | (intro c c0 c1; rw [if_pos rfl]; exact hC c c0 (by omega)))⟩
        exact L_10 17 0 _ _ _ (by omega) (by omega) rfl hP hS (lv_sub hl [1, 2, 3, 0] rfl)
      · have vz_8 := gif0 w_8 c_9
        clear w_8
        refine lv_aload_n hx hb dX11_advance_28 rfl (lv_at hl 0 rfl) ?_
        refine lv_iconst (v := iI 2) hx hb dX11_advance_29 rfl ?_
        refine g_cv (As := [.int (iI 2)]) (rest := []) (n := 1) C hml (m_X11_refuse l D k A ad hD (va_up (va_up (va_up v 0 0) 1 0) 23 (v 23)) (va_up (va_up (va_up (va_up (va_up (va_up f 37 (f 37)) 38 (f 38)) 21 (f 21)) 22 (f 22)) 23 (f 23)) 34 (f 34)) (va_up g 1 (g 1)) 2 (by decide) (show 0 ≤ (2 : Int) ∧ (2 : Int) ≤ 10 from by omega)) mM_X11_295 mI_X11_refuse mE_X11_refuse mN_X11 mC_X11_refuse (by decide +kernel) 0 (ci := 11) rfl rfl hP hS (fun _ h => h) ⟨Nat.le_of_ble_eq_true rfl, Nat.le_of_ble_eq_true rfl⟩ ⟨Nat.zero_le _, Nat.zero_le _⟩ hl.1 rfl rfl (Nat.le_of_ble_eq_true rfl) dX11_advance_30 (fun r_35 v_35 f_35 g_35 H locs hq_35 hP _ hS => ?_)
        obtain ⟨rfl, rfl, rfl, rfl⟩ := hq_35
        show W p l e (gRm 6 172) s m args below meth c _ _ 0 0 Q (F0 m 33 ls [.int (iI (-1))])
        have hP : gWd D (mdT k ad) (va_up (va_up (va_up v 0 (2 : Int)) 1 0) 23 (v 23)) (va_up (va_up (va_up (va_up (va_up (va_up f 37 (f 37)) 38 (f 38)) 21 (f 21)) 22 (f 22)) 23 (f 23)) 34 (f 34)) (va_up g 1 (g 1)) H := ⟨hP.1, (gF_up (V := mdV) (F := mdF) (gF_up (V := mdV) (F := mdF) (gF_up (V := mdV) (F := mdF) (gF_up (V := mdV) (F := mdF) (gF_up (V := mdV) (F := mdF) (gF_up (V := mdV) (F := mdF) (gR_up (V := mdV) (F := mdF) (gR_up (V := mdV) (F := mdF) (gR_up (V := mdV) (F := mdF) ⟨hok.1, hok.2⟩ 0 (hP.2.1 0)) 1 (hP.2.1 1)) 23 (hP.2.1 23)) 37 (hP.2.2 37)) 38 (hP.2.2 38)) 21 (hP.2.2 21)) 22 (hP.2.2 22)) 23 (hP.2.2 23)) 34 (hP.2.2 34))⟩
        exact g_iret hQ C hr hlocks hP hS dX11_advance_33 ⟨(-1), (2 : Int), (f 37), (f 38), (f 22), (f 34), (g 1), rfl, (by rw [show ((if (2 : Int) = 0 then (v 23) + 1 else (v 23)) : Int) = (v 23) from by first | rfl | omega | ((repeat' split) <;> omega)]), (by rw [show ((if (2 : Int) = 0 then aiP (f 21) (pAv (rkF (kvF (fun k => mcG ((f 9) k)) (f 10) (f 13) (f 1) (v 13) (gFd (f 24) (f 25) (f 26) (f 27) (f 28) (f 29) (f 30) (f 31) (f 32) (f 33) (f 18) (f 19) (v 25) (v 26) a2)) (fun k => 1 - (f 15) k) (v 14) (v 18) (liF (f 21) (v 23)) (v 22) (v 23)) a1) ((v 23) + 1) (v 22) else (f 21)) : Int → Int) = (f 21) from by first | rfl | (rw [if_neg (by omega)]) | (rw [if_pos rfl]; exact hin.symm), show ((if (2 : Int) = 0 then u1 (f 23) ((v 23) + 1) (cn (pAv (rkF (kvF (fun k => mcG ((f 9) k)) (f 10) (f 13) (f 1) (v 13) (gFd (f 24) (f 25) (f 26) (f 27) (f 28) (f 29) (f 30) (f 31) (f 32) (f 33) (f 18) (f 19) (v 25) (v 26) a2)) (fun k => 1 - (f 15) k) (v 14) (v 18) (liF (f 21) (v 23)) (v 22) (v 23)) a1) (v 22).toNat) else (f 23)) : Int → Int) = (f 23) from by first | rfl | (rw [if_neg (by omega)]) | (rw [if_pos rfl, hcn])]), rfl, (by first | (rw [if_pos (by omega)]) | (rw [if_neg (by omega)]; exact hcn)), (by first | omega | ((repeat' split) <;> omega)), (by first | (rw [if_pos (by omega)]) | (rw [if_neg (by omega), if_pos (cn_hi (x := 0) (by omega) (by omega) (decide_eq_true (by omega)))]) | (rw [if_neg (by omega), if_neg (by rw [show (v 22) = x3 by omega, hI]; decide)]; first | rw [if_pos (by omega)] | rw [if_neg (by omega)]) | (rw [if_neg (by omega), if_neg (by rw [hI0]; decide)]; first | rw [if_pos (by omega)] | rw [if_neg (by omega)])), (by first | (intro c c0 c1; rw [if_neg (by omega)]) | (intro c c0 c1; rw [if_pos rfl]; exact hC c c0 (by omega)))⟩
end
