section
theorem dG_dX11_counts_0 : (decode cX11_counts 0 = .ok (.aload_n 0, 1)) ∧ (decode cX11_counts 1 = .ok (.getfield 249, 3)) ∧ (decode cX11_counts 4 = .ok (.bipush 40, 2)) ∧ (decode cX11_counts 6 = .ok (.if_icmp .ne 12, 3)) ∧ (decode cX11_counts 9 = .ok (.aload_n 0, 1)) ∧ (decode cX11_counts 10 = .ok (.iconst 3, 1)) ∧ (decode cX11_counts 11 = .ok (.aload_n 0, 1)) ∧ (decode cX11_counts 12 = .ok (.getfield 158, 3)) ∧ (decode cX11_counts 15 = .ok (.invokevirtual 194, 3)) ∧ (decode cX11_counts 18 = .ok (.aload_n 0, 1)) ∧ (decode cX11_counts 19 = .ok (.dup, 1)) ∧ (decode cX11_counts 20 = .ok (.getfield 249, 3)) := by decide +kernel
theorem dX11_counts_0 : decode cX11_counts 0 = .ok (.aload_n 0, 1) := dG_dX11_counts_0.1
theorem dX11_counts_1 : decode cX11_counts 1 = .ok (.getfield 249, 3) := dG_dX11_counts_0.2.1
theorem dX11_counts_4 : decode cX11_counts 4 = .ok (.bipush 40, 2) := dG_dX11_counts_0.2.2.1
theorem dX11_counts_6 : decode cX11_counts 6 = .ok (.if_icmp .ne 12, 3) := dG_dX11_counts_0.2.2.2.1
theorem dX11_counts_9 : decode cX11_counts 9 = .ok (.aload_n 0, 1) := dG_dX11_counts_0.2.2.2.2.1
theorem dX11_counts_10 : decode cX11_counts 10 = .ok (.iconst 3, 1) := dG_dX11_counts_0.2.2.2.2.2.1
theorem dX11_counts_11 : decode cX11_counts 11 = .ok (.aload_n 0, 1) := dG_dX11_counts_0.2.2.2.2.2.2.1
theorem dX11_counts_12 : decode cX11_counts 12 = .ok (.getfield 158, 3) := dG_dX11_counts_0.2.2.2.2.2.2.2.1
theorem dX11_counts_15 : decode cX11_counts 15 = .ok (.invokevirtual 194, 3) := dG_dX11_counts_0.2.2.2.2.2.2.2.2.1
theorem dX11_counts_18 : decode cX11_counts 18 = .ok (.aload_n 0, 1) := dG_dX11_counts_0.2.2.2.2.2.2.2.2.2.1
theorem dX11_counts_19 : decode cX11_counts 19 = .ok (.dup, 1) := dG_dX11_counts_0.2.2.2.2.2.2.2.2.2.2.1
theorem dX11_counts_20 : decode cX11_counts 20 = .ok (.getfield 249, 3) := dG_dX11_counts_0.2.2.2.2.2.2.2.2.2.2.2
theorem dG_dX11_counts_23 : (decode cX11_counts 23 = .ok (.iconst 1, 1)) ∧ (decode cX11_counts 24 = .ok (.iadd, 1)) ∧ (decode cX11_counts 25 = .ok (.putfield 249, 3)) ∧ (decode cX11_counts 28 = .ok (.return_, 1)) ∧ (decode cX11_puts 0 = .ok (.aload_n 0, 1)) ∧ (decode cX11_puts 1 = .ok (.getfield 51, 3)) ∧ (decode cX11_puts 4 = .ok (.aload_n 0, 1)) ∧ (decode cX11_puts 5 = .ok (.getfield 217, 3)) ∧ (decode cX11_puts 8 = .ok (.iload_n 1, 1)) ∧ (decode cX11_puts 9 = .ok (.iastore, 1)) ∧ (decode cX11_puts 10 = .ok (.aload_n 0, 1)) ∧ (decode cX11_puts 11 = .ok (.getfield 54, 3)) := by decide +kernel
theorem dX11_counts_23 : decode cX11_counts 23 = .ok (.iconst 1, 1) := dG_dX11_counts_23.1
theorem dX11_counts_24 : decode cX11_counts 24 = .ok (.iadd, 1) := dG_dX11_counts_23.2.1
theorem dX11_counts_25 : decode cX11_counts 25 = .ok (.putfield 249, 3) := dG_dX11_counts_23.2.2.1
theorem dX11_counts_28 : decode cX11_counts 28 = .ok (.return_, 1) := dG_dX11_counts_23.2.2.2.1
theorem dX11_puts_0 : decode cX11_puts 0 = .ok (.aload_n 0, 1) := dG_dX11_counts_23.2.2.2.2.1
theorem dX11_puts_1 : decode cX11_puts 1 = .ok (.getfield 51, 3) := dG_dX11_counts_23.2.2.2.2.2.1
theorem dX11_puts_4 : decode cX11_puts 4 = .ok (.aload_n 0, 1) := dG_dX11_counts_23.2.2.2.2.2.2.1
theorem dX11_puts_5 : decode cX11_puts 5 = .ok (.getfield 217, 3) := dG_dX11_counts_23.2.2.2.2.2.2.2.1
theorem dX11_puts_8 : decode cX11_puts 8 = .ok (.iload_n 1, 1) := dG_dX11_counts_23.2.2.2.2.2.2.2.2.1
theorem dX11_puts_9 : decode cX11_puts 9 = .ok (.iastore, 1) := dG_dX11_counts_23.2.2.2.2.2.2.2.2.2.1
theorem dX11_puts_10 : decode cX11_puts 10 = .ok (.aload_n 0, 1) := dG_dX11_counts_23.2.2.2.2.2.2.2.2.2.2.1
theorem dX11_puts_11 : decode cX11_puts 11 = .ok (.getfield 54, 3) := dG_dX11_counts_23.2.2.2.2.2.2.2.2.2.2.2
theorem dG_dX11_puts_14 : (decode cX11_puts 14 = .ok (.aload_n 0, 1)) ∧ (decode cX11_puts 15 = .ok (.getfield 217, 3)) ∧ (decode cX11_puts 18 = .ok (.iload_n 2, 1)) ∧ (decode cX11_puts 19 = .ok (.iastore, 1)) ∧ (decode cX11_puts 20 = .ok (.aload_n 0, 1)) ∧ (decode cX11_puts 21 = .ok (.dup, 1)) ∧ (decode cX11_puts 22 = .ok (.getfield 217, 3)) ∧ (decode cX11_puts 25 = .ok (.iconst 1, 1)) ∧ (decode cX11_puts 26 = .ok (.iadd, 1)) ∧ (decode cX11_puts 27 = .ok (.putfield 217, 3)) ∧ (decode cX11_puts 30 = .ok (.return_, 1)) ∧ (decode cX11_deeper 0 = .ok (.aload_n 0, 1)) := by decide +kernel
theorem dX11_puts_14 : decode cX11_puts 14 = .ok (.aload_n 0, 1) := dG_dX11_puts_14.1
theorem dX11_puts_15 : decode cX11_puts 15 = .ok (.getfield 217, 3) := dG_dX11_puts_14.2.1
theorem dX11_puts_18 : decode cX11_puts 18 = .ok (.iload_n 2, 1) := dG_dX11_puts_14.2.2.1
theorem dX11_puts_19 : decode cX11_puts 19 = .ok (.iastore, 1) := dG_dX11_puts_14.2.2.2.1
theorem dX11_puts_20 : decode cX11_puts 20 = .ok (.aload_n 0, 1) := dG_dX11_puts_14.2.2.2.2.1
theorem dX11_puts_21 : decode cX11_puts 21 = .ok (.dup, 1) := dG_dX11_puts_14.2.2.2.2.2.1
theorem dX11_puts_22 : decode cX11_puts 22 = .ok (.getfield 217, 3) := dG_dX11_puts_14.2.2.2.2.2.2.1
theorem dX11_puts_25 : decode cX11_puts 25 = .ok (.iconst 1, 1) := dG_dX11_puts_14.2.2.2.2.2.2.2.1
theorem dX11_puts_26 : decode cX11_puts 26 = .ok (.iadd, 1) := dG_dX11_puts_14.2.2.2.2.2.2.2.2.1
theorem dX11_puts_27 : decode cX11_puts 27 = .ok (.putfield 217, 3) := dG_dX11_puts_14.2.2.2.2.2.2.2.2.2.1
theorem dX11_puts_30 : decode cX11_puts 30 = .ok (.return_, 1) := dG_dX11_puts_14.2.2.2.2.2.2.2.2.2.2.1
theorem dX11_deeper_0 : decode cX11_deeper 0 = .ok (.aload_n 0, 1) := dG_dX11_puts_14.2.2.2.2.2.2.2.2.2.2.2
theorem dG_dX11_deeper_1 : (decode cX11_deeper 1 = .ok (.getfield 252, 3)) ∧ (decode cX11_deeper 4 = .ok (.bipush 8, 2)) ∧ (decode cX11_deeper 6 = .ok (.if_icmp .ne 12, 3)) ∧ (decode cX11_deeper 9 = .ok (.aload_n 0, 1)) ∧ (decode cX11_deeper 10 = .ok (.iconst 3, 1)) ∧ (decode cX11_deeper 11 = .ok (.aload_n 0, 1)) ∧ (decode cX11_deeper 12 = .ok (.getfield 158, 3)) ∧ (decode cX11_deeper 15 = .ok (.invokevirtual 194, 3)) ∧ (decode cX11_deeper 18 = .ok (.aload_n 0, 1)) ∧ (decode cX11_deeper 19 = .ok (.dup, 1)) ∧ (decode cX11_deeper 20 = .ok (.getfield 252, 3)) ∧ (decode cX11_deeper 23 = .ok (.iconst 1, 1)) := by decide +kernel
theorem dX11_deeper_1 : decode cX11_deeper 1 = .ok (.getfield 252, 3) := dG_dX11_deeper_1.1
theorem dX11_deeper_4 : decode cX11_deeper 4 = .ok (.bipush 8, 2) := dG_dX11_deeper_1.2.1
theorem dX11_deeper_6 : decode cX11_deeper 6 = .ok (.if_icmp .ne 12, 3) := dG_dX11_deeper_1.2.2.1
theorem dX11_deeper_9 : decode cX11_deeper 9 = .ok (.aload_n 0, 1) := dG_dX11_deeper_1.2.2.2.1
theorem dX11_deeper_10 : decode cX11_deeper 10 = .ok (.iconst 3, 1) := dG_dX11_deeper_1.2.2.2.2.1
theorem dX11_deeper_11 : decode cX11_deeper 11 = .ok (.aload_n 0, 1) := dG_dX11_deeper_1.2.2.2.2.2.1
theorem dX11_deeper_12 : decode cX11_deeper 12 = .ok (.getfield 158, 3) := dG_dX11_deeper_1.2.2.2.2.2.2.1
theorem dX11_deeper_15 : decode cX11_deeper 15 = .ok (.invokevirtual 194, 3) := dG_dX11_deeper_1.2.2.2.2.2.2.2.1
theorem dX11_deeper_18 : decode cX11_deeper 18 = .ok (.aload_n 0, 1) := dG_dX11_deeper_1.2.2.2.2.2.2.2.2.1
theorem dX11_deeper_19 : decode cX11_deeper 19 = .ok (.dup, 1) := dG_dX11_deeper_1.2.2.2.2.2.2.2.2.2.1
theorem dX11_deeper_20 : decode cX11_deeper 20 = .ok (.getfield 252, 3) := dG_dX11_deeper_1.2.2.2.2.2.2.2.2.2.2.1
theorem dX11_deeper_23 : decode cX11_deeper 23 = .ok (.iconst 1, 1) := dG_dX11_deeper_1.2.2.2.2.2.2.2.2.2.2.2
theorem dG_dX11_deeper_24 : (decode cX11_deeper 24 = .ok (.iadd, 1)) ∧ (decode cX11_deeper 25 = .ok (.putfield 252, 3)) ∧ (decode cX11_deeper 28 = .ok (.return_, 1)) ∧ (decode cX11_waitFor 0 = .ok (.aload_n 0, 1)) ∧ (decode cX11_waitFor 1 = .ok (.getfield 70, 3)) ∧ (decode cX11_waitFor 4 = .ok (.aload_n 0, 1)) ∧ (decode cX11_waitFor 5 = .ok (.getfield 255, 3)) ∧ (decode cX11_waitFor 8 = .ok (.iload_n 1, 1)) ∧ (decode cX11_waitFor 9 = .ok (.iastore, 1)) ∧ (decode cX11_waitFor 10 = .ok (.aload_n 0, 1)) ∧ (decode cX11_waitFor 11 = .ok (.dup, 1)) ∧ (decode cX11_waitFor 12 = .ok (.getfield 255, 3)) := by decide +kernel
theorem dX11_deeper_24 : decode cX11_deeper 24 = .ok (.iadd, 1) := dG_dX11_deeper_24.1
theorem dX11_deeper_25 : decode cX11_deeper 25 = .ok (.putfield 252, 3) := dG_dX11_deeper_24.2.1
theorem dX11_deeper_28 : decode cX11_deeper 28 = .ok (.return_, 1) := dG_dX11_deeper_24.2.2.1
theorem dX11_waitFor_0 : decode cX11_waitFor 0 = .ok (.aload_n 0, 1) := dG_dX11_deeper_24.2.2.2.1
theorem dX11_waitFor_1 : decode cX11_waitFor 1 = .ok (.getfield 70, 3) := dG_dX11_deeper_24.2.2.2.2.1
theorem dX11_waitFor_4 : decode cX11_waitFor 4 = .ok (.aload_n 0, 1) := dG_dX11_deeper_24.2.2.2.2.2.1
theorem dX11_waitFor_5 : decode cX11_waitFor 5 = .ok (.getfield 255, 3) := dG_dX11_deeper_24.2.2.2.2.2.2.1
theorem dX11_waitFor_8 : decode cX11_waitFor 8 = .ok (.iload_n 1, 1) := dG_dX11_deeper_24.2.2.2.2.2.2.2.1
theorem dX11_waitFor_9 : decode cX11_waitFor 9 = .ok (.iastore, 1) := dG_dX11_deeper_24.2.2.2.2.2.2.2.2.1
theorem dX11_waitFor_10 : decode cX11_waitFor 10 = .ok (.aload_n 0, 1) := dG_dX11_deeper_24.2.2.2.2.2.2.2.2.2.1
theorem dX11_waitFor_11 : decode cX11_waitFor 11 = .ok (.dup, 1) := dG_dX11_deeper_24.2.2.2.2.2.2.2.2.2.2.1
theorem dX11_waitFor_12 : decode cX11_waitFor 12 = .ok (.getfield 255, 3) := dG_dX11_deeper_24.2.2.2.2.2.2.2.2.2.2.2
theorem dG_dX11_waitFor_15 : (decode cX11_waitFor 15 = .ok (.iconst 1, 1)) ∧ (decode cX11_waitFor 16 = .ok (.iadd, 1)) ∧ (decode cX11_waitFor 17 = .ok (.putfield 255, 3)) ∧ (decode cX11_waitFor 20 = .ok (.return_, 1)) ∧ (decode cX11_strong 0 = .ok (.iload_n 0, 1)) ∧ (decode cX11_strong 1 = .ok (.bipush 9, 2)) ∧ (decode cX11_strong 3 = .ok (.if_icmp .ne 7, 3)) ∧ (decode cX11_strong 6 = .ok (.iconst 2, 1)) ∧ (decode cX11_strong 7 = .ok (.goto 14, 3)) ∧ (decode cX11_strong 10 = .ok (.iload_n 0, 1)) ∧ (decode cX11_strong 11 = .ok (.bipush 9, 2)) ∧ (decode cX11_strong 13 = .ok (.if_icmp .ge 7, 3)) := by decide +kernel
theorem dX11_waitFor_15 : decode cX11_waitFor 15 = .ok (.iconst 1, 1) := dG_dX11_waitFor_15.1
theorem dX11_waitFor_16 : decode cX11_waitFor 16 = .ok (.iadd, 1) := dG_dX11_waitFor_15.2.1
theorem dX11_waitFor_17 : decode cX11_waitFor 17 = .ok (.putfield 255, 3) := dG_dX11_waitFor_15.2.2.1
theorem dX11_waitFor_20 : decode cX11_waitFor 20 = .ok (.return_, 1) := dG_dX11_waitFor_15.2.2.2.1
theorem dX11_strong_0 : decode cX11_strong 0 = .ok (.iload_n 0, 1) := dG_dX11_waitFor_15.2.2.2.2.1
theorem dX11_strong_1 : decode cX11_strong 1 = .ok (.bipush 9, 2) := dG_dX11_waitFor_15.2.2.2.2.2.1
theorem dX11_strong_3 : decode cX11_strong 3 = .ok (.if_icmp .ne 7, 3) := dG_dX11_waitFor_15.2.2.2.2.2.2.1
theorem dX11_strong_6 : decode cX11_strong 6 = .ok (.iconst 2, 1) := dG_dX11_waitFor_15.2.2.2.2.2.2.2.1
theorem dX11_strong_7 : decode cX11_strong 7 = .ok (.goto 14, 3) := dG_dX11_waitFor_15.2.2.2.2.2.2.2.2.1
theorem dX11_strong_10 : decode cX11_strong 10 = .ok (.iload_n 0, 1) := dG_dX11_waitFor_15.2.2.2.2.2.2.2.2.2.1
theorem dX11_strong_11 : decode cX11_strong 11 = .ok (.bipush 9, 2) := dG_dX11_waitFor_15.2.2.2.2.2.2.2.2.2.2.1
theorem dX11_strong_13 : decode cX11_strong 13 = .ok (.if_icmp .ge 7, 3) := dG_dX11_waitFor_15.2.2.2.2.2.2.2.2.2.2.2
theorem dG_dX11_strong_16 : (decode cX11_strong 16 = .ok (.iconst 1, 1)) ∧ (decode cX11_strong 17 = .ok (.goto 4, 3)) ∧ (decode cX11_strong 20 = .ok (.iconst 0, 1)) ∧ (decode cX11_strong 21 = .ok (.ireturn, 1)) ∧ (decode cX11_reduce 0 = .ok (.aload_n 0, 1)) ∧ (decode cX11_reduce 1 = .ok (.getfield 255, 3)) ∧ (decode cX11_reduce 4 = .ok (.ifCond .le 64, 3)) ∧ (decode cX11_reduce 7 = .ok (.aload_n 0, 1)) ∧ (decode cX11_reduce 8 = .ok (.getfield 70, 3)) ∧ (decode cX11_reduce 11 = .ok (.aload_n 0, 1)) ∧ (decode cX11_reduce 12 = .ok (.getfield 255, 3)) ∧ (decode cX11_reduce 15 = .ok (.iconst 1, 1)) := by decide +kernel
theorem dX11_strong_16 : decode cX11_strong 16 = .ok (.iconst 1, 1) := dG_dX11_strong_16.1
theorem dX11_strong_17 : decode cX11_strong 17 = .ok (.goto 4, 3) := dG_dX11_strong_16.2.1
theorem dX11_strong_20 : decode cX11_strong 20 = .ok (.iconst 0, 1) := dG_dX11_strong_16.2.2.1
theorem dX11_strong_21 : decode cX11_strong 21 = .ok (.ireturn, 1) := dG_dX11_strong_16.2.2.2.1
theorem dX11_reduce_0 : decode cX11_reduce 0 = .ok (.aload_n 0, 1) := dG_dX11_strong_16.2.2.2.2.1
theorem dX11_reduce_1 : decode cX11_reduce 1 = .ok (.getfield 255, 3) := dG_dX11_strong_16.2.2.2.2.2.1
theorem dX11_reduce_4 : decode cX11_reduce 4 = .ok (.ifCond .le 64, 3) := dG_dX11_strong_16.2.2.2.2.2.2.1
theorem dX11_reduce_7 : decode cX11_reduce 7 = .ok (.aload_n 0, 1) := dG_dX11_strong_16.2.2.2.2.2.2.2.1
theorem dX11_reduce_8 : decode cX11_reduce 8 = .ok (.getfield 70, 3) := dG_dX11_strong_16.2.2.2.2.2.2.2.2.1
theorem dX11_reduce_11 : decode cX11_reduce 11 = .ok (.aload_n 0, 1) := dG_dX11_strong_16.2.2.2.2.2.2.2.2.2.1
theorem dX11_reduce_12 : decode cX11_reduce 12 = .ok (.getfield 255, 3) := dG_dX11_strong_16.2.2.2.2.2.2.2.2.2.2.1
theorem dX11_reduce_15 : decode cX11_reduce 15 = .ok (.iconst 1, 1) := dG_dX11_strong_16.2.2.2.2.2.2.2.2.2.2.2
theorem dG_dX11_reduce_16 : (decode cX11_reduce 16 = .ok (.isub, 1)) ∧ (decode cX11_reduce 17 = .ok (.iaload, 1)) ∧ (decode cX11_reduce 18 = .ok (.bipush 10, 2)) ∧ (decode cX11_reduce 20 = .ok (.if_icmp .ge 48, 3)) ∧ (decode cX11_reduce 23 = .ok (.aload_n 0, 1)) ∧ (decode cX11_reduce 24 = .ok (.getfield 70, 3)) ∧ (decode cX11_reduce 27 = .ok (.aload_n 0, 1)) ∧ (decode cX11_reduce 28 = .ok (.getfield 255, 3)) ∧ (decode cX11_reduce 31 = .ok (.iconst 1, 1)) ∧ (decode cX11_reduce 32 = .ok (.isub, 1)) ∧ (decode cX11_reduce 33 = .ok (.iaload, 1)) ∧ (decode cX11_reduce 34 = .ok (.invokestatic 258, 3)) := by decide +kernel
theorem dX11_reduce_16 : decode cX11_reduce 16 = .ok (.isub, 1) := dG_dX11_reduce_16.1
theorem dX11_reduce_17 : decode cX11_reduce 17 = .ok (.iaload, 1) := dG_dX11_reduce_16.2.1
theorem dX11_reduce_18 : decode cX11_reduce 18 = .ok (.bipush 10, 2) := dG_dX11_reduce_16.2.2.1
theorem dX11_reduce_20 : decode cX11_reduce 20 = .ok (.if_icmp .ge 48, 3) := dG_dX11_reduce_16.2.2.2.1
theorem dX11_reduce_23 : decode cX11_reduce 23 = .ok (.aload_n 0, 1) := dG_dX11_reduce_16.2.2.2.2.1
theorem dX11_reduce_24 : decode cX11_reduce 24 = .ok (.getfield 70, 3) := dG_dX11_reduce_16.2.2.2.2.2.1
theorem dX11_reduce_27 : decode cX11_reduce 27 = .ok (.aload_n 0, 1) := dG_dX11_reduce_16.2.2.2.2.2.2.1
theorem dX11_reduce_28 : decode cX11_reduce 28 = .ok (.getfield 255, 3) := dG_dX11_reduce_16.2.2.2.2.2.2.2.1
theorem dX11_reduce_31 : decode cX11_reduce 31 = .ok (.iconst 1, 1) := dG_dX11_reduce_16.2.2.2.2.2.2.2.2.1
theorem dX11_reduce_32 : decode cX11_reduce 32 = .ok (.isub, 1) := dG_dX11_reduce_16.2.2.2.2.2.2.2.2.2.1
theorem dX11_reduce_33 : decode cX11_reduce 33 = .ok (.iaload, 1) := dG_dX11_reduce_16.2.2.2.2.2.2.2.2.2.2.1
theorem dX11_reduce_34 : decode cX11_reduce 34 = .ok (.invokestatic 258, 3) := dG_dX11_reduce_16.2.2.2.2.2.2.2.2.2.2.2
theorem dG_dX11_reduce_37 : (decode cX11_reduce 37 = .ok (.iload_n 1, 1)) ∧ (decode cX11_reduce 38 = .ok (.if_icmp .lt 30, 3)) ∧ (decode cX11_reduce 41 = .ok (.aload_n 0, 1)) ∧ (decode cX11_reduce 42 = .ok (.dup, 1)) ∧ (decode cX11_reduce 43 = .ok (.getfield 255, 3)) ∧ (decode cX11_reduce 46 = .ok (.iconst 1, 1)) ∧ (decode cX11_reduce 47 = .ok (.isub, 1)) ∧ (decode cX11_reduce 48 = .ok (.putfield 255, 3)) ∧ (decode cX11_reduce 51 = .ok (.aload_n 0, 1)) ∧ (decode cX11_reduce 52 = .ok (.aload_n 0, 1)) ∧ (decode cX11_reduce 53 = .ok (.getfield 70, 3)) ∧ (decode cX11_reduce 56 = .ok (.aload_n 0, 1)) := by decide +kernel
theorem dX11_reduce_37 : decode cX11_reduce 37 = .ok (.iload_n 1, 1) := dG_dX11_reduce_37.1
theorem dX11_reduce_38 : decode cX11_reduce 38 = .ok (.if_icmp .lt 30, 3) := dG_dX11_reduce_37.2.1
theorem dX11_reduce_41 : decode cX11_reduce 41 = .ok (.aload_n 0, 1) := dG_dX11_reduce_37.2.2.1
theorem dX11_reduce_42 : decode cX11_reduce 42 = .ok (.dup, 1) := dG_dX11_reduce_37.2.2.2.1
theorem dX11_reduce_43 : decode cX11_reduce 43 = .ok (.getfield 255, 3) := dG_dX11_reduce_37.2.2.2.2.1
theorem dX11_reduce_46 : decode cX11_reduce 46 = .ok (.iconst 1, 1) := dG_dX11_reduce_37.2.2.2.2.2.1
theorem dX11_reduce_47 : decode cX11_reduce 47 = .ok (.isub, 1) := dG_dX11_reduce_37.2.2.2.2.2.2.1
theorem dX11_reduce_48 : decode cX11_reduce 48 = .ok (.putfield 255, 3) := dG_dX11_reduce_37.2.2.2.2.2.2.2.1
theorem dX11_reduce_51 : decode cX11_reduce 51 = .ok (.aload_n 0, 1) := dG_dX11_reduce_37.2.2.2.2.2.2.2.2.1
theorem dX11_reduce_52 : decode cX11_reduce 52 = .ok (.aload_n 0, 1) := dG_dX11_reduce_37.2.2.2.2.2.2.2.2.2.1
theorem dX11_reduce_53 : decode cX11_reduce 53 = .ok (.getfield 70, 3) := dG_dX11_reduce_37.2.2.2.2.2.2.2.2.2.2.1
theorem dX11_reduce_56 : decode cX11_reduce 56 = .ok (.aload_n 0, 1) := dG_dX11_reduce_37.2.2.2.2.2.2.2.2.2.2.2
theorem dG_dX11_reduce_57 : (decode cX11_reduce 57 = .ok (.getfield 255, 3)) ∧ (decode cX11_reduce 60 = .ok (.iaload, 1)) ∧ (decode cX11_reduce 61 = .ok (.iconst 0, 1)) ∧ (decode cX11_reduce 62 = .ok (.invokevirtual 261, 3)) ∧ (decode cX11_reduce 65 = .ok (.goto (-65), 3)) ∧ (decode cX11_reduce 68 = .ok (.return_, 1)) ∧ (decode cX11_isOpen 0 = .ok (.iconst 0, 1)) ∧ (decode cX11_isOpen 1 = .ok (.istore_n 1, 1)) ∧ (decode cX11_isOpen 2 = .ok (.iload_n 1, 1)) ∧ (decode cX11_isOpen 3 = .ok (.aload_n 0, 1)) ∧ (decode cX11_isOpen 4 = .ok (.getfield 255, 3)) ∧ (decode cX11_isOpen 7 = .ok (.if_icmp .ge 22, 3)) := by decide +kernel
theorem dX11_reduce_57 : decode cX11_reduce 57 = .ok (.getfield 255, 3) := dG_dX11_reduce_57.1
theorem dX11_reduce_60 : decode cX11_reduce 60 = .ok (.iaload, 1) := dG_dX11_reduce_57.2.1
theorem dX11_reduce_61 : decode cX11_reduce 61 = .ok (.iconst 0, 1) := dG_dX11_reduce_57.2.2.1
theorem dX11_reduce_62 : decode cX11_reduce 62 = .ok (.invokevirtual 261, 3) := dG_dX11_reduce_57.2.2.2.1
theorem dX11_reduce_65 : decode cX11_reduce 65 = .ok (.goto (-65), 3) := dG_dX11_reduce_57.2.2.2.2.1
theorem dX11_reduce_68 : decode cX11_reduce 68 = .ok (.return_, 1) := dG_dX11_reduce_57.2.2.2.2.2.1
theorem dX11_isOpen_0 : decode cX11_isOpen 0 = .ok (.iconst 0, 1) := dG_dX11_reduce_57.2.2.2.2.2.2.1
theorem dX11_isOpen_1 : decode cX11_isOpen 1 = .ok (.istore_n 1, 1) := dG_dX11_reduce_57.2.2.2.2.2.2.2.1
theorem dX11_isOpen_2 : decode cX11_isOpen 2 = .ok (.iload_n 1, 1) := dG_dX11_reduce_57.2.2.2.2.2.2.2.2.1
theorem dX11_isOpen_3 : decode cX11_isOpen 3 = .ok (.aload_n 0, 1) := dG_dX11_reduce_57.2.2.2.2.2.2.2.2.2.1
theorem dX11_isOpen_4 : decode cX11_isOpen 4 = .ok (.getfield 255, 3) := dG_dX11_reduce_57.2.2.2.2.2.2.2.2.2.2.1
theorem dX11_isOpen_7 : decode cX11_isOpen 7 = .ok (.if_icmp .ge 22, 3) := dG_dX11_reduce_57.2.2.2.2.2.2.2.2.2.2.2
theorem dG_dX11_isOpen_10 : (decode cX11_isOpen 10 = .ok (.aload_n 0, 1)) ∧ (decode cX11_isOpen 11 = .ok (.getfield 70, 3)) ∧ (decode cX11_isOpen 14 = .ok (.iload_n 1, 1)) ∧ (decode cX11_isOpen 15 = .ok (.iaload, 1)) ∧ (decode cX11_isOpen 16 = .ok (.bipush 11, 2)) ∧ (decode cX11_isOpen 18 = .ok (.if_icmp .ne 5, 3)) ∧ (decode cX11_isOpen 21 = .ok (.iconst 1, 1)) ∧ (decode cX11_isOpen 22 = .ok (.ireturn, 1)) ∧ (decode cX11_isOpen 23 = .ok (.iinc 1 1, 3)) ∧ (decode cX11_isOpen 26 = .ok (.goto (-24), 3)) ∧ (decode cX11_isOpen 29 = .ok (.iconst 0, 1)) ∧ (decode cX11_isOpen 30 = .ok (.ireturn, 1)) := by decide +kernel
theorem dX11_isOpen_10 : decode cX11_isOpen 10 = .ok (.aload_n 0, 1) := dG_dX11_isOpen_10.1
theorem dX11_isOpen_11 : decode cX11_isOpen 11 = .ok (.getfield 70, 3) := dG_dX11_isOpen_10.2.1
theorem dX11_isOpen_14 : decode cX11_isOpen 14 = .ok (.iload_n 1, 1) := dG_dX11_isOpen_10.2.2.1
theorem dX11_isOpen_15 : decode cX11_isOpen 15 = .ok (.iaload, 1) := dG_dX11_isOpen_10.2.2.2.1
theorem dX11_isOpen_16 : decode cX11_isOpen 16 = .ok (.bipush 11, 2) := dG_dX11_isOpen_10.2.2.2.2.1
theorem dX11_isOpen_18 : decode cX11_isOpen 18 = .ok (.if_icmp .ne 5, 3) := dG_dX11_isOpen_10.2.2.2.2.2.1
theorem dX11_isOpen_21 : decode cX11_isOpen 21 = .ok (.iconst 1, 1) := dG_dX11_isOpen_10.2.2.2.2.2.2.1
theorem dX11_isOpen_22 : decode cX11_isOpen 22 = .ok (.ireturn, 1) := dG_dX11_isOpen_10.2.2.2.2.2.2.2.1
theorem dX11_isOpen_23 : decode cX11_isOpen 23 = .ok (.iinc 1 1, 3) := dG_dX11_isOpen_10.2.2.2.2.2.2.2.2.1
theorem dX11_isOpen_26 : decode cX11_isOpen 26 = .ok (.goto (-24), 3) := dG_dX11_isOpen_10.2.2.2.2.2.2.2.2.2.1
theorem dX11_isOpen_29 : decode cX11_isOpen 29 = .ok (.iconst 0, 1) := dG_dX11_isOpen_10.2.2.2.2.2.2.2.2.2.2.1
theorem dX11_isOpen_30 : decode cX11_isOpen 30 = .ok (.ireturn, 1) := dG_dX11_isOpen_10.2.2.2.2.2.2.2.2.2.2.2
theorem dG_dX11_wholes_0 : (decode cX11_wholes 0 = .ok (.aload_n 0, 1)) ∧ (decode cX11_wholes 1 = .ok (.getfield 255, 3)) ∧ (decode cX11_wholes 4 = .ok (.ifCond .le 49, 3)) ∧ (decode cX11_wholes 7 = .ok (.aload_n 0, 1)) ∧ (decode cX11_wholes 8 = .ok (.getfield 70, 3)) ∧ (decode cX11_wholes 11 = .ok (.aload_n 0, 1)) ∧ (decode cX11_wholes 12 = .ok (.getfield 255, 3)) ∧ (decode cX11_wholes 15 = .ok (.iconst 1, 1)) ∧ (decode cX11_wholes 16 = .ok (.isub, 1)) ∧ (decode cX11_wholes 17 = .ok (.iaload, 1)) ∧ (decode cX11_wholes 18 = .ok (.bipush 10, 2)) ∧ (decode cX11_wholes 20 = .ok (.if_icmp .ne 33, 3)) := by decide +kernel
theorem dX11_wholes_0 : decode cX11_wholes 0 = .ok (.aload_n 0, 1) := dG_dX11_wholes_0.1
theorem dX11_wholes_1 : decode cX11_wholes 1 = .ok (.getfield 255, 3) := dG_dX11_wholes_0.2.1
theorem dX11_wholes_4 : decode cX11_wholes 4 = .ok (.ifCond .le 49, 3) := dG_dX11_wholes_0.2.2.1
theorem dX11_wholes_7 : decode cX11_wholes 7 = .ok (.aload_n 0, 1) := dG_dX11_wholes_0.2.2.2.1
theorem dX11_wholes_8 : decode cX11_wholes 8 = .ok (.getfield 70, 3) := dG_dX11_wholes_0.2.2.2.2.1
theorem dX11_wholes_11 : decode cX11_wholes 11 = .ok (.aload_n 0, 1) := dG_dX11_wholes_0.2.2.2.2.2.1
theorem dX11_wholes_12 : decode cX11_wholes 12 = .ok (.getfield 255, 3) := dG_dX11_wholes_0.2.2.2.2.2.2.1
theorem dX11_wholes_15 : decode cX11_wholes 15 = .ok (.iconst 1, 1) := dG_dX11_wholes_0.2.2.2.2.2.2.2.1
theorem dX11_wholes_16 : decode cX11_wholes 16 = .ok (.isub, 1) := dG_dX11_wholes_0.2.2.2.2.2.2.2.2.1
theorem dX11_wholes_17 : decode cX11_wholes 17 = .ok (.iaload, 1) := dG_dX11_wholes_0.2.2.2.2.2.2.2.2.2.1
theorem dX11_wholes_18 : decode cX11_wholes 18 = .ok (.bipush 10, 2) := dG_dX11_wholes_0.2.2.2.2.2.2.2.2.2.2.1
theorem dX11_wholes_20 : decode cX11_wholes 20 = .ok (.if_icmp .ne 33, 3) := dG_dX11_wholes_0.2.2.2.2.2.2.2.2.2.2.2
theorem dG_dX11_wholes_23 : (decode cX11_wholes 23 = .ok (.aload_n 0, 1)) ∧ (decode cX11_wholes 24 = .ok (.dup, 1)) ∧ (decode cX11_wholes 25 = .ok (.getfield 255, 3)) ∧ (decode cX11_wholes 28 = .ok (.iconst 1, 1)) ∧ (decode cX11_wholes 29 = .ok (.isub, 1)) ∧ (decode cX11_wholes 30 = .ok (.putfield 255, 3)) ∧ (decode cX11_wholes 33 = .ok (.aload_n 0, 1)) ∧ (decode cX11_wholes 34 = .ok (.dup, 1)) ∧ (decode cX11_wholes 35 = .ok (.getfield 252, 3)) ∧ (decode cX11_wholes 38 = .ok (.iconst 1, 1)) ∧ (decode cX11_wholes 39 = .ok (.isub, 1)) ∧ (decode cX11_wholes 40 = .ok (.putfield 252, 3)) := by decide +kernel
theorem dX11_wholes_23 : decode cX11_wholes 23 = .ok (.aload_n 0, 1) := dG_dX11_wholes_23.1
theorem dX11_wholes_24 : decode cX11_wholes 24 = .ok (.dup, 1) := dG_dX11_wholes_23.2.1
theorem dX11_wholes_25 : decode cX11_wholes 25 = .ok (.getfield 255, 3) := dG_dX11_wholes_23.2.2.1
theorem dX11_wholes_28 : decode cX11_wholes 28 = .ok (.iconst 1, 1) := dG_dX11_wholes_23.2.2.2.1
theorem dX11_wholes_29 : decode cX11_wholes 29 = .ok (.isub, 1) := dG_dX11_wholes_23.2.2.2.2.1
theorem dX11_wholes_30 : decode cX11_wholes 30 = .ok (.putfield 255, 3) := dG_dX11_wholes_23.2.2.2.2.2.1
theorem dX11_wholes_33 : decode cX11_wholes 33 = .ok (.aload_n 0, 1) := dG_dX11_wholes_23.2.2.2.2.2.2.1
theorem dX11_wholes_34 : decode cX11_wholes 34 = .ok (.dup, 1) := dG_dX11_wholes_23.2.2.2.2.2.2.2.1
theorem dX11_wholes_35 : decode cX11_wholes 35 = .ok (.getfield 252, 3) := dG_dX11_wholes_23.2.2.2.2.2.2.2.2.1
theorem dX11_wholes_38 : decode cX11_wholes 38 = .ok (.iconst 1, 1) := dG_dX11_wholes_23.2.2.2.2.2.2.2.2.2.1
theorem dX11_wholes_39 : decode cX11_wholes 39 = .ok (.isub, 1) := dG_dX11_wholes_23.2.2.2.2.2.2.2.2.2.2.1
theorem dX11_wholes_40 : decode cX11_wholes 40 = .ok (.putfield 252, 3) := dG_dX11_wholes_23.2.2.2.2.2.2.2.2.2.2.2
theorem dG_dX11_wholes_43 : (decode cX11_wholes 43 = .ok (.aload_n 0, 1)) ∧ (decode cX11_wholes 44 = .ok (.bipush 10, 2)) ∧ (decode cX11_wholes 46 = .ok (.iconst 0, 1)) ∧ (decode cX11_wholes 47 = .ok (.invokevirtual 261, 3)) ∧ (decode cX11_wholes 50 = .ok (.goto (-50), 3)) ∧ (decode cX11_wholes 53 = .ok (.return_, 1)) := by decide +kernel
theorem dX11_wholes_43 : decode cX11_wholes 43 = .ok (.aload_n 0, 1) := dG_dX11_wholes_43.1
theorem dX11_wholes_44 : decode cX11_wholes 44 = .ok (.bipush 10, 2) := dG_dX11_wholes_43.2.1
theorem dX11_wholes_46 : decode cX11_wholes 46 = .ok (.iconst 0, 1) := dG_dX11_wholes_43.2.2.1
theorem dX11_wholes_47 : decode cX11_wholes 47 = .ok (.invokevirtual 261, 3) := dG_dX11_wholes_43.2.2.2.1
theorem dX11_wholes_50 : decode cX11_wholes 50 = .ok (.goto (-50), 3) := dG_dX11_wholes_43.2.2.2.2.1
theorem dX11_wholes_53 : decode cX11_wholes 53 = .ok (.return_, 1) := dG_dX11_wholes_43.2.2.2.2.2
end

section
set_option maxHeartbeats 4000000 in
set_option maxRecDepth 100000 in
theorem n_counts (l : Launch) (D : va_G) (k : Nat → ClassId) (A : Nat → Prop) (ad : Nat → Nat) (hD : mdD A k ad) (v : gV) (f g : gF) (h1 : (v 27) ≤ 40) : GM l D k A (mdT k ad) yX11_counts cX11_counts 1 none 1 22 [.ref (ad 0)] v f g (fun r v1 f1 g1 => ∃ (w6 : Int) (w7 : Int), r = none ∧ (va_up (va_up (va_up v 6 w6) 7 w7) 27 ((v 27) + 1)) = v1 ∧ f = f1 ∧ g = g1 ∧ ((v 27) = 40 → (v 6) = 0 → w6 = 3 ∧ w7 = (v 9)) ∧ ((v 27) < 40 → w6 = (v 6) ∧ w7 = (v 7)) ∧ (0 < (v 6) → w6 = (v 6) ∧ w7 = (v 7))) := by
  refine GM.of (by decide) (Nat.le_of_ble_eq_true rfl) ?_
  intro p e s m args below meth c Q ls hQ C hml hr hlocks hP hl
  have hx := C.1
  have hb := C.2.1
  have hok := hP.2
  have hS : va_S A s.heap s.heap [] := va_S.rf
  have hl : lv_has ls 1 [(0, .ref (ad 0))] := hl
  have hP : gWd D (mdT k ad) (va_up (va_up (va_up v 6 (v 6)) 7 (v 7)) 27 (v 27)) f g s.heap := by rw [va_id, va_id, va_id]; exact hP
  have r_1 : 0 ≤ (v 9) ∧ (v 9) ≤ 700 := hok.1 9
  have r_2 : 0 ≤ (v 6) ∧ (v 6) ≤ 5 := hok.1 6
  refine lv_aload_n hx hb dX11_counts_0 rfl (lv_at hl 0 rfl) ?_
  refine mdG_counted C hP mF_X11_249 dX11_counts_1 ?_
  show W p l e (gRm 1 22) s m args below meth c _ _ 0 0 Q (F0 m 4 ls [.int (iI (v 27))])
  have r_3 : 0 ≤ (v 27) ∧ (v 27) ≤ 41 := hok.1 27
  refine lv_bipush (v := iI 40) hx hb dX11_counts_4 (by decide) ?_
  refine gi_cne (tgt := 18) hx hb dX11_counts_6 (by decide) (by omega) (by decide) (fun c_4 => ?_) (fun c_4 => ?_)
  · refine lv_aload_n hx hb dX11_counts_18 rfl (lv_at hl 0 rfl) ?_
    refine lv_dup hx hb dX11_counts_19 rfl ?_
    refine mdG_counted C hP mF_X11_249 dX11_counts_20 ?_
    show W p l e (gRm 1 22) s m args below meth c _ _ 0 0 Q (F0 m 23 ls [.int (iI (v 27)), .ref (ad 0)])
    refine lv_iconst (v := iI 1) hx hb dX11_counts_23 rfl ?_
    refine gi_add (z := ((v 27) + 1)) hx hb dX11_counts_24 rfl ?_
    refine mdP_counted (v1 := (va_up (va_up (va_up v 6 (v 6)) 7 (v 7)) 27 ((v 27) + 1))) C hP hD hS mF_X11_249 (by omega) rfl (Or.inr (gR_up (V := mdV) (F := mdF) (gR_up (V := mdV) (F := mdF) (gR_up (V := mdV) (F := mdF) ⟨hok.1, hok.2⟩ 6 (hP.2.1 6)) 7 (hP.2.1 7)) 27 (show 0 ≤ ((v 27) + 1) ∧ ((v 27) + 1) ≤ 41 from by omega))) dX11_counts_25 (fun H locs hP hS => ?_)
    exact g_vret hQ C hr hlocks hP hS dX11_counts_28 ⟨(v 6), (v 7), rfl, rfl, rfl, rfl, (by first | omega | (split <;> omega)), (by first | omega | (split <;> omega)), (by first | omega | (split <;> omega))⟩
  · refine lv_aload_n hx hb dX11_counts_9 rfl (lv_at hl 0 rfl) ?_
    refine lv_iconst (v := iI 3) hx hb dX11_counts_10 rfl ?_
    refine lv_aload_n hx hb dX11_counts_11 rfl (lv_at hl 0 rfl) ?_
    refine mdG_at C hP mF_X11_158 dX11_counts_12 ?_
    show W p l e (gRm 1 22) s m args below meth c _ _ 0 0 Q (F0 m 15 ls [.int (iI (v 9)), .int (iI 3), .ref (ad 0)])
    refine g_cv (As := [.int (iI 3), .int (iI (v 9))]) (rest := []) (n := 2) C hml (n_fail l D k A ad hD (va_up (va_up (va_up v 6 (v 6)) 7 (v 7)) 27 (v 27)) f g 3 (v 9) (by decide) (by omega) (show 1 ≤ (3 : Int) ∧ (3 : Int) ≤ 5 from by omega) (show 0 ≤ (v 9) ∧ (v 9) ≤ 700 from by omega)) mM_X11_194 mI_X11_fail mE_X11_fail mN_X11 mC_X11_fail (by decide +kernel) 0 (ci := 11) rfl rfl hP hS (fun _ h => h) ⟨Nat.le_of_ble_eq_true rfl, Nat.le_of_ble_eq_true rfl⟩ ⟨Nat.zero_le _, Nat.zero_le _⟩ hl.1 rfl rfl (Nat.le_of_ble_eq_true rfl) dX11_counts_15 (fun r_5 v_5 f_5 g_5 H locs hq_5 hP _ hS => ?_)
    obtain ⟨w6_5, w7_5, rfl, rfl, rfl, rfl, p0_5, p1_5⟩ := hq_5
    show W p l e (gRm 1 22) s m args below meth c _ _ 0 0 Q (F0 m 18 ls [])
    have hP : gWd D (mdT k ad) (va_up (va_up (va_up v 6 w6_5) 7 w7_5) 27 (v 27)) f g H := ⟨hP.1, (gR_up (V := mdV) (F := mdF) (gR_up (V := mdV) (F := mdF) (gR_up (V := mdV) (F := mdF) ⟨hok.1, hok.2⟩ 6 (hP.2.1 6)) 7 (hP.2.1 7)) 27 (hP.2.1 27))⟩
    replace p0_5 : (v 6) = 0 → w6_5 = (3 : Int) ∧ w7_5 = (v 9) := p0_5
    replace p1_5 : 0 < (v 6) → w6_5 = (v 6) ∧ w7_5 = (v 7) := p1_5
    have rw6_5 : 0 ≤ w6_5 ∧ w6_5 ≤ 5 := hP.2.1 6
    have rw7_5 : 0 ≤ w7_5 ∧ w7_5 ≤ 700 := hP.2.1 7
    refine lv_aload_n hx hb dX11_counts_18 rfl (lv_at hl 0 rfl) ?_
    refine lv_dup hx hb dX11_counts_19 rfl ?_
    refine mdG_counted C hP mF_X11_249 dX11_counts_20 ?_
    show W p l e (gRm 1 22) s m args below meth c _ _ 0 0 Q (F0 m 23 ls [.int (iI (v 27)), .ref (ad 0)])
    refine lv_iconst (v := iI 1) hx hb dX11_counts_23 rfl ?_
    refine gi_add (z := ((v 27) + 1)) hx hb dX11_counts_24 rfl ?_
    refine mdP_counted (v1 := (va_up (va_up (va_up v 6 w6_5) 7 w7_5) 27 ((v 27) + 1))) C hP hD hS mF_X11_249 (by omega) rfl (Or.inr (gR_up (V := mdV) (F := mdF) (gR_up (V := mdV) (F := mdF) (gR_up (V := mdV) (F := mdF) ⟨hok.1, hok.2⟩ 6 (hP.2.1 6)) 7 (hP.2.1 7)) 27 (show 0 ≤ ((v 27) + 1) ∧ ((v 27) + 1) ≤ 41 from by omega))) dX11_counts_25 (fun H locs hP hS => ?_)
    exact g_vret hQ C hr hlocks hP hS dX11_counts_28 ⟨w6_5, w7_5, rfl, rfl, rfl, rfl, (by first | omega | (split <;> omega)), (by first | omega | (split <;> omega)), (by first | omega | (split <;> omega))⟩

set_option maxHeartbeats 4000000 in
set_option maxRecDepth 100000 in
theorem n_deeper (l : Launch) (D : va_G) (k : Nat → ClassId) (A : Nat → Prop) (ad : Nat → Nat) (hD : mdD A k ad) (v : gV) (f g : gF) (h1 : (v 21) ≤ 8) : GM l D k A (mdT k ad) yX11_deeper cX11_deeper 1 none 1 22 [.ref (ad 0)] v f g (fun r v1 f1 g1 => ∃ (w6 : Int) (w7 : Int), r = none ∧ (va_up (va_up (va_up v 6 w6) 7 w7) 21 ((v 21) + 1)) = v1 ∧ f = f1 ∧ g = g1 ∧ ((v 21) = 8 → (v 6) = 0 → w6 = 3 ∧ w7 = (v 9)) ∧ ((v 21) < 8 → w6 = (v 6) ∧ w7 = (v 7)) ∧ (0 < (v 6) → w6 = (v 6) ∧ w7 = (v 7))) := by
  refine GM.of (by decide) (Nat.le_of_ble_eq_true rfl) ?_
  intro p e s m args below meth c Q ls hQ C hml hr hlocks hP hl
  have hx := C.1
  have hb := C.2.1
  have hok := hP.2
  have hS : va_S A s.heap s.heap [] := va_S.rf
  have hl : lv_has ls 1 [(0, .ref (ad 0))] := hl
  have hP : gWd D (mdT k ad) (va_up (va_up (va_up v 6 (v 6)) 7 (v 7)) 21 (v 21)) f g s.heap := by rw [va_id, va_id, va_id]; exact hP
  have r_1 : 0 ≤ (v 9) ∧ (v 9) ≤ 700 := hok.1 9
  have r_2 : 0 ≤ (v 6) ∧ (v 6) ≤ 5 := hok.1 6
  refine lv_aload_n hx hb dX11_deeper_0 rfl (lv_at hl 0 rfl) ?_
  refine mdG_deep C hP mF_X11_252 dX11_deeper_1 ?_
  show W p l e (gRm 1 22) s m args below meth c _ _ 0 0 Q (F0 m 4 ls [.int (iI (v 21))])
  have r_3 : 0 ≤ (v 21) ∧ (v 21) ≤ 9 := hok.1 21
  refine lv_bipush (v := iI 8) hx hb dX11_deeper_4 (by decide) ?_
  refine gi_cne (tgt := 18) hx hb dX11_deeper_6 (by decide) (by omega) (by decide) (fun c_4 => ?_) (fun c_4 => ?_)
  · refine lv_aload_n hx hb dX11_deeper_18 rfl (lv_at hl 0 rfl) ?_
    refine lv_dup hx hb dX11_deeper_19 rfl ?_
    refine mdG_deep C hP mF_X11_252 dX11_deeper_20 ?_
    show W p l e (gRm 1 22) s m args below meth c _ _ 0 0 Q (F0 m 23 ls [.int (iI (v 21)), .ref (ad 0)])
    refine lv_iconst (v := iI 1) hx hb dX11_deeper_23 rfl ?_
    refine gi_add (z := ((v 21) + 1)) hx hb dX11_deeper_24 rfl ?_
    refine mdP_deep (v1 := (va_up (va_up (va_up v 6 (v 6)) 7 (v 7)) 21 ((v 21) + 1))) C hP hD hS mF_X11_252 (by omega) rfl (Or.inr (gR_up (V := mdV) (F := mdF) (gR_up (V := mdV) (F := mdF) (gR_up (V := mdV) (F := mdF) ⟨hok.1, hok.2⟩ 6 (hP.2.1 6)) 7 (hP.2.1 7)) 21 (show 0 ≤ ((v 21) + 1) ∧ ((v 21) + 1) ≤ 9 from by omega))) dX11_deeper_25 (fun H locs hP hS => ?_)
    exact g_vret hQ C hr hlocks hP hS dX11_deeper_28 ⟨(v 6), (v 7), rfl, rfl, rfl, rfl, (by first | omega | (split <;> omega)), (by first | omega | (split <;> omega)), (by first | omega | (split <;> omega))⟩
  · refine lv_aload_n hx hb dX11_deeper_9 rfl (lv_at hl 0 rfl) ?_
    refine lv_iconst (v := iI 3) hx hb dX11_deeper_10 rfl ?_
    refine lv_aload_n hx hb dX11_deeper_11 rfl (lv_at hl 0 rfl) ?_
    refine mdG_at C hP mF_X11_158 dX11_deeper_12 ?_
    show W p l e (gRm 1 22) s m args below meth c _ _ 0 0 Q (F0 m 15 ls [.int (iI (v 9)), .int (iI 3), .ref (ad 0)])
    refine g_cv (As := [.int (iI 3), .int (iI (v 9))]) (rest := []) (n := 2) C hml (n_fail l D k A ad hD (va_up (va_up (va_up v 6 (v 6)) 7 (v 7)) 21 (v 21)) f g 3 (v 9) (by decide) (by omega) (show 1 ≤ (3 : Int) ∧ (3 : Int) ≤ 5 from by omega) (show 0 ≤ (v 9) ∧ (v 9) ≤ 700 from by omega)) mM_X11_194 mI_X11_fail mE_X11_fail mN_X11 mC_X11_fail (by decide +kernel) 0 (ci := 11) rfl rfl hP hS (fun _ h => h) ⟨Nat.le_of_ble_eq_true rfl, Nat.le_of_ble_eq_true rfl⟩ ⟨Nat.zero_le _, Nat.zero_le _⟩ hl.1 rfl rfl (Nat.le_of_ble_eq_true rfl) dX11_deeper_15 (fun r_5 v_5 f_5 g_5 H locs hq_5 hP _ hS => ?_)
    obtain ⟨w6_5, w7_5, rfl, rfl, rfl, rfl, p0_5, p1_5⟩ := hq_5
    show W p l e (gRm 1 22) s m args below meth c _ _ 0 0 Q (F0 m 18 ls [])
    have hP : gWd D (mdT k ad) (va_up (va_up (va_up v 6 w6_5) 7 w7_5) 21 (v 21)) f g H := ⟨hP.1, (gR_up (V := mdV) (F := mdF) (gR_up (V := mdV) (F := mdF) (gR_up (V := mdV) (F := mdF) ⟨hok.1, hok.2⟩ 6 (hP.2.1 6)) 7 (hP.2.1 7)) 21 (hP.2.1 21))⟩
    replace p0_5 : (v 6) = 0 → w6_5 = (3 : Int) ∧ w7_5 = (v 9) := p0_5
    replace p1_5 : 0 < (v 6) → w6_5 = (v 6) ∧ w7_5 = (v 7) := p1_5
    have rw6_5 : 0 ≤ w6_5 ∧ w6_5 ≤ 5 := hP.2.1 6
    have rw7_5 : 0 ≤ w7_5 ∧ w7_5 ≤ 700 := hP.2.1 7
    refine lv_aload_n hx hb dX11_deeper_18 rfl (lv_at hl 0 rfl) ?_
    refine lv_dup hx hb dX11_deeper_19 rfl ?_
    refine mdG_deep C hP mF_X11_252 dX11_deeper_20 ?_
    show W p l e (gRm 1 22) s m args below meth c _ _ 0 0 Q (F0 m 23 ls [.int (iI (v 21)), .ref (ad 0)])
    refine lv_iconst (v := iI 1) hx hb dX11_deeper_23 rfl ?_
    refine gi_add (z := ((v 21) + 1)) hx hb dX11_deeper_24 rfl ?_
    refine mdP_deep (v1 := (va_up (va_up (va_up v 6 w6_5) 7 w7_5) 21 ((v 21) + 1))) C hP hD hS mF_X11_252 (by omega) rfl (Or.inr (gR_up (V := mdV) (F := mdF) (gR_up (V := mdV) (F := mdF) (gR_up (V := mdV) (F := mdF) ⟨hok.1, hok.2⟩ 6 (hP.2.1 6)) 7 (hP.2.1 7)) 21 (show 0 ≤ ((v 21) + 1) ∧ ((v 21) + 1) ≤ 9 from by omega))) dX11_deeper_25 (fun H locs hP hS => ?_)
    exact g_vret hQ C hr hlocks hP hS dX11_deeper_28 ⟨w6_5, w7_5, rfl, rfl, rfl, rfl, (by first | omega | (split <;> omega)), (by first | omega | (split <;> omega)), (by first | omega | (split <;> omega))⟩

set_option maxHeartbeats 4000000 in
set_option maxRecDepth 100000 in
theorem n_puts (l : Launch) (D : va_G) (k : Nat → ClassId) (A : Nat → Prop) (ad : Nat → Nat) (hD : mdD A k ad) (v : gV) (f g : gF) (a1 : Int) (a2 : Int) (h_a1 : inR a1) (h_a2 : inR a2) (h0 : (v 16) ≤ 40) (h1 : 0 ≤ a1 ∧ a1 ≤ 11) (h2 : 0 ≤ a2 ∧ a2 ≤ 999999) : GM l D k A (mdT k ad) yX11_puts cX11_puts 3 none 0 0 [.ref (ad 0), .int (iI a1), .int (iI a2)] v f g (fun r v1 f1 g1 => r = none ∧ (va_up v 16 ((v 16) + 1)) = v1 ∧ (va_up (va_up f 11 (u1 (f 11) (v 16) a1)) 12 (u1 (f 12) (v 16) a2)) = f1 ∧ g = g1) := by
  refine GM.of (by decide) (Nat.le_of_ble_eq_true rfl) ?_
  intro p e s m args below meth c Q ls hQ C hml hr hlocks hP hl
  have hx := C.1
  have hb := C.2.1
  have hok := hP.2
  have hS : va_S A s.heap s.heap [] := va_S.rf
  have hl : lv_has ls 3 [(0, .ref (ad 0)), (1, .int (iI a1)), (2, .int (iI a2))] := hl
  have hP : gWd D (mdT k ad) (va_up v 16 (v 16)) (va_up (va_up f 11 (f 11)) 12 (f 12)) g s.heap := by rw [va_id, va_id, va_id]; exact hP
  refine lv_aload_n hx hb dX11_puts_0 rfl (lv_at hl 0 rfl) ?_
  refine mdG_newPart C hP mF_X11_51 dX11_puts_1 ?_
  refine lv_aload_n hx hb dX11_puts_4 rfl (lv_at hl 0 rfl) ?_
  refine mdG_newParts C hP mF_X11_217 dX11_puts_5 ?_
  show W p l e (gRm 0 0) s m args below meth c _ _ 0 0 Q (F0 m 8 ls [.int (iI (v 16)), .ref (ad 12)])
  have r_1 : 0 ≤ (v 16) ∧ (v 16) ≤ 41 := hok.1 16
  refine lv_iload_n hx hb dX11_puts_8 rfl (lv_at hl 1 rfl) ?_
  refine mdS_newPart (f1 := (va_up (va_up f 11 (u1 (f 11) (v 16) a1)) 12 (f 12))) C hP hD hS (by omega) (by omega) (by omega) rfl (Or.inr (gF_up (V := mdV) (F := mdF) (gF_up (V := mdV) (F := mdF) (gR_up (V := mdV) (F := mdF) ⟨hok.1, hok.2⟩ 16 (hP.2.1 16)) 11 (u1_rng (hP.2.2 11) (show 0 ≤ a1 ∧ a1 ≤ 11 from (by omega)))) 12 (hP.2.2 12))) dX11_puts_9 (fun H locs hP hS => ?_)
  refine lv_aload_n hx hb dX11_puts_10 rfl (lv_at hl 0 rfl) ?_
  refine mdG_newNumber C hP mF_X11_54 dX11_puts_11 ?_
  refine lv_aload_n hx hb dX11_puts_14 rfl (lv_at hl 0 rfl) ?_
  refine mdG_newParts C hP mF_X11_217 dX11_puts_15 ?_
  show W p l e (gRm 0 0) s m args below meth c _ _ 0 0 Q (F0 m 18 ls [.int (iI (v 16)), .ref (ad 13)])
  refine lv_iload_n hx hb dX11_puts_18 rfl (lv_at hl 2 rfl) ?_
  refine mdS_newNumber (f1 := (va_up (va_up f 11 (u1 (f 11) (v 16) a1)) 12 (u1 (f 12) (v 16) a2))) C hP hD hS (by omega) (by omega) (by omega) rfl (Or.inr (gF_up (V := mdV) (F := mdF) (gF_up (V := mdV) (F := mdF) (gR_up (V := mdV) (F := mdF) ⟨hok.1, hok.2⟩ 16 (hP.2.1 16)) 11 (hP.2.2 11)) 12 (u1_rng (hP.2.2 12) (show 0 ≤ a2 ∧ a2 ≤ 999999 from (by omega))))) dX11_puts_19 (fun H locs hP hS => ?_)
  refine lv_aload_n hx hb dX11_puts_20 rfl (lv_at hl 0 rfl) ?_
  refine lv_dup hx hb dX11_puts_21 rfl ?_
  refine mdG_newParts C hP mF_X11_217 dX11_puts_22 ?_
  show W p l e (gRm 0 0) s m args below meth c _ _ 0 0 Q (F0 m 25 ls [.int (iI (v 16)), .ref (ad 0)])
  refine lv_iconst (v := iI 1) hx hb dX11_puts_25 rfl ?_
  refine gi_add (z := ((v 16) + 1)) hx hb dX11_puts_26 rfl ?_
  refine mdP_newParts (v1 := (va_up v 16 ((v 16) + 1))) C hP hD hS mF_X11_217 (by omega) rfl (Or.inr (gF_up (V := mdV) (F := mdF) (gF_up (V := mdV) (F := mdF) (gR_up (V := mdV) (F := mdF) ⟨hok.1, hok.2⟩ 16 (show 0 ≤ ((v 16) + 1) ∧ ((v 16) + 1) ≤ 41 from by omega)) 11 (hP.2.2 11)) 12 (hP.2.2 12))) dX11_puts_27 (fun H locs hP hS => ?_)
  exact g_vret hQ C hr hlocks hP hS dX11_puts_30 ⟨rfl, rfl, rfl, rfl⟩

set_option maxHeartbeats 4000000 in
set_option maxRecDepth 100000 in
theorem n_waitFor (l : Launch) (D : va_G) (k : Nat → ClassId) (A : Nat → Prop) (ad : Nat → Nat) (hD : mdD A k ad) (v : gV) (f g : gF) (a1 : Int) (h_a1 : inR a1) (h0 : (v 20) ≤ 63) (h1 : 0 ≤ a1 ∧ a1 ≤ 11) : GM l D k A (mdT k ad) yX11_waitFor cX11_waitFor 2 none 0 0 [.ref (ad 0), .int (iI a1)] v f g (fun r v1 f1 g1 => r = none ∧ (va_up v 20 ((v 20) + 1)) = v1 ∧ (va_up f 17 (u1 (f 17) (v 20) a1)) = f1 ∧ g = g1) := by
  refine GM.of (by decide) (Nat.le_of_ble_eq_true rfl) ?_
  intro p e s m args below meth c Q ls hQ C hml hr hlocks hP hl
  have hx := C.1
  have hb := C.2.1
  have hok := hP.2
  have hS : va_S A s.heap s.heap [] := va_S.rf
  have hl : lv_has ls 2 [(0, .ref (ad 0)), (1, .int (iI a1))] := hl
  have hP : gWd D (mdT k ad) (va_up v 20 (v 20)) (va_up f 17 (f 17)) g s.heap := by rw [va_id, va_id]; exact hP
  refine lv_aload_n hx hb dX11_waitFor_0 rfl (lv_at hl 0 rfl) ?_
  refine mdG_waits C hP mF_X11_70 dX11_waitFor_1 ?_
  refine lv_aload_n hx hb dX11_waitFor_4 rfl (lv_at hl 0 rfl) ?_
  refine mdG_waiting C hP mF_X11_255 dX11_waitFor_5 ?_
  show W p l e (gRm 0 0) s m args below meth c _ _ 0 0 Q (F0 m 8 ls [.int (iI (v 20)), .ref (ad 18)])
  have r_1 : 0 ≤ (v 20) ∧ (v 20) ≤ 64 := hok.1 20
  refine lv_iload_n hx hb dX11_waitFor_8 rfl (lv_at hl 1 rfl) ?_
  refine mdS_waits (f1 := (va_up f 17 (u1 (f 17) (v 20) a1))) C hP hD hS (by omega) (by omega) (by omega) rfl (Or.inr (gF_up (V := mdV) (F := mdF) (gR_up (V := mdV) (F := mdF) ⟨hok.1, hok.2⟩ 20 (hP.2.1 20)) 17 (u1_rng (hP.2.2 17) (show 0 ≤ a1 ∧ a1 ≤ 11 from (by omega))))) dX11_waitFor_9 (fun H locs hP hS => ?_)
  refine lv_aload_n hx hb dX11_waitFor_10 rfl (lv_at hl 0 rfl) ?_
  refine lv_dup hx hb dX11_waitFor_11 rfl ?_
  refine mdG_waiting C hP mF_X11_255 dX11_waitFor_12 ?_
  show W p l e (gRm 0 0) s m args below meth c _ _ 0 0 Q (F0 m 15 ls [.int (iI (v 20)), .ref (ad 0)])
  refine lv_iconst (v := iI 1) hx hb dX11_waitFor_15 rfl ?_
  refine gi_add (z := ((v 20) + 1)) hx hb dX11_waitFor_16 rfl ?_
  refine mdP_waiting (v1 := (va_up v 20 ((v 20) + 1))) C hP hD hS mF_X11_255 (by omega) rfl (Or.inr (gF_up (V := mdV) (F := mdF) (gR_up (V := mdV) (F := mdF) ⟨hok.1, hok.2⟩ 20 (show 0 ≤ ((v 20) + 1) ∧ ((v 20) + 1) ≤ 64 from by omega)) 17 (hP.2.2 17))) dX11_waitFor_17 (fun H locs hP hS => ?_)
  exact g_vret hQ C hr hlocks hP hS dX11_waitFor_20 ⟨rfl, rfl, rfl, rfl⟩

set_option maxHeartbeats 4000000 in
set_option maxRecDepth 100000 in
theorem n_strong (l : Launch) (D : va_G) (k : Nat → ClassId) (A : Nat → Prop) (ad : Nat → Nat) (hD : mdD A k ad) (v : gV) (f g : gF) (a1 : Int) (h_a1 : inR a1) : GM l D k A (mdT k ad) yX11_strong cX11_strong 1 (some .int) 0 0 [.int (iI a1)] v f g (fun r v1 f1 g1 => ∃ (z : Int), r = some (.int (iI z)) ∧ v = v1 ∧ f = f1 ∧ g = g1 ∧ (0 ≤ z ∧ z ≤ 2) ∧ (a1 = 9 → z = 2) ∧ (a1 < 9 → z = 1) ∧ (9 < a1 → z = 0)) := by
  refine GM.of (by decide) (Nat.le_of_ble_eq_true rfl) ?_
  intro p e s m args below meth c Q ls hQ C hml hr hlocks hP hl
  have hx := C.1
  have hb := C.2.1
  have hok := hP.2
  have hS : va_S A s.heap s.heap [] := va_S.rf
  have hl : lv_has ls 1 [(0, .int (iI a1))] := hl
  refine lv_iload_n hx hb dX11_strong_0 rfl (lv_at hl 0 rfl) ?_
  refine lv_bipush (v := iI 9) hx hb dX11_strong_1 (by decide) ?_
  refine gi_cne (tgt := 10) hx hb dX11_strong_3 (by decide) (by omega) (by decide) (fun c_1 => ?_) (fun c_1 => ?_)
  · refine lv_iload_n hx hb dX11_strong_10 rfl (lv_at hl 0 rfl) ?_
    refine lv_bipush (v := iI 9) hx hb dX11_strong_11 (by decide) ?_
    refine gi_cge (tgt := 20) hx hb dX11_strong_13 (by decide) (by omega) (by decide) (fun c_2 => ?_) (fun c_2 => ?_)
    · refine lv_iconst (v := iI 0) hx hb dX11_strong_20 rfl ?_
      exact g_iret hQ C hr hlocks hP hS dX11_strong_21 ⟨0, rfl, rfl, rfl, rfl, (by first | omega | (split <;> omega)), (by first | omega | (split <;> omega)), (by first | omega | (split <;> omega)), (by first | omega | (split <;> omega))⟩
    · refine lv_iconst (v := iI 1) hx hb dX11_strong_16 rfl ?_
      refine lv_goto (tgt := 21) hx hb dX11_strong_17 (by decide) ?_
      exact g_iret hQ C hr hlocks hP hS dX11_strong_21 ⟨1, rfl, rfl, rfl, rfl, (by first | omega | (split <;> omega)), (by first | omega | (split <;> omega)), (by first | omega | (split <;> omega)), (by first | omega | (split <;> omega))⟩
  · refine lv_iconst (v := iI 2) hx hb dX11_strong_6 rfl ?_
    refine lv_goto (tgt := 21) hx hb dX11_strong_7 (by decide) ?_
    exact g_iret hQ C hr hlocks hP hS dX11_strong_21 ⟨2, rfl, rfl, rfl, rfl, (by first | omega | (split <;> omega)), (by first | omega | (split <;> omega)), (by first | omega | (split <;> omega)), (by first | omega | (split <;> omega))⟩

set_option maxHeartbeats 4000000 in
set_option maxRecDepth 100000 in
theorem n_wholes (l : Launch) (D : va_G) (k : Nat → ClassId) (A : Nat → Prop) (ad : Nat → Nat) (hD : mdD A k ad) (v : gV) (f g : gF) (SS : List Int) (EE : List (Int × Int)) (hw : wfS SS) (hrS : rep SS (f 17) (v 20)) (hn : (v 21) = cNs SS) (hk : repC mp EE (f 11) (f 12) (v 16) ∧ (EE.length : Int) + cSg SS ≤ 40) : GM l D k A (mdT k ad) yX11_wholes cX11_wholes 1 none 1 22 [.ref (ad 0)] v f g (fun r v1 f1 g1 => ∃ (w16 : Int) (w20 : Int) (w21 : Int) (a11_ : Int → Int) (a12_ : Int → Int), r = none ∧ (va_up (va_up (va_up v 16 w16) 20 w20) 21 w21) = v1 ∧ (va_up (va_up f 11 a11_) 12 a12_) = f1 ∧ g = g1 ∧ (rep (rlN SS EE).1 (f 17) w20) ∧ (w21 = cNs (rlN SS EE).1) ∧ (repC mp (rlN SS EE).2 a11_ a12_ w16)) := by
  refine GM.of (by decide) (Nat.le_of_ble_eq_true rfl) ?_
  intro p e s m args below meth c Q ls hQ C hml hr hlocks hP hl
  have hx := C.1
  have hb := C.2.1
  have hok := hP.2
  have hS : va_S A s.heap s.heap [] := va_S.rf
  have hl : lv_has ls 1 [(0, .ref (ad 0))] := hl
  have hP : gWd D (mdT k ad) (va_up (va_up (va_up v 16 (v 16)) 20 (v 20)) 21 (v 21)) (va_up (va_up f 11 (f 11)) 12 (f 12)) g s.heap := by rw [va_id, va_id, va_id, va_id, va_id]; exact hP
  have r_1 : 0 ≤ (v 20) ∧ (v 20) ≤ 64 := hok.1 20
  have r_2 : 0 ≤ (v 21) ∧ (v 21) ≤ 9 := hok.1 21
  have r_3 : 0 ≤ (v 16) ∧ (v 16) ≤ 41 := hok.1 16
  have L_4 : ∀ (n : Nat) (S1 : List Int) (E1 : List (Int × Int)) (y16_4 : Int) (y20_4 : Int) (y21_4 : Int) (c11_4 : Int → Int) (c12_4 : Int → Int) (H : Heap) (locs : List Loc) (ls : Array Slot), y20_4 < (n : Int) → (wfS S1) → (rep S1 (f 17) y20_4) → (y21_4 = cNs S1) → (repC mp E1 c11_4 c12_4 y16_4 ∧ (E1.length : Int) + cSg S1 ≤ 40) → (rlN S1 E1 = rlN SS EE) → gWd D (mdT k ad) (va_up (va_up (va_up v 16 y16_4) 20 y20_4) 21 y21_4) (va_up (va_up f 11 c11_4) 12 c12_4) g H → va_S A s.heap H locs → lv_has ls 1 [(0, .ref (ad 0))] → W p l e (gRm 1 22) s m args below meth c H locs 0 0 Q (F0 m 0 ls []) := by
    intro n
    induction n with
    | zero =>
      intro S1 E1 y16_4 y20_4 y21_4 c11_4 c12_4 H locs ls hn_4 i4_0 i4_1 i4_2 i4_3 i4_4 hP hS hl
      have ry16_4 : 0 ≤ y16_4 ∧ y16_4 ≤ 41 := hP.2.1 16
      have ry20_4 : 0 ≤ y20_4 ∧ y20_4 ≤ 64 := hP.2.1 20
      have ry21_4 : 0 ≤ y21_4 ∧ y21_4 ≤ 9 := hP.2.1 21
      exfalso; omega
    | succ n ih_0 =>
      intro S1 E1 y16_4 y20_4 y21_4 c11_4 c12_4 H locs ls hn_4 i4_0 i4_1 i4_2 i4_3 i4_4 hP hS hl
      have ry16_4 : 0 ≤ y16_4 ∧ y16_4 ≤ 41 := hP.2.1 16
      have ry20_4 : 0 ≤ y20_4 ∧ y20_4 ≤ 64 := hP.2.1 20
      have ry21_4 : 0 ≤ y21_4 ∧ y21_4 ≤ 9 := hP.2.1 21
      have hw1 := i4_0
      have hr1 := i4_1
      have hln := rep_len _ _ _ hr1
      have ht1 : 0 < y20_4 → (f 17) (y20_4 - 1) = hdS S1 := fun h => (rep_top hr1 h).1
      have hne : 0 < y20_4 → S1 ≠ [] := fun h e => by have := (rep_nil hr1).mpr e; omega
      have h00 : y20_4 = 0 → hdS S1 = 0 := fun h => by rw [(rep_nil hr1).mp h]; rfl
      have hct := fun h => cnt_tail (S := S1) (hne h)
      have hps := cnt_pos S1.tail
      have hhd : 0 < y20_4 → 7 ≤ hdS S1 ∧ hdS S1 ≤ 11 := fun h => wfS_hd hw1 (hne h)
      have hk1 := i4_3
      have hT1 := i4_4
      have hlc := repC_len _ _ _ _ hk1.1
      refine lv_aload_n hx hb dX11_wholes_0 rfl (lv_at hl 0 rfl) ?_
      refine mdG_waiting C hP mF_X11_255 dX11_wholes_1 ?_
      show W p l e (gRm 1 22) s m args below meth c _ _ 0 0 Q (F0 m 4 ls [.int (iI y20_4)])
      have r_5 : 0 ≤ y20_4 ∧ y20_4 ≤ 64 := hP.2.1 20
      refine gi_zle (tgt := 53) hx hb dX11_wholes_4 (by decide) (by omega) (fun c_6 => ?_) (fun c_6 => ?_)
      · exact g_vret hQ C hr hlocks hP hS dX11_wholes_53 ⟨y16_4, y20_4, y21_4, c11_4, c12_4, rfl, rfl, rfl, rfl, (by rw [← hT1, rlN_stop (by omega)]; exact hr1), (by rw [← hT1, rlN_stop (by omega)]; omega), (by rw [← hT1, rlN_stop (by omega)]; exact hk1.1)⟩
      · refine lv_aload_n hx hb dX11_wholes_7 rfl (lv_at hl 0 rfl) ?_
        refine mdG_waits C hP mF_X11_70 dX11_wholes_8 ?_
        refine lv_aload_n hx hb dX11_wholes_11 rfl (lv_at hl 0 rfl) ?_
        refine mdG_waiting C hP mF_X11_255 dX11_wholes_12 ?_
        show W p l e (gRm 1 22) s m args below meth c _ _ 0 0 Q (F0 m 15 ls [.int (iI y20_4), .ref (ad 18)])
        refine lv_iconst (v := iI 1) hx hb dX11_wholes_15 rfl ?_
        refine gi_sub (z := (y20_4 - 1)) hx hb dX11_wholes_16 rfl ?_
        refine mdL_waits C hP (by omega) (by omega) dX11_wholes_17 ?_
        show W p l e (gRm 1 22) s m args below meth c _ _ 0 0 Q (F0 m 18 ls [.int (iI (f 17 (y20_4 - 1)))])
        have r_7 : 0 ≤ (f 17 (y20_4 - 1)) ∧ (f 17 (y20_4 - 1)) ≤ 11 := hP.2.2 17 (y20_4 - 1)
        refine lv_bipush (v := iI 10) hx hb dX11_wholes_18 (by decide) ?_
        refine gi_cne (tgt := 53) hx hb dX11_wholes_20 (by decide) (by omega) (by decide) (fun c_8 => ?_) (fun c_8 => ?_)
        · exact g_vret hQ C hr hlocks hP hS dX11_wholes_53 ⟨y16_4, y20_4, y21_4, c11_4, c12_4, rfl, rfl, rfl, rfl, (by rw [← hT1, rlN_stop (by omega)]; exact hr1), (by rw [← hT1, rlN_stop (by omega)]; omega), (by rw [← hT1, rlN_stop (by omega)]; exact hk1.1)⟩
        · refine lv_aload_n hx hb dX11_wholes_23 rfl (lv_at hl 0 rfl) ?_
          refine lv_dup hx hb dX11_wholes_24 rfl ?_
          refine mdG_waiting C hP mF_X11_255 dX11_wholes_25 ?_
          show W p l e (gRm 1 22) s m args below meth c _ _ 0 0 Q (F0 m 28 ls [.int (iI y20_4), .ref (ad 0)])
          refine lv_iconst (v := iI 1) hx hb dX11_wholes_28 rfl ?_
          refine gi_sub (z := (y20_4 - 1)) hx hb dX11_wholes_29 rfl ?_
          refine mdP_waiting (v1 := (va_up (va_up (va_up v 16 y16_4) 20 (y20_4 - 1)) 21 y21_4)) C hP hD hS mF_X11_255 (by omega) rfl (Or.inr (gF_up (V := mdV) (F := mdF) (gF_up (V := mdV) (F := mdF) (gR_up (V := mdV) (F := mdF) (gR_up (V := mdV) (F := mdF) (gR_up (V := mdV) (F := mdF) ⟨hok.1, hok.2⟩ 16 (hP.2.1 16)) 20 (show 0 ≤ (y20_4 - 1) ∧ (y20_4 - 1) ≤ 64 from by omega)) 21 (hP.2.1 21)) 11 (hP.2.2 11)) 12 (hP.2.2 12))) dX11_wholes_30 (fun H locs hP hS => ?_)
          refine lv_aload_n hx hb dX11_wholes_33 rfl (lv_at hl 0 rfl) ?_
          refine lv_dup hx hb dX11_wholes_34 rfl ?_
          have hct2 := hct (by omega)
          refine mdG_deep C hP mF_X11_252 dX11_wholes_35 ?_
          show W p l e (gRm 1 22) s m args below meth c _ _ 0 0 Q (F0 m 38 ls [.int (iI y21_4), .ref (ad 0)])
          have r_9 : 0 ≤ y21_4 ∧ y21_4 ≤ 9 := hP.2.1 21
          refine lv_iconst (v := iI 1) hx hb dX11_wholes_38 rfl ?_
          refine gi_sub (z := (y21_4 - 1)) hx hb dX11_wholes_39 rfl ?_
          refine mdP_deep (v1 := (va_up (va_up (va_up v 16 y16_4) 20 (y20_4 - 1)) 21 (y21_4 - 1))) C hP hD hS mF_X11_252 (by omega) rfl (Or.inr (gF_up (V := mdV) (F := mdF) (gF_up (V := mdV) (F := mdF) (gR_up (V := mdV) (F := mdF) (gR_up (V := mdV) (F := mdF) (gR_up (V := mdV) (F := mdF) ⟨hok.1, hok.2⟩ 16 (hP.2.1 16)) 20 (hP.2.1 20)) 21 (show 0 ≤ (y21_4 - 1) ∧ (y21_4 - 1) ≤ 9 from by omega)) 11 (hP.2.2 11)) 12 (hP.2.2 12))) dX11_wholes_40 (fun H locs hP hS => ?_)
          refine lv_aload_n hx hb dX11_wholes_43 rfl (lv_at hl 0 rfl) ?_
          refine lv_bipush (v := iI 10) hx hb dX11_wholes_44 (by decide) ?_
          refine lv_iconst (v := iI 0) hx hb dX11_wholes_46 rfl ?_
          refine g_cv (As := [.int (iI 10), .int (iI 0)]) (rest := []) (n := 2) C hml (n_puts l D k A ad hD (va_up (va_up (va_up v 16 y16_4) 20 (y20_4 - 1)) 21 (y21_4 - 1)) (va_up (va_up f 11 c11_4) 12 c12_4) g 10 0 (by decide) (by decide) (show y16_4 ≤ 40 from by omega) (show 0 ≤ (10 : Int) ∧ (10 : Int) ≤ 11 from by omega) (show 0 ≤ (0 : Int) ∧ (0 : Int) ≤ 999999 from by omega)) mM_X11_261 mI_X11_puts mE_X11_puts mN_X11 mC_X11_puts (by decide +kernel) 0 (ci := 11) rfl rfl hP hS (fun _ h => h) ⟨Nat.le_of_ble_eq_true rfl, Nat.le_of_ble_eq_true rfl⟩ ⟨Nat.zero_le _, Nat.zero_le _⟩ hl.1 rfl rfl (Nat.le_of_ble_eq_true rfl) dX11_wholes_47 (fun r_10 v_10 f_10 g_10 H locs hq_10 hP _ hS => ?_)
          obtain ⟨rfl, rfl, rfl, rfl⟩ := hq_10
          show W p l e (gRm 1 22) s m args below meth c _ _ 0 0 Q (F0 m 50 ls [])
          have hP : gWd D (mdT k ad) (va_up (va_up (va_up v 16 (y16_4 + 1)) 20 (y20_4 - 1)) 21 (y21_4 - 1)) (va_up (va_up f 11 (u1 c11_4 y16_4 (10 : Int))) 12 (u1 c12_4 y16_4 (0 : Int))) g H := ⟨hP.1, (gF_up (V := mdV) (F := mdF) (gF_up (V := mdV) (F := mdF) (gR_up (V := mdV) (F := mdF) (gR_up (V := mdV) (F := mdF) (gR_up (V := mdV) (F := mdF) ⟨hok.1, hok.2⟩ 16 (hP.2.1 16)) 20 (hP.2.1 20)) 21 (hP.2.1 21)) 11 (hP.2.2 11)) 12 (hP.2.2 12))⟩
          refine lv_goto (tgt := 0) hx hb dX11_wholes_50 (by decide) ?_
          exact ih_0 (S1.tail) ((10, 0) :: E1) (y16_4 + 1) (y20_4 - 1) (y21_4 - 1) (u1 c11_4 y16_4 (10 : Int)) (u1 c12_4 y16_4 (0 : Int)) _ _ _ (by omega) (wfS_tail hw1) ((rep_top hr1 (by omega)).2) (by have := hct (by omega); omega) (by have h3 := hct (by omega); exact ⟨repC_push 10 hk1.1 rfl, by simp only [List.length_cons]; omega⟩) (by rw [← hT1]; exact (rlN_pop (by omega)).symm) hP hS (lv_sub hl [0] rfl)
  exact L_4 65 (SS) (EE) (v 16) (v 20) (v 21) (f 11) (f 12) _ _ _ (by omega) hw hrS hn hk rfl hP hS (lv_sub hl [0] rfl)

set_option maxHeartbeats 4000000 in
set_option maxRecDepth 100000 in
theorem n_reduce (l : Launch) (D : va_G) (k : Nat → ClassId) (A : Nat → Prop) (ad : Nat → Nat) (hD : mdD A k ad) (v : gV) (f g : gF) (a1 : Int) (SS : List Int) (EE : List (Int × Int)) (cc : Int) (h_a1 : inR a1) (h1 : (a1 = 1 ∧ cc ≠ 9) ∨ (a1 = 2 ∧ cc = 9)) (hw : wfS SS) (hd : hdS SS ≠ 10) (hrS : rep SS (f 17) (v 20)) (hk : repC mp EE (f 11) (f 12) (v 16) ∧ (EE.length : Int) + cSg SS ≤ 40) : GM l D k A (mdT k ad) yX11_reduce cX11_reduce 2 none 1 22 [.ref (ad 0), .int (iI a1)] v f g (fun r v1 f1 g1 => ∃ (w16 : Int) (w20 : Int) (a11_ : Int → Int) (a12_ : Int → Int), r = none ∧ (va_up (va_up v 16 w16) 20 w20) = v1 ∧ (va_up (va_up f 11 a11_) 12 a12_) = f1 ∧ g = g1 ∧ (rep (rlS cc SS EE).1 (f 17) w20) ∧ (repC mp (rlS cc SS EE).2 a11_ a12_ w16)) := by
  refine GM.of (by decide) (Nat.le_of_ble_eq_true rfl) ?_
  intro p e s m args below meth c Q ls hQ C hml hr hlocks hP hl
  have hx := C.1
  have hb := C.2.1
  have hok := hP.2
  have hS : va_S A s.heap s.heap [] := va_S.rf
  have hl : lv_has ls 2 [(0, .ref (ad 0)), (1, .int (iI a1))] := hl
  have hP : gWd D (mdT k ad) (va_up (va_up v 16 (v 16)) 20 (v 20)) (va_up (va_up f 11 (f 11)) 12 (f 12)) g s.heap := by rw [va_id, va_id, va_id, va_id]; exact hP
  have r_1 : 0 ≤ (v 20) ∧ (v 20) ≤ 64 := hok.1 20
  have r_2 : 0 ≤ (v 16) ∧ (v 16) ≤ 41 := hok.1 16
  have L_3 : ∀ (n : Nat) (S1 : List Int) (E1 : List (Int × Int)) (y16_3 : Int) (y20_3 : Int) (c11_3 : Int → Int) (c12_3 : Int → Int) (H : Heap) (locs : List Loc) (ls : Array Slot), y20_3 < (n : Int) → (wfS S1) → (rep S1 (f 17) y20_3) → (hdS S1 ≠ 10) → (repC mp E1 c11_3 c12_3 y16_3 ∧ (E1.length : Int) + cSg S1 ≤ 40) → (rlS cc S1 E1 = rlS cc SS EE) → gWd D (mdT k ad) (va_up (va_up v 16 y16_3) 20 y20_3) (va_up (va_up f 11 c11_3) 12 c12_3) g H → va_S A s.heap H locs → lv_has ls 2 [(0, .ref (ad 0)), (1, .int (iI a1))] → W p l e (gRm 1 22) s m args below meth c H locs 0 0 Q (F0 m 0 ls []) := by
    intro n
    induction n with
    | zero =>
      intro S1 E1 y16_3 y20_3 c11_3 c12_3 H locs ls hn_3 i3_0 i3_1 i3_2 i3_3 i3_4 hP hS hl
      have ry16_3 : 0 ≤ y16_3 ∧ y16_3 ≤ 41 := hP.2.1 16
      have ry20_3 : 0 ≤ y20_3 ∧ y20_3 ≤ 64 := hP.2.1 20
      exfalso; omega
    | succ n ih_0 =>
      intro S1 E1 y16_3 y20_3 c11_3 c12_3 H locs ls hn_3 i3_0 i3_1 i3_2 i3_3 i3_4 hP hS hl
      have ry16_3 : 0 ≤ y16_3 ∧ y16_3 ≤ 41 := hP.2.1 16
      have ry20_3 : 0 ≤ y20_3 ∧ y20_3 ≤ 64 := hP.2.1 20
      have hw1 := i3_0
      have hr1 := i3_1
      have hln := rep_len _ _ _ hr1
      have ht1 : 0 < y20_3 → (f 17) (y20_3 - 1) = hdS S1 := fun h => (rep_top hr1 h).1
      have hne : 0 < y20_3 → S1 ≠ [] := fun h e => by have := (rep_nil hr1).mpr e; omega
      have h00 : y20_3 = 0 → hdS S1 = 0 := fun h => by rw [(rep_nil hr1).mp h]; rfl
      have hct := fun h => cnt_tail (S := S1) (hne h)
      have hps := cnt_pos S1.tail
      have hhd : 0 < y20_3 → 7 ≤ hdS S1 ∧ hdS S1 ≤ 11 := fun h => wfS_hd hw1 (hne h)
      have hk1 := i3_3
      have hT1 := i3_4
      have hlc := repC_len _ _ _ _ hk1.1
      refine lv_aload_n hx hb dX11_reduce_0 rfl (lv_at hl 0 rfl) ?_
      refine mdG_waiting C hP mF_X11_255 dX11_reduce_1 ?_
      show W p l e (gRm 1 22) s m args below meth c _ _ 0 0 Q (F0 m 4 ls [.int (iI y20_3)])
      have r_4 : 0 ≤ y20_3 ∧ y20_3 ≤ 64 := hP.2.1 20
      refine gi_zle (tgt := 68) hx hb dX11_reduce_4 (by decide) (by omega) (fun c_5 => ?_) (fun c_5 => ?_)
      · exact g_vret hQ C hr hlocks hP hS dX11_reduce_68 ⟨y16_3, y20_3, c11_3, c12_3, rfl, rfl, rfl, rfl, (by rw [← hT1, rlS_stop (by rcases Int.lt_or_le 0 y20_3 with h | h; exact Or.inr (by omega); exact Or.inl ((rep_nil hr1).mp (by omega)))]; exact hr1), (by rw [← hT1, rlS_stop (by rcases Int.lt_or_le 0 y20_3 with h | h; exact Or.inr (by omega); exact Or.inl ((rep_nil hr1).mp (by omega)))]; exact hk1.1)⟩
      · refine lv_aload_n hx hb dX11_reduce_7 rfl (lv_at hl 0 rfl) ?_
        refine mdG_waits C hP mF_X11_70 dX11_reduce_8 ?_
        refine lv_aload_n hx hb dX11_reduce_11 rfl (lv_at hl 0 rfl) ?_
        refine mdG_waiting C hP mF_X11_255 dX11_reduce_12 ?_
        show W p l e (gRm 1 22) s m args below meth c _ _ 0 0 Q (F0 m 15 ls [.int (iI y20_3), .ref (ad 18)])
        refine lv_iconst (v := iI 1) hx hb dX11_reduce_15 rfl ?_
        refine gi_sub (z := (y20_3 - 1)) hx hb dX11_reduce_16 rfl ?_
        refine mdL_waits C hP (by omega) (by omega) dX11_reduce_17 ?_
        show W p l e (gRm 1 22) s m args below meth c _ _ 0 0 Q (F0 m 18 ls [.int (iI (f 17 (y20_3 - 1)))])
        have r_6 : 0 ≤ (f 17 (y20_3 - 1)) ∧ (f 17 (y20_3 - 1)) ≤ 11 := hP.2.2 17 (y20_3 - 1)
        refine lv_bipush (v := iI 10) hx hb dX11_reduce_18 (by decide) ?_
        refine gi_cge (tgt := 68) hx hb dX11_reduce_20 (by decide) (by omega) (by decide) (fun c_7 => ?_) (fun c_7 => ?_)
        · exact g_vret hQ C hr hlocks hP hS dX11_reduce_68 ⟨y16_3, y20_3, c11_3, c12_3, rfl, rfl, rfl, rfl, (by rw [← hT1, rlS_stop (by rcases Int.lt_or_le 0 y20_3 with h | h; exact Or.inr (by omega); exact Or.inl ((rep_nil hr1).mp (by omega)))]; exact hr1), (by rw [← hT1, rlS_stop (by rcases Int.lt_or_le 0 y20_3 with h | h; exact Or.inr (by omega); exact Or.inl ((rep_nil hr1).mp (by omega)))]; exact hk1.1)⟩
        · refine lv_aload_n hx hb dX11_reduce_23 rfl (lv_at hl 0 rfl) ?_
          refine mdG_waits C hP mF_X11_70 dX11_reduce_24 ?_
          refine lv_aload_n hx hb dX11_reduce_27 rfl (lv_at hl 0 rfl) ?_
          refine mdG_waiting C hP mF_X11_255 dX11_reduce_28 ?_
          show W p l e (gRm 1 22) s m args below meth c _ _ 0 0 Q (F0 m 31 ls [.int (iI y20_3), .ref (ad 18)])
          refine lv_iconst (v := iI 1) hx hb dX11_reduce_31 rfl ?_
          refine gi_sub (z := (y20_3 - 1)) hx hb dX11_reduce_32 rfl ?_
          refine mdL_waits C hP (by omega) (by omega) dX11_reduce_33 ?_
          show W p l e (gRm 1 22) s m args below meth c _ _ 0 0 Q (F0 m 34 ls [.int (iI (f 17 (y20_3 - 1)))])
          refine g_cs (As := [.int (iI (f 17 (y20_3 - 1)))]) (rest := []) (n := 1) C hml (n_strong l D k A ad hD (va_up (va_up v 16 y16_3) 20 y20_3) (va_up (va_up f 11 c11_3) 12 c12_3) g (f 17 (y20_3 - 1)) (by omega)) mM_X11_258 mS_X11_strong mN_X11 mC_X11_strong (by decide +kernel) hP hS (fun _ h => h) ⟨Nat.le_of_ble_eq_true rfl, Nat.le_of_ble_eq_true rfl⟩ ⟨Nat.zero_le _, Nat.zero_le _⟩ hl.1 rfl rfl (Nat.le_of_ble_eq_true rfl) dX11_reduce_34 (fun r_8 v_8 f_8 g_8 H locs hq_8 hP _ hS => ?_)
          obtain ⟨z_8, rfl, rfl, rfl, rfl, p0_8, p1_8, p2_8, p3_8⟩ := hq_8
          show W p l e (gRm 1 22) s m args below meth c _ _ 0 0 Q (F0 m 37 ls [.int (iI z_8)])
          replace p0_8 : 0 ≤ z_8 ∧ z_8 ≤ 2 := p0_8
          replace p1_8 : (f 17 (y20_3 - 1)) = 9 → z_8 = 2 := p1_8
          replace p2_8 : (f 17 (y20_3 - 1)) < 9 → z_8 = 1 := p2_8
          replace p3_8 : 9 < (f 17 (y20_3 - 1)) → z_8 = 0 := p3_8
          refine lv_iload_n hx hb dX11_reduce_37 rfl (lv_at hl 1 rfl) ?_
          refine gi_clt (tgt := 68) hx hb dX11_reduce_38 (by decide) (by omega) (by omega) (fun c_9 => ?_) (fun c_9 => ?_)
          · exact g_vret hQ C hr hlocks hP hS dX11_reduce_68 ⟨y16_3, y20_3, c11_3, c12_3, rfl, rfl, rfl, rfl, (by rw [← hT1, rlS_stop (by rcases Int.lt_or_le 0 y20_3 with h | h; exact Or.inr (by omega); exact Or.inl ((rep_nil hr1).mp (by omega)))]; exact hr1), (by rw [← hT1, rlS_stop (by rcases Int.lt_or_le 0 y20_3 with h | h; exact Or.inr (by omega); exact Or.inl ((rep_nil hr1).mp (by omega)))]; exact hk1.1)⟩
          · refine lv_aload_n hx hb dX11_reduce_41 rfl (lv_at hl 0 rfl) ?_
            refine lv_dup hx hb dX11_reduce_42 rfl ?_
            refine mdG_waiting C hP mF_X11_255 dX11_reduce_43 ?_
            show W p l e (gRm 1 22) s m args below meth c _ _ 0 0 Q (F0 m 46 ls [.int (iI y20_3), .ref (ad 0)])
            refine lv_iconst (v := iI 1) hx hb dX11_reduce_46 rfl ?_
            refine gi_sub (z := (y20_3 - 1)) hx hb dX11_reduce_47 rfl ?_
            refine mdP_waiting (v1 := (va_up (va_up v 16 y16_3) 20 (y20_3 - 1))) C hP hD hS mF_X11_255 (by omega) rfl (Or.inr (gF_up (V := mdV) (F := mdF) (gF_up (V := mdV) (F := mdF) (gR_up (V := mdV) (F := mdF) (gR_up (V := mdV) (F := mdF) ⟨hok.1, hok.2⟩ 16 (hP.2.1 16)) 20 (show 0 ≤ (y20_3 - 1) ∧ (y20_3 - 1) ≤ 64 from by omega)) 11 (hP.2.2 11)) 12 (hP.2.2 12))) dX11_reduce_48 (fun H locs hP hS => ?_)
            refine lv_aload_n hx hb dX11_reduce_51 rfl (lv_at hl 0 rfl) ?_
            refine lv_aload_n hx hb dX11_reduce_52 rfl (lv_at hl 0 rfl) ?_
            refine mdG_waits C hP mF_X11_70 dX11_reduce_53 ?_
            refine lv_aload_n hx hb dX11_reduce_56 rfl (lv_at hl 0 rfl) ?_
            refine mdG_waiting C hP mF_X11_255 dX11_reduce_57 ?_
            show W p l e (gRm 1 22) s m args below meth c _ _ 0 0 Q (F0 m 60 ls [.int (iI (y20_3 - 1)), .ref (ad 18), .ref (ad 0)])
            have r_10 : 0 ≤ (y20_3 - 1) ∧ (y20_3 - 1) ≤ 64 := hP.2.1 20
            refine mdL_waits C hP (by omega) (by omega) dX11_reduce_60 ?_
            show W p l e (gRm 1 22) s m args below meth c _ _ 0 0 Q (F0 m 61 ls [.int (iI (f 17 (y20_3 - 1))), .ref (ad 0)])
            refine lv_iconst (v := iI 0) hx hb dX11_reduce_61 rfl ?_
            refine g_cv (As := [.int (iI (f 17 (y20_3 - 1))), .int (iI 0)]) (rest := []) (n := 2) C hml (n_puts l D k A ad hD (va_up (va_up v 16 y16_3) 20 (y20_3 - 1)) (va_up (va_up f 11 c11_3) 12 c12_3) g (f 17 (y20_3 - 1)) 0 (by omega) (by decide) (show y16_3 ≤ 40 from by omega) (show 0 ≤ (f 17 (y20_3 - 1)) ∧ (f 17 (y20_3 - 1)) ≤ 11 from by omega) (show 0 ≤ (0 : Int) ∧ (0 : Int) ≤ 999999 from by omega)) mM_X11_261 mI_X11_puts mE_X11_puts mN_X11 mC_X11_puts (by decide +kernel) 0 (ci := 11) rfl rfl hP hS (fun _ h => h) ⟨Nat.le_of_ble_eq_true rfl, Nat.le_of_ble_eq_true rfl⟩ ⟨Nat.zero_le _, Nat.zero_le _⟩ hl.1 rfl rfl (Nat.le_of_ble_eq_true rfl) dX11_reduce_62 (fun r_11 v_11 f_11 g_11 H locs hq_11 hP _ hS => ?_)
            obtain ⟨rfl, rfl, rfl, rfl⟩ := hq_11
            show W p l e (gRm 1 22) s m args below meth c _ _ 0 0 Q (F0 m 65 ls [])
            have hP : gWd D (mdT k ad) (va_up (va_up v 16 (y16_3 + 1)) 20 (y20_3 - 1)) (va_up (va_up f 11 (u1 c11_3 y16_3 (f 17 (y20_3 - 1)))) 12 (u1 c12_3 y16_3 (0 : Int))) g H := ⟨hP.1, (gF_up (V := mdV) (F := mdF) (gF_up (V := mdV) (F := mdF) (gR_up (V := mdV) (F := mdF) (gR_up (V := mdV) (F := mdF) ⟨hok.1, hok.2⟩ 16 (hP.2.1 16)) 20 (hP.2.1 20)) 11 (hP.2.2 11)) 12 (hP.2.2 12))⟩
            refine lv_goto (tgt := 0) hx hb dX11_reduce_65 (by decide) ?_
            exact ih_0 (S1.tail) ((hdS S1, 0) :: E1) (y16_3 + 1) (y20_3 - 1) (u1 c11_3 y16_3 (f 17 (y20_3 - 1))) (u1 c12_3 y16_3 (0 : Int)) _ _ _ (by omega) (wfS_tail hw1) ((rep_top hr1 (by omega)).2) ((wfS_bel hw1 (hne (by omega)) (by omega)).1) (by have h3 := hct (by omega); exact ⟨repC_push (hdS S1) hk1.1 (by rw [← mp_op (by omega)]; exact ht1 (by omega)), by simp only [List.length_cons]; omega⟩) (by rw [← hT1]; exact (rlS_pop (hne (by omega)) (by omega) (by omega)).symm) hP hS (lv_sub hl [0, 1] rfl)
  exact L_3 65 (SS) (EE) (v 16) (v 20) (f 11) (f 12) _ _ _ (by omega) hw hrS hd hk rfl hP hS (lv_sub hl [0, 1] rfl)

set_option maxHeartbeats 4000000 in
set_option maxRecDepth 100000 in
theorem n_isOpen (l : Launch) (D : va_G) (k : Nat → ClassId) (A : Nat → Prop) (ad : Nat → Nat) (hD : mdD A k ad) (v : gV) (f g : gF) (SS : List Int) (hrS : rep SS (f 17) (v 20)) : GM l D k A (mdT k ad) yX11_isOpen cX11_isOpen 2 (some .boolean) 0 0 [.ref (ad 0)] v f g (fun r v1 f1 g1 => ∃ (z : Int), r = some (.int (iI z)) ∧ v = v1 ∧ f = f1 ∧ g = g1 ∧ (0 ≤ z ∧ z ≤ 1) ∧ (z = 1 ↔ 0 < cPa SS)) := by
  refine GM.of (by decide) (Nat.le_of_ble_eq_true rfl) ?_
  intro p e s m args below meth c Q ls hQ C hml hr hlocks hP hl
  have hx := C.1
  have hb := C.2.1
  have hok := hP.2
  have hS : va_S A s.heap s.heap [] := va_S.rf
  have hl : lv_has ls 2 [(0, .ref (ad 0))] := hl
  have hpa := rep_pa _ _ _ hrS
  have hcp := cnt_pos SS
  have r_1 : 0 ≤ (v 20) ∧ (v 20) ≤ 64 := hok.1 20
  refine lv_iconst (v := iI 0) hx hb dX11_isOpen_0 rfl ?_
  refine lv_istore_n (lv' := [(1, .int (iI 0)), (0, .ref (ad 0))]) hx hb dX11_isOpen_1 rfl hl (by decide) rfl (fun ls hl => ?_)
  have L_2 : ∀ (n : Nat) (x1 : Int) (H : Heap) (locs : List Loc) (ls : Array Slot), 64 - x1 < (n : Int) → (0 ≤ x1 ∧ x1 ≤ (v 20)) → (∀ j, 0 ≤ j → j < x1 → (f 17) j ≠ 11) → gWd D (mdT k ad) v f g H → va_S A s.heap H locs → lv_has ls 2 [(0, .ref (ad 0)), (1, .int (iI x1))] → W p l e (gRm 0 0) s m args below meth c H locs 0 0 Q (F0 m 2 ls []) := by
    intro n
    induction n with
    | zero =>
      intro x1 H locs ls hn_2 i2_0 i2_1 hP hS hl
      exfalso; omega
    | succ n ih_2 =>
      intro x1 H locs ls hn_2 i2_0 i2_1 hP hS hl
      have hJ := i2_1
      refine lv_iload_n hx hb dX11_isOpen_2 rfl (lv_at hl 1 rfl) ?_
      refine lv_aload_n hx hb dX11_isOpen_3 rfl (lv_at hl 0 rfl) ?_
      refine mdG_waiting C hP mF_X11_255 dX11_isOpen_4 ?_
      refine gi_cge (tgt := 29) hx hb dX11_isOpen_7 (by decide) (by omega) (by omega) (fun c_3 => ?_) (fun c_3 => ?_)
      · refine lv_iconst (v := iI 0) hx hb dX11_isOpen_29 rfl ?_
        exact g_zret hQ C hr hlocks (by decide) hP hS dX11_isOpen_30 ⟨0, rfl, rfl, rfl, rfl, (by first | omega | (split <;> omega)), (by first | (have h9 : ¬ (cPa SS = 0) := (fun h => hpa.mp h x1 (by omega) (by omega) (by assumption)); omega) | (have h9 := hpa.mpr (fun j h0 h1 => hJ j h0 (by omega)); omega))⟩
      · refine lv_aload_n hx hb dX11_isOpen_10 rfl (lv_at hl 0 rfl) ?_
        refine mdG_waits C hP mF_X11_70 dX11_isOpen_11 ?_
        refine lv_iload_n hx hb dX11_isOpen_14 rfl (lv_at hl 1 rfl) ?_
        refine mdL_waits C hP (by omega) (by omega) dX11_isOpen_15 ?_
        have r_4 : 0 ≤ (f 17 x1) ∧ (f 17 x1) ≤ 11 := hP.2.2 17 x1
        refine lv_bipush (v := iI 11) hx hb dX11_isOpen_16 (by decide) ?_
        refine gi_cne (tgt := 23) hx hb dX11_isOpen_18 (by decide) (by omega) (by decide) (fun c_5 => ?_) (fun c_5 => ?_)
        · refine lv_iinc (v := iI (x1 + 1)) (lv' := [(1, .int (iI (x1 + 1))), (0, .ref (ad 0))]) hx hb dX11_isOpen_23 hl (k := 1) rfl (by show iI _ + iI 1 = _; rw [iI_add]) (by decide) rfl (fun ls hl => ?_)
          refine lv_goto (tgt := 2) hx hb dX11_isOpen_26 (by decide) ?_
          exact ih_2 (x1 + 1) _ _ _ (by omega) (by omega) (fun j h0 h1 => by by_cases e : j = x1; (rw [e]; assumption); exact hJ j h0 (by omega)) hP hS (lv_sub hl [1, 0] rfl)
        · refine lv_iconst (v := iI 1) hx hb dX11_isOpen_21 rfl ?_
          exact g_zret hQ C hr hlocks (by decide) hP hS dX11_isOpen_22 ⟨1, rfl, rfl, rfl, rfl, (by first | omega | (split <;> omega)), (by first | (have h9 : ¬ (cPa SS = 0) := (fun h => hpa.mp h x1 (by omega) (by omega) (by assumption)); omega) | (have h9 := hpa.mpr (fun j h0 h1 => hJ j h0 (by omega)); omega))⟩
  exact L_2 65 0 _ _ _ (by omega) (by omega) (fun j h0 h1 => by omega) hP hS (lv_sub hl [1, 0] rfl)
end
