theorem dX11_counts_0 : decode cX11_counts 0 = .ok (.aload_n 0, 1) := by decide +kernel
theorem dX11_counts_1 : decode cX11_counts 1 = .ok (.getfield 249, 3) := by decide +kernel
theorem dX11_counts_4 : decode cX11_counts 4 = .ok (.bipush 40, 2) := by decide +kernel
theorem dX11_counts_6 : decode cX11_counts 6 = .ok (.if_icmp .ne 12, 3) := by decide +kernel
theorem dX11_counts_9 : decode cX11_counts 9 = .ok (.aload_n 0, 1) := by decide +kernel
theorem dX11_counts_10 : decode cX11_counts 10 = .ok (.iconst 3, 1) := by decide +kernel
theorem dX11_counts_11 : decode cX11_counts 11 = .ok (.aload_n 0, 1) := by decide +kernel
theorem dX11_counts_12 : decode cX11_counts 12 = .ok (.getfield 158, 3) := by decide +kernel
theorem dX11_counts_15 : decode cX11_counts 15 = .ok (.invokevirtual 194, 3) := by decide +kernel
theorem dX11_counts_18 : decode cX11_counts 18 = .ok (.aload_n 0, 1) := by decide +kernel
theorem dX11_counts_19 : decode cX11_counts 19 = .ok (.dup, 1) := by decide +kernel
theorem dX11_counts_20 : decode cX11_counts 20 = .ok (.getfield 249, 3) := by decide +kernel
theorem dX11_counts_23 : decode cX11_counts 23 = .ok (.iconst 1, 1) := by decide +kernel
theorem dX11_counts_24 : decode cX11_counts 24 = .ok (.iadd, 1) := by decide +kernel
theorem dX11_counts_25 : decode cX11_counts 25 = .ok (.putfield 249, 3) := by decide +kernel
theorem dX11_counts_28 : decode cX11_counts 28 = .ok (.return_, 1) := by decide +kernel
theorem dX11_puts_0 : decode cX11_puts 0 = .ok (.aload_n 0, 1) := by decide +kernel
theorem dX11_puts_1 : decode cX11_puts 1 = .ok (.getfield 51, 3) := by decide +kernel
theorem dX11_puts_4 : decode cX11_puts 4 = .ok (.aload_n 0, 1) := by decide +kernel
theorem dX11_puts_5 : decode cX11_puts 5 = .ok (.getfield 217, 3) := by decide +kernel
theorem dX11_puts_8 : decode cX11_puts 8 = .ok (.iload_n 1, 1) := by decide +kernel
theorem dX11_puts_9 : decode cX11_puts 9 = .ok (.iastore, 1) := by decide +kernel
theorem dX11_puts_10 : decode cX11_puts 10 = .ok (.aload_n 0, 1) := by decide +kernel
theorem dX11_puts_11 : decode cX11_puts 11 = .ok (.getfield 54, 3) := by decide +kernel
theorem dX11_puts_14 : decode cX11_puts 14 = .ok (.aload_n 0, 1) := by decide +kernel
theorem dX11_puts_15 : decode cX11_puts 15 = .ok (.getfield 217, 3) := by decide +kernel
theorem dX11_puts_18 : decode cX11_puts 18 = .ok (.iload_n 2, 1) := by decide +kernel
theorem dX11_puts_19 : decode cX11_puts 19 = .ok (.iastore, 1) := by decide +kernel
theorem dX11_puts_20 : decode cX11_puts 20 = .ok (.aload_n 0, 1) := by decide +kernel
theorem dX11_puts_21 : decode cX11_puts 21 = .ok (.dup, 1) := by decide +kernel
theorem dX11_puts_22 : decode cX11_puts 22 = .ok (.getfield 217, 3) := by decide +kernel
theorem dX11_puts_25 : decode cX11_puts 25 = .ok (.iconst 1, 1) := by decide +kernel
theorem dX11_puts_26 : decode cX11_puts 26 = .ok (.iadd, 1) := by decide +kernel
theorem dX11_puts_27 : decode cX11_puts 27 = .ok (.putfield 217, 3) := by decide +kernel
theorem dX11_puts_30 : decode cX11_puts 30 = .ok (.return_, 1) := by decide +kernel
theorem dX11_deeper_0 : decode cX11_deeper 0 = .ok (.aload_n 0, 1) := by decide +kernel
theorem dX11_deeper_1 : decode cX11_deeper 1 = .ok (.getfield 252, 3) := by decide +kernel
theorem dX11_deeper_4 : decode cX11_deeper 4 = .ok (.bipush 8, 2) := by decide +kernel
theorem dX11_deeper_6 : decode cX11_deeper 6 = .ok (.if_icmp .ne 12, 3) := by decide +kernel
theorem dX11_deeper_9 : decode cX11_deeper 9 = .ok (.aload_n 0, 1) := by decide +kernel
theorem dX11_deeper_10 : decode cX11_deeper 10 = .ok (.iconst 3, 1) := by decide +kernel
theorem dX11_deeper_11 : decode cX11_deeper 11 = .ok (.aload_n 0, 1) := by decide +kernel
theorem dX11_deeper_12 : decode cX11_deeper 12 = .ok (.getfield 158, 3) := by decide +kernel
theorem dX11_deeper_15 : decode cX11_deeper 15 = .ok (.invokevirtual 194, 3) := by decide +kernel
theorem dX11_deeper_18 : decode cX11_deeper 18 = .ok (.aload_n 0, 1) := by decide +kernel
theorem dX11_deeper_19 : decode cX11_deeper 19 = .ok (.dup, 1) := by decide +kernel
theorem dX11_deeper_20 : decode cX11_deeper 20 = .ok (.getfield 252, 3) := by decide +kernel
theorem dX11_deeper_23 : decode cX11_deeper 23 = .ok (.iconst 1, 1) := by decide +kernel
theorem dX11_deeper_24 : decode cX11_deeper 24 = .ok (.iadd, 1) := by decide +kernel
theorem dX11_deeper_25 : decode cX11_deeper 25 = .ok (.putfield 252, 3) := by decide +kernel
theorem dX11_deeper_28 : decode cX11_deeper 28 = .ok (.return_, 1) := by decide +kernel
theorem dX11_waitFor_0 : decode cX11_waitFor 0 = .ok (.aload_n 0, 1) := by decide +kernel
theorem dX11_waitFor_1 : decode cX11_waitFor 1 = .ok (.getfield 70, 3) := by decide +kernel
theorem dX11_waitFor_4 : decode cX11_waitFor 4 = .ok (.aload_n 0, 1) := by decide +kernel
theorem dX11_waitFor_5 : decode cX11_waitFor 5 = .ok (.getfield 255, 3) := by decide +kernel
theorem dX11_waitFor_8 : decode cX11_waitFor 8 = .ok (.iload_n 1, 1) := by decide +kernel
theorem dX11_waitFor_9 : decode cX11_waitFor 9 = .ok (.iastore, 1) := by decide +kernel
theorem dX11_waitFor_10 : decode cX11_waitFor 10 = .ok (.aload_n 0, 1) := by decide +kernel
theorem dX11_waitFor_11 : decode cX11_waitFor 11 = .ok (.dup, 1) := by decide +kernel
theorem dX11_waitFor_12 : decode cX11_waitFor 12 = .ok (.getfield 255, 3) := by decide +kernel
theorem dX11_waitFor_15 : decode cX11_waitFor 15 = .ok (.iconst 1, 1) := by decide +kernel
theorem dX11_waitFor_16 : decode cX11_waitFor 16 = .ok (.iadd, 1) := by decide +kernel
theorem dX11_waitFor_17 : decode cX11_waitFor 17 = .ok (.putfield 255, 3) := by decide +kernel
theorem dX11_waitFor_20 : decode cX11_waitFor 20 = .ok (.return_, 1) := by decide +kernel
theorem dX11_strong_0 : decode cX11_strong 0 = .ok (.iload_n 0, 1) := by decide +kernel
theorem dX11_strong_1 : decode cX11_strong 1 = .ok (.bipush 9, 2) := by decide +kernel
theorem dX11_strong_3 : decode cX11_strong 3 = .ok (.if_icmp .ne 7, 3) := by decide +kernel
theorem dX11_strong_6 : decode cX11_strong 6 = .ok (.iconst 2, 1) := by decide +kernel
theorem dX11_strong_7 : decode cX11_strong 7 = .ok (.goto 14, 3) := by decide +kernel
theorem dX11_strong_10 : decode cX11_strong 10 = .ok (.iload_n 0, 1) := by decide +kernel
theorem dX11_strong_11 : decode cX11_strong 11 = .ok (.bipush 9, 2) := by decide +kernel
theorem dX11_strong_13 : decode cX11_strong 13 = .ok (.if_icmp .ge 7, 3) := by decide +kernel
theorem dX11_strong_16 : decode cX11_strong 16 = .ok (.iconst 1, 1) := by decide +kernel
theorem dX11_strong_17 : decode cX11_strong 17 = .ok (.goto 4, 3) := by decide +kernel
theorem dX11_strong_20 : decode cX11_strong 20 = .ok (.iconst 0, 1) := by decide +kernel
theorem dX11_strong_21 : decode cX11_strong 21 = .ok (.ireturn, 1) := by decide +kernel
theorem dX11_reduce_0 : decode cX11_reduce 0 = .ok (.aload_n 0, 1) := by decide +kernel
theorem dX11_reduce_1 : decode cX11_reduce 1 = .ok (.getfield 255, 3) := by decide +kernel
theorem dX11_reduce_4 : decode cX11_reduce 4 = .ok (.ifCond .le 64, 3) := by decide +kernel
theorem dX11_reduce_7 : decode cX11_reduce 7 = .ok (.aload_n 0, 1) := by decide +kernel
theorem dX11_reduce_8 : decode cX11_reduce 8 = .ok (.getfield 70, 3) := by decide +kernel
theorem dX11_reduce_11 : decode cX11_reduce 11 = .ok (.aload_n 0, 1) := by decide +kernel
theorem dX11_reduce_12 : decode cX11_reduce 12 = .ok (.getfield 255, 3) := by decide +kernel
theorem dX11_reduce_15 : decode cX11_reduce 15 = .ok (.iconst 1, 1) := by decide +kernel
theorem dX11_reduce_16 : decode cX11_reduce 16 = .ok (.isub, 1) := by decide +kernel
theorem dX11_reduce_17 : decode cX11_reduce 17 = .ok (.iaload, 1) := by decide +kernel
theorem dX11_reduce_18 : decode cX11_reduce 18 = .ok (.bipush 10, 2) := by decide +kernel
theorem dX11_reduce_20 : decode cX11_reduce 20 = .ok (.if_icmp .ge 48, 3) := by decide +kernel
theorem dX11_reduce_23 : decode cX11_reduce 23 = .ok (.aload_n 0, 1) := by decide +kernel
theorem dX11_reduce_24 : decode cX11_reduce 24 = .ok (.getfield 70, 3) := by decide +kernel
theorem dX11_reduce_27 : decode cX11_reduce 27 = .ok (.aload_n 0, 1) := by decide +kernel
theorem dX11_reduce_28 : decode cX11_reduce 28 = .ok (.getfield 255, 3) := by decide +kernel
theorem dX11_reduce_31 : decode cX11_reduce 31 = .ok (.iconst 1, 1) := by decide +kernel
theorem dX11_reduce_32 : decode cX11_reduce 32 = .ok (.isub, 1) := by decide +kernel
theorem dX11_reduce_33 : decode cX11_reduce 33 = .ok (.iaload, 1) := by decide +kernel
theorem dX11_reduce_34 : decode cX11_reduce 34 = .ok (.invokestatic 258, 3) := by decide +kernel
theorem dX11_reduce_37 : decode cX11_reduce 37 = .ok (.iload_n 1, 1) := by decide +kernel
theorem dX11_reduce_38 : decode cX11_reduce 38 = .ok (.if_icmp .lt 30, 3) := by decide +kernel
theorem dX11_reduce_41 : decode cX11_reduce 41 = .ok (.aload_n 0, 1) := by decide +kernel
theorem dX11_reduce_42 : decode cX11_reduce 42 = .ok (.dup, 1) := by decide +kernel
theorem dX11_reduce_43 : decode cX11_reduce 43 = .ok (.getfield 255, 3) := by decide +kernel
theorem dX11_reduce_46 : decode cX11_reduce 46 = .ok (.iconst 1, 1) := by decide +kernel
theorem dX11_reduce_47 : decode cX11_reduce 47 = .ok (.isub, 1) := by decide +kernel
theorem dX11_reduce_48 : decode cX11_reduce 48 = .ok (.putfield 255, 3) := by decide +kernel
theorem dX11_reduce_51 : decode cX11_reduce 51 = .ok (.aload_n 0, 1) := by decide +kernel
theorem dX11_reduce_52 : decode cX11_reduce 52 = .ok (.aload_n 0, 1) := by decide +kernel
theorem dX11_reduce_53 : decode cX11_reduce 53 = .ok (.getfield 70, 3) := by decide +kernel
theorem dX11_reduce_56 : decode cX11_reduce 56 = .ok (.aload_n 0, 1) := by decide +kernel
theorem dX11_reduce_57 : decode cX11_reduce 57 = .ok (.getfield 255, 3) := by decide +kernel
theorem dX11_reduce_60 : decode cX11_reduce 60 = .ok (.iaload, 1) := by decide +kernel
theorem dX11_reduce_61 : decode cX11_reduce 61 = .ok (.iconst 0, 1) := by decide +kernel
theorem dX11_reduce_62 : decode cX11_reduce 62 = .ok (.invokevirtual 261, 3) := by decide +kernel
theorem dX11_reduce_65 : decode cX11_reduce 65 = .ok (.goto (-65), 3) := by decide +kernel
theorem dX11_reduce_68 : decode cX11_reduce 68 = .ok (.return_, 1) := by decide +kernel
theorem dX11_isOpen_0 : decode cX11_isOpen 0 = .ok (.iconst 0, 1) := by decide +kernel
theorem dX11_isOpen_1 : decode cX11_isOpen 1 = .ok (.istore_n 1, 1) := by decide +kernel
theorem dX11_isOpen_2 : decode cX11_isOpen 2 = .ok (.iload_n 1, 1) := by decide +kernel
theorem dX11_isOpen_3 : decode cX11_isOpen 3 = .ok (.aload_n 0, 1) := by decide +kernel
theorem dX11_isOpen_4 : decode cX11_isOpen 4 = .ok (.getfield 255, 3) := by decide +kernel
theorem dX11_isOpen_7 : decode cX11_isOpen 7 = .ok (.if_icmp .ge 22, 3) := by decide +kernel
theorem dX11_isOpen_10 : decode cX11_isOpen 10 = .ok (.aload_n 0, 1) := by decide +kernel
theorem dX11_isOpen_11 : decode cX11_isOpen 11 = .ok (.getfield 70, 3) := by decide +kernel
theorem dX11_isOpen_14 : decode cX11_isOpen 14 = .ok (.iload_n 1, 1) := by decide +kernel
theorem dX11_isOpen_15 : decode cX11_isOpen 15 = .ok (.iaload, 1) := by decide +kernel
theorem dX11_isOpen_16 : decode cX11_isOpen 16 = .ok (.bipush 11, 2) := by decide +kernel
theorem dX11_isOpen_18 : decode cX11_isOpen 18 = .ok (.if_icmp .ne 5, 3) := by decide +kernel
theorem dX11_isOpen_21 : decode cX11_isOpen 21 = .ok (.iconst 1, 1) := by decide +kernel
theorem dX11_isOpen_22 : decode cX11_isOpen 22 = .ok (.ireturn, 1) := by decide +kernel
theorem dX11_isOpen_23 : decode cX11_isOpen 23 = .ok (.iinc 1 1, 3) := by decide +kernel
theorem dX11_isOpen_26 : decode cX11_isOpen 26 = .ok (.goto (-24), 3) := by decide +kernel
theorem dX11_isOpen_29 : decode cX11_isOpen 29 = .ok (.iconst 0, 1) := by decide +kernel
theorem dX11_isOpen_30 : decode cX11_isOpen 30 = .ok (.ireturn, 1) := by decide +kernel
theorem dX11_wholes_0 : decode cX11_wholes 0 = .ok (.aload_n 0, 1) := by decide +kernel
theorem dX11_wholes_1 : decode cX11_wholes 1 = .ok (.getfield 255, 3) := by decide +kernel
theorem dX11_wholes_4 : decode cX11_wholes 4 = .ok (.ifCond .le 49, 3) := by decide +kernel
theorem dX11_wholes_7 : decode cX11_wholes 7 = .ok (.aload_n 0, 1) := by decide +kernel
theorem dX11_wholes_8 : decode cX11_wholes 8 = .ok (.getfield 70, 3) := by decide +kernel
theorem dX11_wholes_11 : decode cX11_wholes 11 = .ok (.aload_n 0, 1) := by decide +kernel
theorem dX11_wholes_12 : decode cX11_wholes 12 = .ok (.getfield 255, 3) := by decide +kernel
theorem dX11_wholes_15 : decode cX11_wholes 15 = .ok (.iconst 1, 1) := by decide +kernel
theorem dX11_wholes_16 : decode cX11_wholes 16 = .ok (.isub, 1) := by decide +kernel
theorem dX11_wholes_17 : decode cX11_wholes 17 = .ok (.iaload, 1) := by decide +kernel
theorem dX11_wholes_18 : decode cX11_wholes 18 = .ok (.bipush 10, 2) := by decide +kernel
theorem dX11_wholes_20 : decode cX11_wholes 20 = .ok (.if_icmp .ne 33, 3) := by decide +kernel
theorem dX11_wholes_23 : decode cX11_wholes 23 = .ok (.aload_n 0, 1) := by decide +kernel
theorem dX11_wholes_24 : decode cX11_wholes 24 = .ok (.dup, 1) := by decide +kernel
theorem dX11_wholes_25 : decode cX11_wholes 25 = .ok (.getfield 255, 3) := by decide +kernel
theorem dX11_wholes_28 : decode cX11_wholes 28 = .ok (.iconst 1, 1) := by decide +kernel
theorem dX11_wholes_29 : decode cX11_wholes 29 = .ok (.isub, 1) := by decide +kernel
theorem dX11_wholes_30 : decode cX11_wholes 30 = .ok (.putfield 255, 3) := by decide +kernel
theorem dX11_wholes_33 : decode cX11_wholes 33 = .ok (.aload_n 0, 1) := by decide +kernel
theorem dX11_wholes_34 : decode cX11_wholes 34 = .ok (.dup, 1) := by decide +kernel
theorem dX11_wholes_35 : decode cX11_wholes 35 = .ok (.getfield 252, 3) := by decide +kernel
theorem dX11_wholes_38 : decode cX11_wholes 38 = .ok (.iconst 1, 1) := by decide +kernel
theorem dX11_wholes_39 : decode cX11_wholes 39 = .ok (.isub, 1) := by decide +kernel
theorem dX11_wholes_40 : decode cX11_wholes 40 = .ok (.putfield 252, 3) := by decide +kernel
theorem dX11_wholes_43 : decode cX11_wholes 43 = .ok (.aload_n 0, 1) := by decide +kernel
theorem dX11_wholes_44 : decode cX11_wholes 44 = .ok (.bipush 10, 2) := by decide +kernel
theorem dX11_wholes_46 : decode cX11_wholes 46 = .ok (.iconst 0, 1) := by decide +kernel
theorem dX11_wholes_47 : decode cX11_wholes 47 = .ok (.invokevirtual 261, 3) := by decide +kernel
theorem dX11_wholes_50 : decode cX11_wholes 50 = .ok (.goto (-50), 3) := by decide +kernel
theorem dX11_wholes_53 : decode cX11_wholes 53 = .ok (.return_, 1) := by decide +kernel
