theorem dX10_status_0 : decode cX10_status 0 = .ok (.aload_n 0, 1) := by decide +kernel
theorem dX10_status_1 : decode cX10_status 1 = .ok (.getfield 71, 3) := by decide +kernel
theorem dX10_status_4 : decode cX10_status 4 = .ok (.ireturn, 1) := by decide +kernel
theorem dX10_feed_0 : decode cX10_feed 0 = .ok (.aload_n 0, 1) := by decide +kernel
theorem dX10_feed_1 : decode cX10_feed 1 = .ok (.getfield 81, 3) := by decide +kernel
theorem dX10_feed_4 : decode cX10_feed 4 = .ok (.bipush 20, 2) := by decide +kernel
theorem dX10_feed_6 : decode cX10_feed 6 = .ok (.iadd, 1) := by decide +kernel
theorem dX10_feed_7 : decode cX10_feed 7 = .ok (.sipush 700, 3) := by decide +kernel
theorem dX10_feed_10 : decode cX10_feed 10 = .ok (.if_icmp .le 5, 3) := by decide +kernel
theorem dX10_feed_13 : decode cX10_feed 13 = .ok (.iconst (-1), 1) := by decide +kernel
theorem dX10_feed_14 : decode cX10_feed 14 = .ok (.ireturn, 1) := by decide +kernel
theorem dX10_feed_15 : decode cX10_feed 15 = .ok (.aload_n 0, 1) := by decide +kernel
theorem dX10_feed_16 : decode cX10_feed 16 = .ok (.iload_n 1, 1) := by decide +kernel
theorem dX10_feed_17 : decode cX10_feed 17 = .ok (.invokevirtual 84, 3) := by decide +kernel
theorem dX10_feed_20 : decode cX10_feed 20 = .ok (.aload_n 0, 1) := by decide +kernel
theorem dX10_feed_21 : decode cX10_feed 21 = .ok (.iload_n 2, 1) := by decide +kernel
theorem dX10_feed_22 : decode cX10_feed 22 = .ok (.invokevirtual 84, 3) := by decide +kernel
theorem dX10_feed_25 : decode cX10_feed 25 = .ok (.aload_n 0, 1) := by decide +kernel
theorem dX10_feed_26 : decode cX10_feed 26 = .ok (.iload_n 3, 1) := by decide +kernel
theorem dX10_feed_27 : decode cX10_feed 27 = .ok (.invokevirtual 84, 3) := by decide +kernel
theorem dX10_feed_30 : decode cX10_feed 30 = .ok (.aload_n 0, 1) := by decide +kernel
theorem dX10_feed_31 : decode cX10_feed 31 = .ok (.iload 4, 2) := by decide +kernel
theorem dX10_feed_33 : decode cX10_feed 33 = .ok (.invokevirtual 84, 3) := by decide +kernel
theorem dX10_feed_36 : decode cX10_feed 36 = .ok (.aload_n 0, 1) := by decide +kernel
theorem dX10_feed_37 : decode cX10_feed 37 = .ok (.iload 5, 2) := by decide +kernel
theorem dX10_feed_39 : decode cX10_feed 39 = .ok (.invokevirtual 84, 3) := by decide +kernel
theorem dX10_feed_42 : decode cX10_feed 42 = .ok (.aload_n 0, 1) := by decide +kernel
theorem dX10_feed_43 : decode cX10_feed 43 = .ok (.getfield 81, 3) := by decide +kernel
theorem dX10_feed_46 : decode cX10_feed 46 = .ok (.ireturn, 1) := by decide +kernel
theorem dX10_fault_0 : decode cX10_fault 0 = .ok (.iload_n 1, 1) := by decide +kernel
theorem dX10_fault_1 : decode cX10_fault 1 = .ok (.ifCond .ne 8, 3) := by decide +kernel
theorem dX10_fault_4 : decode cX10_fault 4 = .ok (.aload_n 0, 1) := by decide +kernel
theorem dX10_fault_5 : decode cX10_fault 5 = .ok (.getfield 75, 3) := by decide +kernel
theorem dX10_fault_8 : decode cX10_fault 8 = .ok (.ireturn, 1) := by decide +kernel
theorem dX10_fault_9 : decode cX10_fault 9 = .ok (.iload_n 1, 1) := by decide +kernel
theorem dX10_fault_10 : decode cX10_fault 10 = .ok (.iconst 1, 1) := by decide +kernel
theorem dX10_fault_11 : decode cX10_fault 11 = .ok (.if_icmp .ne 10, 3) := by decide +kernel
theorem dX10_fault_14 : decode cX10_fault 14 = .ok (.aload_n 0, 1) := by decide +kernel
theorem dX10_fault_15 : decode cX10_fault 15 = .ok (.getfield 78, 3) := by decide +kernel
theorem dX10_fault_18 : decode cX10_fault 18 = .ok (.goto 4, 3) := by decide +kernel
theorem dX10_fault_21 : decode cX10_fault 21 = .ok (.iconst (-1), 1) := by decide +kernel
theorem dX10_fault_22 : decode cX10_fault 22 = .ok (.ireturn, 1) := by decide +kernel
theorem dX10_putOnTape_0 : decode cX10_putOnTape 0 = .ok (.bipush 24, 2) := by decide +kernel
theorem dX10_putOnTape_2 : decode cX10_putOnTape 2 = .ok (.istore_n 2, 1) := by decide +kernel
theorem dX10_putOnTape_3 : decode cX10_putOnTape 3 = .ok (.iload_n 2, 1) := by decide +kernel
theorem dX10_putOnTape_4 : decode cX10_putOnTape 4 = .ok (.ifCond .lt 45, 3) := by decide +kernel
theorem dX10_putOnTape_7 : decode cX10_putOnTape 7 = .ok (.aload_n 0, 1) := by decide +kernel
theorem dX10_putOnTape_8 : decode cX10_putOnTape 8 = .ok (.getfield 81, 3) := by decide +kernel
theorem dX10_putOnTape_11 : decode cX10_putOnTape 11 = .ok (.sipush 700, 3) := by decide +kernel
theorem dX10_putOnTape_14 : decode cX10_putOnTape 14 = .ok (.if_icmp .ge 29, 3) := by decide +kernel
theorem dX10_putOnTape_17 : decode cX10_putOnTape 17 = .ok (.aload_n 0, 1) := by decide +kernel
theorem dX10_putOnTape_18 : decode cX10_putOnTape 18 = .ok (.getfield 9, 3) := by decide +kernel
theorem dX10_putOnTape_21 : decode cX10_putOnTape 21 = .ok (.aload_n 0, 1) := by decide +kernel
theorem dX10_putOnTape_22 : decode cX10_putOnTape 22 = .ok (.getfield 81, 3) := by decide +kernel
theorem dX10_putOnTape_25 : decode cX10_putOnTape 25 = .ok (.iload_n 1, 1) := by decide +kernel
theorem dX10_putOnTape_26 : decode cX10_putOnTape 26 = .ok (.iload_n 2, 1) := by decide +kernel
theorem dX10_putOnTape_27 : decode cX10_putOnTape 27 = .ok (.iushr, 1) := by decide +kernel
theorem dX10_putOnTape_28 : decode cX10_putOnTape 28 = .ok (.sipush 255, 3) := by decide +kernel
theorem dX10_putOnTape_31 : decode cX10_putOnTape 31 = .ok (.iand, 1) := by decide +kernel
theorem dX10_putOnTape_32 : decode cX10_putOnTape 32 = .ok (.iastore, 1) := by decide +kernel
theorem dX10_putOnTape_33 : decode cX10_putOnTape 33 = .ok (.aload_n 0, 1) := by decide +kernel
theorem dX10_putOnTape_34 : decode cX10_putOnTape 34 = .ok (.dup, 1) := by decide +kernel
theorem dX10_putOnTape_35 : decode cX10_putOnTape 35 = .ok (.getfield 81, 3) := by decide +kernel
theorem dX10_putOnTape_38 : decode cX10_putOnTape 38 = .ok (.iconst 1, 1) := by decide +kernel
theorem dX10_putOnTape_39 : decode cX10_putOnTape 39 = .ok (.iadd, 1) := by decide +kernel
theorem dX10_putOnTape_40 : decode cX10_putOnTape 40 = .ok (.putfield 81, 3) := by decide +kernel
theorem dX10_putOnTape_43 : decode cX10_putOnTape 43 = .ok (.iinc 2 (-8), 3) := by decide +kernel
theorem dX10_putOnTape_46 : decode cX10_putOnTape 46 = .ok (.goto (-43), 3) := by decide +kernel
theorem dX10_putOnTape_49 : decode cX10_putOnTape 49 = .ok (.return_, 1) := by decide +kernel
