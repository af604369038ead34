section
theorem gif1o {P : Prop} {z : Int} (h : (z = 1 ∧ P) ∨ (z = 0 ∧ ¬ P)) (hz : z ≠ 0) : z = 1 := h.elim (fun q => q.1) (fun q => absurd q.1 hz)
theorem cn_mono {p : Int → Bool} {x : Int} (h : 0 ≤ x) : cn p x.toNat ≤ cn p (x + 1).toNat := by
  by_cases hp : p x = true
  · rw [cn_y h hp]; omega
  · rw [cn_n h (by simpa using hp)]; omega
def mcG (x : Int) : Int := if x = 0 then 6 else if x ≤ 6 then x - 1 else if x ≤ 10 then x else 9
theorem mcG_r {x : Int} (h : 0 ≤ x ∧ x ≤ 11) : 0 ≤ mcG x ∧ mcG x ≤ 11 := by unfold mcG; (repeat' split) <;> omega
theorem mcG_c (x : Int) : (x = 0 → mcG x = 6) ∧ (1 ≤ x ∧ x ≤ 6 → mcG x = x - 1) ∧ (7 ≤ x ∧ x ≤ 10 → mcG x = x) ∧ (10 < x → mcG x = 9) := by
  unfold mcG
  refine ⟨fun h => if_pos h, fun h => ?_, fun h => ?_, fun h => ?_⟩
  · rw [if_neg (by omega), if_pos (by omega)]
  · rw [if_neg (by omega), if_neg (by omega), if_pos (by omega)]
  · rw [if_neg (by omega), if_neg (by omega), if_neg (by omega)]
end

section
theorem dG_dX11_status_0 : (decode cX11_status 0 = .ok (.aload_n 0, 1)) ∧ (decode cX11_status 1 = .ok (.iconst 0, 1)) ∧ (decode cX11_status 2 = .ok (.putfield 146, 3)) ∧ (decode cX11_status 5 = .ok (.aload_n 0, 1)) ∧ (decode cX11_status 6 = .ok (.getfield 149, 3)) ∧ (decode cX11_status 9 = .ok (.ireturn, 1)) ∧ (decode cX11_refuse 0 = .ok (.aload_n 0, 1)) ∧ (decode cX11_refuse 1 = .ok (.iload_n 1, 1)) ∧ (decode cX11_refuse 2 = .ok (.putfield 149, 3)) ∧ (decode cX11_refuse 5 = .ok (.iconst (-1), 1)) ∧ (decode cX11_refuse 6 = .ok (.ireturn, 1)) ∧ (decode cX11_no 0 = .ok (.aload_n 0, 1)) := by decide +kernel
theorem dX11_status_0 : decode cX11_status 0 = .ok (.aload_n 0, 1) := dG_dX11_status_0.1
theorem dX11_status_1 : decode cX11_status 1 = .ok (.iconst 0, 1) := dG_dX11_status_0.2.1
theorem dX11_status_2 : decode cX11_status 2 = .ok (.putfield 146, 3) := dG_dX11_status_0.2.2.1
theorem dX11_status_5 : decode cX11_status 5 = .ok (.aload_n 0, 1) := dG_dX11_status_0.2.2.2.1
theorem dX11_status_6 : decode cX11_status 6 = .ok (.getfield 149, 3) := dG_dX11_status_0.2.2.2.2.1
theorem dX11_status_9 : decode cX11_status 9 = .ok (.ireturn, 1) := dG_dX11_status_0.2.2.2.2.2.1
theorem dX11_refuse_0 : decode cX11_refuse 0 = .ok (.aload_n 0, 1) := dG_dX11_status_0.2.2.2.2.2.2.1
theorem dX11_refuse_1 : decode cX11_refuse 1 = .ok (.iload_n 1, 1) := dG_dX11_status_0.2.2.2.2.2.2.2.1
theorem dX11_refuse_2 : decode cX11_refuse 2 = .ok (.putfield 149, 3) := dG_dX11_status_0.2.2.2.2.2.2.2.2.1
theorem dX11_refuse_5 : decode cX11_refuse 5 = .ok (.iconst (-1), 1) := dG_dX11_status_0.2.2.2.2.2.2.2.2.2.1
theorem dX11_refuse_6 : decode cX11_refuse 6 = .ok (.ireturn, 1) := dG_dX11_status_0.2.2.2.2.2.2.2.2.2.2.1
theorem dX11_no_0 : decode cX11_no 0 = .ok (.aload_n 0, 1) := dG_dX11_status_0.2.2.2.2.2.2.2.2.2.2.2
theorem dG_dX11_no_1 : (decode cX11_no 1 = .ok (.iload_n 1, 1)) ∧ (decode cX11_no 2 = .ok (.putfield 149, 3)) ∧ (decode cX11_no 5 = .ok (.iconst 0, 1)) ∧ (decode cX11_no 6 = .ok (.ireturn, 1)) ∧ (decode cX11_feed 0 = .ok (.aload_n 0, 1)) ∧ (decode cX11_feed 1 = .ok (.iconst 0, 1)) ∧ (decode cX11_feed 2 = .ok (.putfield 146, 3)) ∧ (decode cX11_feed 5 = .ok (.aload_n 0, 1)) ∧ (decode cX11_feed 6 = .ok (.getfield 289, 3)) ∧ (decode cX11_feed 9 = .ok (.bipush 20, 2)) ∧ (decode cX11_feed 11 = .ok (.iadd, 1)) ∧ (decode cX11_feed 12 = .ok (.sipush 700, 3)) := by decide +kernel
theorem dX11_no_1 : decode cX11_no 1 = .ok (.iload_n 1, 1) := dG_dX11_no_1.1
theorem dX11_no_2 : decode cX11_no 2 = .ok (.putfield 149, 3) := dG_dX11_no_1.2.1
theorem dX11_no_5 : decode cX11_no 5 = .ok (.iconst 0, 1) := dG_dX11_no_1.2.2.1
theorem dX11_no_6 : decode cX11_no 6 = .ok (.ireturn, 1) := dG_dX11_no_1.2.2.2.1
theorem dX11_feed_0 : decode cX11_feed 0 = .ok (.aload_n 0, 1) := dG_dX11_no_1.2.2.2.2.1
theorem dX11_feed_1 : decode cX11_feed 1 = .ok (.iconst 0, 1) := dG_dX11_no_1.2.2.2.2.2.1
theorem dX11_feed_2 : decode cX11_feed 2 = .ok (.putfield 146, 3) := dG_dX11_no_1.2.2.2.2.2.2.1
theorem dX11_feed_5 : decode cX11_feed 5 = .ok (.aload_n 0, 1) := dG_dX11_no_1.2.2.2.2.2.2.2.1
theorem dX11_feed_6 : decode cX11_feed 6 = .ok (.getfield 289, 3) := dG_dX11_no_1.2.2.2.2.2.2.2.2.1
theorem dX11_feed_9 : decode cX11_feed 9 = .ok (.bipush 20, 2) := dG_dX11_no_1.2.2.2.2.2.2.2.2.2.1
theorem dX11_feed_11 : decode cX11_feed 11 = .ok (.iadd, 1) := dG_dX11_no_1.2.2.2.2.2.2.2.2.2.2.1
theorem dX11_feed_12 : decode cX11_feed 12 = .ok (.sipush 700, 3) := dG_dX11_no_1.2.2.2.2.2.2.2.2.2.2.2
theorem dG_dX11_feed_15 : (decode cX11_feed 15 = .ok (.if_icmp .le 5, 3)) ∧ (decode cX11_feed 18 = .ok (.iconst (-1), 1)) ∧ (decode cX11_feed 19 = .ok (.ireturn, 1)) ∧ (decode cX11_feed 20 = .ok (.aload_n 0, 1)) ∧ (decode cX11_feed 21 = .ok (.iload_n 1, 1)) ∧ (decode cX11_feed 22 = .ok (.invokevirtual 292, 3)) ∧ (decode cX11_feed 25 = .ok (.aload_n 0, 1)) ∧ (decode cX11_feed 26 = .ok (.iload_n 2, 1)) ∧ (decode cX11_feed 27 = .ok (.invokevirtual 292, 3)) ∧ (decode cX11_feed 30 = .ok (.aload_n 0, 1)) ∧ (decode cX11_feed 31 = .ok (.iload_n 3, 1)) ∧ (decode cX11_feed 32 = .ok (.invokevirtual 292, 3)) := by decide +kernel
theorem dX11_feed_15 : decode cX11_feed 15 = .ok (.if_icmp .le 5, 3) := dG_dX11_feed_15.1
theorem dX11_feed_18 : decode cX11_feed 18 = .ok (.iconst (-1), 1) := dG_dX11_feed_15.2.1
theorem dX11_feed_19 : decode cX11_feed 19 = .ok (.ireturn, 1) := dG_dX11_feed_15.2.2.1
theorem dX11_feed_20 : decode cX11_feed 20 = .ok (.aload_n 0, 1) := dG_dX11_feed_15.2.2.2.1
theorem dX11_feed_21 : decode cX11_feed 21 = .ok (.iload_n 1, 1) := dG_dX11_feed_15.2.2.2.2.1
theorem dX11_feed_22 : decode cX11_feed 22 = .ok (.invokevirtual 292, 3) := dG_dX11_feed_15.2.2.2.2.2.1
theorem dX11_feed_25 : decode cX11_feed 25 = .ok (.aload_n 0, 1) := dG_dX11_feed_15.2.2.2.2.2.2.1
theorem dX11_feed_26 : decode cX11_feed 26 = .ok (.iload_n 2, 1) := dG_dX11_feed_15.2.2.2.2.2.2.2.1
theorem dX11_feed_27 : decode cX11_feed 27 = .ok (.invokevirtual 292, 3) := dG_dX11_feed_15.2.2.2.2.2.2.2.2.1
theorem dX11_feed_30 : decode cX11_feed 30 = .ok (.aload_n 0, 1) := dG_dX11_feed_15.2.2.2.2.2.2.2.2.2.1
theorem dX11_feed_31 : decode cX11_feed 31 = .ok (.iload_n 3, 1) := dG_dX11_feed_15.2.2.2.2.2.2.2.2.2.2.1
theorem dX11_feed_32 : decode cX11_feed 32 = .ok (.invokevirtual 292, 3) := dG_dX11_feed_15.2.2.2.2.2.2.2.2.2.2.2
theorem dG_dX11_feed_35 : (decode cX11_feed 35 = .ok (.aload_n 0, 1)) ∧ (decode cX11_feed 36 = .ok (.iload 4, 2)) ∧ (decode cX11_feed 38 = .ok (.invokevirtual 292, 3)) ∧ (decode cX11_feed 41 = .ok (.aload_n 0, 1)) ∧ (decode cX11_feed 42 = .ok (.iload 5, 2)) ∧ (decode cX11_feed 44 = .ok (.invokevirtual 292, 3)) ∧ (decode cX11_feed 47 = .ok (.aload_n 0, 1)) ∧ (decode cX11_feed 48 = .ok (.getfield 289, 3)) ∧ (decode cX11_feed 51 = .ok (.ireturn, 1)) ∧ (decode cX11_lay 0 = .ok (.iconst 3, 1)) ∧ (decode cX11_lay 1 = .ok (.istore_n 2, 1)) ∧ (decode cX11_lay 2 = .ok (.iload_n 2, 1)) := by decide +kernel
theorem dX11_feed_35 : decode cX11_feed 35 = .ok (.aload_n 0, 1) := dG_dX11_feed_35.1
theorem dX11_feed_36 : decode cX11_feed 36 = .ok (.iload 4, 2) := dG_dX11_feed_35.2.1
theorem dX11_feed_38 : decode cX11_feed 38 = .ok (.invokevirtual 292, 3) := dG_dX11_feed_35.2.2.1
theorem dX11_feed_41 : decode cX11_feed 41 = .ok (.aload_n 0, 1) := dG_dX11_feed_35.2.2.2.1
theorem dX11_feed_42 : decode cX11_feed 42 = .ok (.iload 5, 2) := dG_dX11_feed_35.2.2.2.2.1
theorem dX11_feed_44 : decode cX11_feed 44 = .ok (.invokevirtual 292, 3) := dG_dX11_feed_35.2.2.2.2.2.1
theorem dX11_feed_47 : decode cX11_feed 47 = .ok (.aload_n 0, 1) := dG_dX11_feed_35.2.2.2.2.2.2.1
theorem dX11_feed_48 : decode cX11_feed 48 = .ok (.getfield 289, 3) := dG_dX11_feed_35.2.2.2.2.2.2.2.1
theorem dX11_feed_51 : decode cX11_feed 51 = .ok (.ireturn, 1) := dG_dX11_feed_35.2.2.2.2.2.2.2.2.1
theorem dX11_lay_0 : decode cX11_lay 0 = .ok (.iconst 3, 1) := dG_dX11_feed_35.2.2.2.2.2.2.2.2.2.1
theorem dX11_lay_1 : decode cX11_lay 1 = .ok (.istore_n 2, 1) := dG_dX11_feed_35.2.2.2.2.2.2.2.2.2.2.1
theorem dX11_lay_2 : decode cX11_lay 2 = .ok (.iload_n 2, 1) := dG_dX11_feed_35.2.2.2.2.2.2.2.2.2.2.2
theorem dG_dX11_lay_3 : (decode cX11_lay 3 = .ok (.ifCond .lt 35, 3)) ∧ (decode cX11_lay 6 = .ok (.aload_n 0, 1)) ∧ (decode cX11_lay 7 = .ok (.getfield 7, 3)) ∧ (decode cX11_lay 10 = .ok (.aload_n 0, 1)) ∧ (decode cX11_lay 11 = .ok (.getfield 289, 3)) ∧ (decode cX11_lay 14 = .ok (.iload_n 1, 1)) ∧ (decode cX11_lay 15 = .ok (.bipush 8, 2)) ∧ (decode cX11_lay 17 = .ok (.iload_n 2, 1)) ∧ (decode cX11_lay 18 = .ok (.imul, 1)) ∧ (decode cX11_lay 19 = .ok (.ishr, 1)) ∧ (decode cX11_lay 20 = .ok (.i2b, 1)) ∧ (decode cX11_lay 21 = .ok (.bastore, 1)) := by decide +kernel
theorem dX11_lay_3 : decode cX11_lay 3 = .ok (.ifCond .lt 35, 3) := dG_dX11_lay_3.1
theorem dX11_lay_6 : decode cX11_lay 6 = .ok (.aload_n 0, 1) := dG_dX11_lay_3.2.1
theorem dX11_lay_7 : decode cX11_lay 7 = .ok (.getfield 7, 3) := dG_dX11_lay_3.2.2.1
theorem dX11_lay_10 : decode cX11_lay 10 = .ok (.aload_n 0, 1) := dG_dX11_lay_3.2.2.2.1
theorem dX11_lay_11 : decode cX11_lay 11 = .ok (.getfield 289, 3) := dG_dX11_lay_3.2.2.2.2.1
theorem dX11_lay_14 : decode cX11_lay 14 = .ok (.iload_n 1, 1) := dG_dX11_lay_3.2.2.2.2.2.1
theorem dX11_lay_15 : decode cX11_lay 15 = .ok (.bipush 8, 2) := dG_dX11_lay_3.2.2.2.2.2.2.1
theorem dX11_lay_17 : decode cX11_lay 17 = .ok (.iload_n 2, 1) := dG_dX11_lay_3.2.2.2.2.2.2.2.1
theorem dX11_lay_18 : decode cX11_lay 18 = .ok (.imul, 1) := dG_dX11_lay_3.2.2.2.2.2.2.2.2.1
theorem dX11_lay_19 : decode cX11_lay 19 = .ok (.ishr, 1) := dG_dX11_lay_3.2.2.2.2.2.2.2.2.2.1
theorem dX11_lay_20 : decode cX11_lay 20 = .ok (.i2b, 1) := dG_dX11_lay_3.2.2.2.2.2.2.2.2.2.2.1
theorem dX11_lay_21 : decode cX11_lay 21 = .ok (.bastore, 1) := dG_dX11_lay_3.2.2.2.2.2.2.2.2.2.2.2
theorem dG_dX11_lay_22 : (decode cX11_lay 22 = .ok (.aload_n 0, 1)) ∧ (decode cX11_lay 23 = .ok (.dup, 1)) ∧ (decode cX11_lay 24 = .ok (.getfield 289, 3)) ∧ (decode cX11_lay 27 = .ok (.iconst 1, 1)) ∧ (decode cX11_lay 28 = .ok (.iadd, 1)) ∧ (decode cX11_lay 29 = .ok (.putfield 289, 3)) ∧ (decode cX11_lay 32 = .ok (.iinc 2 (-1), 3)) ∧ (decode cX11_lay 35 = .ok (.goto (-33), 3)) ∧ (decode cX11_lay 38 = .ok (.return_, 1)) ∧ (decode cX11_fault 0 = .ok (.aload_n 0, 1)) ∧ (decode cX11_fault 1 = .ok (.iconst 0, 1)) ∧ (decode cX11_fault 2 = .ok (.putfield 146, 3)) := by decide +kernel
theorem dX11_lay_22 : decode cX11_lay 22 = .ok (.aload_n 0, 1) := dG_dX11_lay_22.1
theorem dX11_lay_23 : decode cX11_lay 23 = .ok (.dup, 1) := dG_dX11_lay_22.2.1
theorem dX11_lay_24 : decode cX11_lay 24 = .ok (.getfield 289, 3) := dG_dX11_lay_22.2.2.1
theorem dX11_lay_27 : decode cX11_lay 27 = .ok (.iconst 1, 1) := dG_dX11_lay_22.2.2.2.1
theorem dX11_lay_28 : decode cX11_lay 28 = .ok (.iadd, 1) := dG_dX11_lay_22.2.2.2.2.1
theorem dX11_lay_29 : decode cX11_lay 29 = .ok (.putfield 289, 3) := dG_dX11_lay_22.2.2.2.2.2.1
theorem dX11_lay_32 : decode cX11_lay 32 = .ok (.iinc 2 (-1), 3) := dG_dX11_lay_22.2.2.2.2.2.2.1
theorem dX11_lay_35 : decode cX11_lay 35 = .ok (.goto (-33), 3) := dG_dX11_lay_22.2.2.2.2.2.2.2.1
theorem dX11_lay_38 : decode cX11_lay 38 = .ok (.return_, 1) := dG_dX11_lay_22.2.2.2.2.2.2.2.2.1
theorem dX11_fault_0 : decode cX11_fault 0 = .ok (.aload_n 0, 1) := dG_dX11_lay_22.2.2.2.2.2.2.2.2.2.1
theorem dX11_fault_1 : decode cX11_fault 1 = .ok (.iconst 0, 1) := dG_dX11_lay_22.2.2.2.2.2.2.2.2.2.2.1
theorem dX11_fault_2 : decode cX11_fault 2 = .ok (.putfield 146, 3) := dG_dX11_lay_22.2.2.2.2.2.2.2.2.2.2.2
theorem dG_dX11_fault_5 : (decode cX11_fault 5 = .ok (.iload_n 1, 1)) ∧ (decode cX11_fault 6 = .ok (.ifCond .ne 10, 3)) ∧ (decode cX11_fault 9 = .ok (.aload_n 0, 1)) ∧ (decode cX11_fault 10 = .ok (.getfield 13, 3)) ∧ (decode cX11_fault 13 = .ok (.goto 16, 3)) ∧ (decode cX11_fault 16 = .ok (.iload_n 1, 1)) ∧ (decode cX11_fault 17 = .ok (.iconst 1, 1)) ∧ (decode cX11_fault 18 = .ok (.if_icmp .ne 10, 3)) ∧ (decode cX11_fault 21 = .ok (.aload_n 0, 1)) ∧ (decode cX11_fault 22 = .ok (.getfield 17, 3)) ∧ (decode cX11_fault 25 = .ok (.goto 4, 3)) ∧ (decode cX11_fault 28 = .ok (.iconst (-1), 1)) := by decide +kernel
theorem dX11_fault_5 : decode cX11_fault 5 = .ok (.iload_n 1, 1) := dG_dX11_fault_5.1
theorem dX11_fault_6 : decode cX11_fault 6 = .ok (.ifCond .ne 10, 3) := dG_dX11_fault_5.2.1
theorem dX11_fault_9 : decode cX11_fault 9 = .ok (.aload_n 0, 1) := dG_dX11_fault_5.2.2.1
theorem dX11_fault_10 : decode cX11_fault 10 = .ok (.getfield 13, 3) := dG_dX11_fault_5.2.2.2.1
theorem dX11_fault_13 : decode cX11_fault 13 = .ok (.goto 16, 3) := dG_dX11_fault_5.2.2.2.2.1
theorem dX11_fault_16 : decode cX11_fault 16 = .ok (.iload_n 1, 1) := dG_dX11_fault_5.2.2.2.2.2.1
theorem dX11_fault_17 : decode cX11_fault 17 = .ok (.iconst 1, 1) := dG_dX11_fault_5.2.2.2.2.2.2.1
theorem dX11_fault_18 : decode cX11_fault 18 = .ok (.if_icmp .ne 10, 3) := dG_dX11_fault_5.2.2.2.2.2.2.2.1
theorem dX11_fault_21 : decode cX11_fault 21 = .ok (.aload_n 0, 1) := dG_dX11_fault_5.2.2.2.2.2.2.2.2.1
theorem dX11_fault_22 : decode cX11_fault 22 = .ok (.getfield 17, 3) := dG_dX11_fault_5.2.2.2.2.2.2.2.2.2.1
theorem dX11_fault_25 : decode cX11_fault 25 = .ok (.goto 4, 3) := dG_dX11_fault_5.2.2.2.2.2.2.2.2.2.2.1
theorem dX11_fault_28 : decode cX11_fault 28 = .ok (.iconst (-1), 1) := dG_dX11_fault_5.2.2.2.2.2.2.2.2.2.2.2
theorem dG_dX11_fault_29 : (decode cX11_fault 29 = .ok (.ireturn, 1)) ∧ (decode cX11_isRound 0 = .ok (.iload_n 1, 1)) ∧ (decode cX11_isRound 1 = .ok (.ifCond .lt 15, 3)) ∧ (decode cX11_isRound 4 = .ok (.iload_n 1, 1)) ∧ (decode cX11_isRound 5 = .ok (.aload_n 0, 1)) ∧ (decode cX11_isRound 6 = .ok (.getfield 301, 3)) ∧ (decode cX11_isRound 9 = .ok (.if_icmp .ge 7, 3)) ∧ (decode cX11_isRound 12 = .ok (.iconst 1, 1)) ∧ (decode cX11_isRound 13 = .ok (.goto 4, 3)) ∧ (decode cX11_isRound 16 = .ok (.iconst 0, 1)) ∧ (decode cX11_isRound 17 = .ok (.ireturn, 1)) ∧ (decode cX11_isRoute 0 = .ok (.aload_n 0, 1)) := by decide +kernel
theorem dX11_fault_29 : decode cX11_fault 29 = .ok (.ireturn, 1) := dG_dX11_fault_29.1
theorem dX11_isRound_0 : decode cX11_isRound 0 = .ok (.iload_n 1, 1) := dG_dX11_fault_29.2.1
theorem dX11_isRound_1 : decode cX11_isRound 1 = .ok (.ifCond .lt 15, 3) := dG_dX11_fault_29.2.2.1
theorem dX11_isRound_4 : decode cX11_isRound 4 = .ok (.iload_n 1, 1) := dG_dX11_fault_29.2.2.2.1
theorem dX11_isRound_5 : decode cX11_isRound 5 = .ok (.aload_n 0, 1) := dG_dX11_fault_29.2.2.2.2.1
theorem dX11_isRound_6 : decode cX11_isRound 6 = .ok (.getfield 301, 3) := dG_dX11_fault_29.2.2.2.2.2.1
theorem dX11_isRound_9 : decode cX11_isRound 9 = .ok (.if_icmp .ge 7, 3) := dG_dX11_fault_29.2.2.2.2.2.2.1
theorem dX11_isRound_12 : decode cX11_isRound 12 = .ok (.iconst 1, 1) := dG_dX11_fault_29.2.2.2.2.2.2.2.1
theorem dX11_isRound_13 : decode cX11_isRound 13 = .ok (.goto 4, 3) := dG_dX11_fault_29.2.2.2.2.2.2.2.2.1
theorem dX11_isRound_16 : decode cX11_isRound 16 = .ok (.iconst 0, 1) := dG_dX11_fault_29.2.2.2.2.2.2.2.2.2.1
theorem dX11_isRound_17 : decode cX11_isRound 17 = .ok (.ireturn, 1) := dG_dX11_fault_29.2.2.2.2.2.2.2.2.2.2.1
theorem dX11_isRoute_0 : decode cX11_isRoute 0 = .ok (.aload_n 0, 1) := dG_dX11_fault_29.2.2.2.2.2.2.2.2.2.2.2
theorem dG_dX11_isRoute_1 : (decode cX11_isRoute 1 = .ok (.iload_n 1, 1)) ∧ (decode cX11_isRoute 2 = .ok (.invokevirtual 325, 3)) ∧ (decode cX11_isRoute 5 = .ok (.ifCond .eq 21, 3)) ∧ (decode cX11_isRoute 8 = .ok (.iload_n 2, 1)) ∧ (decode cX11_isRoute 9 = .ok (.ifCond .lt 17, 3)) ∧ (decode cX11_isRoute 12 = .ok (.iload_n 2, 1)) ∧ (decode cX11_isRoute 13 = .ok (.aload_n 0, 1)) ∧ (decode cX11_isRoute 14 = .ok (.getfield 20, 3)) ∧ (decode cX11_isRoute 17 = .ok (.iload_n 1, 1)) ∧ (decode cX11_isRoute 18 = .ok (.iaload, 1)) ∧ (decode cX11_isRoute 19 = .ok (.if_icmp .ge 7, 3)) ∧ (decode cX11_isRoute 22 = .ok (.iconst 1, 1)) := by decide +kernel
theorem dX11_isRoute_1 : decode cX11_isRoute 1 = .ok (.iload_n 1, 1) := dG_dX11_isRoute_1.1
theorem dX11_isRoute_2 : decode cX11_isRoute 2 = .ok (.invokevirtual 325, 3) := dG_dX11_isRoute_1.2.1
theorem dX11_isRoute_5 : decode cX11_isRoute 5 = .ok (.ifCond .eq 21, 3) := dG_dX11_isRoute_1.2.2.1
theorem dX11_isRoute_8 : decode cX11_isRoute 8 = .ok (.iload_n 2, 1) := dG_dX11_isRoute_1.2.2.2.1
theorem dX11_isRoute_9 : decode cX11_isRoute 9 = .ok (.ifCond .lt 17, 3) := dG_dX11_isRoute_1.2.2.2.2.1
theorem dX11_isRoute_12 : decode cX11_isRoute 12 = .ok (.iload_n 2, 1) := dG_dX11_isRoute_1.2.2.2.2.2.1
theorem dX11_isRoute_13 : decode cX11_isRoute 13 = .ok (.aload_n 0, 1) := dG_dX11_isRoute_1.2.2.2.2.2.2.1
theorem dX11_isRoute_14 : decode cX11_isRoute 14 = .ok (.getfield 20, 3) := dG_dX11_isRoute_1.2.2.2.2.2.2.2.1
theorem dX11_isRoute_17 : decode cX11_isRoute 17 = .ok (.iload_n 1, 1) := dG_dX11_isRoute_1.2.2.2.2.2.2.2.2.1
theorem dX11_isRoute_18 : decode cX11_isRoute 18 = .ok (.iaload, 1) := dG_dX11_isRoute_1.2.2.2.2.2.2.2.2.2.1
theorem dX11_isRoute_19 : decode cX11_isRoute 19 = .ok (.if_icmp .ge 7, 3) := dG_dX11_isRoute_1.2.2.2.2.2.2.2.2.2.2.1
theorem dX11_isRoute_22 : decode cX11_isRoute 22 = .ok (.iconst 1, 1) := dG_dX11_isRoute_1.2.2.2.2.2.2.2.2.2.2.2
theorem dG_dX11_isRoute_23 : (decode cX11_isRoute 23 = .ok (.goto 4, 3)) ∧ (decode cX11_isRoute 26 = .ok (.iconst 0, 1)) ∧ (decode cX11_isRoute 27 = .ok (.ireturn, 1)) ∧ (decode cX11_isClimber 0 = .ok (.iload_n 1, 1)) ∧ (decode cX11_isClimber 1 = .ok (.ifCond .lt 15, 3)) ∧ (decode cX11_isClimber 4 = .ok (.iload_n 1, 1)) ∧ (decode cX11_isClimber 5 = .ok (.aload_n 0, 1)) ∧ (decode cX11_isClimber 6 = .ok (.getfield 313, 3)) ∧ (decode cX11_isClimber 9 = .ok (.if_icmp .ge 7, 3)) ∧ (decode cX11_isClimber 12 = .ok (.iconst 1, 1)) ∧ (decode cX11_isClimber 13 = .ok (.goto 4, 3)) ∧ (decode cX11_isClimber 16 = .ok (.iconst 0, 1)) := by decide +kernel
theorem dX11_isRoute_23 : decode cX11_isRoute 23 = .ok (.goto 4, 3) := dG_dX11_isRoute_23.1
theorem dX11_isRoute_26 : decode cX11_isRoute 26 = .ok (.iconst 0, 1) := dG_dX11_isRoute_23.2.1
theorem dX11_isRoute_27 : decode cX11_isRoute 27 = .ok (.ireturn, 1) := dG_dX11_isRoute_23.2.2.1
theorem dX11_isClimber_0 : decode cX11_isClimber 0 = .ok (.iload_n 1, 1) := dG_dX11_isRoute_23.2.2.2.1
theorem dX11_isClimber_1 : decode cX11_isClimber 1 = .ok (.ifCond .lt 15, 3) := dG_dX11_isRoute_23.2.2.2.2.1
theorem dX11_isClimber_4 : decode cX11_isClimber 4 = .ok (.iload_n 1, 1) := dG_dX11_isRoute_23.2.2.2.2.2.1
theorem dX11_isClimber_5 : decode cX11_isClimber 5 = .ok (.aload_n 0, 1) := dG_dX11_isRoute_23.2.2.2.2.2.2.1
theorem dX11_isClimber_6 : decode cX11_isClimber 6 = .ok (.getfield 313, 3) := dG_dX11_isRoute_23.2.2.2.2.2.2.2.1
theorem dX11_isClimber_9 : decode cX11_isClimber 9 = .ok (.if_icmp .ge 7, 3) := dG_dX11_isRoute_23.2.2.2.2.2.2.2.2.1
theorem dX11_isClimber_12 : decode cX11_isClimber 12 = .ok (.iconst 1, 1) := dG_dX11_isRoute_23.2.2.2.2.2.2.2.2.2.1
theorem dX11_isClimber_13 : decode cX11_isClimber 13 = .ok (.goto 4, 3) := dG_dX11_isRoute_23.2.2.2.2.2.2.2.2.2.2.1
theorem dX11_isClimber_16 : decode cX11_isClimber 16 = .ok (.iconst 0, 1) := dG_dX11_isRoute_23.2.2.2.2.2.2.2.2.2.2.2
theorem dG_dX11_isClimber_17 : (decode cX11_isClimber 17 = .ok (.ireturn, 1)) ∧ (decode cX11_at 0 = .ok (.iconst 5, 1)) ∧ (decode cX11_at 1 = .ok (.iload_n 0, 1)) ∧ (decode cX11_at 2 = .ok (.imul, 1)) ∧ (decode cX11_at 3 = .ok (.iload_n 1, 1)) ∧ (decode cX11_at 4 = .ok (.iadd, 1)) ∧ (decode cX11_at 5 = .ok (.ireturn, 1)) ∧ (decode cX11_goesTo 0 = .ok (.aload_n 0, 1)) ∧ (decode cX11_goesTo 1 = .ok (.iload_n 1, 1)) ∧ (decode cX11_goesTo 2 = .ok (.putfield 316, 3)) ∧ (decode cX11_goesTo 5 = .ok (.iconst 0, 1)) ∧ (decode cX11_goesTo 6 = .ok (.istore_n 2, 1)) := by decide +kernel
theorem dX11_isClimber_17 : decode cX11_isClimber 17 = .ok (.ireturn, 1) := dG_dX11_isClimber_17.1
theorem dX11_at_0 : decode cX11_at 0 = .ok (.iconst 5, 1) := dG_dX11_isClimber_17.2.1
theorem dX11_at_1 : decode cX11_at 1 = .ok (.iload_n 0, 1) := dG_dX11_isClimber_17.2.2.1
theorem dX11_at_2 : decode cX11_at 2 = .ok (.imul, 1) := dG_dX11_isClimber_17.2.2.2.1
theorem dX11_at_3 : decode cX11_at 3 = .ok (.iload_n 1, 1) := dG_dX11_isClimber_17.2.2.2.2.1
theorem dX11_at_4 : decode cX11_at 4 = .ok (.iadd, 1) := dG_dX11_isClimber_17.2.2.2.2.2.1
theorem dX11_at_5 : decode cX11_at 5 = .ok (.ireturn, 1) := dG_dX11_isClimber_17.2.2.2.2.2.2.1
theorem dX11_goesTo_0 : decode cX11_goesTo 0 = .ok (.aload_n 0, 1) := dG_dX11_isClimber_17.2.2.2.2.2.2.2.1
theorem dX11_goesTo_1 : decode cX11_goesTo 1 = .ok (.iload_n 1, 1) := dG_dX11_isClimber_17.2.2.2.2.2.2.2.2.1
theorem dX11_goesTo_2 : decode cX11_goesTo 2 = .ok (.putfield 316, 3) := dG_dX11_isClimber_17.2.2.2.2.2.2.2.2.2.1
theorem dX11_goesTo_5 : decode cX11_goesTo 5 = .ok (.iconst 0, 1) := dG_dX11_isClimber_17.2.2.2.2.2.2.2.2.2.2.1
theorem dX11_goesTo_6 : decode cX11_goesTo 6 = .ok (.istore_n 2, 1) := dG_dX11_isClimber_17.2.2.2.2.2.2.2.2.2.2.2
theorem dG_dX11_goesTo_7 : (decode cX11_goesTo 7 = .ok (.iload_n 2, 1)) ∧ (decode cX11_goesTo 8 = .ok (.aload_n 0, 1)) ∧ (decode cX11_goesTo 9 = .ok (.getfield 319, 3)) ∧ (decode cX11_goesTo 12 = .ok (.if_icmp .ge 74, 3)) ∧ (decode cX11_goesTo 15 = .ok (.aload_n 0, 1)) ∧ (decode cX11_goesTo 16 = .ok (.getfield 112, 3)) ∧ (decode cX11_goesTo 19 = .ok (.iload_n 2, 1)) ∧ (decode cX11_goesTo 20 = .ok (.iaload, 1)) ∧ (decode cX11_goesTo 21 = .ok (.ifCond .ne 59, 3)) ∧ (decode cX11_goesTo 24 = .ok (.aload_n 0, 1)) ∧ (decode cX11_goesTo 25 = .ok (.getfield 103, 3)) ∧ (decode cX11_goesTo 28 = .ok (.iload_n 2, 1)) := by decide +kernel
theorem dX11_goesTo_7 : decode cX11_goesTo 7 = .ok (.iload_n 2, 1) := dG_dX11_goesTo_7.1
theorem dX11_goesTo_8 : decode cX11_goesTo 8 = .ok (.aload_n 0, 1) := dG_dX11_goesTo_7.2.1
theorem dX11_goesTo_9 : decode cX11_goesTo 9 = .ok (.getfield 319, 3) := dG_dX11_goesTo_7.2.2.1
theorem dX11_goesTo_12 : decode cX11_goesTo 12 = .ok (.if_icmp .ge 74, 3) := dG_dX11_goesTo_7.2.2.2.1
theorem dX11_goesTo_15 : decode cX11_goesTo 15 = .ok (.aload_n 0, 1) := dG_dX11_goesTo_7.2.2.2.2.1
theorem dX11_goesTo_16 : decode cX11_goesTo 16 = .ok (.getfield 112, 3) := dG_dX11_goesTo_7.2.2.2.2.2.1
theorem dX11_goesTo_19 : decode cX11_goesTo 19 = .ok (.iload_n 2, 1) := dG_dX11_goesTo_7.2.2.2.2.2.2.1
theorem dX11_goesTo_20 : decode cX11_goesTo 20 = .ok (.iaload, 1) := dG_dX11_goesTo_7.2.2.2.2.2.2.2.1
theorem dX11_goesTo_21 : decode cX11_goesTo 21 = .ok (.ifCond .ne 59, 3) := dG_dX11_goesTo_7.2.2.2.2.2.2.2.2.1
theorem dX11_goesTo_24 : decode cX11_goesTo 24 = .ok (.aload_n 0, 1) := dG_dX11_goesTo_7.2.2.2.2.2.2.2.2.2.1
theorem dX11_goesTo_25 : decode cX11_goesTo 25 = .ok (.getfield 103, 3) := dG_dX11_goesTo_7.2.2.2.2.2.2.2.2.2.2.1
theorem dX11_goesTo_28 : decode cX11_goesTo 28 = .ok (.iload_n 2, 1) := dG_dX11_goesTo_7.2.2.2.2.2.2.2.2.2.2.2
theorem dG_dX11_goesTo_29 : (decode cX11_goesTo 29 = .ok (.iaload, 1)) ∧ (decode cX11_goesTo 30 = .ok (.aload_n 0, 1)) ∧ (decode cX11_goesTo 31 = .ok (.getfield 27, 3)) ∧ (decode cX11_goesTo 34 = .ok (.aload_n 0, 1)) ∧ (decode cX11_goesTo 35 = .ok (.getfield 97, 3)) ∧ (decode cX11_goesTo 38 = .ok (.iload_n 2, 1)) ∧ (decode cX11_goesTo 39 = .ok (.iaload, 1)) ∧ (decode cX11_goesTo 40 = .ok (.iaload, 1)) ∧ (decode cX11_goesTo 41 = .ok (.iadd, 1)) ∧ (decode cX11_goesTo 42 = .ok (.iload_n 1, 1)) ∧ (decode cX11_goesTo 43 = .ok (.if_icmp .le 6, 3)) ∧ (decode cX11_goesTo 46 = .ok (.goto 34, 3)) := by decide +kernel
theorem dX11_goesTo_29 : decode cX11_goesTo 29 = .ok (.iaload, 1) := dG_dX11_goesTo_29.1
theorem dX11_goesTo_30 : decode cX11_goesTo 30 = .ok (.aload_n 0, 1) := dG_dX11_goesTo_29.2.1
theorem dX11_goesTo_31 : decode cX11_goesTo 31 = .ok (.getfield 27, 3) := dG_dX11_goesTo_29.2.2.1
theorem dX11_goesTo_34 : decode cX11_goesTo 34 = .ok (.aload_n 0, 1) := dG_dX11_goesTo_29.2.2.2.1
theorem dX11_goesTo_35 : decode cX11_goesTo 35 = .ok (.getfield 97, 3) := dG_dX11_goesTo_29.2.2.2.2.1
theorem dX11_goesTo_38 : decode cX11_goesTo 38 = .ok (.iload_n 2, 1) := dG_dX11_goesTo_29.2.2.2.2.2.1
theorem dX11_goesTo_39 : decode cX11_goesTo 39 = .ok (.iaload, 1) := dG_dX11_goesTo_29.2.2.2.2.2.2.1
theorem dX11_goesTo_40 : decode cX11_goesTo 40 = .ok (.iaload, 1) := dG_dX11_goesTo_29.2.2.2.2.2.2.2.1
theorem dX11_goesTo_41 : decode cX11_goesTo 41 = .ok (.iadd, 1) := dG_dX11_goesTo_29.2.2.2.2.2.2.2.2.1
theorem dX11_goesTo_42 : decode cX11_goesTo 42 = .ok (.iload_n 1, 1) := dG_dX11_goesTo_29.2.2.2.2.2.2.2.2.2.1
theorem dX11_goesTo_43 : decode cX11_goesTo 43 = .ok (.if_icmp .le 6, 3) := dG_dX11_goesTo_29.2.2.2.2.2.2.2.2.2.2.1
theorem dX11_goesTo_46 : decode cX11_goesTo 46 = .ok (.goto 34, 3) := dG_dX11_goesTo_29.2.2.2.2.2.2.2.2.2.2.2
theorem dG_dX11_goesTo_49 : (decode cX11_goesTo 49 = .ok (.aload_n 0, 1)) ∧ (decode cX11_goesTo 50 = .ok (.getfield 112, 3)) ∧ (decode cX11_goesTo 53 = .ok (.iload_n 2, 1)) ∧ (decode cX11_goesTo 54 = .ok (.iconst 3, 1)) ∧ (decode cX11_goesTo 55 = .ok (.iastore, 1)) ∧ (decode cX11_goesTo 56 = .ok (.aload_n 0, 1)) ∧ (decode cX11_goesTo 57 = .ok (.getfield 106, 3)) ∧ (decode cX11_goesTo 60 = .ok (.iload_n 2, 1)) ∧ (decode cX11_goesTo 61 = .ok (.aload_n 0, 1)) ∧ (decode cX11_goesTo 62 = .ok (.getfield 103, 3)) ∧ (decode cX11_goesTo 65 = .ok (.iload_n 2, 1)) ∧ (decode cX11_goesTo 66 = .ok (.iaload, 1)) := by decide +kernel
theorem dX11_goesTo_49 : decode cX11_goesTo 49 = .ok (.aload_n 0, 1) := dG_dX11_goesTo_49.1
theorem dX11_goesTo_50 : decode cX11_goesTo 50 = .ok (.getfield 112, 3) := dG_dX11_goesTo_49.2.1
theorem dX11_goesTo_53 : decode cX11_goesTo 53 = .ok (.iload_n 2, 1) := dG_dX11_goesTo_49.2.2.1
theorem dX11_goesTo_54 : decode cX11_goesTo 54 = .ok (.iconst 3, 1) := dG_dX11_goesTo_49.2.2.2.1
theorem dX11_goesTo_55 : decode cX11_goesTo 55 = .ok (.iastore, 1) := dG_dX11_goesTo_49.2.2.2.2.1
theorem dX11_goesTo_56 : decode cX11_goesTo 56 = .ok (.aload_n 0, 1) := dG_dX11_goesTo_49.2.2.2.2.2.1
theorem dX11_goesTo_57 : decode cX11_goesTo 57 = .ok (.getfield 106, 3) := dG_dX11_goesTo_49.2.2.2.2.2.2.1
theorem dX11_goesTo_60 : decode cX11_goesTo 60 = .ok (.iload_n 2, 1) := dG_dX11_goesTo_49.2.2.2.2.2.2.2.1
theorem dX11_goesTo_61 : decode cX11_goesTo 61 = .ok (.aload_n 0, 1) := dG_dX11_goesTo_49.2.2.2.2.2.2.2.2.1
theorem dX11_goesTo_62 : decode cX11_goesTo 62 = .ok (.getfield 103, 3) := dG_dX11_goesTo_49.2.2.2.2.2.2.2.2.2.1
theorem dX11_goesTo_65 : decode cX11_goesTo 65 = .ok (.iload_n 2, 1) := dG_dX11_goesTo_49.2.2.2.2.2.2.2.2.2.2.1
theorem dX11_goesTo_66 : decode cX11_goesTo 66 = .ok (.iaload, 1) := dG_dX11_goesTo_49.2.2.2.2.2.2.2.2.2.2.2
theorem dG_dX11_goesTo_67 : (decode cX11_goesTo 67 = .ok (.aload_n 0, 1)) ∧ (decode cX11_goesTo 68 = .ok (.getfield 27, 3)) ∧ (decode cX11_goesTo 71 = .ok (.aload_n 0, 1)) ∧ (decode cX11_goesTo 72 = .ok (.getfield 97, 3)) ∧ (decode cX11_goesTo 75 = .ok (.iload_n 2, 1)) ∧ (decode cX11_goesTo 76 = .ok (.iaload, 1)) ∧ (decode cX11_goesTo 77 = .ok (.iaload, 1)) ∧ (decode cX11_goesTo 78 = .ok (.iadd, 1)) ∧ (decode cX11_goesTo 79 = .ok (.iastore, 1)) ∧ (decode cX11_goesTo 80 = .ok (.iinc 2 1, 3)) ∧ (decode cX11_goesTo 83 = .ok (.goto (-76), 3)) ∧ (decode cX11_goesTo 86 = .ok (.return_, 1)) := by decide +kernel
theorem dX11_goesTo_67 : decode cX11_goesTo 67 = .ok (.aload_n 0, 1) := dG_dX11_goesTo_67.1
theorem dX11_goesTo_68 : decode cX11_goesTo 68 = .ok (.getfield 27, 3) := dG_dX11_goesTo_67.2.1
theorem dX11_goesTo_71 : decode cX11_goesTo 71 = .ok (.aload_n 0, 1) := dG_dX11_goesTo_67.2.2.1
theorem dX11_goesTo_72 : decode cX11_goesTo 72 = .ok (.getfield 97, 3) := dG_dX11_goesTo_67.2.2.2.1
theorem dX11_goesTo_75 : decode cX11_goesTo 75 = .ok (.iload_n 2, 1) := dG_dX11_goesTo_67.2.2.2.2.1
theorem dX11_goesTo_76 : decode cX11_goesTo 76 = .ok (.iaload, 1) := dG_dX11_goesTo_67.2.2.2.2.2.1
theorem dX11_goesTo_77 : decode cX11_goesTo 77 = .ok (.iaload, 1) := dG_dX11_goesTo_67.2.2.2.2.2.2.1
theorem dX11_goesTo_78 : decode cX11_goesTo 78 = .ok (.iadd, 1) := dG_dX11_goesTo_67.2.2.2.2.2.2.2.1
theorem dX11_goesTo_79 : decode cX11_goesTo 79 = .ok (.iastore, 1) := dG_dX11_goesTo_67.2.2.2.2.2.2.2.2.1
theorem dX11_goesTo_80 : decode cX11_goesTo 80 = .ok (.iinc 2 1, 3) := dG_dX11_goesTo_67.2.2.2.2.2.2.2.2.2.1
theorem dX11_goesTo_83 : decode cX11_goesTo 83 = .ok (.goto (-76), 3) := dG_dX11_goesTo_67.2.2.2.2.2.2.2.2.2.2.1
theorem dX11_goesTo_86 : decode cX11_goesTo 86 = .ok (.return_, 1) := dG_dX11_goesTo_67.2.2.2.2.2.2.2.2.2.2.2
theorem dG_dX11_clocked_0 : (decode cX11_clocked 0 = .ok (.iload_n 1, 1)) ∧ (decode cX11_clocked 1 = .ok (.ifCond .lt 10, 3)) ∧ (decode cX11_clocked 4 = .ok (.iload_n 1, 1)) ∧ (decode cX11_clocked 5 = .ok (.ldc_w 337, 3)) ∧ (decode cX11_clocked 8 = .ok (.if_icmp .le 5, 3)) ∧ (decode cX11_clocked 11 = .ok (.iconst 2, 1)) ∧ (decode cX11_clocked 12 = .ok (.ireturn, 1)) ∧ (decode cX11_clocked 13 = .ok (.iload_n 1, 1)) ∧ (decode cX11_clocked 14 = .ok (.aload_n 0, 1)) ∧ (decode cX11_clocked 15 = .ok (.getfield 316, 3)) ∧ (decode cX11_clocked 18 = .ok (.if_icmp .ge 6, 3)) ∧ (decode cX11_clocked 21 = .ok (.bipush 9, 2)) := by decide +kernel
theorem dX11_clocked_0 : decode cX11_clocked 0 = .ok (.iload_n 1, 1) := dG_dX11_clocked_0.1
theorem dX11_clocked_1 : decode cX11_clocked 1 = .ok (.ifCond .lt 10, 3) := dG_dX11_clocked_0.2.1
theorem dX11_clocked_4 : decode cX11_clocked 4 = .ok (.iload_n 1, 1) := dG_dX11_clocked_0.2.2.1
theorem dX11_clocked_5 : decode cX11_clocked 5 = .ok (.ldc_w 337, 3) := dG_dX11_clocked_0.2.2.2.1
theorem dX11_clocked_8 : decode cX11_clocked 8 = .ok (.if_icmp .le 5, 3) := dG_dX11_clocked_0.2.2.2.2.1
theorem dX11_clocked_11 : decode cX11_clocked 11 = .ok (.iconst 2, 1) := dG_dX11_clocked_0.2.2.2.2.2.1
theorem dX11_clocked_12 : decode cX11_clocked 12 = .ok (.ireturn, 1) := dG_dX11_clocked_0.2.2.2.2.2.2.1
theorem dX11_clocked_13 : decode cX11_clocked 13 = .ok (.iload_n 1, 1) := dG_dX11_clocked_0.2.2.2.2.2.2.2.1
theorem dX11_clocked_14 : decode cX11_clocked 14 = .ok (.aload_n 0, 1) := dG_dX11_clocked_0.2.2.2.2.2.2.2.2.1
theorem dX11_clocked_15 : decode cX11_clocked 15 = .ok (.getfield 316, 3) := dG_dX11_clocked_0.2.2.2.2.2.2.2.2.2.1
theorem dX11_clocked_18 : decode cX11_clocked 18 = .ok (.if_icmp .ge 6, 3) := dG_dX11_clocked_0.2.2.2.2.2.2.2.2.2.2.1
theorem dX11_clocked_21 : decode cX11_clocked 21 = .ok (.bipush 9, 2) := dG_dX11_clocked_0.2.2.2.2.2.2.2.2.2.2.2
theorem dG_dX11_clocked_23 : (decode cX11_clocked 23 = .ok (.ireturn, 1)) ∧ (decode cX11_clocked 24 = .ok (.aload_n 0, 1)) ∧ (decode cX11_clocked 25 = .ok (.iload_n 1, 1)) ∧ (decode cX11_clocked 26 = .ok (.invokevirtual 338, 3)) ∧ (decode cX11_clocked 29 = .ok (.iconst 0, 1)) ∧ (decode cX11_clocked 30 = .ok (.ireturn, 1)) ∧ (decode cX11_openTry 0 = .ok (.iconst 0, 1)) ∧ (decode cX11_openTry 1 = .ok (.istore_n 2, 1)) ∧ (decode cX11_openTry 2 = .ok (.iload_n 2, 1)) ∧ (decode cX11_openTry 3 = .ok (.aload_n 0, 1)) ∧ (decode cX11_openTry 4 = .ok (.getfield 319, 3)) ∧ (decode cX11_openTry 7 = .ok (.if_icmp .ge 30, 3)) := by decide +kernel
theorem dX11_clocked_23 : decode cX11_clocked 23 = .ok (.ireturn, 1) := dG_dX11_clocked_23.1
theorem dX11_clocked_24 : decode cX11_clocked 24 = .ok (.aload_n 0, 1) := dG_dX11_clocked_23.2.1
theorem dX11_clocked_25 : decode cX11_clocked 25 = .ok (.iload_n 1, 1) := dG_dX11_clocked_23.2.2.1
theorem dX11_clocked_26 : decode cX11_clocked 26 = .ok (.invokevirtual 338, 3) := dG_dX11_clocked_23.2.2.2.1
theorem dX11_clocked_29 : decode cX11_clocked 29 = .ok (.iconst 0, 1) := dG_dX11_clocked_23.2.2.2.2.1
theorem dX11_clocked_30 : decode cX11_clocked 30 = .ok (.ireturn, 1) := dG_dX11_clocked_23.2.2.2.2.2.1
theorem dX11_openTry_0 : decode cX11_openTry 0 = .ok (.iconst 0, 1) := dG_dX11_clocked_23.2.2.2.2.2.2.1
theorem dX11_openTry_1 : decode cX11_openTry 1 = .ok (.istore_n 2, 1) := dG_dX11_clocked_23.2.2.2.2.2.2.2.1
theorem dX11_openTry_2 : decode cX11_openTry 2 = .ok (.iload_n 2, 1) := dG_dX11_clocked_23.2.2.2.2.2.2.2.2.1
theorem dX11_openTry_3 : decode cX11_openTry 3 = .ok (.aload_n 0, 1) := dG_dX11_clocked_23.2.2.2.2.2.2.2.2.2.1
theorem dX11_openTry_4 : decode cX11_openTry 4 = .ok (.getfield 319, 3) := dG_dX11_clocked_23.2.2.2.2.2.2.2.2.2.2.1
theorem dX11_openTry_7 : decode cX11_openTry 7 = .ok (.if_icmp .ge 30, 3) := dG_dX11_clocked_23.2.2.2.2.2.2.2.2.2.2.2
theorem dG_dX11_openTry_10 : (decode cX11_openTry 10 = .ok (.aload_n 0, 1)) ∧ (decode cX11_openTry 11 = .ok (.getfield 94, 3)) ∧ (decode cX11_openTry 14 = .ok (.iload_n 2, 1)) ∧ (decode cX11_openTry 15 = .ok (.iaload, 1)) ∧ (decode cX11_openTry 16 = .ok (.iload_n 1, 1)) ∧ (decode cX11_openTry 17 = .ok (.if_icmp .ne 14, 3)) ∧ (decode cX11_openTry 20 = .ok (.aload_n 0, 1)) ∧ (decode cX11_openTry 21 = .ok (.getfield 112, 3)) ∧ (decode cX11_openTry 24 = .ok (.iload_n 2, 1)) ∧ (decode cX11_openTry 25 = .ok (.iaload, 1)) ∧ (decode cX11_openTry 26 = .ok (.ifCond .ne 5, 3)) ∧ (decode cX11_openTry 29 = .ok (.iload_n 2, 1)) := by decide +kernel
theorem dX11_openTry_10 : decode cX11_openTry 10 = .ok (.aload_n 0, 1) := dG_dX11_openTry_10.1
theorem dX11_openTry_11 : decode cX11_openTry 11 = .ok (.getfield 94, 3) := dG_dX11_openTry_10.2.1
theorem dX11_openTry_14 : decode cX11_openTry 14 = .ok (.iload_n 2, 1) := dG_dX11_openTry_10.2.2.1
theorem dX11_openTry_15 : decode cX11_openTry 15 = .ok (.iaload, 1) := dG_dX11_openTry_10.2.2.2.1
theorem dX11_openTry_16 : decode cX11_openTry 16 = .ok (.iload_n 1, 1) := dG_dX11_openTry_10.2.2.2.2.1
theorem dX11_openTry_17 : decode cX11_openTry 17 = .ok (.if_icmp .ne 14, 3) := dG_dX11_openTry_10.2.2.2.2.2.1
theorem dX11_openTry_20 : decode cX11_openTry 20 = .ok (.aload_n 0, 1) := dG_dX11_openTry_10.2.2.2.2.2.2.1
theorem dX11_openTry_21 : decode cX11_openTry 21 = .ok (.getfield 112, 3) := dG_dX11_openTry_10.2.2.2.2.2.2.2.1
theorem dX11_openTry_24 : decode cX11_openTry 24 = .ok (.iload_n 2, 1) := dG_dX11_openTry_10.2.2.2.2.2.2.2.2.1
theorem dX11_openTry_25 : decode cX11_openTry 25 = .ok (.iaload, 1) := dG_dX11_openTry_10.2.2.2.2.2.2.2.2.2.1
theorem dX11_openTry_26 : decode cX11_openTry 26 = .ok (.ifCond .ne 5, 3) := dG_dX11_openTry_10.2.2.2.2.2.2.2.2.2.2.1
theorem dX11_openTry_29 : decode cX11_openTry 29 = .ok (.iload_n 2, 1) := dG_dX11_openTry_10.2.2.2.2.2.2.2.2.2.2.2
theorem dG_dX11_openTry_30 : (decode cX11_openTry 30 = .ok (.ireturn, 1)) ∧ (decode cX11_openTry 31 = .ok (.iinc 2 1, 3)) ∧ (decode cX11_openTry 34 = .ok (.goto (-32), 3)) ∧ (decode cX11_openTry 37 = .ok (.iconst (-1), 1)) ∧ (decode cX11_openTry 38 = .ok (.ireturn, 1)) ∧ (decode cX11_hasSeen 0 = .ok (.iconst 0, 1)) ∧ (decode cX11_hasSeen 1 = .ok (.istore_n 3, 1)) ∧ (decode cX11_hasSeen 2 = .ok (.iload_n 3, 1)) ∧ (decode cX11_hasSeen 3 = .ok (.aload_n 0, 1)) ∧ (decode cX11_hasSeen 4 = .ok (.getfield 319, 3)) ∧ (decode cX11_hasSeen 7 = .ok (.if_icmp .ge 151, 3)) ∧ (decode cX11_hasSeen 10 = .ok (.aload_n 0, 1)) := by decide +kernel
theorem dX11_openTry_30 : decode cX11_openTry 30 = .ok (.ireturn, 1) := dG_dX11_openTry_30.1
theorem dX11_openTry_31 : decode cX11_openTry 31 = .ok (.iinc 2 1, 3) := dG_dX11_openTry_30.2.1
theorem dX11_openTry_34 : decode cX11_openTry 34 = .ok (.goto (-32), 3) := dG_dX11_openTry_30.2.2.1
theorem dX11_openTry_37 : decode cX11_openTry 37 = .ok (.iconst (-1), 1) := dG_dX11_openTry_30.2.2.2.1
theorem dX11_openTry_38 : decode cX11_openTry 38 = .ok (.ireturn, 1) := dG_dX11_openTry_30.2.2.2.2.1
theorem dX11_hasSeen_0 : decode cX11_hasSeen 0 = .ok (.iconst 0, 1) := dG_dX11_openTry_30.2.2.2.2.2.1
theorem dX11_hasSeen_1 : decode cX11_hasSeen 1 = .ok (.istore_n 3, 1) := dG_dX11_openTry_30.2.2.2.2.2.2.1
theorem dX11_hasSeen_2 : decode cX11_hasSeen 2 = .ok (.iload_n 3, 1) := dG_dX11_openTry_30.2.2.2.2.2.2.2.1
theorem dX11_hasSeen_3 : decode cX11_hasSeen 3 = .ok (.aload_n 0, 1) := dG_dX11_openTry_30.2.2.2.2.2.2.2.2.1
theorem dX11_hasSeen_4 : decode cX11_hasSeen 4 = .ok (.getfield 319, 3) := dG_dX11_openTry_30.2.2.2.2.2.2.2.2.2.1
theorem dX11_hasSeen_7 : decode cX11_hasSeen 7 = .ok (.if_icmp .ge 151, 3) := dG_dX11_openTry_30.2.2.2.2.2.2.2.2.2.2.1
theorem dX11_hasSeen_10 : decode cX11_hasSeen 10 = .ok (.aload_n 0, 1) := dG_dX11_openTry_30.2.2.2.2.2.2.2.2.2.2.2
theorem dG_dX11_hasSeen_11 : (decode cX11_hasSeen 11 = .ok (.getfield 97, 3)) ∧ (decode cX11_hasSeen 14 = .ok (.iload_n 3, 1)) ∧ (decode cX11_hasSeen 15 = .ok (.iaload, 1)) ∧ (decode cX11_hasSeen 16 = .ok (.aload_n 0, 1)) ∧ (decode cX11_hasSeen 17 = .ok (.getfield 82, 3)) ∧ (decode cX11_hasSeen 20 = .ok (.if_icmp .ne 132, 3)) ∧ (decode cX11_hasSeen 23 = .ok (.aload_n 0, 1)) ∧ (decode cX11_hasSeen 24 = .ok (.getfield 100, 3)) ∧ (decode cX11_hasSeen 27 = .ok (.iload_n 3, 1)) ∧ (decode cX11_hasSeen 28 = .ok (.iaload, 1)) ∧ (decode cX11_hasSeen 29 = .ok (.iload_n 2, 1)) ∧ (decode cX11_hasSeen 30 = .ok (.if_icmp .ne 122, 3)) := by decide +kernel
theorem dX11_hasSeen_11 : decode cX11_hasSeen 11 = .ok (.getfield 97, 3) := dG_dX11_hasSeen_11.1
theorem dX11_hasSeen_14 : decode cX11_hasSeen 14 = .ok (.iload_n 3, 1) := dG_dX11_hasSeen_11.2.1
theorem dX11_hasSeen_15 : decode cX11_hasSeen 15 = .ok (.iaload, 1) := dG_dX11_hasSeen_11.2.2.1
theorem dX11_hasSeen_16 : decode cX11_hasSeen 16 = .ok (.aload_n 0, 1) := dG_dX11_hasSeen_11.2.2.2.1
theorem dX11_hasSeen_17 : decode cX11_hasSeen 17 = .ok (.getfield 82, 3) := dG_dX11_hasSeen_11.2.2.2.2.1
theorem dX11_hasSeen_20 : decode cX11_hasSeen 20 = .ok (.if_icmp .ne 132, 3) := dG_dX11_hasSeen_11.2.2.2.2.2.1
theorem dX11_hasSeen_23 : decode cX11_hasSeen 23 = .ok (.aload_n 0, 1) := dG_dX11_hasSeen_11.2.2.2.2.2.2.1
theorem dX11_hasSeen_24 : decode cX11_hasSeen 24 = .ok (.getfield 100, 3) := dG_dX11_hasSeen_11.2.2.2.2.2.2.2.1
theorem dX11_hasSeen_27 : decode cX11_hasSeen 27 = .ok (.iload_n 3, 1) := dG_dX11_hasSeen_11.2.2.2.2.2.2.2.2.1
theorem dX11_hasSeen_28 : decode cX11_hasSeen 28 = .ok (.iaload, 1) := dG_dX11_hasSeen_11.2.2.2.2.2.2.2.2.2.1
theorem dX11_hasSeen_29 : decode cX11_hasSeen 29 = .ok (.iload_n 2, 1) := dG_dX11_hasSeen_11.2.2.2.2.2.2.2.2.2.2.1
theorem dX11_hasSeen_30 : decode cX11_hasSeen 30 = .ok (.if_icmp .ne 122, 3) := dG_dX11_hasSeen_11.2.2.2.2.2.2.2.2.2.2.2
theorem dG_dX11_hasSeen_33 : (decode cX11_hasSeen 33 = .ok (.aload_n 0, 1)) ∧ (decode cX11_hasSeen 34 = .ok (.getfield 94, 3)) ∧ (decode cX11_hasSeen 37 = .ok (.iload_n 3, 1)) ∧ (decode cX11_hasSeen 38 = .ok (.iaload, 1)) ∧ (decode cX11_hasSeen 39 = .ok (.iload_n 1, 1)) ∧ (decode cX11_hasSeen 40 = .ok (.if_icmp .ne 6, 3)) ∧ (decode cX11_hasSeen 43 = .ok (.goto 109, 3)) ∧ (decode cX11_hasSeen 46 = .ok (.aload_n 0, 1)) ∧ (decode cX11_hasSeen 47 = .ok (.getfield 112, 3)) ∧ (decode cX11_hasSeen 50 = .ok (.iload_n 3, 1)) ∧ (decode cX11_hasSeen 51 = .ok (.iaload, 1)) ∧ (decode cX11_hasSeen 52 = .ok (.ifCond .ne 10, 3)) := by decide +kernel
theorem dX11_hasSeen_33 : decode cX11_hasSeen 33 = .ok (.aload_n 0, 1) := dG_dX11_hasSeen_33.1
theorem dX11_hasSeen_34 : decode cX11_hasSeen 34 = .ok (.getfield 94, 3) := dG_dX11_hasSeen_33.2.1
theorem dX11_hasSeen_37 : decode cX11_hasSeen 37 = .ok (.iload_n 3, 1) := dG_dX11_hasSeen_33.2.2.1
theorem dX11_hasSeen_38 : decode cX11_hasSeen 38 = .ok (.iaload, 1) := dG_dX11_hasSeen_33.2.2.2.1
theorem dX11_hasSeen_39 : decode cX11_hasSeen 39 = .ok (.iload_n 1, 1) := dG_dX11_hasSeen_33.2.2.2.2.1
theorem dX11_hasSeen_40 : decode cX11_hasSeen 40 = .ok (.if_icmp .ne 6, 3) := dG_dX11_hasSeen_33.2.2.2.2.2.1
theorem dX11_hasSeen_43 : decode cX11_hasSeen 43 = .ok (.goto 109, 3) := dG_dX11_hasSeen_33.2.2.2.2.2.2.1
theorem dX11_hasSeen_46 : decode cX11_hasSeen 46 = .ok (.aload_n 0, 1) := dG_dX11_hasSeen_33.2.2.2.2.2.2.2.1
theorem dX11_hasSeen_47 : decode cX11_hasSeen 47 = .ok (.getfield 112, 3) := dG_dX11_hasSeen_33.2.2.2.2.2.2.2.2.1
theorem dX11_hasSeen_50 : decode cX11_hasSeen 50 = .ok (.iload_n 3, 1) := dG_dX11_hasSeen_33.2.2.2.2.2.2.2.2.2.1
theorem dX11_hasSeen_51 : decode cX11_hasSeen 51 = .ok (.iaload, 1) := dG_dX11_hasSeen_33.2.2.2.2.2.2.2.2.2.2.1
theorem dX11_hasSeen_52 : decode cX11_hasSeen 52 = .ok (.ifCond .ne 10, 3) := dG_dX11_hasSeen_33.2.2.2.2.2.2.2.2.2.2.2
theorem dG_dX11_hasSeen_55 : (decode cX11_hasSeen 55 = .ok (.aload_n 0, 1)) ∧ (decode cX11_hasSeen 56 = .ok (.getfield 316, 3)) ∧ (decode cX11_hasSeen 59 = .ok (.goto 9, 3)) ∧ (decode cX11_hasSeen 62 = .ok (.aload_n 0, 1)) ∧ (decode cX11_hasSeen 63 = .ok (.getfield 106, 3)) ∧ (decode cX11_hasSeen 66 = .ok (.iload_n 3, 1)) ∧ (decode cX11_hasSeen 67 = .ok (.iaload, 1)) ∧ (decode cX11_hasSeen 68 = .ok (.istore 4, 2)) ∧ (decode cX11_hasSeen 70 = .ok (.bipush 20, 2)) ∧ (decode cX11_hasSeen 72 = .ok (.iload_n 1, 1)) ∧ (decode cX11_hasSeen 73 = .ok (.imul, 1)) ∧ (decode cX11_hasSeen 74 = .ok (.istore 5, 2)) := by decide +kernel
theorem dX11_hasSeen_55 : decode cX11_hasSeen 55 = .ok (.aload_n 0, 1) := dG_dX11_hasSeen_55.1
theorem dX11_hasSeen_56 : decode cX11_hasSeen 56 = .ok (.getfield 316, 3) := dG_dX11_hasSeen_55.2.1
theorem dX11_hasSeen_59 : decode cX11_hasSeen 59 = .ok (.goto 9, 3) := dG_dX11_hasSeen_55.2.2.1
theorem dX11_hasSeen_62 : decode cX11_hasSeen 62 = .ok (.aload_n 0, 1) := dG_dX11_hasSeen_55.2.2.2.1
theorem dX11_hasSeen_63 : decode cX11_hasSeen 63 = .ok (.getfield 106, 3) := dG_dX11_hasSeen_55.2.2.2.2.1
theorem dX11_hasSeen_66 : decode cX11_hasSeen 66 = .ok (.iload_n 3, 1) := dG_dX11_hasSeen_55.2.2.2.2.2.1
theorem dX11_hasSeen_67 : decode cX11_hasSeen 67 = .ok (.iaload, 1) := dG_dX11_hasSeen_55.2.2.2.2.2.2.1
theorem dX11_hasSeen_68 : decode cX11_hasSeen 68 = .ok (.istore 4, 2) := dG_dX11_hasSeen_55.2.2.2.2.2.2.2.1
theorem dX11_hasSeen_70 : decode cX11_hasSeen 70 = .ok (.bipush 20, 2) := dG_dX11_hasSeen_55.2.2.2.2.2.2.2.2.1
theorem dX11_hasSeen_72 : decode cX11_hasSeen 72 = .ok (.iload_n 1, 1) := dG_dX11_hasSeen_55.2.2.2.2.2.2.2.2.2.1
theorem dX11_hasSeen_73 : decode cX11_hasSeen 73 = .ok (.imul, 1) := dG_dX11_hasSeen_55.2.2.2.2.2.2.2.2.2.2.1
theorem dX11_hasSeen_74 : decode cX11_hasSeen 74 = .ok (.istore 5, 2) := dG_dX11_hasSeen_55.2.2.2.2.2.2.2.2.2.2.2
theorem dG_dX11_hasSeen_76 : (decode cX11_hasSeen 76 = .ok (.iload 5, 2)) ∧ (decode cX11_hasSeen 78 = .ok (.bipush 20, 2)) ∧ (decode cX11_hasSeen 80 = .ok (.iload_n 1, 1)) ∧ (decode cX11_hasSeen 81 = .ok (.imul, 1)) ∧ (decode cX11_hasSeen 82 = .ok (.aload_n 0, 1)) ∧ (decode cX11_hasSeen 83 = .ok (.getfield 124, 3)) ∧ (decode cX11_hasSeen 86 = .ok (.iload_n 1, 1)) ∧ (decode cX11_hasSeen 87 = .ok (.iaload, 1)) ∧ (decode cX11_hasSeen 88 = .ok (.iadd, 1)) ∧ (decode cX11_hasSeen 89 = .ok (.if_icmp .ge 63, 3)) ∧ (decode cX11_hasSeen 92 = .ok (.aload_n 0, 1)) ∧ (decode cX11_hasSeen 93 = .ok (.getfield 130, 3)) := by decide +kernel
theorem dX11_hasSeen_76 : decode cX11_hasSeen 76 = .ok (.iload 5, 2) := dG_dX11_hasSeen_76.1
theorem dX11_hasSeen_78 : decode cX11_hasSeen 78 = .ok (.bipush 20, 2) := dG_dX11_hasSeen_76.2.1
theorem dX11_hasSeen_80 : decode cX11_hasSeen 80 = .ok (.iload_n 1, 1) := dG_dX11_hasSeen_76.2.2.1
theorem dX11_hasSeen_81 : decode cX11_hasSeen 81 = .ok (.imul, 1) := dG_dX11_hasSeen_76.2.2.2.1
theorem dX11_hasSeen_82 : decode cX11_hasSeen 82 = .ok (.aload_n 0, 1) := dG_dX11_hasSeen_76.2.2.2.2.1
theorem dX11_hasSeen_83 : decode cX11_hasSeen 83 = .ok (.getfield 124, 3) := dG_dX11_hasSeen_76.2.2.2.2.2.1
theorem dX11_hasSeen_86 : decode cX11_hasSeen 86 = .ok (.iload_n 1, 1) := dG_dX11_hasSeen_76.2.2.2.2.2.2.1
theorem dX11_hasSeen_87 : decode cX11_hasSeen 87 = .ok (.iaload, 1) := dG_dX11_hasSeen_76.2.2.2.2.2.2.2.1
theorem dX11_hasSeen_88 : decode cX11_hasSeen 88 = .ok (.iadd, 1) := dG_dX11_hasSeen_76.2.2.2.2.2.2.2.2.1
theorem dX11_hasSeen_89 : decode cX11_hasSeen 89 = .ok (.if_icmp .ge 63, 3) := dG_dX11_hasSeen_76.2.2.2.2.2.2.2.2.2.1
theorem dX11_hasSeen_92 : decode cX11_hasSeen 92 = .ok (.aload_n 0, 1) := dG_dX11_hasSeen_76.2.2.2.2.2.2.2.2.2.2.1
theorem dX11_hasSeen_93 : decode cX11_hasSeen 93 = .ok (.getfield 130, 3) := dG_dX11_hasSeen_76.2.2.2.2.2.2.2.2.2.2.2
theorem dG_dX11_hasSeen_96 : (decode cX11_hasSeen 96 = .ok (.iload 5, 2)) ∧ (decode cX11_hasSeen 98 = .ok (.iaload, 1)) ∧ (decode cX11_hasSeen 99 = .ok (.ifCond .ge 10, 3)) ∧ (decode cX11_hasSeen 102 = .ok (.aload_n 0, 1)) ∧ (decode cX11_hasSeen 103 = .ok (.getfield 316, 3)) ∧ (decode cX11_hasSeen 106 = .ok (.goto 10, 3)) ∧ (decode cX11_hasSeen 109 = .ok (.aload_n 0, 1)) ∧ (decode cX11_hasSeen 110 = .ok (.getfield 130, 3)) ∧ (decode cX11_hasSeen 113 = .ok (.iload 5, 2)) ∧ (decode cX11_hasSeen 115 = .ok (.iaload, 1)) ∧ (decode cX11_hasSeen 116 = .ok (.istore 6, 2)) ∧ (decode cX11_hasSeen 118 = .ok (.aload_n 0, 1)) := by decide +kernel
theorem dX11_hasSeen_96 : decode cX11_hasSeen 96 = .ok (.iload 5, 2) := dG_dX11_hasSeen_96.1
theorem dX11_hasSeen_98 : decode cX11_hasSeen 98 = .ok (.iaload, 1) := dG_dX11_hasSeen_96.2.1
theorem dX11_hasSeen_99 : decode cX11_hasSeen 99 = .ok (.ifCond .ge 10, 3) := dG_dX11_hasSeen_96.2.2.1
theorem dX11_hasSeen_102 : decode cX11_hasSeen 102 = .ok (.aload_n 0, 1) := dG_dX11_hasSeen_96.2.2.2.1
theorem dX11_hasSeen_103 : decode cX11_hasSeen 103 = .ok (.getfield 316, 3) := dG_dX11_hasSeen_96.2.2.2.2.1
theorem dX11_hasSeen_106 : decode cX11_hasSeen 106 = .ok (.goto 10, 3) := dG_dX11_hasSeen_96.2.2.2.2.2.1
theorem dX11_hasSeen_109 : decode cX11_hasSeen 109 = .ok (.aload_n 0, 1) := dG_dX11_hasSeen_96.2.2.2.2.2.2.1
theorem dX11_hasSeen_110 : decode cX11_hasSeen 110 = .ok (.getfield 130, 3) := dG_dX11_hasSeen_96.2.2.2.2.2.2.2.1
theorem dX11_hasSeen_113 : decode cX11_hasSeen 113 = .ok (.iload 5, 2) := dG_dX11_hasSeen_96.2.2.2.2.2.2.2.2.1
theorem dX11_hasSeen_115 : decode cX11_hasSeen 115 = .ok (.iaload, 1) := dG_dX11_hasSeen_96.2.2.2.2.2.2.2.2.2.1
theorem dX11_hasSeen_116 : decode cX11_hasSeen 116 = .ok (.istore 6, 2) := dG_dX11_hasSeen_96.2.2.2.2.2.2.2.2.2.2.1
theorem dX11_hasSeen_118 : decode cX11_hasSeen 118 = .ok (.aload_n 0, 1) := dG_dX11_hasSeen_96.2.2.2.2.2.2.2.2.2.2.2
theorem dG_dX11_hasSeen_119 : (decode cX11_hasSeen 119 = .ok (.getfield 103, 3)) ∧ (decode cX11_hasSeen 122 = .ok (.iload_n 3, 1)) ∧ (decode cX11_hasSeen 123 = .ok (.iaload, 1)) ∧ (decode cX11_hasSeen 124 = .ok (.aload_n 0, 1)) ∧ (decode cX11_hasSeen 125 = .ok (.getfield 127, 3)) ∧ (decode cX11_hasSeen 128 = .ok (.iload 5, 2)) ∧ (decode cX11_hasSeen 130 = .ok (.iaload, 1)) ∧ (decode cX11_hasSeen 131 = .ok (.invokestatic 341, 3)) ∧ (decode cX11_hasSeen 134 = .ok (.iload 4, 2)) ∧ (decode cX11_hasSeen 136 = .ok (.iload 6, 2)) ∧ (decode cX11_hasSeen 138 = .ok (.invokestatic 346, 3)) ∧ (decode cX11_hasSeen 141 = .ok (.if_icmp .gt 5, 3)) := by decide +kernel
theorem dX11_hasSeen_119 : decode cX11_hasSeen 119 = .ok (.getfield 103, 3) := dG_dX11_hasSeen_119.1
theorem dX11_hasSeen_122 : decode cX11_hasSeen 122 = .ok (.iload_n 3, 1) := dG_dX11_hasSeen_119.2.1
theorem dX11_hasSeen_123 : decode cX11_hasSeen 123 = .ok (.iaload, 1) := dG_dX11_hasSeen_119.2.2.1
theorem dX11_hasSeen_124 : decode cX11_hasSeen 124 = .ok (.aload_n 0, 1) := dG_dX11_hasSeen_119.2.2.2.1
theorem dX11_hasSeen_125 : decode cX11_hasSeen 125 = .ok (.getfield 127, 3) := dG_dX11_hasSeen_119.2.2.2.2.1
theorem dX11_hasSeen_128 : decode cX11_hasSeen 128 = .ok (.iload 5, 2) := dG_dX11_hasSeen_119.2.2.2.2.2.1
theorem dX11_hasSeen_130 : decode cX11_hasSeen 130 = .ok (.iaload, 1) := dG_dX11_hasSeen_119.2.2.2.2.2.2.1
theorem dX11_hasSeen_131 : decode cX11_hasSeen 131 = .ok (.invokestatic 341, 3) := dG_dX11_hasSeen_119.2.2.2.2.2.2.2.1
theorem dX11_hasSeen_134 : decode cX11_hasSeen 134 = .ok (.iload 4, 2) := dG_dX11_hasSeen_119.2.2.2.2.2.2.2.2.1
theorem dX11_hasSeen_136 : decode cX11_hasSeen 136 = .ok (.iload 6, 2) := dG_dX11_hasSeen_119.2.2.2.2.2.2.2.2.2.1
theorem dX11_hasSeen_138 : decode cX11_hasSeen 138 = .ok (.invokestatic 346, 3) := dG_dX11_hasSeen_119.2.2.2.2.2.2.2.2.2.2.1
theorem dX11_hasSeen_141 : decode cX11_hasSeen 141 = .ok (.if_icmp .gt 5, 3) := dG_dX11_hasSeen_119.2.2.2.2.2.2.2.2.2.2.2
theorem dG_dX11_hasSeen_144 : (decode cX11_hasSeen 144 = .ok (.iconst 1, 1)) ∧ (decode cX11_hasSeen 145 = .ok (.ireturn, 1)) ∧ (decode cX11_hasSeen 146 = .ok (.iinc 5 1, 3)) ∧ (decode cX11_hasSeen 149 = .ok (.goto (-73), 3)) ∧ (decode cX11_hasSeen 152 = .ok (.iinc 3 1, 3)) ∧ (decode cX11_hasSeen 155 = .ok (.goto (-153), 3)) ∧ (decode cX11_hasSeen 158 = .ok (.iconst 0, 1)) ∧ (decode cX11_hasSeen 159 = .ok (.ireturn, 1)) ∧ (decode cX11_readyAt 0 = .ok (.iconst 0, 1)) ∧ (decode cX11_readyAt 1 = .ok (.istore_n 2, 1)) ∧ (decode cX11_readyAt 2 = .ok (.iconst 0, 1)) ∧ (decode cX11_readyAt 3 = .ok (.istore_n 3, 1)) := by decide +kernel
theorem dX11_hasSeen_144 : decode cX11_hasSeen 144 = .ok (.iconst 1, 1) := dG_dX11_hasSeen_144.1
theorem dX11_hasSeen_145 : decode cX11_hasSeen 145 = .ok (.ireturn, 1) := dG_dX11_hasSeen_144.2.1
theorem dX11_hasSeen_146 : decode cX11_hasSeen 146 = .ok (.iinc 5 1, 3) := dG_dX11_hasSeen_144.2.2.1
theorem dX11_hasSeen_149 : decode cX11_hasSeen 149 = .ok (.goto (-73), 3) := dG_dX11_hasSeen_144.2.2.2.1
theorem dX11_hasSeen_152 : decode cX11_hasSeen 152 = .ok (.iinc 3 1, 3) := dG_dX11_hasSeen_144.2.2.2.2.1
theorem dX11_hasSeen_155 : decode cX11_hasSeen 155 = .ok (.goto (-153), 3) := dG_dX11_hasSeen_144.2.2.2.2.2.1
theorem dX11_hasSeen_158 : decode cX11_hasSeen 158 = .ok (.iconst 0, 1) := dG_dX11_hasSeen_144.2.2.2.2.2.2.1
theorem dX11_hasSeen_159 : decode cX11_hasSeen 159 = .ok (.ireturn, 1) := dG_dX11_hasSeen_144.2.2.2.2.2.2.2.1
theorem dX11_readyAt_0 : decode cX11_readyAt 0 = .ok (.iconst 0, 1) := dG_dX11_hasSeen_144.2.2.2.2.2.2.2.2.1
theorem dX11_readyAt_1 : decode cX11_readyAt 1 = .ok (.istore_n 2, 1) := dG_dX11_hasSeen_144.2.2.2.2.2.2.2.2.2.1
theorem dX11_readyAt_2 : decode cX11_readyAt 2 = .ok (.iconst 0, 1) := dG_dX11_hasSeen_144.2.2.2.2.2.2.2.2.2.2.1
theorem dX11_readyAt_3 : decode cX11_readyAt 3 = .ok (.istore_n 3, 1) := dG_dX11_hasSeen_144.2.2.2.2.2.2.2.2.2.2.2
theorem dG_dX11_readyAt_4 : (decode cX11_readyAt 4 = .ok (.iload_n 3, 1)) ∧ (decode cX11_readyAt 5 = .ok (.aload_n 0, 1)) ∧ (decode cX11_readyAt 6 = .ok (.getfield 319, 3)) ∧ (decode cX11_readyAt 9 = .ok (.if_icmp .ge 62, 3)) ∧ (decode cX11_readyAt 12 = .ok (.aload_n 0, 1)) ∧ (decode cX11_readyAt 13 = .ok (.getfield 94, 3)) ∧ (decode cX11_readyAt 16 = .ok (.iload_n 3, 1)) ∧ (decode cX11_readyAt 17 = .ok (.iaload, 1)) ∧ (decode cX11_readyAt 18 = .ok (.iload_n 1, 1)) ∧ (decode cX11_readyAt 19 = .ok (.if_icmp .ne 46, 3)) ∧ (decode cX11_readyAt 22 = .ok (.aload_n 0, 1)) ∧ (decode cX11_readyAt 23 = .ok (.getfield 97, 3)) := by decide +kernel
theorem dX11_readyAt_4 : decode cX11_readyAt 4 = .ok (.iload_n 3, 1) := dG_dX11_readyAt_4.1
theorem dX11_readyAt_5 : decode cX11_readyAt 5 = .ok (.aload_n 0, 1) := dG_dX11_readyAt_4.2.1
theorem dX11_readyAt_6 : decode cX11_readyAt 6 = .ok (.getfield 319, 3) := dG_dX11_readyAt_4.2.2.1
theorem dX11_readyAt_9 : decode cX11_readyAt 9 = .ok (.if_icmp .ge 62, 3) := dG_dX11_readyAt_4.2.2.2.1
theorem dX11_readyAt_12 : decode cX11_readyAt 12 = .ok (.aload_n 0, 1) := dG_dX11_readyAt_4.2.2.2.2.1
theorem dX11_readyAt_13 : decode cX11_readyAt 13 = .ok (.getfield 94, 3) := dG_dX11_readyAt_4.2.2.2.2.2.1
theorem dX11_readyAt_16 : decode cX11_readyAt 16 = .ok (.iload_n 3, 1) := dG_dX11_readyAt_4.2.2.2.2.2.2.1
theorem dX11_readyAt_17 : decode cX11_readyAt 17 = .ok (.iaload, 1) := dG_dX11_readyAt_4.2.2.2.2.2.2.2.1
theorem dX11_readyAt_18 : decode cX11_readyAt 18 = .ok (.iload_n 1, 1) := dG_dX11_readyAt_4.2.2.2.2.2.2.2.2.1
theorem dX11_readyAt_19 : decode cX11_readyAt 19 = .ok (.if_icmp .ne 46, 3) := dG_dX11_readyAt_4.2.2.2.2.2.2.2.2.2.1
theorem dX11_readyAt_22 : decode cX11_readyAt 22 = .ok (.aload_n 0, 1) := dG_dX11_readyAt_4.2.2.2.2.2.2.2.2.2.2.1
theorem dX11_readyAt_23 : decode cX11_readyAt 23 = .ok (.getfield 97, 3) := dG_dX11_readyAt_4.2.2.2.2.2.2.2.2.2.2.2
theorem dG_dX11_readyAt_26 : (decode cX11_readyAt 26 = .ok (.iload_n 3, 1)) ∧ (decode cX11_readyAt 27 = .ok (.iaload, 1)) ∧ (decode cX11_readyAt 28 = .ok (.aload_n 0, 1)) ∧ (decode cX11_readyAt 29 = .ok (.getfield 82, 3)) ∧ (decode cX11_readyAt 32 = .ok (.if_icmp .ne 33, 3)) ∧ (decode cX11_readyAt 35 = .ok (.aload_n 0, 1)) ∧ (decode cX11_readyAt 36 = .ok (.getfield 112, 3)) ∧ (decode cX11_readyAt 39 = .ok (.iload_n 3, 1)) ∧ (decode cX11_readyAt 40 = .ok (.iaload, 1)) ∧ (decode cX11_readyAt 41 = .ok (.ifCond .eq 24, 3)) ∧ (decode cX11_readyAt 44 = .ok (.iload_n 2, 1)) ∧ (decode cX11_readyAt 45 = .ok (.aload_n 0, 1)) := by decide +kernel
theorem dX11_readyAt_26 : decode cX11_readyAt 26 = .ok (.iload_n 3, 1) := dG_dX11_readyAt_26.1
theorem dX11_readyAt_27 : decode cX11_readyAt 27 = .ok (.iaload, 1) := dG_dX11_readyAt_26.2.1
theorem dX11_readyAt_28 : decode cX11_readyAt 28 = .ok (.aload_n 0, 1) := dG_dX11_readyAt_26.2.2.1
theorem dX11_readyAt_29 : decode cX11_readyAt 29 = .ok (.getfield 82, 3) := dG_dX11_readyAt_26.2.2.2.1
theorem dX11_readyAt_32 : decode cX11_readyAt 32 = .ok (.if_icmp .ne 33, 3) := dG_dX11_readyAt_26.2.2.2.2.1
theorem dX11_readyAt_35 : decode cX11_readyAt 35 = .ok (.aload_n 0, 1) := dG_dX11_readyAt_26.2.2.2.2.2.1
theorem dX11_readyAt_36 : decode cX11_readyAt 36 = .ok (.getfield 112, 3) := dG_dX11_readyAt_26.2.2.2.2.2.2.1
theorem dX11_readyAt_39 : decode cX11_readyAt 39 = .ok (.iload_n 3, 1) := dG_dX11_readyAt_26.2.2.2.2.2.2.2.1
theorem dX11_readyAt_40 : decode cX11_readyAt 40 = .ok (.iaload, 1) := dG_dX11_readyAt_26.2.2.2.2.2.2.2.2.1
theorem dX11_readyAt_41 : decode cX11_readyAt 41 = .ok (.ifCond .eq 24, 3) := dG_dX11_readyAt_26.2.2.2.2.2.2.2.2.2.1
theorem dX11_readyAt_44 : decode cX11_readyAt 44 = .ok (.iload_n 2, 1) := dG_dX11_readyAt_26.2.2.2.2.2.2.2.2.2.2.1
theorem dX11_readyAt_45 : decode cX11_readyAt 45 = .ok (.aload_n 0, 1) := dG_dX11_readyAt_26.2.2.2.2.2.2.2.2.2.2.2
theorem dG_dX11_readyAt_46 : (decode cX11_readyAt 46 = .ok (.getfield 106, 3)) ∧ (decode cX11_readyAt 49 = .ok (.iload_n 3, 1)) ∧ (decode cX11_readyAt 50 = .ok (.iaload, 1)) ∧ (decode cX11_readyAt 51 = .ok (.aload_n 0, 1)) ∧ (decode cX11_readyAt 52 = .ok (.getfield 30, 3)) ∧ (decode cX11_readyAt 55 = .ok (.aload_n 0, 1)) ∧ (decode cX11_readyAt 56 = .ok (.getfield 82, 3)) ∧ (decode cX11_readyAt 59 = .ok (.iaload, 1)) ∧ (decode cX11_readyAt 60 = .ok (.iadd, 1)) ∧ (decode cX11_readyAt 61 = .ok (.invokestatic 341, 3)) ∧ (decode cX11_readyAt 64 = .ok (.istore_n 2, 1)) ∧ (decode cX11_readyAt 65 = .ok (.iinc 3 1, 3)) := by decide +kernel
theorem dX11_readyAt_46 : decode cX11_readyAt 46 = .ok (.getfield 106, 3) := dG_dX11_readyAt_46.1
theorem dX11_readyAt_49 : decode cX11_readyAt 49 = .ok (.iload_n 3, 1) := dG_dX11_readyAt_46.2.1
theorem dX11_readyAt_50 : decode cX11_readyAt 50 = .ok (.iaload, 1) := dG_dX11_readyAt_46.2.2.1
theorem dX11_readyAt_51 : decode cX11_readyAt 51 = .ok (.aload_n 0, 1) := dG_dX11_readyAt_46.2.2.2.1
theorem dX11_readyAt_52 : decode cX11_readyAt 52 = .ok (.getfield 30, 3) := dG_dX11_readyAt_46.2.2.2.2.1
theorem dX11_readyAt_55 : decode cX11_readyAt 55 = .ok (.aload_n 0, 1) := dG_dX11_readyAt_46.2.2.2.2.2.1
theorem dX11_readyAt_56 : decode cX11_readyAt 56 = .ok (.getfield 82, 3) := dG_dX11_readyAt_46.2.2.2.2.2.2.1
theorem dX11_readyAt_59 : decode cX11_readyAt 59 = .ok (.iaload, 1) := dG_dX11_readyAt_46.2.2.2.2.2.2.2.1
theorem dX11_readyAt_60 : decode cX11_readyAt 60 = .ok (.iadd, 1) := dG_dX11_readyAt_46.2.2.2.2.2.2.2.2.1
theorem dX11_readyAt_61 : decode cX11_readyAt 61 = .ok (.invokestatic 341, 3) := dG_dX11_readyAt_46.2.2.2.2.2.2.2.2.2.1
theorem dX11_readyAt_64 : decode cX11_readyAt 64 = .ok (.istore_n 2, 1) := dG_dX11_readyAt_46.2.2.2.2.2.2.2.2.2.2.1
theorem dX11_readyAt_65 : decode cX11_readyAt 65 = .ok (.iinc 3 1, 3) := dG_dX11_readyAt_46.2.2.2.2.2.2.2.2.2.2.2
theorem dG_dX11_readyAt_68 : (decode cX11_readyAt 68 = .ok (.goto (-64), 3)) ∧ (decode cX11_readyAt 71 = .ok (.iload_n 2, 1)) ∧ (decode cX11_readyAt 72 = .ok (.ireturn, 1)) ∧ (decode cX11_isDay 0 = .ok (.iload_n 0, 1)) ∧ (decode cX11_isDay 1 = .ok (.ifCond .lt 14, 3)) ∧ (decode cX11_isDay 4 = .ok (.iload_n 0, 1)) ∧ (decode cX11_isDay 5 = .ok (.sipush 999, 3)) ∧ (decode cX11_isDay 8 = .ok (.if_icmp .gt 7, 3)) ∧ (decode cX11_isDay 11 = .ok (.iconst 1, 1)) ∧ (decode cX11_isDay 12 = .ok (.goto 4, 3)) ∧ (decode cX11_isDay 15 = .ok (.iconst 0, 1)) ∧ (decode cX11_isDay 16 = .ok (.ireturn, 1)) := by decide +kernel
theorem dX11_readyAt_68 : decode cX11_readyAt 68 = .ok (.goto (-64), 3) := dG_dX11_readyAt_68.1
theorem dX11_readyAt_71 : decode cX11_readyAt 71 = .ok (.iload_n 2, 1) := dG_dX11_readyAt_68.2.1
theorem dX11_readyAt_72 : decode cX11_readyAt 72 = .ok (.ireturn, 1) := dG_dX11_readyAt_68.2.2.1
theorem dX11_isDay_0 : decode cX11_isDay 0 = .ok (.iload_n 0, 1) := dG_dX11_readyAt_68.2.2.2.1
theorem dX11_isDay_1 : decode cX11_isDay 1 = .ok (.ifCond .lt 14, 3) := dG_dX11_readyAt_68.2.2.2.2.1
theorem dX11_isDay_4 : decode cX11_isDay 4 = .ok (.iload_n 0, 1) := dG_dX11_readyAt_68.2.2.2.2.2.1
theorem dX11_isDay_5 : decode cX11_isDay 5 = .ok (.sipush 999, 3) := dG_dX11_readyAt_68.2.2.2.2.2.2.1
theorem dX11_isDay_8 : decode cX11_isDay 8 = .ok (.if_icmp .gt 7, 3) := dG_dX11_readyAt_68.2.2.2.2.2.2.2.1
theorem dX11_isDay_11 : decode cX11_isDay 11 = .ok (.iconst 1, 1) := dG_dX11_readyAt_68.2.2.2.2.2.2.2.2.1
theorem dX11_isDay_12 : decode cX11_isDay 12 = .ok (.goto 4, 3) := dG_dX11_readyAt_68.2.2.2.2.2.2.2.2.2.1
theorem dX11_isDay_15 : decode cX11_isDay 15 = .ok (.iconst 0, 1) := dG_dX11_readyAt_68.2.2.2.2.2.2.2.2.2.2.1
theorem dX11_isDay_16 : decode cX11_isDay 16 = .ok (.ireturn, 1) := dG_dX11_readyAt_68.2.2.2.2.2.2.2.2.2.2.2
theorem dG_dX11_isIn_0 : (decode cX11_isIn 0 = .ok (.aload_n 0, 1)) ∧ (decode cX11_isIn 1 = .ok (.iload_n 1, 1)) ∧ (decode cX11_isIn 2 = .ok (.invokevirtual 325, 3)) ∧ (decode cX11_isIn 5 = .ok (.ifCond .eq 29, 3)) ∧ (decode cX11_isIn 8 = .ok (.aload_n 0, 1)) ∧ (decode cX11_isIn 9 = .ok (.iload_n 2, 1)) ∧ (decode cX11_isIn 10 = .ok (.invokevirtual 349, 3)) ∧ (decode cX11_isIn 13 = .ok (.ifCond .eq 21, 3)) ∧ (decode cX11_isIn 16 = .ok (.aload_n 0, 1)) ∧ (decode cX11_isIn 17 = .ok (.getfield 85, 3)) ∧ (decode cX11_isIn 20 = .ok (.bipush 16, 2)) ∧ (decode cX11_isIn 22 = .ok (.iload_n 1, 1)) := by decide +kernel
theorem dX11_isIn_0 : decode cX11_isIn 0 = .ok (.aload_n 0, 1) := dG_dX11_isIn_0.1
theorem dX11_isIn_1 : decode cX11_isIn 1 = .ok (.iload_n 1, 1) := dG_dX11_isIn_0.2.1
theorem dX11_isIn_2 : decode cX11_isIn 2 = .ok (.invokevirtual 325, 3) := dG_dX11_isIn_0.2.2.1
theorem dX11_isIn_5 : decode cX11_isIn 5 = .ok (.ifCond .eq 29, 3) := dG_dX11_isIn_0.2.2.2.1
theorem dX11_isIn_8 : decode cX11_isIn 8 = .ok (.aload_n 0, 1) := dG_dX11_isIn_0.2.2.2.2.1
theorem dX11_isIn_9 : decode cX11_isIn 9 = .ok (.iload_n 2, 1) := dG_dX11_isIn_0.2.2.2.2.2.1
theorem dX11_isIn_10 : decode cX11_isIn 10 = .ok (.invokevirtual 349, 3) := dG_dX11_isIn_0.2.2.2.2.2.2.1
theorem dX11_isIn_13 : decode cX11_isIn 13 = .ok (.ifCond .eq 21, 3) := dG_dX11_isIn_0.2.2.2.2.2.2.2.1
theorem dX11_isIn_16 : decode cX11_isIn 16 = .ok (.aload_n 0, 1) := dG_dX11_isIn_0.2.2.2.2.2.2.2.2.1
theorem dX11_isIn_17 : decode cX11_isIn 17 = .ok (.getfield 85, 3) := dG_dX11_isIn_0.2.2.2.2.2.2.2.2.2.1
theorem dX11_isIn_20 : decode cX11_isIn 20 = .ok (.bipush 16, 2) := dG_dX11_isIn_0.2.2.2.2.2.2.2.2.2.2.1
theorem dX11_isIn_22 : decode cX11_isIn 22 = .ok (.iload_n 1, 1) := dG_dX11_isIn_0.2.2.2.2.2.2.2.2.2.2.2
theorem dG_dX11_isIn_23 : (decode cX11_isIn 23 = .ok (.imul, 1)) ∧ (decode cX11_isIn 24 = .ok (.iload_n 2, 1)) ∧ (decode cX11_isIn 25 = .ok (.iadd, 1)) ∧ (decode cX11_isIn 26 = .ok (.baload, 1)) ∧ (decode cX11_isIn 27 = .ok (.ifCond .eq 7, 3)) ∧ (decode cX11_isIn 30 = .ok (.iconst 1, 1)) ∧ (decode cX11_isIn 31 = .ok (.goto 4, 3)) ∧ (decode cX11_isIn 34 = .ok (.iconst 0, 1)) ∧ (decode cX11_isIn 35 = .ok (.ireturn, 1)) := by decide +kernel
theorem dX11_isIn_23 : decode cX11_isIn 23 = .ok (.imul, 1) := dG_dX11_isIn_23.1
theorem dX11_isIn_24 : decode cX11_isIn 24 = .ok (.iload_n 2, 1) := dG_dX11_isIn_23.2.1
theorem dX11_isIn_25 : decode cX11_isIn 25 = .ok (.iadd, 1) := dG_dX11_isIn_23.2.2.1
theorem dX11_isIn_26 : decode cX11_isIn 26 = .ok (.baload, 1) := dG_dX11_isIn_23.2.2.2.1
theorem dX11_isIn_27 : decode cX11_isIn 27 = .ok (.ifCond .eq 7, 3) := dG_dX11_isIn_23.2.2.2.2.1
theorem dX11_isIn_30 : decode cX11_isIn 30 = .ok (.iconst 1, 1) := dG_dX11_isIn_23.2.2.2.2.2.1
theorem dX11_isIn_31 : decode cX11_isIn 31 = .ok (.goto 4, 3) := dG_dX11_isIn_23.2.2.2.2.2.2.1
theorem dX11_isIn_34 : decode cX11_isIn 34 = .ok (.iconst 0, 1) := dG_dX11_isIn_23.2.2.2.2.2.2.2.1
theorem dX11_isIn_35 : decode cX11_isIn 35 = .ok (.ireturn, 1) := dG_dX11_isIn_23.2.2.2.2.2.2.2.2
end

section
set_option maxHeartbeats 4000000 in
set_option maxRecDepth 100000 in
theorem m_X11_refuse (l : Launch) (D : va_G) (k : Nat → ClassId) (A : Nat → Prop) (ad : Nat → Nat) (hD : mdD A k ad) (v : gV) (f g : gF) (a1 : Int) (h_a1 : inR a1) (ha : 0 ≤ a1 ∧ a1 ≤ 10) : GM l D k A (mdT k ad) yX11_refuse cX11_refuse 2 (some .int) 0 0 [.ref (ad 0), .int (iI a1)] v f g (fun r v1 f1 g1 => r = some (.int (iI (-1))) ∧ (va_up v 0 a1) = v1 ∧ f = f1 ∧ g = g1) := by
  refine GM.of (by decide) (Nat.le_of_ble_eq_true rfl) ?_
  intro p e s m args below meth c Q ls hQ C hml hr hlocks hP hl
  have hx := C.1
  have hb := C.2.1
  have hok := hP.2
  have hS : va_S A s.heap s.heap [] := va_S.rf
  have hl : lv_has ls 2 [(0, .ref (ad 0)), (1, .int (iI a1))] := hl
  have hP : gWd D (mdT k ad) (va_up v 0 (v 0)) f g s.heap := by rw [va_id]; exact hP
  refine lv_aload_n hx hb dX11_refuse_0 rfl (lv_at hl 0 rfl) ?_
  refine lv_iload_n hx hb dX11_refuse_1 rfl (lv_at hl 1 rfl) ?_
  refine mdP_status (v1 := (va_up v 0 a1)) C hP hD hS mF_X11_149 (by omega) rfl (Or.inr (gR_up (V := mdV) (F := mdF) ⟨hok.1, hok.2⟩ 0 (show 0 ≤ a1 ∧ a1 ≤ 10 from by omega))) dX11_refuse_2 (fun H locs hP hS => ?_)
  refine lv_iconst (v := iI (-1)) hx hb dX11_refuse_5 rfl ?_
  exact g_iret hQ C hr hlocks hP hS dX11_refuse_6 ⟨rfl, rfl, rfl, rfl⟩

set_option maxHeartbeats 4000000 in
set_option maxRecDepth 100000 in
theorem m_X11_no (l : Launch) (D : va_G) (k : Nat → ClassId) (A : Nat → Prop) (ad : Nat → Nat) (hD : mdD A k ad) (v : gV) (f g : gF) (a1 : Int) (h_a1 : inR a1) (ha : 0 ≤ a1 ∧ a1 ≤ 10) : GM l D k A (mdT k ad) yX11_no cX11_no 2 (some .boolean) 0 0 [.ref (ad 0), .int (iI a1)] v f g (fun r v1 f1 g1 => r = some (.int (iI 0)) ∧ (va_up v 0 a1) = v1 ∧ f = f1 ∧ g = g1) := by
  refine GM.of (by decide) (Nat.le_of_ble_eq_true rfl) ?_
  intro p e s m args below meth c Q ls hQ C hml hr hlocks hP hl
  have hx := C.1
  have hb := C.2.1
  have hok := hP.2
  have hS : va_S A s.heap s.heap [] := va_S.rf
  have hl : lv_has ls 2 [(0, .ref (ad 0)), (1, .int (iI a1))] := hl
  have hP : gWd D (mdT k ad) (va_up v 0 (v 0)) f g s.heap := by rw [va_id]; exact hP
  refine lv_aload_n hx hb dX11_no_0 rfl (lv_at hl 0 rfl) ?_
  refine lv_iload_n hx hb dX11_no_1 rfl (lv_at hl 1 rfl) ?_
  refine mdP_status (v1 := (va_up v 0 a1)) C hP hD hS mF_X11_149 (by omega) rfl (Or.inr (gR_up (V := mdV) (F := mdF) ⟨hok.1, hok.2⟩ 0 (show 0 ≤ a1 ∧ a1 ≤ 10 from by omega))) dX11_no_2 (fun H locs hP hS => ?_)
  refine lv_iconst (v := iI 0) hx hb dX11_no_5 rfl ?_
  exact g_zret hQ C hr hlocks (by decide) hP hS dX11_no_6 ⟨rfl, rfl, rfl, rfl⟩

set_option maxHeartbeats 4000000 in
set_option maxRecDepth 100000 in
theorem m_X11_isDay (l : Launch) (D : va_G) (k : Nat → ClassId) (A : Nat → Prop) (ad : Nat → Nat) (hD : mdD A k ad) (v : gV) (f g : gF) (a1 : Int) (h_a1 : inR a1) : GM l D k A (mdT k ad) yX11_isDay cX11_isDay 1 (some .boolean) 0 0 [.int (iI a1)] v f g (fun r v1 f1 g1 => ∃ (z : Int), r = some (.int (iI z)) ∧ v = v1 ∧ f = f1 ∧ g = g1 ∧ (z = (if 0 ≤ a1 ∧ a1 ≤ 999 then 1 else 0))) := by
  refine GM.of (by decide) (Nat.le_of_ble_eq_true rfl) ?_
  intro p e s m args below meth c Q ls hQ C hml hr hlocks hP hl
  have hx := C.1
  have hb := C.2.1
  have hok := hP.2
  have hS : va_S A s.heap s.heap [] := va_S.rf
  have hl : lv_has ls 1 [(0, .int (iI a1))] := hl
  refine lv_iload_n hx hb dX11_isDay_0 rfl (lv_at hl 0 rfl) ?_
  refine gi_zlt (tgt := 15) hx hb dX11_isDay_1 (by decide) (by omega) (fun c_1 => ?_) (fun c_1 => ?_)
  · refine lv_iconst (v := iI 0) hx hb dX11_isDay_15 rfl ?_
    exact g_zret hQ C hr hlocks (by decide) hP hS dX11_isDay_16 ⟨0, rfl, rfl, rfl, rfl, (by first | omega | ((repeat' split) <;> omega))⟩
  · refine lv_iload_n hx hb dX11_isDay_4 rfl (lv_at hl 0 rfl) ?_
    refine lv_sipush (v := iI 999) hx hb dX11_isDay_5 (by decide) ?_
    refine gi_cgt (tgt := 15) hx hb dX11_isDay_8 (by decide) (by omega) (by decide) (fun c_2 => ?_) (fun c_2 => ?_)
    · refine lv_iconst (v := iI 0) hx hb dX11_isDay_15 rfl ?_
      exact g_zret hQ C hr hlocks (by decide) hP hS dX11_isDay_16 ⟨0, rfl, rfl, rfl, rfl, (by first | omega | ((repeat' split) <;> omega))⟩
    · refine lv_iconst (v := iI 1) hx hb dX11_isDay_11 rfl ?_
      refine lv_goto (tgt := 16) hx hb dX11_isDay_12 (by decide) ?_
      exact g_zret hQ C hr hlocks (by decide) hP hS dX11_isDay_16 ⟨1, rfl, rfl, rfl, rfl, (by first | omega | ((repeat' split) <;> omega))⟩

set_option maxHeartbeats 4000000 in
set_option maxRecDepth 100000 in
theorem m_X11_isRound (l : Launch) (D : va_G) (k : Nat → ClassId) (A : Nat → Prop) (ad : Nat → Nat) (hD : mdD A k ad) (v : gV) (f g : gF) (a1 : Int) (h_a1 : inR a1) : GM l D k A (mdT k ad) yX11_isRound cX11_isRound 2 (some .boolean) 0 0 [.ref (ad 0), .int (iI a1)] v f g (fun r v1 f1 g1 => ∃ (z : Int), r = some (.int (iI z)) ∧ v = v1 ∧ f = f1 ∧ g = g1 ∧ (z = (if 0 ≤ a1 ∧ a1 < (v 12) then 1 else 0))) := by
  refine GM.of (by decide) (Nat.le_of_ble_eq_true rfl) ?_
  intro p e s m args below meth c Q ls hQ C hml hr hlocks hP hl
  have hx := C.1
  have hb := C.2.1
  have hok := hP.2
  have hS : va_S A s.heap s.heap [] := va_S.rf
  have hl : lv_has ls 2 [(0, .ref (ad 0)), (1, .int (iI a1))] := hl
  refine lv_iload_n hx hb dX11_isRound_0 rfl (lv_at hl 1 rfl) ?_
  refine gi_zlt (tgt := 16) hx hb dX11_isRound_1 (by decide) (by omega) (fun c_1 => ?_) (fun c_1 => ?_)
  · refine lv_iconst (v := iI 0) hx hb dX11_isRound_16 rfl ?_
    exact g_zret hQ C hr hlocks (by decide) hP hS dX11_isRound_17 ⟨0, rfl, rfl, rfl, rfl, (by first | omega | ((repeat' split) <;> omega))⟩
  · refine lv_iload_n hx hb dX11_isRound_4 rfl (lv_at hl 1 rfl) ?_
    refine lv_aload_n hx hb dX11_isRound_5 rfl (lv_at hl 0 rfl) ?_
    refine mdG_rounds C hP mF_X11_301 dX11_isRound_6 ?_
    have r_2 : 0 ≤ (v 12) ∧ (v 12) ≤ 4 := hok.1 12
    refine gi_cge (tgt := 16) hx hb dX11_isRound_9 (by decide) (by omega) (by omega) (fun c_3 => ?_) (fun c_3 => ?_)
    · refine lv_iconst (v := iI 0) hx hb dX11_isRound_16 rfl ?_
      exact g_zret hQ C hr hlocks (by decide) hP hS dX11_isRound_17 ⟨0, rfl, rfl, rfl, rfl, (by first | omega | ((repeat' split) <;> omega))⟩
    · refine lv_iconst (v := iI 1) hx hb dX11_isRound_12 rfl ?_
      refine lv_goto (tgt := 17) hx hb dX11_isRound_13 (by decide) ?_
      exact g_zret hQ C hr hlocks (by decide) hP hS dX11_isRound_17 ⟨1, rfl, rfl, rfl, rfl, (by first | omega | ((repeat' split) <;> omega))⟩

set_option maxHeartbeats 4000000 in
set_option maxRecDepth 100000 in
theorem m_X11_isRoute (l : Launch) (D : va_G) (k : Nat → ClassId) (A : Nat → Prop) (ad : Nat → Nat) (hD : mdD A k ad) (v : gV) (f g : gF) (a1 : Int) (a2 : Int) (h_a1 : inR a1) (h_a2 : inR a2) : GM l D k A (mdT k ad) yX11_isRoute cX11_isRoute 3 (some .boolean) 1 21 [.ref (ad 0), .int (iI a1), .int (iI a2)] v f g (fun r v1 f1 g1 => ∃ (z : Int), r = some (.int (iI z)) ∧ v = v1 ∧ f = f1 ∧ g = g1 ∧ (z = (if (0 ≤ a1 ∧ a1 < (v 12)) ∧ 0 ≤ a2 ∧ a2 < (f 1) a1 then 1 else 0)) ∧ (z = 1 → a2 ≤ 4 ∧ a1 ≤ 3)) := by
  refine GM.of (by decide) (Nat.le_of_ble_eq_true rfl) ?_
  intro p e s m args below meth c Q ls hQ C hml hr hlocks hP hl
  have hx := C.1
  have hb := C.2.1
  have hok := hP.2
  have hS : va_S A s.heap s.heap [] := va_S.rf
  have hl : lv_has ls 3 [(0, .ref (ad 0)), (1, .int (iI a1)), (2, .int (iI a2))] := hl
  have r_1 : 0 ≤ (v 12) ∧ (v 12) ≤ 4 := hok.1 12
  refine lv_aload_n hx hb dX11_isRoute_0 rfl (lv_at hl 0 rfl) ?_
  refine lv_iload_n hx hb dX11_isRoute_1 rfl (lv_at hl 1 rfl) ?_
  refine g_cv (As := [.int (iI a1)]) (rest := []) (n := 1) C hml (m_X11_isRound l D k A ad hD v f g a1 (by omega)) mM_X11_325 mI_X11_isRound mE_X11_isRound mN_X11 mC_X11_isRound (by decide +kernel) 0 (ci := 11) rfl rfl hP hS (fun _ h => h) ⟨Nat.le_of_ble_eq_true rfl, Nat.le_of_ble_eq_true rfl⟩ ⟨Nat.zero_le _, Nat.zero_le _⟩ hl.1 rfl rfl (Nat.le_of_ble_eq_true rfl) dX11_isRoute_2 (fun r_2 v_2 f_2 g_2 H locs hq_2 hP _ hS => ?_)
  obtain ⟨z_2, rfl, rfl, rfl, rfl, p0_2⟩ := hq_2
  show W p l e (gRm 1 21) s m args below meth c _ _ 0 0 Q (F0 m 5 ls [.int (iI z_2)])
  replace p0_2 : z_2 = (if 0 ≤ a1 ∧ a1 < (v 12) then 1 else 0) := p0_2
  have w_2 := gif (P := 0 ≤ a1 ∧ a1 < (v 12)) p0_2
  clear p0_2
  have hz_2 : inR z_2 := (by first | omega | (rw [p0_2]; split <;> omega))
  refine gi_zeq (tgt := 26) hx hb dX11_isRoute_5 (by decide) (by omega) (fun c_3 => ?_) (fun c_3 => ?_)
  · have vz_2 := gif0 w_2 c_3
    clear w_2
    refine lv_iconst (v := iI 0) hx hb dX11_isRoute_26 rfl ?_
    exact g_zret hQ C hr hlocks (by decide) hP hS dX11_isRoute_27 ⟨0, rfl, rfl, rfl, rfl, (by first | omega | ((repeat' split) <;> omega)), (by first | omega | ((repeat' split) <;> omega))⟩
  · have vz_2 := gif1 w_2 c_3
    have voz_2 := gif1o w_2 c_3
    clear w_2
    refine lv_iload_n hx hb dX11_isRoute_8 rfl (lv_at hl 2 rfl) ?_
    refine gi_zlt (tgt := 26) hx hb dX11_isRoute_9 (by decide) (by omega) (fun c_4 => ?_) (fun c_4 => ?_)
    · refine lv_iconst (v := iI 0) hx hb dX11_isRoute_26 rfl ?_
      exact g_zret hQ C hr hlocks (by decide) hP hS dX11_isRoute_27 ⟨0, rfl, rfl, rfl, rfl, (by first | omega | ((repeat' split) <;> omega)), (by first | omega | ((repeat' split) <;> omega))⟩
    · refine lv_iload_n hx hb dX11_isRoute_12 rfl (lv_at hl 2 rfl) ?_
      refine lv_aload_n hx hb dX11_isRoute_13 rfl (lv_at hl 0 rfl) ?_
      refine mdG_routes C hP mF_X11_20 dX11_isRoute_14 ?_
      refine lv_iload_n hx hb dX11_isRoute_17 rfl (lv_at hl 1 rfl) ?_
      refine mdL_routes C hP (by omega) (by omega) dX11_isRoute_18 ?_
      have r_5 : 0 ≤ (f 1 a1) ∧ (f 1 a1) ≤ 5 := hP.2.2 1 a1
      refine gi_cge (tgt := 26) hx hb dX11_isRoute_19 (by decide) (by omega) (by omega) (fun c_6 => ?_) (fun c_6 => ?_)
      · refine lv_iconst (v := iI 0) hx hb dX11_isRoute_26 rfl ?_
        exact g_zret hQ C hr hlocks (by decide) hP hS dX11_isRoute_27 ⟨0, rfl, rfl, rfl, rfl, (by first | omega | ((repeat' split) <;> omega)), (by first | omega | ((repeat' split) <;> omega))⟩
      · refine lv_iconst (v := iI 1) hx hb dX11_isRoute_22 rfl ?_
        refine lv_goto (tgt := 27) hx hb dX11_isRoute_23 (by decide) ?_
        exact g_zret hQ C hr hlocks (by decide) hP hS dX11_isRoute_27 ⟨1, rfl, rfl, rfl, rfl, (by first | omega | ((repeat' split) <;> omega)), (by first | omega | ((repeat' split) <;> omega))⟩

set_option maxHeartbeats 4000000 in
set_option maxRecDepth 100000 in
theorem m_X11_isClimber (l : Launch) (D : va_G) (k : Nat → ClassId) (A : Nat → Prop) (ad : Nat → Nat) (hD : mdD A k ad) (v : gV) (f g : gF) (a1 : Int) (h_a1 : inR a1) : GM l D k A (mdT k ad) yX11_isClimber cX11_isClimber 2 (some .boolean) 0 0 [.ref (ad 0), .int (iI a1)] v f g (fun r v1 f1 g1 => ∃ (z : Int), r = some (.int (iI z)) ∧ v = v1 ∧ f = f1 ∧ g = g1 ∧ (z = (if 0 ≤ a1 ∧ a1 < (v 22) then 1 else 0)) ∧ (z = 1 → 0 ≤ a1 ∧ a1 ≤ 15)) := by
  refine GM.of (by decide) (Nat.le_of_ble_eq_true rfl) ?_
  intro p e s m args below meth c Q ls hQ C hml hr hlocks hP hl
  have hx := C.1
  have hb := C.2.1
  have hok := hP.2
  have hS : va_S A s.heap s.heap [] := va_S.rf
  have hl : lv_has ls 2 [(0, .ref (ad 0)), (1, .int (iI a1))] := hl
  refine lv_iload_n hx hb dX11_isClimber_0 rfl (lv_at hl 1 rfl) ?_
  refine gi_zlt (tgt := 16) hx hb dX11_isClimber_1 (by decide) (by omega) (fun c_1 => ?_) (fun c_1 => ?_)
  · refine lv_iconst (v := iI 0) hx hb dX11_isClimber_16 rfl ?_
    exact g_zret hQ C hr hlocks (by decide) hP hS dX11_isClimber_17 ⟨0, rfl, rfl, rfl, rfl, (by first | omega | ((repeat' split) <;> omega)), (by first | omega | ((repeat' split) <;> omega))⟩
  · refine lv_iload_n hx hb dX11_isClimber_4 rfl (lv_at hl 1 rfl) ?_
    refine lv_aload_n hx hb dX11_isClimber_5 rfl (lv_at hl 0 rfl) ?_
    refine mdG_climbers C hP mF_X11_313 dX11_isClimber_6 ?_
    have r_2 : 0 ≤ (v 22) ∧ (v 22) ≤ 16 := hok.1 22
    refine gi_cge (tgt := 16) hx hb dX11_isClimber_9 (by decide) (by omega) (by omega) (fun c_3 => ?_) (fun c_3 => ?_)
    · refine lv_iconst (v := iI 0) hx hb dX11_isClimber_16 rfl ?_
      exact g_zret hQ C hr hlocks (by decide) hP hS dX11_isClimber_17 ⟨0, rfl, rfl, rfl, rfl, (by first | omega | ((repeat' split) <;> omega)), (by first | omega | ((repeat' split) <;> omega))⟩
    · refine lv_iconst (v := iI 1) hx hb dX11_isClimber_12 rfl ?_
      refine lv_goto (tgt := 17) hx hb dX11_isClimber_13 (by decide) ?_
      exact g_zret hQ C hr hlocks (by decide) hP hS dX11_isClimber_17 ⟨1, rfl, rfl, rfl, rfl, (by first | omega | ((repeat' split) <;> omega)), (by first | omega | ((repeat' split) <;> omega))⟩

set_option maxHeartbeats 4000000 in
set_option maxRecDepth 100000 in
theorem m_X11_isIn (l : Launch) (D : va_G) (k : Nat → ClassId) (A : Nat → Prop) (ad : Nat → Nat) (hD : mdD A k ad) (v : gV) (f g : gF) (a1 : Int) (a2 : Int) (h_a1 : inR a1) (h_a2 : inR a2) : GM l D k A (mdT k ad) yX11_isIn cX11_isIn 3 (some .boolean) 1 21 [.ref (ad 0), .int (iI a1), .int (iI a2)] v f g (fun r v1 f1 g1 => ∃ (z : Int), r = some (.int (iI z)) ∧ v = v1 ∧ f = f1 ∧ g = g1 ∧ (z = (if (0 ≤ a1 ∧ a1 < (v 12)) ∧ (0 ≤ a2 ∧ a2 < (v 22)) ∧ (f 21) (16 * a1 + a2) ≠ 0 then 1 else 0)) ∧ (z = 1 → (0 ≤ a1 ∧ a1 ≤ 3) ∧ (0 ≤ a2 ∧ a2 ≤ 15))) := by
  refine GM.of (by decide) (Nat.le_of_ble_eq_true rfl) ?_
  intro p e s m args below meth c Q ls hQ C hml hr hlocks hP hl
  have hx := C.1
  have hb := C.2.1
  have hok := hP.2
  have hS : va_S A s.heap s.heap [] := va_S.rf
  have hl : lv_has ls 3 [(0, .ref (ad 0)), (1, .int (iI a1)), (2, .int (iI a2))] := hl
  have r_1 : 0 ≤ (v 12) ∧ (v 12) ≤ 4 := hok.1 12
  have r_2 : 0 ≤ (v 22) ∧ (v 22) ≤ 16 := hok.1 22
  refine lv_aload_n hx hb dX11_isIn_0 rfl (lv_at hl 0 rfl) ?_
  refine lv_iload_n hx hb dX11_isIn_1 rfl (lv_at hl 1 rfl) ?_
  refine g_cv (As := [.int (iI a1)]) (rest := []) (n := 1) C hml (m_X11_isRound l D k A ad hD v f g a1 (by omega)) mM_X11_325 mI_X11_isRound mE_X11_isRound mN_X11 mC_X11_isRound (by decide +kernel) 0 (ci := 11) rfl rfl hP hS (fun _ h => h) ⟨Nat.le_of_ble_eq_true rfl, Nat.le_of_ble_eq_true rfl⟩ ⟨Nat.zero_le _, Nat.zero_le _⟩ hl.1 rfl rfl (Nat.le_of_ble_eq_true rfl) dX11_isIn_2 (fun r_3 v_3 f_3 g_3 H locs hq_3 hP _ hS => ?_)
  obtain ⟨z_3, rfl, rfl, rfl, rfl, p0_3⟩ := hq_3
  show W p l e (gRm 1 21) s m args below meth c _ _ 0 0 Q (F0 m 5 ls [.int (iI z_3)])
  replace p0_3 : z_3 = (if 0 ≤ a1 ∧ a1 < (v 12) then 1 else 0) := p0_3
  have w_3 := gif (P := 0 ≤ a1 ∧ a1 < (v 12)) p0_3
  clear p0_3
  have hz_3 : inR z_3 := (by first | omega | (rw [p0_3]; split <;> omega))
  refine gi_zeq (tgt := 34) hx hb dX11_isIn_5 (by decide) (by omega) (fun c_4 => ?_) (fun c_4 => ?_)
  · have vz_3 := gif0 w_3 c_4
    clear w_3
    refine lv_iconst (v := iI 0) hx hb dX11_isIn_34 rfl ?_
    exact g_zret hQ C hr hlocks (by decide) hP hS dX11_isIn_35 ⟨0, rfl, rfl, rfl, rfl, (by first | omega | ((repeat' split) <;> omega)), (by first | omega | ((repeat' split) <;> omega))⟩
  · have vz_3 := gif1 w_3 c_4
    have voz_3 := gif1o w_3 c_4
    clear w_3
    refine lv_aload_n hx hb dX11_isIn_8 rfl (lv_at hl 0 rfl) ?_
    refine lv_iload_n hx hb dX11_isIn_9 rfl (lv_at hl 2 rfl) ?_
    refine g_cv (As := [.int (iI a2)]) (rest := []) (n := 1) C hml (m_X11_isClimber l D k A ad hD v f g a2 (by omega)) mM_X11_349 mI_X11_isClimber mE_X11_isClimber mN_X11 mC_X11_isClimber (by decide +kernel) 0 (ci := 11) rfl rfl hP hS (fun _ h => h) ⟨Nat.le_of_ble_eq_true rfl, Nat.le_of_ble_eq_true rfl⟩ ⟨Nat.zero_le _, Nat.zero_le _⟩ hl.1 rfl rfl (Nat.le_of_ble_eq_true rfl) dX11_isIn_10 (fun r_5 v_5 f_5 g_5 H locs hq_5 hP _ hS => ?_)
    obtain ⟨z_5, rfl, rfl, rfl, rfl, p0_5, p1_5⟩ := hq_5
    show W p l e (gRm 1 21) s m args below meth c _ _ 0 0 Q (F0 m 13 ls [.int (iI z_5)])
    replace p0_5 : z_5 = (if 0 ≤ a2 ∧ a2 < (v 22) then 1 else 0) := p0_5
    have w_5 := gif (P := 0 ≤ a2 ∧ a2 < (v 22)) p0_5
    clear p0_5
    replace p1_5 : z_5 = 1 → 0 ≤ a2 ∧ a2 ≤ 15 := p1_5
    have hz_5 : inR z_5 := (by first | omega | (rw [p0_5]; split <;> omega))
    refine gi_zeq (tgt := 34) hx hb dX11_isIn_13 (by decide) (by omega) (fun c_6 => ?_) (fun c_6 => ?_)
    · have vz_5 := gif0 w_5 c_6
      clear w_5
      refine lv_iconst (v := iI 0) hx hb dX11_isIn_34 rfl ?_
      exact g_zret hQ C hr hlocks (by decide) hP hS dX11_isIn_35 ⟨0, rfl, rfl, rfl, rfl, (by first | omega | ((repeat' split) <;> omega)), (by first | omega | ((repeat' split) <;> omega))⟩
    · have vz_5 := gif1 w_5 c_6
      have voz_5 := gif1o w_5 c_6
      clear w_5
      refine lv_aload_n hx hb dX11_isIn_16 rfl (lv_at hl 0 rfl) ?_
      refine mdG_isIn C hP mF_X11_85 dX11_isIn_17 ?_
      refine lv_bipush (v := iI 16) hx hb dX11_isIn_20 (by decide) ?_
      refine lv_iload_n hx hb dX11_isIn_22 rfl (lv_at hl 1 rfl) ?_
      refine gi_mul (z := (16 * a1)) hx hb dX11_isIn_23 rfl ?_
      refine lv_iload_n hx hb dX11_isIn_24 rfl (lv_at hl 2 rfl) ?_
      refine gi_add (z := ((16 * a1) + a2)) hx hb dX11_isIn_25 rfl ?_
      refine mdL_isIn C hP (by omega) (by omega) dX11_isIn_26 ?_
      have r_7 : 0 ≤ (f 21 ((16 * a1) + a2)) ∧ (f 21 ((16 * a1) + a2)) ≤ 1 := hP.2.2 21 ((16 * a1) + a2)
      refine gi_zeq (tgt := 34) hx hb dX11_isIn_27 (by decide) (by omega) (fun c_8 => ?_) (fun c_8 => ?_)
      · refine lv_iconst (v := iI 0) hx hb dX11_isIn_34 rfl ?_
        exact g_zret hQ C hr hlocks (by decide) hP hS dX11_isIn_35 ⟨0, rfl, rfl, rfl, rfl, (by first | omega | ((repeat' split) <;> omega)), (by first | omega | ((repeat' split) <;> omega))⟩
      · refine lv_iconst (v := iI 1) hx hb dX11_isIn_30 rfl ?_
        refine lv_goto (tgt := 35) hx hb dX11_isIn_31 (by decide) ?_
        exact g_zret hQ C hr hlocks (by decide) hP hS dX11_isIn_35 ⟨1, rfl, rfl, rfl, rfl, (by first | omega | ((repeat' split) <;> omega)), (by first | omega | ((repeat' split) <;> omega))⟩

set_option maxHeartbeats 4000000 in
set_option maxRecDepth 100000 in
theorem m_X11_at (l : Launch) (D : va_G) (k : Nat → ClassId) (A : Nat → Prop) (ad : Nat → Nat) (hD : mdD A k ad) (v : gV) (f g : gF) (a1 : Int) (a2 : Int) (h_a1 : inR a1) (h_a2 : inR a2) (h1 : 0 ≤ a1 ∧ a1 ≤ 3) (h2 : 0 ≤ a2 ∧ a2 ≤ 4) : GM l D k A (mdT k ad) yX11_at cX11_at 2 (some .int) 0 0 [.int (iI a1), .int (iI a2)] v f g (fun r v1 f1 g1 => ∃ (z : Int), r = some (.int (iI z)) ∧ v = v1 ∧ f = f1 ∧ g = g1 ∧ (z = (5 * a1 + a2))) := by
  refine GM.of (by decide) (Nat.le_of_ble_eq_true rfl) ?_
  intro p e s m args below meth c Q ls hQ C hml hr hlocks hP hl
  have hx := C.1
  have hb := C.2.1
  have hok := hP.2
  have hS : va_S A s.heap s.heap [] := va_S.rf
  have hl : lv_has ls 2 [(0, .int (iI a1)), (1, .int (iI a2))] := hl
  refine lv_iconst (v := iI 5) hx hb dX11_at_0 rfl ?_
  refine lv_iload_n hx hb dX11_at_1 rfl (lv_at hl 0 rfl) ?_
  refine gi_mul (z := (5 * a1)) hx hb dX11_at_2 rfl ?_
  refine lv_iload_n hx hb dX11_at_3 rfl (lv_at hl 1 rfl) ?_
  refine gi_add (z := ((5 * a1) + a2)) hx hb dX11_at_4 rfl ?_
  exact g_iret hQ C hr hlocks hP hS dX11_at_5 ⟨((5 * a1) + a2), rfl, rfl, rfl, rfl, (by first | omega | ((repeat' split) <;> omega))⟩

set_option maxHeartbeats 4000000 in
set_option maxRecDepth 100000 in
theorem m_X11_lay (l : Launch) (D : va_G) (k : Nat → ClassId) (A : Nat → Prop) (ad : Nat → Nat) (hD : mdD A k ad) (v : gV) (f g : gF) (a1 : Int) (B : Int → Int) (h_a1 : inR a1) (hB : ∀ k, (f 0) k % 256 = B k) (h1 : (v 2) ≤ 696) : GM l D k A (mdT k ad) yX11_lay cX11_lay 3 none 0 0 [.ref (ad 0), .int (iI a1)] v f g (fun r v1 f1 g1 => ∃ (a0_ : Int → Int), r = none ∧ (va_up v 2 ((v 2) + 4)) = v1 ∧ (va_up f 0 a0_) = f1 ∧ g = g1 ∧ (∀ k, a0_ k % 256 = bP B (v 2) a1 k)) := by
  refine GM.of (by decide) (Nat.le_of_ble_eq_true rfl) ?_
  intro p e s m args below meth c Q ls hQ C hml hr hlocks hP hl
  have hx := C.1
  have hb := C.2.1
  have hok := hP.2
  have hS : va_S A s.heap s.heap [] := va_S.rf
  have hl : lv_has ls 3 [(0, .ref (ad 0)), (1, .int (iI a1))] := hl
  have hP : gWd D (mdT k ad) (va_up v 2 (v 2)) (va_up f 0 (f 0)) g s.heap := by rw [va_id, va_id]; exact hP
  refine lv_iconst (v := iI 3) hx hb dX11_lay_0 rfl ?_
  refine lv_istore_n (lv' := [(2, .int (iI 3)), (0, .ref (ad 0)), (1, .int (iI a1))]) hx hb dX11_lay_1 rfl hl (by decide) rfl (fun ls hl => ?_)
  refine lv_iload_n hx hb dX11_lay_2 rfl (lv_at hl 0 rfl) ?_
  refine gi_zlt (tgt := 38) hx hb dX11_lay_3 (by decide) (by decide) (fun c_1 => ?_) (fun c_1 => ?_)
  · exfalso; omega
  · refine lv_aload_n hx hb dX11_lay_6 rfl (lv_at hl 1 rfl) ?_
    refine mdG_tape C hP mF_X11_7 dX11_lay_7 ?_
    refine lv_aload_n hx hb dX11_lay_10 rfl (lv_at hl 1 rfl) ?_
    refine mdG_taped C hP mF_X11_289 dX11_lay_11 ?_
    show W p l e (gRm 0 0) s m args below meth c _ _ 0 0 Q (F0 m 14 ls [.int (iI (v 2)), .ref (ad 1)])
    have r_2 : 0 ≤ (v 2) ∧ (v 2) ≤ 700 := hok.1 2
    refine lv_iload_n hx hb dX11_lay_14 rfl (lv_at hl 2 rfl) ?_
    refine lv_bipush (v := iI 8) hx hb dX11_lay_15 (by decide) ?_
    refine lv_iload_n hx hb dX11_lay_17 rfl (lv_at hl 0 rfl) ?_
    refine gi_mul (z := 24) hx hb dX11_lay_18 (by decide) ?_
    obtain ⟨x_3, ex_3, hx_3⟩ : ∃ z : Int, iI a1 >>> (iI 24 &&& 31) = iI z ∧ inR z := ⟨(iI a1 >>> (iI 24 &&& 31)).toInt, (iI_of _).symm, iI_rng _⟩
    have ux_3 := gSr24 (by omega) hx_3 ex_3
    refine gi_shr (z := x_3) hx hb dX11_lay_19 ex_3 ?_
    obtain ⟨x_4, ex_4, hx_4⟩ : ∃ z : Int, (iI x_3).toInt8.toInt32 = iI z ∧ inR z := ⟨((iI x_3).toInt8.toInt32).toInt, (iI_of _).symm, iI_rng _⟩
    have ux_4 := gB8m hx_3 hx_4 ex_4
    have qx_4 := gB8r ex_4
    refine gi_i2b (z := x_4) hx hb dX11_lay_20 ex_4 ?_
    refine mdS_tape (f1 := (va_up f 0 (u1 (f 0) (v 2) x_4))) C hP hD hS (by omega) (by omega) (by omega) (gB8 ex_4) rfl (Or.inr (gF_up (V := mdV) (F := mdF) (gR_up (V := mdV) (F := mdF) ⟨hok.1, hok.2⟩ 2 (hP.2.1 2)) 0 (u1_rng (hP.2.2 0) (show (-128) ≤ x_4 ∧ x_4 ≤ 127 from (by omega))))) dX11_lay_21 (fun H locs hP hS => ?_)
    refine lv_aload_n hx hb dX11_lay_22 rfl (lv_at hl 1 rfl) ?_
    refine lv_dup hx hb dX11_lay_23 rfl ?_
    refine mdG_taped C hP mF_X11_289 dX11_lay_24 ?_
    show W p l e (gRm 0 0) s m args below meth c _ _ 0 0 Q (F0 m 27 ls [.int (iI (v 2)), .ref (ad 0)])
    refine lv_iconst (v := iI 1) hx hb dX11_lay_27 rfl ?_
    refine gi_add (z := ((v 2) + 1)) hx hb dX11_lay_28 rfl ?_
    refine mdP_taped (v1 := (va_up v 2 ((v 2) + 1))) C hP hD hS mF_X11_289 (by omega) rfl (Or.inr (gF_up (V := mdV) (F := mdF) (gR_up (V := mdV) (F := mdF) ⟨hok.1, hok.2⟩ 2 (show 0 ≤ ((v 2) + 1) ∧ ((v 2) + 1) ≤ 700 from by omega)) 0 (hP.2.2 0))) dX11_lay_29 (fun H locs hP hS => ?_)
    refine lv_iinc (v := iI 2) (lv' := [(2, .int (iI 2)), (0, .ref (ad 0)), (1, .int (iI a1))]) hx hb dX11_lay_32 hl (k := 0) rfl (by show iI _ + iI (-1) = _; rw [iI_add]; congr 1) (by decide) rfl (fun ls hl => ?_)
    refine lv_goto (tgt := 2) hx hb dX11_lay_35 (by decide) ?_
    refine lv_iload_n hx hb dX11_lay_2 rfl (lv_at hl 0 rfl) ?_
    refine gi_zlt (tgt := 38) hx hb dX11_lay_3 (by decide) (by decide) (fun c_5 => ?_) (fun c_5 => ?_)
    · exfalso; omega
    · refine lv_aload_n hx hb dX11_lay_6 rfl (lv_at hl 1 rfl) ?_
      refine mdG_tape C hP mF_X11_7 dX11_lay_7 ?_
      refine lv_aload_n hx hb dX11_lay_10 rfl (lv_at hl 1 rfl) ?_
      refine mdG_taped C hP mF_X11_289 dX11_lay_11 ?_
      show W p l e (gRm 0 0) s m args below meth c _ _ 0 0 Q (F0 m 14 ls [.int (iI ((v 2) + 1)), .ref (ad 1)])
      have r_6 : 0 ≤ ((v 2) + 1) ∧ ((v 2) + 1) ≤ 700 := hP.2.1 2
      refine lv_iload_n hx hb dX11_lay_14 rfl (lv_at hl 2 rfl) ?_
      refine lv_bipush (v := iI 8) hx hb dX11_lay_15 (by decide) ?_
      refine lv_iload_n hx hb dX11_lay_17 rfl (lv_at hl 0 rfl) ?_
      refine gi_mul (z := 16) hx hb dX11_lay_18 (by decide) ?_
      obtain ⟨x_7, ex_7, hx_7⟩ : ∃ z : Int, iI a1 >>> (iI 16 &&& 31) = iI z ∧ inR z := ⟨(iI a1 >>> (iI 16 &&& 31)).toInt, (iI_of _).symm, iI_rng _⟩
      have ux_7 := gSr16 (by omega) hx_7 ex_7
      refine gi_shr (z := x_7) hx hb dX11_lay_19 ex_7 ?_
      obtain ⟨x_8, ex_8, hx_8⟩ : ∃ z : Int, (iI x_7).toInt8.toInt32 = iI z ∧ inR z := ⟨((iI x_7).toInt8.toInt32).toInt, (iI_of _).symm, iI_rng _⟩
      have ux_8 := gB8m hx_7 hx_8 ex_8
      have qx_8 := gB8r ex_8
      refine gi_i2b (z := x_8) hx hb dX11_lay_20 ex_8 ?_
      refine mdS_tape (f1 := (va_up f 0 (u1 (u1 (f 0) (v 2) x_4) ((v 2) + 1) x_8))) C hP hD hS (by omega) (by omega) (by omega) (gB8 ex_8) rfl (Or.inr (gF_up (V := mdV) (F := mdF) (gR_up (V := mdV) (F := mdF) ⟨hok.1, hok.2⟩ 2 (hP.2.1 2)) 0 (u1_rng (hP.2.2 0) (show (-128) ≤ x_8 ∧ x_8 ≤ 127 from (by omega))))) dX11_lay_21 (fun H locs hP hS => ?_)
      refine lv_aload_n hx hb dX11_lay_22 rfl (lv_at hl 1 rfl) ?_
      refine lv_dup hx hb dX11_lay_23 rfl ?_
      refine mdG_taped C hP mF_X11_289 dX11_lay_24 ?_
      show W p l e (gRm 0 0) s m args below meth c _ _ 0 0 Q (F0 m 27 ls [.int (iI ((v 2) + 1)), .ref (ad 0)])
      refine lv_iconst (v := iI 1) hx hb dX11_lay_27 rfl ?_
      refine gi_add (z := ((v 2) + 2)) hx hb dX11_lay_28 (by omega) ?_
      refine mdP_taped (v1 := (va_up v 2 ((v 2) + 2))) C hP hD hS mF_X11_289 (by omega) rfl (Or.inr (gF_up (V := mdV) (F := mdF) (gR_up (V := mdV) (F := mdF) ⟨hok.1, hok.2⟩ 2 (show 0 ≤ ((v 2) + 2) ∧ ((v 2) + 2) ≤ 700 from by omega)) 0 (hP.2.2 0))) dX11_lay_29 (fun H locs hP hS => ?_)
      refine lv_iinc (v := iI 1) (lv' := [(2, .int (iI 1)), (0, .ref (ad 0)), (1, .int (iI a1))]) hx hb dX11_lay_32 hl (k := 0) rfl (by show iI _ + iI (-1) = _; rw [iI_add]; congr 1) (by decide) rfl (fun ls hl => ?_)
      refine lv_goto (tgt := 2) hx hb dX11_lay_35 (by decide) ?_
      refine lv_iload_n hx hb dX11_lay_2 rfl (lv_at hl 0 rfl) ?_
      refine gi_zlt (tgt := 38) hx hb dX11_lay_3 (by decide) (by decide) (fun c_9 => ?_) (fun c_9 => ?_)
      · exfalso; omega
      · refine lv_aload_n hx hb dX11_lay_6 rfl (lv_at hl 1 rfl) ?_
        refine mdG_tape C hP mF_X11_7 dX11_lay_7 ?_
        refine lv_aload_n hx hb dX11_lay_10 rfl (lv_at hl 1 rfl) ?_
        refine mdG_taped C hP mF_X11_289 dX11_lay_11 ?_
        show W p l e (gRm 0 0) s m args below meth c _ _ 0 0 Q (F0 m 14 ls [.int (iI ((v 2) + 2)), .ref (ad 1)])
        have r_10 : 0 ≤ ((v 2) + 2) ∧ ((v 2) + 2) ≤ 700 := hP.2.1 2
        refine lv_iload_n hx hb dX11_lay_14 rfl (lv_at hl 2 rfl) ?_
        refine lv_bipush (v := iI 8) hx hb dX11_lay_15 (by decide) ?_
        refine lv_iload_n hx hb dX11_lay_17 rfl (lv_at hl 0 rfl) ?_
        refine gi_mul (z := 8) hx hb dX11_lay_18 (by decide) ?_
        obtain ⟨x_11, ex_11, hx_11⟩ : ∃ z : Int, iI a1 >>> (iI 8 &&& 31) = iI z ∧ inR z := ⟨(iI a1 >>> (iI 8 &&& 31)).toInt, (iI_of _).symm, iI_rng _⟩
        have ux_11 := gSr8 (by omega) hx_11 ex_11
        refine gi_shr (z := x_11) hx hb dX11_lay_19 ex_11 ?_
        obtain ⟨x_12, ex_12, hx_12⟩ : ∃ z : Int, (iI x_11).toInt8.toInt32 = iI z ∧ inR z := ⟨((iI x_11).toInt8.toInt32).toInt, (iI_of _).symm, iI_rng _⟩
        have ux_12 := gB8m hx_11 hx_12 ex_12
        have qx_12 := gB8r ex_12
        refine gi_i2b (z := x_12) hx hb dX11_lay_20 ex_12 ?_
        refine mdS_tape (f1 := (va_up f 0 (u1 (u1 (u1 (f 0) (v 2) x_4) ((v 2) + 1) x_8) ((v 2) + 2) x_12))) C hP hD hS (by omega) (by omega) (by omega) (gB8 ex_12) rfl (Or.inr (gF_up (V := mdV) (F := mdF) (gR_up (V := mdV) (F := mdF) ⟨hok.1, hok.2⟩ 2 (hP.2.1 2)) 0 (u1_rng (hP.2.2 0) (show (-128) ≤ x_12 ∧ x_12 ≤ 127 from (by omega))))) dX11_lay_21 (fun H locs hP hS => ?_)
        refine lv_aload_n hx hb dX11_lay_22 rfl (lv_at hl 1 rfl) ?_
        refine lv_dup hx hb dX11_lay_23 rfl ?_
        refine mdG_taped C hP mF_X11_289 dX11_lay_24 ?_
        show W p l e (gRm 0 0) s m args below meth c _ _ 0 0 Q (F0 m 27 ls [.int (iI ((v 2) + 2)), .ref (ad 0)])
        refine lv_iconst (v := iI 1) hx hb dX11_lay_27 rfl ?_
        refine gi_add (z := ((v 2) + 3)) hx hb dX11_lay_28 (by omega) ?_
        refine mdP_taped (v1 := (va_up v 2 ((v 2) + 3))) C hP hD hS mF_X11_289 (by omega) rfl (Or.inr (gF_up (V := mdV) (F := mdF) (gR_up (V := mdV) (F := mdF) ⟨hok.1, hok.2⟩ 2 (show 0 ≤ ((v 2) + 3) ∧ ((v 2) + 3) ≤ 700 from by omega)) 0 (hP.2.2 0))) dX11_lay_29 (fun H locs hP hS => ?_)
        refine lv_iinc (v := iI 0) (lv' := [(2, .int (iI 0)), (0, .ref (ad 0)), (1, .int (iI a1))]) hx hb dX11_lay_32 hl (k := 0) rfl (by show iI _ + iI (-1) = _; rw [iI_add]; congr 1) (by decide) rfl (fun ls hl => ?_)
        refine lv_goto (tgt := 2) hx hb dX11_lay_35 (by decide) ?_
        refine lv_iload_n hx hb dX11_lay_2 rfl (lv_at hl 0 rfl) ?_
        refine gi_zlt (tgt := 38) hx hb dX11_lay_3 (by decide) (by decide) (fun c_13 => ?_) (fun c_13 => ?_)
        · exfalso; omega
        · refine lv_aload_n hx hb dX11_lay_6 rfl (lv_at hl 1 rfl) ?_
          refine mdG_tape C hP mF_X11_7 dX11_lay_7 ?_
          refine lv_aload_n hx hb dX11_lay_10 rfl (lv_at hl 1 rfl) ?_
          refine mdG_taped C hP mF_X11_289 dX11_lay_11 ?_
          show W p l e (gRm 0 0) s m args below meth c _ _ 0 0 Q (F0 m 14 ls [.int (iI ((v 2) + 3)), .ref (ad 1)])
          have r_14 : 0 ≤ ((v 2) + 3) ∧ ((v 2) + 3) ≤ 700 := hP.2.1 2
          refine lv_iload_n hx hb dX11_lay_14 rfl (lv_at hl 2 rfl) ?_
          refine lv_bipush (v := iI 8) hx hb dX11_lay_15 (by decide) ?_
          refine lv_iload_n hx hb dX11_lay_17 rfl (lv_at hl 0 rfl) ?_
          refine gi_mul (z := 0) hx hb dX11_lay_18 (by decide) ?_
          obtain ⟨x_15, ex_15, hx_15⟩ : ∃ z : Int, iI a1 >>> (iI 0 &&& 31) = iI z ∧ inR z := ⟨(iI a1 >>> (iI 0 &&& 31)).toInt, (iI_of _).symm, iI_rng _⟩
          have ux_15 := gSr0 (by omega) hx_15 ex_15
          refine gi_shr (z := x_15) hx hb dX11_lay_19 ex_15 ?_
          obtain ⟨x_16, ex_16, hx_16⟩ : ∃ z : Int, (iI x_15).toInt8.toInt32 = iI z ∧ inR z := ⟨((iI x_15).toInt8.toInt32).toInt, (iI_of _).symm, iI_rng _⟩
          have ux_16 := gB8m hx_15 hx_16 ex_16
          have qx_16 := gB8r ex_16
          refine gi_i2b (z := x_16) hx hb dX11_lay_20 ex_16 ?_
          refine mdS_tape (f1 := (va_up f 0 (u1 (u1 (u1 (u1 (f 0) (v 2) x_4) ((v 2) + 1) x_8) ((v 2) + 2) x_12) ((v 2) + 3) x_16))) C hP hD hS (by omega) (by omega) (by omega) (gB8 ex_16) rfl (Or.inr (gF_up (V := mdV) (F := mdF) (gR_up (V := mdV) (F := mdF) ⟨hok.1, hok.2⟩ 2 (hP.2.1 2)) 0 (u1_rng (hP.2.2 0) (show (-128) ≤ x_16 ∧ x_16 ≤ 127 from (by omega))))) dX11_lay_21 (fun H locs hP hS => ?_)
          refine lv_aload_n hx hb dX11_lay_22 rfl (lv_at hl 1 rfl) ?_
          refine lv_dup hx hb dX11_lay_23 rfl ?_
          refine mdG_taped C hP mF_X11_289 dX11_lay_24 ?_
          show W p l e (gRm 0 0) s m args below meth c _ _ 0 0 Q (F0 m 27 ls [.int (iI ((v 2) + 3)), .ref (ad 0)])
          refine lv_iconst (v := iI 1) hx hb dX11_lay_27 rfl ?_
          refine gi_add (z := ((v 2) + 4)) hx hb dX11_lay_28 (by omega) ?_
          refine mdP_taped (v1 := (va_up v 2 ((v 2) + 4))) C hP hD hS mF_X11_289 (by omega) rfl (Or.inr (gF_up (V := mdV) (F := mdF) (gR_up (V := mdV) (F := mdF) ⟨hok.1, hok.2⟩ 2 (show 0 ≤ ((v 2) + 4) ∧ ((v 2) + 4) ≤ 700 from by omega)) 0 (hP.2.2 0))) dX11_lay_29 (fun H locs hP hS => ?_)
          refine lv_iinc (v := iI (-1)) (lv' := [(2, .int (iI (-1))), (0, .ref (ad 0)), (1, .int (iI a1))]) hx hb dX11_lay_32 hl (k := 0) rfl (by show iI _ + iI (-1) = _; rw [iI_add]; congr 1) (by decide) rfl (fun ls hl => ?_)
          refine lv_goto (tgt := 2) hx hb dX11_lay_35 (by decide) ?_
          refine lv_iload_n hx hb dX11_lay_2 rfl (lv_at hl 0 rfl) ?_
          refine gi_zlt (tgt := 38) hx hb dX11_lay_3 (by decide) (by decide) (fun c_17 => ?_) (fun c_17 => ?_)
          · exact g_vret hQ C hr hlocks hP hS dX11_lay_38 ⟨(u1 (u1 (u1 (u1 (f 0) (v 2) x_4) ((v 2) + 1) x_8) ((v 2) + 2) x_12) ((v 2) + 3) x_16), rfl, rfl, rfl, rfl, (u1_mod (u1_mod (u1_mod (u1_mod hB (by omega)) (by omega)) (by omega)) (by omega))⟩
          · exfalso; omega

set_option maxHeartbeats 4000000 in
set_option maxRecDepth 100000 in
theorem m_X11_feed (l : Launch) (D : va_G) (k : Nat → ClassId) (A : Nat → Prop) (ad : Nat → Nat) (hD : mdD A k ad) (v : gV) (f g : gF) (a1 : Int) (a2 : Int) (a3 : Int) (a4 : Int) (a5 : Int) (B : Int → Int) (h_a1 : inR a1) (h_a2 : inR a2) (h_a3 : inR a3) (h_a4 : inR a4) (h_a5 : inR a5) (hB : ∀ k, (f 0) k % 256 = B k) : GM l D k A (mdT k ad) yX11_feed cX11_feed 6 (some .int) 1 22 [.ref (ad 0), .int (iI a1), .int (iI a2), .int (iI a3), .int (iI a4), .int (iI a5)] v f g (fun r v1 f1 g1 => ∃ (z : Int) (a0_ : Int → Int), r = some (.int (iI z)) ∧ (va_up (va_up v 2 (if (v 2) ≤ 680 then (v 2) + 20 else (v 2))) 1 0) = v1 ∧ (va_up f 0 a0_) = f1 ∧ g = g1 ∧ (z = (if (v 2) ≤ 680 then (v 2) + 20 else (-1))) ∧ (∀ k, a0_ k % 256 = (if (v 2) ≤ 680 then bG B (v 2) a1 a2 a3 a4 a5 else B) k)) := by
  refine GM.of (by decide) (Nat.le_of_ble_eq_true rfl) ?_
  intro p e s m args below meth c Q ls hQ C hml hr hlocks hP hl
  have hx := C.1
  have hb := C.2.1
  have hok := hP.2
  have hS : va_S A s.heap s.heap [] := va_S.rf
  have hl : lv_has ls 6 [(0, .ref (ad 0)), (1, .int (iI a1)), (2, .int (iI a2)), (3, .int (iI a3)), (4, .int (iI a4)), (5, .int (iI a5))] := hl
  have hP : gWd D (mdT k ad) (va_up (va_up v 2 (v 2)) 1 (v 1)) (va_up f 0 (f 0)) g s.heap := by rw [va_id, va_id, va_id]; exact hP
  refine lv_aload_n hx hb dX11_feed_0 rfl (lv_at hl 0 rfl) ?_
  refine lv_iconst (v := iI 0) hx hb dX11_feed_1 rfl ?_
  refine mdP_thrown (v1 := (va_up (va_up v 2 (v 2)) 1 0)) C hP hD hS mF_X11_146 (by decide) rfl (Or.inr (gF_up (V := mdV) (F := mdF) (gR_up (V := mdV) (F := mdF) (gR_up (V := mdV) (F := mdF) ⟨hok.1, hok.2⟩ 2 (hP.2.1 2)) 1 (show 0 ≤ 0 ∧ 0 ≤ 0 from by decide)) 0 (hP.2.2 0))) dX11_feed_2 (fun H locs hP hS => ?_)
  refine lv_aload_n hx hb dX11_feed_5 rfl (lv_at hl 0 rfl) ?_
  refine mdG_taped C hP mF_X11_289 dX11_feed_6 ?_
  show W p l e (gRm 1 22) s m args below meth c _ _ 0 0 Q (F0 m 9 ls [.int (iI (v 2))])
  have r_1 : 0 ≤ (v 2) ∧ (v 2) ≤ 700 := hok.1 2
  refine lv_bipush (v := iI 20) hx hb dX11_feed_9 (by decide) ?_
  refine gi_add (z := ((v 2) + 20)) hx hb dX11_feed_11 rfl ?_
  refine lv_sipush (v := iI 700) hx hb dX11_feed_12 (by decide) ?_
  refine gi_cle (tgt := 20) hx hb dX11_feed_15 (by decide) (by omega) (by decide) (fun c_2 => ?_) (fun c_2 => ?_)
  · refine lv_aload_n hx hb dX11_feed_20 rfl (lv_at hl 0 rfl) ?_
    refine lv_iload_n hx hb dX11_feed_21 rfl (lv_at hl 1 rfl) ?_
    refine g_cv (As := [.int (iI a1)]) (rest := []) (n := 1) C hml (m_X11_lay l D k A ad hD (va_up (va_up v 2 (v 2)) 1 0) (va_up f 0 (f 0)) g a1 B (by omega) (show ∀ k, (f 0) k % 256 = B k from by assumption) (show (v 2) ≤ 696 from by omega)) mM_X11_292 mI_X11_lay mE_X11_lay mN_X11 mC_X11_lay (by decide +kernel) 0 (ci := 11) rfl rfl hP hS (fun _ h => h) ⟨Nat.le_of_ble_eq_true rfl, Nat.le_of_ble_eq_true rfl⟩ ⟨Nat.zero_le _, Nat.zero_le _⟩ hl.1 rfl rfl (Nat.le_of_ble_eq_true rfl) dX11_feed_22 (fun r_3 v_3 f_3 g_3 H locs hq_3 hP _ hS => ?_)
    obtain ⟨a0_3, rfl, rfl, rfl, rfl, p0_3⟩ := hq_3
    show W p l e (gRm 1 22) s m args below meth c _ _ 0 0 Q (F0 m 25 ls [])
    have hP : gWd D (mdT k ad) (va_up (va_up v 2 ((v 2) + 4)) 1 0) (va_up f 0 a0_3) g H := ⟨hP.1, (gF_up (V := mdV) (F := mdF) (gR_up (V := mdV) (F := mdF) (gR_up (V := mdV) (F := mdF) ⟨hok.1, hok.2⟩ 2 (hP.2.1 2)) 1 (hP.2.1 1)) 0 (hP.2.2 0))⟩
    replace p0_3 : ∀ k, a0_3 k % 256 = bP B (v 2) a1 k := p0_3
    refine lv_aload_n hx hb dX11_feed_25 rfl (lv_at hl 0 rfl) ?_
    refine lv_iload_n hx hb dX11_feed_26 rfl (lv_at hl 2 rfl) ?_
    refine g_cv (As := [.int (iI a2)]) (rest := []) (n := 1) C hml (m_X11_lay l D k A ad hD (va_up (va_up v 2 ((v 2) + 4)) 1 0) (va_up f 0 a0_3) g a2 (bP B (v 2) a1) (by omega) (show ∀ k, a0_3 k % 256 = (bP B (v 2) a1) k from by assumption) (show ((v 2) + 4) ≤ 696 from by omega)) mM_X11_292 mI_X11_lay mE_X11_lay mN_X11 mC_X11_lay (by decide +kernel) 0 (ci := 11) rfl rfl hP hS (fun _ h => h) ⟨Nat.le_of_ble_eq_true rfl, Nat.le_of_ble_eq_true rfl⟩ ⟨Nat.zero_le _, Nat.zero_le _⟩ hl.1 rfl rfl (Nat.le_of_ble_eq_true rfl) dX11_feed_27 (fun r_4 v_4 f_4 g_4 H locs hq_4 hP _ hS => ?_)
    obtain ⟨a0_4, rfl, rfl, rfl, rfl, p0_4⟩ := hq_4
    show W p l e (gRm 1 22) s m args below meth c _ _ 0 0 Q (F0 m 30 ls [])
    have hP : gWd D (mdT k ad) (va_up (va_up v 2 (((v 2) + 4) + 4)) 1 0) (va_up f 0 a0_4) g H := ⟨hP.1, (gF_up (V := mdV) (F := mdF) (gR_up (V := mdV) (F := mdF) (gR_up (V := mdV) (F := mdF) ⟨hok.1, hok.2⟩ 2 (hP.2.1 2)) 1 (hP.2.1 1)) 0 (hP.2.2 0))⟩
    replace p0_4 : ∀ k, a0_4 k % 256 = bP (bP B (v 2) a1) ((v 2) + 4) a2 k := p0_4
    refine lv_aload_n hx hb dX11_feed_30 rfl (lv_at hl 0 rfl) ?_
    refine lv_iload_n hx hb dX11_feed_31 rfl (lv_at hl 3 rfl) ?_
    refine g_cv (As := [.int (iI a3)]) (rest := []) (n := 1) C hml (m_X11_lay l D k A ad hD (va_up (va_up v 2 (((v 2) + 4) + 4)) 1 0) (va_up f 0 a0_4) g a3 (bP (bP B (v 2) a1) ((v 2) + 4) a2) (by omega) (show ∀ k, a0_4 k % 256 = (bP (bP B (v 2) a1) ((v 2) + 4) a2) k from by assumption) (show (((v 2) + 4) + 4) ≤ 696 from by omega)) mM_X11_292 mI_X11_lay mE_X11_lay mN_X11 mC_X11_lay (by decide +kernel) 0 (ci := 11) rfl rfl hP hS (fun _ h => h) ⟨Nat.le_of_ble_eq_true rfl, Nat.le_of_ble_eq_true rfl⟩ ⟨Nat.zero_le _, Nat.zero_le _⟩ hl.1 rfl rfl (Nat.le_of_ble_eq_true rfl) dX11_feed_32 (fun r_5 v_5 f_5 g_5 H locs hq_5 hP _ hS => ?_)
    obtain ⟨a0_5, rfl, rfl, rfl, rfl, p0_5⟩ := hq_5
    show W p l e (gRm 1 22) s m args below meth c _ _ 0 0 Q (F0 m 35 ls [])
    have hP : gWd D (mdT k ad) (va_up (va_up v 2 ((((v 2) + 4) + 4) + 4)) 1 0) (va_up f 0 a0_5) g H := ⟨hP.1, (gF_up (V := mdV) (F := mdF) (gR_up (V := mdV) (F := mdF) (gR_up (V := mdV) (F := mdF) ⟨hok.1, hok.2⟩ 2 (hP.2.1 2)) 1 (hP.2.1 1)) 0 (hP.2.2 0))⟩
    replace p0_5 : ∀ k, a0_5 k % 256 = bP (bP (bP B (v 2) a1) ((v 2) + 4) a2) (((v 2) + 4) + 4) a3 k := p0_5
    refine lv_aload_n hx hb dX11_feed_35 rfl (lv_at hl 0 rfl) ?_
    refine lv_iload hx hb dX11_feed_36 (lv_at hl 4 rfl) ?_
    refine g_cv (As := [.int (iI a4)]) (rest := []) (n := 1) C hml (m_X11_lay l D k A ad hD (va_up (va_up v 2 ((((v 2) + 4) + 4) + 4)) 1 0) (va_up f 0 a0_5) g a4 (bP (bP (bP B (v 2) a1) ((v 2) + 4) a2) (((v 2) + 4) + 4) a3) (by omega) (show ∀ k, a0_5 k % 256 = (bP (bP (bP B (v 2) a1) ((v 2) + 4) a2) (((v 2) + 4) + 4) a3) k from by assumption) (show ((((v 2) + 4) + 4) + 4) ≤ 696 from by omega)) mM_X11_292 mI_X11_lay mE_X11_lay mN_X11 mC_X11_lay (by decide +kernel) 0 (ci := 11) rfl rfl hP hS (fun _ h => h) ⟨Nat.le_of_ble_eq_true rfl, Nat.le_of_ble_eq_true rfl⟩ ⟨Nat.zero_le _, Nat.zero_le _⟩ hl.1 rfl rfl (Nat.le_of_ble_eq_true rfl) dX11_feed_38 (fun r_6 v_6 f_6 g_6 H locs hq_6 hP _ hS => ?_)
    obtain ⟨a0_6, rfl, rfl, rfl, rfl, p0_6⟩ := hq_6
    show W p l e (gRm 1 22) s m args below meth c _ _ 0 0 Q (F0 m 41 ls [])
    have hP : gWd D (mdT k ad) (va_up (va_up v 2 (((((v 2) + 4) + 4) + 4) + 4)) 1 0) (va_up f 0 a0_6) g H := ⟨hP.1, (gF_up (V := mdV) (F := mdF) (gR_up (V := mdV) (F := mdF) (gR_up (V := mdV) (F := mdF) ⟨hok.1, hok.2⟩ 2 (hP.2.1 2)) 1 (hP.2.1 1)) 0 (hP.2.2 0))⟩
    replace p0_6 : ∀ k, a0_6 k % 256 = bP (bP (bP (bP B (v 2) a1) ((v 2) + 4) a2) (((v 2) + 4) + 4) a3) ((((v 2) + 4) + 4) + 4) a4 k := p0_6
    refine lv_aload_n hx hb dX11_feed_41 rfl (lv_at hl 0 rfl) ?_
    refine lv_iload hx hb dX11_feed_42 (lv_at hl 5 rfl) ?_
    refine g_cv (As := [.int (iI a5)]) (rest := []) (n := 1) C hml (m_X11_lay l D k A ad hD (va_up (va_up v 2 (((((v 2) + 4) + 4) + 4) + 4)) 1 0) (va_up f 0 a0_6) g a5 (bP (bP (bP (bP B (v 2) a1) ((v 2) + 4) a2) (((v 2) + 4) + 4) a3) ((((v 2) + 4) + 4) + 4) a4) (by omega) (show ∀ k, a0_6 k % 256 = (bP (bP (bP (bP B (v 2) a1) ((v 2) + 4) a2) (((v 2) + 4) + 4) a3) ((((v 2) + 4) + 4) + 4) a4) k from by assumption) (show (((((v 2) + 4) + 4) + 4) + 4) ≤ 696 from by omega)) mM_X11_292 mI_X11_lay mE_X11_lay mN_X11 mC_X11_lay (by decide +kernel) 0 (ci := 11) rfl rfl hP hS (fun _ h => h) ⟨Nat.le_of_ble_eq_true rfl, Nat.le_of_ble_eq_true rfl⟩ ⟨Nat.zero_le _, Nat.zero_le _⟩ hl.1 rfl rfl (Nat.le_of_ble_eq_true rfl) dX11_feed_44 (fun r_7 v_7 f_7 g_7 H locs hq_7 hP _ hS => ?_)
    obtain ⟨a0_7, rfl, rfl, rfl, rfl, p0_7⟩ := hq_7
    show W p l e (gRm 1 22) s m args below meth c _ _ 0 0 Q (F0 m 47 ls [])
    have hP : gWd D (mdT k ad) (va_up (va_up v 2 ((((((v 2) + 4) + 4) + 4) + 4) + 4)) 1 0) (va_up f 0 a0_7) g H := ⟨hP.1, (gF_up (V := mdV) (F := mdF) (gR_up (V := mdV) (F := mdF) (gR_up (V := mdV) (F := mdF) ⟨hok.1, hok.2⟩ 2 (hP.2.1 2)) 1 (hP.2.1 1)) 0 (hP.2.2 0))⟩
    replace p0_7 : ∀ k, a0_7 k % 256 = bP (bP (bP (bP (bP B (v 2) a1) ((v 2) + 4) a2) (((v 2) + 4) + 4) a3) ((((v 2) + 4) + 4) + 4) a4) (((((v 2) + 4) + 4) + 4) + 4) a5 k := p0_7
    refine lv_aload_n hx hb dX11_feed_47 rfl (lv_at hl 0 rfl) ?_
    refine mdG_taped C hP mF_X11_289 dX11_feed_48 ?_
    show W p l e (gRm 1 22) s m args below meth c _ _ 0 0 Q (F0 m 51 ls [.int (iI ((((((v 2) + 4) + 4) + 4) + 4) + 4))])
    have r_8 : 0 ≤ ((((((v 2) + 4) + 4) + 4) + 4) + 4) ∧ ((((((v 2) + 4) + 4) + 4) + 4) + 4) ≤ 700 := hP.2.1 2
    exact g_iret hQ C hr hlocks hP hS dX11_feed_51 ⟨((((((v 2) + 4) + 4) + 4) + 4) + 4), a0_7, rfl, (by rw [show ((if (v 2) ≤ 680 then (v 2) + 20 else (v 2)) : Int) = ((((((v 2) + 4) + 4) + 4) + 4) + 4) from by split <;> omega]), rfl, rfl, (by first | omega | ((repeat' split) <;> omega)), (by first | (rw [if_pos (by omega)]; assumption) | (rw [if_neg (by omega)]; assumption))⟩
  · refine lv_iconst (v := iI (-1)) hx hb dX11_feed_18 rfl ?_
    exact g_iret hQ C hr hlocks hP hS dX11_feed_19 ⟨(-1), (f 0), rfl, (by rw [show ((if (v 2) ≤ 680 then (v 2) + 20 else (v 2)) : Int) = (v 2) from by split <;> omega]), rfl, rfl, (by first | omega | ((repeat' split) <;> omega)), (by first | (rw [if_pos (by omega)]; assumption) | (rw [if_neg (by omega)]; assumption))⟩

set_option maxHeartbeats 4000000 in
set_option maxRecDepth 100000 in
theorem m_X11_fault (l : Launch) (D : va_G) (k : Nat → ClassId) (A : Nat → Prop) (ad : Nat → Nat) (hD : mdD A k ad) (v : gV) (f g : gF) (a1 : Int) (h_a1 : inR a1) : GM l D k A (mdT k ad) yX11_fault cX11_fault 2 (some .int) 0 0 [.ref (ad 0), .int (iI a1)] v f g (fun r v1 f1 g1 => ∃ (z : Int), r = some (.int (iI z)) ∧ (va_up v 1 0) = v1 ∧ f = f1 ∧ g = g1 ∧ (z = (if a1 = 0 then (v 4) else if a1 = 1 then (v 5) else (-1))) ∧ ((-1) ≤ z ∧ z ≤ 700)) := by
  refine GM.of (by decide) (Nat.le_of_ble_eq_true rfl) ?_
  intro p e s m args below meth c Q ls hQ C hml hr hlocks hP hl
  have hx := C.1
  have hb := C.2.1
  have hok := hP.2
  have hS : va_S A s.heap s.heap [] := va_S.rf
  have hl : lv_has ls 2 [(0, .ref (ad 0)), (1, .int (iI a1))] := hl
  have hP : gWd D (mdT k ad) (va_up v 1 (v 1)) f g s.heap := by rw [va_id]; exact hP
  refine lv_aload_n hx hb dX11_fault_0 rfl (lv_at hl 0 rfl) ?_
  refine lv_iconst (v := iI 0) hx hb dX11_fault_1 rfl ?_
  refine mdP_thrown (v1 := (va_up v 1 0)) C hP hD hS mF_X11_146 (by decide) rfl (Or.inr (gR_up (V := mdV) (F := mdF) ⟨hok.1, hok.2⟩ 1 (show 0 ≤ 0 ∧ 0 ≤ 0 from by decide))) dX11_fault_2 (fun H locs hP hS => ?_)
  refine lv_iload_n hx hb dX11_fault_5 rfl (lv_at hl 1 rfl) ?_
  refine gi_zne (tgt := 16) hx hb dX11_fault_6 (by decide) (by omega) (fun c_1 => ?_) (fun c_1 => ?_)
  · refine lv_iload_n hx hb dX11_fault_16 rfl (lv_at hl 1 rfl) ?_
    refine lv_iconst (v := iI 1) hx hb dX11_fault_17 rfl ?_
    refine gi_cne (tgt := 28) hx hb dX11_fault_18 (by decide) (by omega) (by decide) (fun c_2 => ?_) (fun c_2 => ?_)
    · refine lv_iconst (v := iI (-1)) hx hb dX11_fault_28 rfl ?_
      exact g_iret hQ C hr hlocks hP hS dX11_fault_29 ⟨(-1), rfl, rfl, rfl, rfl, (by first | rw [if_pos (by omega)] | rw [if_neg (by omega), if_pos (by omega)] | rw [if_neg (by omega), if_neg (by omega)]), (by first | omega | ((repeat' split) <;> omega))⟩
    · refine lv_aload_n hx hb dX11_fault_21 rfl (lv_at hl 0 rfl) ?_
      refine mdG_faultAt C hP mF_X11_17 dX11_fault_22 ?_
      show W p l e (gRm 0 0) s m args below meth c _ _ 0 0 Q (F0 m 25 ls [.int (iI (v 5))])
      have r_3 : (-1) ≤ (v 5) ∧ (v 5) ≤ 700 := hok.1 5
      refine lv_goto (tgt := 29) hx hb dX11_fault_25 (by decide) ?_
      exact g_iret hQ C hr hlocks hP hS dX11_fault_29 ⟨(v 5), rfl, rfl, rfl, rfl, (by first | rw [if_pos (by omega)] | rw [if_neg (by omega), if_pos (by omega)] | rw [if_neg (by omega), if_neg (by omega)]), (by first | omega | ((repeat' split) <;> omega))⟩
  · refine lv_aload_n hx hb dX11_fault_9 rfl (lv_at hl 0 rfl) ?_
    refine mdG_faultKind C hP mF_X11_13 dX11_fault_10 ?_
    show W p l e (gRm 0 0) s m args below meth c _ _ 0 0 Q (F0 m 13 ls [.int (iI (v 4))])
    have r_4 : (-1) ≤ (v 4) ∧ (v 4) ≤ 5 := hok.1 4
    refine lv_goto (tgt := 29) hx hb dX11_fault_13 (by decide) ?_
    exact g_iret hQ C hr hlocks hP hS dX11_fault_29 ⟨(v 4), rfl, rfl, rfl, rfl, (by first | rw [if_pos (by omega)] | rw [if_neg (by omega), if_pos (by omega)] | rw [if_neg (by omega), if_neg (by omega)]), (by first | omega | ((repeat' split) <;> omega))⟩

set_option maxHeartbeats 4000000 in
set_option maxRecDepth 100000 in
theorem y_status (l : Launch) (D : va_G) (k : Nat → ClassId) (A : Nat → Prop) (ad : Nat → Nat) (hD : mdD A k ad) (v : gV) (f g : gF) : GM l D k A (mdT k ad) yX11_status cX11_status 1 (some .int) 0 0 [.ref (ad 0)] v f g (fun r v1 f1 g1 => ∃ (z : Int), r = some (.int (iI z)) ∧ (va_up v 1 0) = v1 ∧ f = f1 ∧ g = g1 ∧ (z = (v 0)) ∧ (0 ≤ z ∧ z ≤ 10)) := by
  refine GM.of (by decide) (Nat.le_of_ble_eq_true rfl) ?_
  intro p e s m args below meth c Q ls hQ C hml hr hlocks hP hl
  have hx := C.1
  have hb := C.2.1
  have hok := hP.2
  have hS : va_S A s.heap s.heap [] := va_S.rf
  have hl : lv_has ls 1 [(0, .ref (ad 0))] := hl
  have hP : gWd D (mdT k ad) (va_up v 1 (v 1)) f g s.heap := by rw [va_id]; exact hP
  refine lv_aload_n hx hb dX11_status_0 rfl (lv_at hl 0 rfl) ?_
  refine lv_iconst (v := iI 0) hx hb dX11_status_1 rfl ?_
  refine mdP_thrown (v1 := (va_up v 1 0)) C hP hD hS mF_X11_146 (by decide) rfl (Or.inr (gR_up (V := mdV) (F := mdF) ⟨hok.1, hok.2⟩ 1 (show 0 ≤ 0 ∧ 0 ≤ 0 from by decide))) dX11_status_2 (fun H locs hP hS => ?_)
  refine lv_aload_n hx hb dX11_status_5 rfl (lv_at hl 0 rfl) ?_
  refine mdG_status C hP mF_X11_149 dX11_status_6 ?_
  show W p l e (gRm 0 0) s m args below meth c _ _ 0 0 Q (F0 m 9 ls [.int (iI (v 0))])
  have r_1 : 0 ≤ (v 0) ∧ (v 0) ≤ 10 := hok.1 0
  exact g_iret hQ C hr hlocks hP hS dX11_status_9 ⟨(v 0), rfl, rfl, rfl, rfl, rfl, (by first | omega | ((repeat' split) <;> omega))⟩

set_option maxHeartbeats 4000000 in
set_option maxRecDepth 100000 in
theorem y_goesTo (l : Launch) (D : va_G) (k : Nat → ClassId) (A : Nat → Prop) (ad : Nat → Nat) (hD : mdD A k ad) (v : gV) (f g : gF) (a1 : Int) (h_a1 : inR a1) (h1 : 0 ≤ a1 ∧ a1 ≤ 1000000) : GM l D k A (mdT k ad) yX11_goesTo cX11_goesTo 3 none 0 0 [.ref (ad 0), .int (iI a1)] v f g (fun r v1 f1 g1 => r = none ∧ (va_up v 24 a1) = v1 ∧ (va_up (va_up f 28 (ovE (v 25) a1 (f 30) (f 27) (fun k => (f 3) ((f 25) k)) (f 28))) 30 (ovH (v 25) a1 (f 30) (f 27) (fun k => (f 3) ((f 25) k)))) = f1 ∧ g = g1) := by
  refine GM.of (by decide) (Nat.le_of_ble_eq_true rfl) ?_
  intro p e s m args below meth c Q ls hQ C hml hr hlocks hP hl
  have hx := C.1
  have hb := C.2.1
  have hok := hP.2
  have hS : va_S A s.heap s.heap [] := va_S.rf
  have hl : lv_has ls 3 [(0, .ref (ad 0)), (1, .int (iI a1))] := hl
  have hP : gWd D (mdT k ad) (va_up v 24 (v 24)) (va_up (va_up f 28 (f 28)) 30 (f 30)) g s.heap := by rw [va_id, va_id, va_id]; exact hP
  have r_1 : 0 ≤ (v 25) ∧ (v 25) ≤ 300 := hok.1 25
  refine lv_aload_n hx hb dX11_goesTo_0 rfl (lv_at hl 0 rfl) ?_
  refine lv_iload_n hx hb dX11_goesTo_1 rfl (lv_at hl 1 rfl) ?_
  refine mdP_now (v1 := (va_up v 24 a1)) C hP hD hS mF_X11_316 (by omega) rfl (Or.inr (gF_up (V := mdV) (F := mdF) (gF_up (V := mdV) (F := mdF) (gR_up (V := mdV) (F := mdF) ⟨hok.1, hok.2⟩ 24 (show 0 ≤ a1 ∧ a1 ≤ 1000000 from by omega)) 28 (hP.2.2 28)) 30 (hP.2.2 30))) dX11_goesTo_2 (fun H locs hP hS => ?_)
  refine lv_iconst (v := iI 0) hx hb dX11_goesTo_5 rfl ?_
  refine lv_istore_n (lv' := [(2, .int (iI 0)), (0, .ref (ad 0)), (1, .int (iI a1))]) hx hb dX11_goesTo_6 rfl hl (by decide) rfl (fun ls hl => ?_)
  have L_2 : ∀ (n : Nat) (x2 : Int) (c28_2 : Int → Int) (c30_2 : Int → Int) (H : Heap) (locs : List Loc) (ls : Array Slot), 300 - x2 < (n : Int) → (0 ≤ x2 ∧ x2 ≤ (v 25)) → (c28_2 = ovE x2 a1 (f 30) (f 27) (fun k => (f 3) ((f 25) k)) (f 28)) → (c30_2 = ovH x2 a1 (f 30) (f 27) (fun k => (f 3) ((f 25) k))) → gWd D (mdT k ad) (va_up v 24 a1) (va_up (va_up f 28 c28_2) 30 c30_2) g H → va_S A s.heap H locs → lv_has ls 3 [(0, .ref (ad 0)), (1, .int (iI a1)), (2, .int (iI x2))] → W p l e (gRm 0 0) s m args below meth c H locs 0 0 Q (F0 m 7 ls []) := by
    intro n
    induction n with
    | zero =>
      intro x2 c28_2 c30_2 H locs ls hn_2 i2_0 i2_1 i2_2 hP hS hl
      exfalso; omega
    | succ n ih_7 =>
      intro x2 c28_2 c30_2 H locs ls hn_2 i2_0 i2_1 i2_2 hP hS hl
      have hI1 := i2_1
      have hI2 := i2_2
      have hhw : c30_2 x2 = (f 30) x2 := by rw [hI2]; exact ovH_at (by omega)
      refine lv_iload_n hx hb dX11_goesTo_7 rfl (lv_at hl 2 rfl) ?_
      refine lv_aload_n hx hb dX11_goesTo_8 rfl (lv_at hl 0 rfl) ?_
      refine mdG_tried C hP mF_X11_319 dX11_goesTo_9 ?_
      show W p l e (gRm 0 0) s m args below meth c _ _ 0 0 Q (F0 m 12 ls [.int (iI (v 25)), .int (iI x2)])
      refine gi_cge (tgt := 86) hx hb dX11_goesTo_12 (by decide) (by omega) (by omega) (fun c_3 => ?_) (fun c_3 => ?_)
      · exact g_vret hQ C hr hlocks hP hS dX11_goesTo_86 ⟨rfl, rfl, (by rw [show ((ovE (v 25) a1 (f 30) (f 27) (fun k => (f 3) ((f 25) k)) (f 28)) : Int → Int) = c28_2 from by rw [show (v 25) = x2 by omega]; exact hI1.symm, show ((ovH (v 25) a1 (f 30) (f 27) (fun k => (f 3) ((f 25) k))) : Int → Int) = c30_2 from by rw [show (v 25) = x2 by omega]; exact hI2.symm]), rfl⟩
      · refine lv_aload_n hx hb dX11_goesTo_15 rfl (lv_at hl 0 rfl) ?_
        refine mdG_how C hP mF_X11_112 dX11_goesTo_16 ?_
        refine lv_iload_n hx hb dX11_goesTo_19 rfl (lv_at hl 2 rfl) ?_
        refine mdL_how C hP (by omega) (by omega) dX11_goesTo_20 ?_
        show W p l e (gRm 0 0) s m args below meth c _ _ 0 0 Q (F0 m 21 ls [.int (iI (c30_2 x2))])
        have r_4 : 0 ≤ (c30_2 x2) ∧ (c30_2 x2) ≤ 4 := hP.2.2 30 x2
        refine gi_zne (tgt := 80) hx hb dX11_goesTo_21 (by decide) (by omega) (fun c_5 => ?_) (fun c_5 => ?_)
        · refine lv_iinc (v := iI (x2 + 1)) (lv' := [(2, .int (iI (x2 + 1))), (0, .ref (ad 0)), (1, .int (iI a1))]) hx hb dX11_goesTo_80 hl (k := 2) rfl (by show iI _ + iI 1 = _; rw [iI_add]) (by decide) rfl (fun ls hl => ?_)
          refine lv_goto (tgt := 7) hx hb dX11_goesTo_83 (by decide) ?_
          exact ih_7 (x2 + 1) c28_2 c30_2 _ _ _ (by omega) (by omega) (by first | (rw [hI1]; exact ovE_hit (by omega) ⟨by omega, by show _ + (f 3) _ ≤ a1; omega⟩ rfl) | (rw [hI1]; exact (ovE_skip (fun h => by have h1 := h.1; have h2 : (f 27) x2 + (f 3) ((f 25) x2) ≤ a1 := h.2; omega)).symm)) (by first | (rw [hI2]; exact ovH_hit (by omega) ⟨by omega, by show _ + (f 3) _ ≤ a1; omega⟩) | (rw [hI2]; exact (ovH_skip (fun h => by have h1 := h.1; have h2 : (f 27) x2 + (f 3) ((f 25) x2) ≤ a1 := h.2; omega)).symm)) hP hS (lv_sub hl [1, 2, 0] rfl)
        · refine lv_aload_n hx hb dX11_goesTo_24 rfl (lv_at hl 0 rfl) ?_
          refine mdG_from C hP mF_X11_103 dX11_goesTo_25 ?_
          refine lv_iload_n hx hb dX11_goesTo_28 rfl (lv_at hl 2 rfl) ?_
          refine mdL_from C hP (by omega) (by omega) dX11_goesTo_29 ?_
          show W p l e (gRm 0 0) s m args below meth c _ _ 0 0 Q (F0 m 30 ls [.int (iI (f 27 x2))])
          have r_6 : 0 ≤ (f 27 x2) ∧ (f 27 x2) ≤ 1000000 := hP.2.2 27 x2
          refine lv_aload_n hx hb dX11_goesTo_30 rfl (lv_at hl 0 rfl) ?_
          refine mdG_seconds C hP mF_X11_27 dX11_goesTo_31 ?_
          refine lv_aload_n hx hb dX11_goesTo_34 rfl (lv_at hl 0 rfl) ?_
          refine mdG_where C hP mF_X11_97 dX11_goesTo_35 ?_
          refine lv_iload_n hx hb dX11_goesTo_38 rfl (lv_at hl 2 rfl) ?_
          refine mdL_where C hP (by omega) (by omega) dX11_goesTo_39 ?_
          show W p l e (gRm 0 0) s m args below meth c _ _ 0 0 Q (F0 m 40 ls [.int (iI (f 25 x2)), .ref (ad 4), .int (iI (f 27 x2))])
          have r_7 : 0 ≤ (f 25 x2) ∧ (f 25 x2) ≤ 3 := hP.2.2 25 x2
          refine mdL_seconds C hP (by omega) (by omega) dX11_goesTo_40 ?_
          show W p l e (gRm 0 0) s m args below meth c _ _ 0 0 Q (F0 m 41 ls [.int (iI (f 3 (f 25 x2))), .int (iI (f 27 x2))])
          have r_8 : 0 ≤ (f 3 (f 25 x2)) ∧ (f 3 (f 25 x2)) ≤ 999 := hP.2.2 3 (f 25 x2)
          refine gi_add (z := ((f 27 x2) + (f 3 (f 25 x2)))) hx hb dX11_goesTo_41 rfl ?_
          refine lv_iload_n hx hb dX11_goesTo_42 rfl (lv_at hl 1 rfl) ?_
          refine gi_cle (tgt := 49) hx hb dX11_goesTo_43 (by decide) (by omega) (by omega) (fun c_9 => ?_) (fun c_9 => ?_)
          · refine lv_aload_n hx hb dX11_goesTo_49 rfl (lv_at hl 0 rfl) ?_
            refine mdG_how C hP mF_X11_112 dX11_goesTo_50 ?_
            refine lv_iload_n hx hb dX11_goesTo_53 rfl (lv_at hl 2 rfl) ?_
            refine lv_iconst (v := iI 3) hx hb dX11_goesTo_54 rfl ?_
            refine mdS_how (f1 := (va_up (va_up f 28 c28_2) 30 (u1 c30_2 x2 3))) C hP hD hS (by omega) (by omega) (by decide) rfl (Or.inr (gF_up (V := mdV) (F := mdF) (gF_up (V := mdV) (F := mdF) (gR_up (V := mdV) (F := mdF) ⟨hok.1, hok.2⟩ 24 (hP.2.1 24)) 28 (hP.2.2 28)) 30 (u1_rng (hP.2.2 30) (show 0 ≤ 3 ∧ 3 ≤ 4 from (by decide))))) dX11_goesTo_55 (fun H locs hP hS => ?_)
            refine lv_aload_n hx hb dX11_goesTo_56 rfl (lv_at hl 0 rfl) ?_
            refine mdG_to C hP mF_X11_106 dX11_goesTo_57 ?_
            refine lv_iload_n hx hb dX11_goesTo_60 rfl (lv_at hl 2 rfl) ?_
            refine lv_aload_n hx hb dX11_goesTo_61 rfl (lv_at hl 0 rfl) ?_
            refine mdG_from C hP mF_X11_103 dX11_goesTo_62 ?_
            refine lv_iload_n hx hb dX11_goesTo_65 rfl (lv_at hl 2 rfl) ?_
            refine mdL_from C hP (by omega) (by omega) dX11_goesTo_66 ?_
            show W p l e (gRm 0 0) s m args below meth c _ _ 0 0 Q (F0 m 67 ls [.int (iI (f 27 x2)), .int (iI x2), .ref (ad 29)])
            refine lv_aload_n hx hb dX11_goesTo_67 rfl (lv_at hl 0 rfl) ?_
            refine mdG_seconds C hP mF_X11_27 dX11_goesTo_68 ?_
            refine lv_aload_n hx hb dX11_goesTo_71 rfl (lv_at hl 0 rfl) ?_
            refine mdG_where C hP mF_X11_97 dX11_goesTo_72 ?_
            refine lv_iload_n hx hb dX11_goesTo_75 rfl (lv_at hl 2 rfl) ?_
            refine mdL_where C hP (by omega) (by omega) dX11_goesTo_76 ?_
            show W p l e (gRm 0 0) s m args below meth c _ _ 0 0 Q (F0 m 77 ls [.int (iI (f 25 x2)), .ref (ad 4), .int (iI (f 27 x2)), .int (iI x2), .ref (ad 29)])
            refine mdL_seconds C hP (by omega) (by omega) dX11_goesTo_77 ?_
            show W p l e (gRm 0 0) s m args below meth c _ _ 0 0 Q (F0 m 78 ls [.int (iI (f 3 (f 25 x2))), .int (iI (f 27 x2)), .int (iI x2), .ref (ad 29)])
            refine gi_add (z := ((f 27 x2) + (f 3 (f 25 x2)))) hx hb dX11_goesTo_78 rfl ?_
            refine mdS_to (f1 := (va_up (va_up f 28 (u1 c28_2 x2 ((f 27 x2) + (f 3 (f 25 x2))))) 30 (u1 c30_2 x2 3))) C hP hD hS (by omega) (by omega) (by omega) rfl (Or.inr (gF_up (V := mdV) (F := mdF) (gF_up (V := mdV) (F := mdF) (gR_up (V := mdV) (F := mdF) ⟨hok.1, hok.2⟩ 24 (hP.2.1 24)) 28 (u1_rng (hP.2.2 28) (show (-1) ≤ ((f 27 x2) + (f 3 (f 25 x2))) ∧ ((f 27 x2) + (f 3 (f 25 x2))) ≤ 1000999 from (by omega)))) 30 (hP.2.2 30))) dX11_goesTo_79 (fun H locs hP hS => ?_)
            refine lv_iinc (v := iI (x2 + 1)) (lv' := [(2, .int (iI (x2 + 1))), (0, .ref (ad 0)), (1, .int (iI a1))]) hx hb dX11_goesTo_80 hl (k := 2) rfl (by show iI _ + iI 1 = _; rw [iI_add]) (by decide) rfl (fun ls hl => ?_)
            refine lv_goto (tgt := 7) hx hb dX11_goesTo_83 (by decide) ?_
            exact ih_7 (x2 + 1) (u1 c28_2 x2 ((f 27 x2) + (f 3 (f 25 x2)))) (u1 c30_2 x2 3) _ _ _ (by omega) (by omega) (by first | (rw [hI1]; exact ovE_hit (by omega) ⟨by omega, by show _ + (f 3) _ ≤ a1; omega⟩ rfl) | (rw [hI1]; exact (ovE_skip (fun h => by have h1 := h.1; have h2 : (f 27) x2 + (f 3) ((f 25) x2) ≤ a1 := h.2; omega)).symm)) (by first | (rw [hI2]; exact ovH_hit (by omega) ⟨by omega, by show _ + (f 3) _ ≤ a1; omega⟩) | (rw [hI2]; exact (ovH_skip (fun h => by have h1 := h.1; have h2 : (f 27) x2 + (f 3) ((f 25) x2) ≤ a1 := h.2; omega)).symm)) hP hS (lv_sub hl [1, 2, 0] rfl)
          · refine lv_goto (tgt := 80) hx hb dX11_goesTo_46 (by decide) ?_
            refine lv_iinc (v := iI (x2 + 1)) (lv' := [(2, .int (iI (x2 + 1))), (0, .ref (ad 0)), (1, .int (iI a1))]) hx hb dX11_goesTo_80 hl (k := 2) rfl (by show iI _ + iI 1 = _; rw [iI_add]) (by decide) rfl (fun ls hl => ?_)
            refine lv_goto (tgt := 7) hx hb dX11_goesTo_83 (by decide) ?_
            exact ih_7 (x2 + 1) c28_2 c30_2 _ _ _ (by omega) (by omega) (by first | (rw [hI1]; exact ovE_hit (by omega) ⟨by omega, by show _ + (f 3) _ ≤ a1; omega⟩ rfl) | (rw [hI1]; exact (ovE_skip (fun h => by have h1 := h.1; have h2 : (f 27) x2 + (f 3) ((f 25) x2) ≤ a1 := h.2; omega)).symm)) (by first | (rw [hI2]; exact ovH_hit (by omega) ⟨by omega, by show _ + (f 3) _ ≤ a1; omega⟩) | (rw [hI2]; exact (ovH_skip (fun h => by have h1 := h.1; have h2 : (f 27) x2 + (f 3) ((f 25) x2) ≤ a1 := h.2; omega)).symm)) hP hS (lv_sub hl [1, 2, 0] rfl)
  exact L_2 301 0 (f 28) (f 30) _ _ _ (by omega) (by omega) ovE_0.symm ovH_0.symm hP hS (lv_sub hl [1, 2, 0] rfl)

set_option maxHeartbeats 4000000 in
set_option maxRecDepth 100000 in
theorem y_clocked (l : Launch) (D : va_G) (k : Nat → ClassId) (A : Nat → Prop) (ad : Nat → Nat) (hD : mdD A k ad) (v : gV) (f g : gF) (a1 : Int) (h_a1 : inR a1) : GM l D k A (mdT k ad) yX11_clocked cX11_clocked 2 (some .int) 1 22 [.ref (ad 0), .int (iI a1)] v f g (fun r v1 f1 g1 => ∃ (z : Int), r = some (.int (iI z)) ∧ (va_up v 24 (if z = 0 then a1 else (v 24))) = v1 ∧ (va_up (va_up f 28 (if z = 0 then (ovE (v 25) a1 (f 30) (f 27) (fun k => (f 3) ((f 25) k)) (f 28)) else (f 28))) 30 (if z = 0 then (ovH (v 25) a1 (f 30) (f 27) (fun k => (f 3) ((f 25) k))) else (f 30))) = f1 ∧ g = g1 ∧ (z = (if a1 < 0 ∨ 1000000 < a1 then (2 : Int) else if a1 < (v 24) then 9 else 0))) := by
  refine GM.of (by decide) (Nat.le_of_ble_eq_true rfl) ?_
  intro p e s m args below meth c Q ls hQ C hml hr hlocks hP hl
  have hx := C.1
  have hb := C.2.1
  have hok := hP.2
  have hS : va_S A s.heap s.heap [] := va_S.rf
  have hl : lv_has ls 2 [(0, .ref (ad 0)), (1, .int (iI a1))] := hl
  have hP : gWd D (mdT k ad) (va_up v 24 (v 24)) (va_up (va_up f 28 (f 28)) 30 (f 30)) g s.heap := by rw [va_id, va_id, va_id]; exact hP
  refine lv_iload_n hx hb dX11_clocked_0 rfl (lv_at hl 1 rfl) ?_
  refine gi_zlt (tgt := 11) hx hb dX11_clocked_1 (by decide) (by omega) (fun c_1 => ?_) (fun c_1 => ?_)
  · refine lv_iconst (v := iI 2) hx hb dX11_clocked_11 rfl ?_
    exact g_iret hQ C hr hlocks hP hS dX11_clocked_12 ⟨2, rfl, (by rw [show ((if (2 : Int) = 0 then a1 else (v 24)) : Int) = (v 24) from by first | rfl | omega | ((repeat' split) <;> omega)]), (by rw [show ((if (2 : Int) = 0 then (ovE (v 25) a1 (f 30) (f 27) (fun k => (f 3) ((f 25) k)) (f 28)) else (f 28)) : Int → Int) = (f 28) from by first | rfl | rw [if_neg (by omega)] | rw [if_pos (by omega)], show ((if (2 : Int) = 0 then (ovH (v 25) a1 (f 30) (f 27) (fun k => (f 3) ((f 25) k))) else (f 30)) : Int → Int) = (f 30) from by first | rfl | rw [if_neg (by omega)] | rw [if_pos (by omega)]]), rfl, (by first | omega | ((repeat' split) <;> omega))⟩
  · refine lv_iload_n hx hb dX11_clocked_4 rfl (lv_at hl 1 rfl) ?_
    refine lv_ldcw (v := iI 1000000) hx hb C.2.2.2.1 (C.2.2.1 _ (show Cond.constant RX11 337 (iI 1000000) ∈ gWs from mD_X11_337)) dX11_clocked_5 ?_
    refine gi_cle (tgt := 13) hx hb dX11_clocked_8 (by decide) (by omega) (by decide) (fun c_2 => ?_) (fun c_2 => ?_)
    · refine lv_iload_n hx hb dX11_clocked_13 rfl (lv_at hl 1 rfl) ?_
      refine lv_aload_n hx hb dX11_clocked_14 rfl (lv_at hl 0 rfl) ?_
      refine mdG_now C hP mF_X11_316 dX11_clocked_15 ?_
      show W p l e (gRm 1 22) s m args below meth c _ _ 0 0 Q (F0 m 18 ls [.int (iI (v 24)), .int (iI a1)])
      have r_3 : 0 ≤ (v 24) ∧ (v 24) ≤ 1000000 := hok.1 24
      refine gi_cge (tgt := 24) hx hb dX11_clocked_18 (by decide) (by omega) (by omega) (fun c_4 => ?_) (fun c_4 => ?_)
      · refine lv_aload_n hx hb dX11_clocked_24 rfl (lv_at hl 0 rfl) ?_
        refine lv_iload_n hx hb dX11_clocked_25 rfl (lv_at hl 1 rfl) ?_
        refine g_cv (As := [.int (iI a1)]) (rest := []) (n := 1) C hml (y_goesTo l D k A ad hD (va_up v 24 (v 24)) (va_up (va_up f 28 (f 28)) 30 (f 30)) g a1 (by omega) (show 0 ≤ a1 ∧ a1 ≤ 1000000 from by omega)) mM_X11_338 mI_X11_goesTo mE_X11_goesTo mN_X11 mC_X11_goesTo (by decide +kernel) 0 (ci := 11) rfl rfl hP hS (fun _ h => h) ⟨Nat.le_of_ble_eq_true rfl, Nat.le_of_ble_eq_true rfl⟩ ⟨Nat.zero_le _, Nat.zero_le _⟩ hl.1 rfl rfl (Nat.le_of_ble_eq_true rfl) dX11_clocked_26 (fun r_5 v_5 f_5 g_5 H locs hq_5 hP _ hS => ?_)
        obtain ⟨rfl, rfl, rfl, rfl⟩ := hq_5
        show W p l e (gRm 1 22) s m args below meth c _ _ 0 0 Q (F0 m 29 ls [])
        have hP : gWd D (mdT k ad) (va_up v 24 a1) (va_up (va_up f 28 (ovE (v 25) a1 (f 30) (f 27) (fun k => (f 3) ((f 25) k)) (f 28))) 30 (ovH (v 25) a1 (f 30) (f 27) (fun k => (f 3) ((f 25) k)))) g H := ⟨hP.1, (gF_up (V := mdV) (F := mdF) (gF_up (V := mdV) (F := mdF) (gR_up (V := mdV) (F := mdF) ⟨hok.1, hok.2⟩ 24 (hP.2.1 24)) 28 (hP.2.2 28)) 30 (hP.2.2 30))⟩
        refine lv_iconst (v := iI 0) hx hb dX11_clocked_29 rfl ?_
        exact g_iret hQ C hr hlocks hP hS dX11_clocked_30 ⟨0, rfl, (by rw [show ((if (0 : Int) = 0 then a1 else (v 24)) : Int) = a1 from by first | rfl | omega | ((repeat' split) <;> omega)]), (by rw [show ((if (0 : Int) = 0 then (ovE (v 25) a1 (f 30) (f 27) (fun k => (f 3) ((f 25) k)) (f 28)) else (f 28)) : Int → Int) = (ovE (v 25) a1 (f 30) (f 27) (fun k => (f 3) ((f 25) k)) (f 28)) from by first | rfl | rw [if_neg (by omega)] | rw [if_pos (by omega)], show ((if (0 : Int) = 0 then (ovH (v 25) a1 (f 30) (f 27) (fun k => (f 3) ((f 25) k))) else (f 30)) : Int → Int) = (ovH (v 25) a1 (f 30) (f 27) (fun k => (f 3) ((f 25) k))) from by first | rfl | rw [if_neg (by omega)] | rw [if_pos (by omega)]]), rfl, (by first | omega | ((repeat' split) <;> omega))⟩
      · refine lv_bipush (v := iI 9) hx hb dX11_clocked_21 (by decide) ?_
        exact g_iret hQ C hr hlocks hP hS dX11_clocked_23 ⟨9, rfl, (by rw [show ((if (9 : Int) = 0 then a1 else (v 24)) : Int) = (v 24) from by first | rfl | omega | ((repeat' split) <;> omega)]), (by rw [show ((if (9 : Int) = 0 then (ovE (v 25) a1 (f 30) (f 27) (fun k => (f 3) ((f 25) k)) (f 28)) else (f 28)) : Int → Int) = (f 28) from by first | rfl | rw [if_neg (by omega)] | rw [if_pos (by omega)], show ((if (9 : Int) = 0 then (ovH (v 25) a1 (f 30) (f 27) (fun k => (f 3) ((f 25) k))) else (f 30)) : Int → Int) = (f 30) from by first | rfl | rw [if_neg (by omega)] | rw [if_pos (by omega)]]), rfl, (by first | omega | ((repeat' split) <;> omega))⟩
    · refine lv_iconst (v := iI 2) hx hb dX11_clocked_11 rfl ?_
      exact g_iret hQ C hr hlocks hP hS dX11_clocked_12 ⟨2, rfl, (by rw [show ((if (2 : Int) = 0 then a1 else (v 24)) : Int) = (v 24) from by first | rfl | omega | ((repeat' split) <;> omega)]), (by rw [show ((if (2 : Int) = 0 then (ovE (v 25) a1 (f 30) (f 27) (fun k => (f 3) ((f 25) k)) (f 28)) else (f 28)) : Int → Int) = (f 28) from by first | rfl | rw [if_neg (by omega)] | rw [if_pos (by omega)], show ((if (2 : Int) = 0 then (ovH (v 25) a1 (f 30) (f 27) (fun k => (f 3) ((f 25) k))) else (f 30)) : Int → Int) = (f 30) from by first | rfl | rw [if_neg (by omega)] | rw [if_pos (by omega)]]), rfl, (by first | omega | ((repeat' split) <;> omega))⟩

set_option maxHeartbeats 4000000 in
set_option maxRecDepth 100000 in
theorem y_openTry (l : Launch) (D : va_G) (k : Nat → ClassId) (A : Nat → Prop) (ad : Nat → Nat) (hD : mdD A k ad) (v : gV) (f g : gF) (a1 : Int) (on : Int → Int) (h_a1 : inR a1) (hO : OI (v 25) (f 24) (f 30) on) (hc : 0 ≤ a1 ∧ a1 ≤ 15) : GM l D k A (mdT k ad) yX11_openTry cX11_openTry 3 (some .int) 0 0 [.ref (ad 0), .int (iI a1)] v f g (fun r v1 f1 g1 => ∃ (z : Int), r = some (.int (iI z)) ∧ v = v1 ∧ f = f1 ∧ g = g1 ∧ (z = (on a1 - 1)) ∧ ((-1) ≤ z ∧ z ≤ 299)) := by
  refine GM.of (by decide) (Nat.le_of_ble_eq_true rfl) ?_
  intro p e s m args below meth c Q ls hQ C hml hr hlocks hP hl
  have hx := C.1
  have hb := C.2.1
  have hok := hP.2
  have hS : va_S A s.heap s.heap [] := va_S.rf
  have hl : lv_has ls 3 [(0, .ref (ad 0)), (1, .int (iI a1))] := hl
  have r_1 : 0 ≤ (v 25) ∧ (v 25) ≤ 300 := hok.1 25
  refine lv_iconst (v := iI 0) hx hb dX11_openTry_0 rfl ?_
  refine lv_istore_n (lv' := [(2, .int (iI 0)), (0, .ref (ad 0)), (1, .int (iI a1))]) hx hb dX11_openTry_1 rfl hl (by decide) rfl (fun ls hl => ?_)
  have L_2 : ∀ (n : Nat) (x2 : Int) (H : Heap) (locs : List Loc) (ls : Array Slot), 300 - x2 < (n : Int) → (0 ≤ x2 ∧ x2 ≤ (v 25)) → (∀ k, 0 ≤ k → k < x2 → ¬ ((f 24) k = a1 ∧ (f 30) k = 0)) → gWd D (mdT k ad) v f g H → va_S A s.heap H locs → lv_has ls 3 [(0, .ref (ad 0)), (1, .int (iI a1)), (2, .int (iI x2))] → W p l e (gRm 0 0) s m args below meth c H locs 0 0 Q (F0 m 2 ls []) := by
    intro n
    induction n with
    | zero =>
      intro x2 H locs ls hn_2 i2_0 i2_1 hP hS hl
      exfalso; omega
    | succ n ih_2 =>
      intro x2 H locs ls hn_2 i2_0 i2_1 hP hS hl
      have hN := i2_1
      refine lv_iload_n hx hb dX11_openTry_2 rfl (lv_at hl 2 rfl) ?_
      refine lv_aload_n hx hb dX11_openTry_3 rfl (lv_at hl 0 rfl) ?_
      refine mdG_tried C hP mF_X11_319 dX11_openTry_4 ?_
      refine gi_cge (tgt := 37) hx hb dX11_openTry_7 (by decide) (by omega) (by omega) (fun c_3 => ?_) (fun c_3 => ?_)
      · refine lv_iconst (v := iI (-1)) hx hb dX11_openTry_37 rfl ?_
        exact g_iret hQ C hr hlocks hP hS dX11_openTry_38 ⟨(-1), rfl, rfl, rfl, rfl, (by first | (have h9 := hO.2 x2 (by omega) (by omega) (by omega); rw [show (f 24) x2 = a1 by omega] at h9; omega) | (have h9 := hO.1 a1 (by omega) (by omega); exact (if hz : 0 < on a1 then absurd (h9.2.2 hz) (hN _ (by omega) (by omega)) else (by omega)))), (by omega)⟩
      · refine lv_aload_n hx hb dX11_openTry_10 rfl (lv_at hl 0 rfl) ?_
        refine mdG_who C hP mF_X11_94 dX11_openTry_11 ?_
        refine lv_iload_n hx hb dX11_openTry_14 rfl (lv_at hl 2 rfl) ?_
        refine mdL_who C hP (by omega) (by omega) dX11_openTry_15 ?_
        have r_4 : 0 ≤ (f 24 x2) ∧ (f 24 x2) ≤ 15 := hP.2.2 24 x2
        refine lv_iload_n hx hb dX11_openTry_16 rfl (lv_at hl 1 rfl) ?_
        refine gi_cne (tgt := 31) hx hb dX11_openTry_17 (by decide) (by omega) (by omega) (fun c_5 => ?_) (fun c_5 => ?_)
        · refine lv_iinc (v := iI (x2 + 1)) (lv' := [(2, .int (iI (x2 + 1))), (0, .ref (ad 0)), (1, .int (iI a1))]) hx hb dX11_openTry_31 hl (k := 2) rfl (by show iI _ + iI 1 = _; rw [iI_add]) (by decide) rfl (fun ls hl => ?_)
          refine lv_goto (tgt := 2) hx hb dX11_openTry_34 (by decide) ?_
          exact ih_2 (x2 + 1) _ _ _ (by omega) (by omega) (fun k h0 h1 => if e : k = x2 then (by rw [e]; omega) else hN k h0 (by omega)) hP hS (lv_sub hl [1, 2, 0] rfl)
        · refine lv_aload_n hx hb dX11_openTry_20 rfl (lv_at hl 0 rfl) ?_
          refine mdG_how C hP mF_X11_112 dX11_openTry_21 ?_
          refine lv_iload_n hx hb dX11_openTry_24 rfl (lv_at hl 2 rfl) ?_
          refine mdL_how C hP (by omega) (by omega) dX11_openTry_25 ?_
          have r_6 : 0 ≤ (f 30 x2) ∧ (f 30 x2) ≤ 4 := hP.2.2 30 x2
          refine gi_zne (tgt := 31) hx hb dX11_openTry_26 (by decide) (by omega) (fun c_7 => ?_) (fun c_7 => ?_)
          · refine lv_iinc (v := iI (x2 + 1)) (lv' := [(2, .int (iI (x2 + 1))), (0, .ref (ad 0)), (1, .int (iI a1))]) hx hb dX11_openTry_31 hl (k := 2) rfl (by show iI _ + iI 1 = _; rw [iI_add]) (by decide) rfl (fun ls hl => ?_)
            refine lv_goto (tgt := 2) hx hb dX11_openTry_34 (by decide) ?_
            exact ih_2 (x2 + 1) _ _ _ (by omega) (by omega) (fun k h0 h1 => if e : k = x2 then (by rw [e]; omega) else hN k h0 (by omega)) hP hS (lv_sub hl [1, 2, 0] rfl)
          · refine lv_iload_n hx hb dX11_openTry_29 rfl (lv_at hl 2 rfl) ?_
            exact g_iret hQ C hr hlocks hP hS dX11_openTry_30 ⟨x2, rfl, rfl, rfl, rfl, (by first | (have h9 := hO.2 x2 (by omega) (by omega) (by omega); rw [show (f 24) x2 = a1 by omega] at h9; omega) | (have h9 := hO.1 a1 (by omega) (by omega); exact (if hz : 0 < on a1 then absurd (h9.2.2 hz) (hN _ (by omega) (by omega)) else (by omega)))), (by omega)⟩
  exact L_2 301 0 _ _ _ (by omega) (by omega) (fun k h0 h1 => by omega) hP hS (lv_sub hl [1, 2, 0] rfl)

set_option maxHeartbeats 4000000 in
set_option maxRecDepth 100000 in
theorem y_hasSeen (l : Launch) (D : va_G) (k : Nat → ClassId) (A : Nat → Prop) (ad : Nat → Nat) (hD : mdD A k ad) (v : gV) (f g : gF) (a1 : Int) (a2 : Int) (h_a1 : inR a1) (h_a2 : inR a2) (hc : 0 ≤ a1 ∧ a1 ≤ 15) (hti : TI (v 25) (v 24) (f 27) (f 28) (f 30)) (hwi : WI (v 24) (f 35) (f 36) (f 34) a1) : GM l D k A (mdT k ad) yX11_hasSeen cX11_hasSeen 7 (some .boolean) 1 30 [.ref (ad 0), .int (iI a1), .int (iI a2)] v f g (fun r v1 f1 g1 => ∃ (z : Int), r = some (.int (iI z)) ∧ v = v1 ∧ f = f1 ∧ g = g1 ∧ (z = (if 1 ≤ cn (pSe (f 24) (f 25) (f 26) (f 27) (f 28) (f 35) (f 36) (f 34) (v 24) a1 (v 23) a2) (v 25).toNat then 1 else 0))) := by
  refine GM.of (by decide) (Nat.le_of_ble_eq_true rfl) ?_
  intro p e s m args below meth c Q ls hQ C hml hr hlocks hP hl
  have hx := C.1
  have hb := C.2.1
  have hok := hP.2
  have hS : va_S A s.heap s.heap [] := va_S.rf
  have hl : lv_has ls 7 [(0, .ref (ad 0)), (1, .int (iI a1)), (2, .int (iI a2))] := hl
  have htr : 0 ≤ (f 34) a1 ∧ (f 34) a1 ≤ 20 := hok.2 34 a1
  have r_1 : 0 ≤ (v 25) ∧ (v 25) ≤ 300 := hok.1 25
  refine lv_iconst (v := iI 0) hx hb dX11_hasSeen_0 rfl ?_
  refine lv_istore_n (lv' := [(3, .int (iI 0)), (0, .ref (ad 0)), (1, .int (iI a1)), (2, .int (iI a2))]) hx hb dX11_hasSeen_1 rfl hl (by decide) rfl (fun ls hl => ?_)
  have L_2 : ∀ (n : Nat) (x3 : Int) (H : Heap) (locs : List Loc) (ls : Array Slot), 300 - x3 < (n : Int) → (0 ≤ x3 ∧ x3 ≤ (v 25)) → (cn (pSe (f 24) (f 25) (f 26) (f 27) (f 28) (f 35) (f 36) (f 34) (v 24) a1 (v 23) a2) x3.toNat = 0) → gWd D (mdT k ad) v f g H → va_S A s.heap H locs → lv_has ls 7 [(0, .ref (ad 0)), (1, .int (iI a1)), (2, .int (iI a2)), (3, .int (iI x3))] → W p l e (gRm 1 30) s m args below meth c H locs 0 0 Q (F0 m 2 ls []) := by
    intro n
    induction n with
    | zero =>
      intro x3 H locs ls hn_2 i2_0 i2_1 hP hS hl
      exfalso; omega
    | succ n ih_2 =>
      intro x3 H locs ls hn_2 i2_0 i2_1 hP hS hl
      have hI := i2_1
      have hti3 : x3 < (v 25) → _ := fun h => hti x3 (by omega) h
      refine lv_iload_n hx hb dX11_hasSeen_2 rfl (lv_at hl 3 rfl) ?_
      refine lv_aload_n hx hb dX11_hasSeen_3 rfl (lv_at hl 0 rfl) ?_
      refine mdG_tried C hP mF_X11_319 dX11_hasSeen_4 ?_
      refine gi_cge (tgt := 158) hx hb dX11_hasSeen_7 (by decide) (by omega) (by omega) (fun c_3 => ?_) (fun c_3 => ?_)
      · refine lv_iconst (v := iI 0) hx hb dX11_hasSeen_158 rfl ?_
        exact g_zret hQ C hr hlocks (by decide) hP hS dX11_hasSeen_159 ⟨0, rfl, rfl, rfl, rfl, (by first | (rw [if_pos (cn_hi (x := x3) (by omega) (by omega) (decide_eq_true ⟨by omega, ou_y (x := x5) (by omega) (by omega) (by first | rw [if_pos (by omega)] | rw [if_neg (by omega)]) (by omega)⟩))]) | (rw [if_neg (by rw [show (v 25) = x3 by omega, hI]; decide)]))⟩
      · refine lv_aload_n hx hb dX11_hasSeen_10 rfl (lv_at hl 0 rfl) ?_
        refine mdG_where C hP mF_X11_97 dX11_hasSeen_11 ?_
        refine lv_iload_n hx hb dX11_hasSeen_14 rfl (lv_at hl 3 rfl) ?_
        refine mdL_where C hP (by omega) (by omega) dX11_hasSeen_15 ?_
        have r_4 : 0 ≤ (f 25 x3) ∧ (f 25 x3) ≤ 3 := hP.2.2 25 x3
        refine lv_aload_n hx hb dX11_hasSeen_16 rfl (lv_at hl 0 rfl) ?_
        refine mdG_open C hP mF_X11_82 dX11_hasSeen_17 ?_
        have r_5 : (-1) ≤ (v 23) ∧ (v 23) ≤ 3 := hok.1 23
        refine gi_cne (tgt := 152) hx hb dX11_hasSeen_20 (by decide) (by omega) (by omega) (fun c_6 => ?_) (fun c_6 => ?_)
        · refine lv_iinc (v := iI (x3 + 1)) (lv' := [(3, .int (iI (x3 + 1))), (0, .ref (ad 0)), (1, .int (iI a1)), (2, .int (iI a2))]) hx hb dX11_hasSeen_152 hl (k := 3) rfl (by show iI _ + iI 1 = _; rw [iI_add]) (by decide) rfl (fun ls hl => ?_)
          refine lv_goto (tgt := 2) hx hb dX11_hasSeen_155 (by decide) ?_
          exact ih_2 (x3 + 1) _ _ _ (by omega) (by omega) (by rw [cn_n (by omega) (decide_eq_false (fun h => by have h1 := h.1; have h2 := h.2; first | omega | (rw [show (f 34) a1 = x5 - a1 * 20 by omega, hJ] at h2; omega)))]; exact hI) hP hS (lv_sub hl [1, 2, 3, 0] rfl)
        · refine lv_aload_n hx hb dX11_hasSeen_23 rfl (lv_at hl 0 rfl) ?_
          refine mdG_which C hP mF_X11_100 dX11_hasSeen_24 ?_
          refine lv_iload_n hx hb dX11_hasSeen_27 rfl (lv_at hl 3 rfl) ?_
          refine mdL_which C hP (by omega) (by omega) dX11_hasSeen_28 ?_
          have r_7 : 0 ≤ (f 26 x3) ∧ (f 26 x3) ≤ 4 := hP.2.2 26 x3
          refine lv_iload_n hx hb dX11_hasSeen_29 rfl (lv_at hl 2 rfl) ?_
          refine gi_cne (tgt := 152) hx hb dX11_hasSeen_30 (by decide) (by omega) (by omega) (fun c_8 => ?_) (fun c_8 => ?_)
          · refine lv_iinc (v := iI (x3 + 1)) (lv' := [(3, .int (iI (x3 + 1))), (0, .ref (ad 0)), (1, .int (iI a1)), (2, .int (iI a2))]) hx hb dX11_hasSeen_152 hl (k := 3) rfl (by show iI _ + iI 1 = _; rw [iI_add]) (by decide) rfl (fun ls hl => ?_)
            refine lv_goto (tgt := 2) hx hb dX11_hasSeen_155 (by decide) ?_
            exact ih_2 (x3 + 1) _ _ _ (by omega) (by omega) (by rw [cn_n (by omega) (decide_eq_false (fun h => by have h1 := h.1; have h2 := h.2; first | omega | (rw [show (f 34) a1 = x5 - a1 * 20 by omega, hJ] at h2; omega)))]; exact hI) hP hS (lv_sub hl [1, 2, 3, 0] rfl)
          · refine lv_aload_n hx hb dX11_hasSeen_33 rfl (lv_at hl 0 rfl) ?_
            refine mdG_who C hP mF_X11_94 dX11_hasSeen_34 ?_
            refine lv_iload_n hx hb dX11_hasSeen_37 rfl (lv_at hl 3 rfl) ?_
            refine mdL_who C hP (by omega) (by omega) dX11_hasSeen_38 ?_
            have r_9 : 0 ≤ (f 24 x3) ∧ (f 24 x3) ≤ 15 := hP.2.2 24 x3
            refine lv_iload_n hx hb dX11_hasSeen_39 rfl (lv_at hl 1 rfl) ?_
            refine gi_cne (tgt := 46) hx hb dX11_hasSeen_40 (by decide) (by omega) (by omega) (fun c_10 => ?_) (fun c_10 => ?_)
            · refine lv_aload_n hx hb dX11_hasSeen_46 rfl (lv_at hl 0 rfl) ?_
              refine mdG_how C hP mF_X11_112 dX11_hasSeen_47 ?_
              refine lv_iload_n hx hb dX11_hasSeen_50 rfl (lv_at hl 3 rfl) ?_
              refine mdL_how C hP (by omega) (by omega) dX11_hasSeen_51 ?_
              have r_11 : 0 ≤ (f 30 x3) ∧ (f 30 x3) ≤ 4 := hP.2.2 30 x3
              refine gi_zne (tgt := 62) hx hb dX11_hasSeen_52 (by decide) (by omega) (fun c_12 => ?_) (fun c_12 => ?_)
              · refine lv_aload_n hx hb dX11_hasSeen_62 rfl (lv_at hl 0 rfl) ?_
                refine mdG_to C hP mF_X11_106 dX11_hasSeen_63 ?_
                refine lv_iload_n hx hb dX11_hasSeen_66 rfl (lv_at hl 3 rfl) ?_
                refine mdL_to C hP (by omega) (by omega) dX11_hasSeen_67 ?_
                have r_13 : (-1) ≤ (f 28 x3) ∧ (f 28 x3) ≤ 1000999 := hP.2.2 28 x3
                refine lv_istore (lv' := [(4, .int (iI (f 28 x3))), (0, .ref (ad 0)), (1, .int (iI a1)), (2, .int (iI a2)), (3, .int (iI x3))]) hx hb dX11_hasSeen_68 hl (by decide) rfl (fun ls hl => ?_)
                refine lv_bipush (v := iI 20) hx hb dX11_hasSeen_70 (by decide) ?_
                refine lv_iload_n hx hb dX11_hasSeen_72 rfl (lv_at hl 2 rfl) ?_
                refine gi_mul (z := (20 * a1)) hx hb dX11_hasSeen_73 rfl ?_
                refine lv_istore (lv' := [(5, .int (iI (20 * a1))), (4, .int (iI (f 28 x3))), (0, .ref (ad 0)), (1, .int (iI a1)), (2, .int (iI a2)), (3, .int (iI x3))]) hx hb dX11_hasSeen_74 hl (by decide) rfl (fun ls hl => ?_)
                have L_14 : ∀ (n : Nat) (x5 : Int) (H : Heap) (locs : List Loc) (ls : Array Slot), 20 * a1 + 20 - x5 < (n : Int) → (20 * a1 ≤ x5 ∧ x5 ≤ 20 * a1 + (f 34) a1) → (cn (pOu (f 35) (f 36) (v 24) a1 ((f 27) x3) (if (f 28) x3 = -1 then (v 24) else (f 28) x3)) (x5 - a1 * 20).toNat = 0) → gWd D (mdT k ad) v f g H → va_S A s.heap H locs → lv_has ls 7 [(0, .ref (ad 0)), (1, .int (iI a1)), (2, .int (iI a2)), (3, .int (iI x3)), (4, .int (iI (f 28 x3))), (5, .int (iI x5))] → W p l e (gRm 1 30) s m args below meth c H locs 0 0 Q (F0 m 76 ls []) := by
                  intro n
                  induction n with
                  | zero =>
                    intro x5 H locs ls hn_14 i14_0 i14_1 hP hS hl
                    exfalso; omega
                  | succ n ih_76 =>
                    intro x5 H locs ls hn_14 i14_0 i14_1 hP hS hl
                    have hJ := i14_1
                    have hlx : (f 28 x3) = (if (f 28) x3 = -1 then (v 24) else (f 28) x3) := by have h9 := hti x3 (by omega) (by omega); first | rw [if_pos (by omega)] | rw [if_neg (by omega)]
                    have hlf : (f 27) x3 ≤ (f 28 x3) := by have h9 := hti x3 (by omega) (by omega); omega
                    refine lv_iload hx hb dX11_hasSeen_76 (lv_at hl 5 rfl) ?_
                    refine lv_bipush (v := iI 20) hx hb dX11_hasSeen_78 (by decide) ?_
                    refine lv_iload_n hx hb dX11_hasSeen_80 rfl (lv_at hl 1 rfl) ?_
                    refine gi_mul (z := (20 * a1)) hx hb dX11_hasSeen_81 rfl ?_
                    refine lv_aload_n hx hb dX11_hasSeen_82 rfl (lv_at hl 0 rfl) ?_
                    refine mdG_outs C hP mF_X11_124 dX11_hasSeen_83 ?_
                    refine lv_iload_n hx hb dX11_hasSeen_86 rfl (lv_at hl 1 rfl) ?_
                    refine mdL_outs C hP (by omega) (by omega) dX11_hasSeen_87 ?_
                    have r_15 : 0 ≤ (f 34 a1) ∧ (f 34 a1) ≤ 20 := hP.2.2 34 a1
                    refine gi_add (z := ((20 * a1) + (f 34 a1))) hx hb dX11_hasSeen_88 rfl ?_
                    refine gi_cge (tgt := 152) hx hb dX11_hasSeen_89 (by decide) (by omega) (by omega) (fun c_16 => ?_) (fun c_16 => ?_)
                    · refine lv_iinc (v := iI (x3 + 1)) (lv' := [(3, .int (iI (x3 + 1))), (0, .ref (ad 0)), (1, .int (iI a1)), (2, .int (iI a2)), (4, .int (iI (f 28 x3))), (5, .int (iI x5))]) hx hb dX11_hasSeen_152 hl (k := 3) rfl (by show iI _ + iI 1 = _; rw [iI_add]) (by decide) rfl (fun ls hl => ?_)
                      refine lv_goto (tgt := 2) hx hb dX11_hasSeen_155 (by decide) ?_
                      exact ih_2 (x3 + 1) _ _ _ (by omega) (by omega) (by rw [cn_n (by omega) (decide_eq_false (fun h => by have h1 := h.1; have h2 := h.2; first | omega | (rw [show (f 34) a1 = x5 - a1 * 20 by omega, hJ] at h2; omega)))]; exact hI) hP hS (lv_sub hl [1, 2, 3, 0] rfl)
                    · have hw9 := hwi (x5 - a1 * 20) (by omega) (by omega)
                      rw [show a1 * 20 + (x5 - a1 * 20) = x5 by omega] at hw9
                      refine lv_aload_n hx hb dX11_hasSeen_92 rfl (lv_at hl 0 rfl) ?_
                      refine mdG_outTo C hP mF_X11_130 dX11_hasSeen_93 ?_
                      refine lv_iload hx hb dX11_hasSeen_96 (lv_at hl 5 rfl) ?_
                      refine mdL_outTo C hP (by omega) (by omega) dX11_hasSeen_98 ?_
                      have r_17 : (-1) ≤ (f 36 x5) ∧ (f 36 x5) ≤ 1000000 := hP.2.2 36 x5
                      refine gi_zge (tgt := 109) hx hb dX11_hasSeen_99 (by decide) (by omega) (fun c_18 => ?_) (fun c_18 => ?_)
                      · refine lv_aload_n hx hb dX11_hasSeen_109 rfl (lv_at hl 0 rfl) ?_
                        refine mdG_outTo C hP mF_X11_130 dX11_hasSeen_110 ?_
                        refine lv_iload hx hb dX11_hasSeen_113 (lv_at hl 5 rfl) ?_
                        refine mdL_outTo C hP (by omega) (by omega) dX11_hasSeen_115 ?_
                        refine lv_istore (lv' := [(6, .int (iI (f 36 x5))), (0, .ref (ad 0)), (1, .int (iI a1)), (2, .int (iI a2)), (3, .int (iI x3)), (4, .int (iI (f 28 x3))), (5, .int (iI x5))]) hx hb dX11_hasSeen_116 hl (by decide) rfl (fun ls hl => ?_)
                        refine lv_aload_n hx hb dX11_hasSeen_118 rfl (lv_at hl 1 rfl) ?_
                        refine mdG_from C hP mF_X11_103 dX11_hasSeen_119 ?_
                        refine lv_iload_n hx hb dX11_hasSeen_122 rfl (lv_at hl 4 rfl) ?_
                        refine mdL_from C hP (by omega) (by omega) dX11_hasSeen_123 ?_
                        have r_19 : 0 ≤ (f 27 x3) ∧ (f 27 x3) ≤ 1000000 := hP.2.2 27 x3
                        refine lv_aload_n hx hb dX11_hasSeen_124 rfl (lv_at hl 1 rfl) ?_
                        refine mdG_outFrom C hP mF_X11_127 dX11_hasSeen_125 ?_
                        refine lv_iload hx hb dX11_hasSeen_128 (lv_at hl 6 rfl) ?_
                        refine mdL_outFrom C hP (by omega) (by omega) dX11_hasSeen_130 ?_
                        have r_20 : 0 ≤ (f 35 x5) ∧ (f 35 x5) ≤ 1000000 := hP.2.2 35 x5
                        refine gi_max C hml hl.1 mM_X11_341 (by omega) (by omega) (Nat.le_of_ble_eq_true rfl) (Nat.le_of_ble_eq_true rfl) dX11_hasSeen_131 (fun x_21 hx_21 => ?_)
                        refine lv_iload hx hb dX11_hasSeen_134 (lv_at hl 5 rfl) ?_
                        refine lv_iload hx hb dX11_hasSeen_136 (lv_at hl 0 rfl) ?_
                        refine gi_min C hml hl.1 mM_X11_346 (by omega) (by omega) (Nat.le_of_ble_eq_true rfl) (Nat.le_of_ble_eq_true rfl) dX11_hasSeen_138 (fun x_22 hx_22 => ?_)
                        refine gi_cgt (tgt := 146) hx hb dX11_hasSeen_141 (by decide) (by omega) (by omega) (fun c_23 => ?_) (fun c_23 => ?_)
                        · refine lv_iinc (v := iI (x5 + 1)) (lv' := [(5, .int (iI (x5 + 1))), (6, .int (iI (f 36 x5))), (0, .ref (ad 0)), (1, .int (iI a1)), (2, .int (iI a2)), (3, .int (iI x3)), (4, .int (iI (f 28 x3)))]) hx hb dX11_hasSeen_146 hl (k := 6) rfl (by show iI _ + iI 1 = _; rw [iI_add]) (by decide) rfl (fun ls hl => ?_)
                          refine lv_goto (tgt := 76) hx hb dX11_hasSeen_149 (by decide) ?_
                          exact ih_76 (x5 + 1) _ _ _ (by omega) (by omega) (ou_n hJ (by omega) (by first | rw [if_pos (by omega)] | rw [if_neg (by omega)]) (by omega)) hP hS (lv_sub hl [2, 3, 4, 5, 6, 0] rfl)
                        · refine lv_iconst (v := iI 1) hx hb dX11_hasSeen_144 rfl ?_
                          exact g_zret hQ C hr hlocks (by decide) hP hS dX11_hasSeen_145 ⟨1, rfl, rfl, rfl, rfl, (by first | (rw [if_pos (cn_hi (x := x3) (by omega) (by omega) (decide_eq_true ⟨by omega, ou_y (x := x5) (by omega) (by omega) (by first | rw [if_pos (by omega)] | rw [if_neg (by omega)]) (by omega)⟩))]) | (rw [if_neg (by rw [show (v 25) = x3 by omega, hI]; decide)]))⟩
                      · refine lv_aload_n hx hb dX11_hasSeen_102 rfl (lv_at hl 0 rfl) ?_
                        refine mdG_now C hP mF_X11_316 dX11_hasSeen_103 ?_
                        have r_24 : 0 ≤ (v 24) ∧ (v 24) ≤ 1000000 := hok.1 24
                        refine lv_goto (tgt := 116) hx hb dX11_hasSeen_106 (by decide) ?_
                        refine lv_istore (lv' := [(6, .int (iI (v 24))), (0, .ref (ad 0)), (1, .int (iI a1)), (2, .int (iI a2)), (3, .int (iI x3)), (4, .int (iI (f 28 x3))), (5, .int (iI x5))]) hx hb dX11_hasSeen_116 hl (by decide) rfl (fun ls hl => ?_)
                        refine lv_aload_n hx hb dX11_hasSeen_118 rfl (lv_at hl 1 rfl) ?_
                        refine mdG_from C hP mF_X11_103 dX11_hasSeen_119 ?_
                        refine lv_iload_n hx hb dX11_hasSeen_122 rfl (lv_at hl 4 rfl) ?_
                        refine mdL_from C hP (by omega) (by omega) dX11_hasSeen_123 ?_
                        have r_25 : 0 ≤ (f 27 x3) ∧ (f 27 x3) ≤ 1000000 := hP.2.2 27 x3
                        refine lv_aload_n hx hb dX11_hasSeen_124 rfl (lv_at hl 1 rfl) ?_
                        refine mdG_outFrom C hP mF_X11_127 dX11_hasSeen_125 ?_
                        refine lv_iload hx hb dX11_hasSeen_128 (lv_at hl 6 rfl) ?_
                        refine mdL_outFrom C hP (by omega) (by omega) dX11_hasSeen_130 ?_
                        have r_26 : 0 ≤ (f 35 x5) ∧ (f 35 x5) ≤ 1000000 := hP.2.2 35 x5
                        refine gi_max C hml hl.1 mM_X11_341 (by omega) (by omega) (Nat.le_of_ble_eq_true rfl) (Nat.le_of_ble_eq_true rfl) dX11_hasSeen_131 (fun x_27 hx_27 => ?_)
                        refine lv_iload hx hb dX11_hasSeen_134 (lv_at hl 5 rfl) ?_
                        refine lv_iload hx hb dX11_hasSeen_136 (lv_at hl 0 rfl) ?_
                        refine gi_min C hml hl.1 mM_X11_346 (by omega) (by omega) (Nat.le_of_ble_eq_true rfl) (Nat.le_of_ble_eq_true rfl) dX11_hasSeen_138 (fun x_28 hx_28 => ?_)
                        refine gi_cgt (tgt := 146) hx hb dX11_hasSeen_141 (by decide) (by omega) (by omega) (fun c_29 => ?_) (fun c_29 => ?_)
                        · refine lv_iinc (v := iI (x5 + 1)) (lv' := [(5, .int (iI (x5 + 1))), (6, .int (iI (v 24))), (0, .ref (ad 0)), (1, .int (iI a1)), (2, .int (iI a2)), (3, .int (iI x3)), (4, .int (iI (f 28 x3)))]) hx hb dX11_hasSeen_146 hl (k := 6) rfl (by show iI _ + iI 1 = _; rw [iI_add]) (by decide) rfl (fun ls hl => ?_)
                          refine lv_goto (tgt := 76) hx hb dX11_hasSeen_149 (by decide) ?_
                          exact ih_76 (x5 + 1) _ _ _ (by omega) (by omega) (ou_n hJ (by omega) (by first | rw [if_pos (by omega)] | rw [if_neg (by omega)]) (by omega)) hP hS (lv_sub hl [2, 3, 4, 5, 6, 0] rfl)
                        · refine lv_iconst (v := iI 1) hx hb dX11_hasSeen_144 rfl ?_
                          exact g_zret hQ C hr hlocks (by decide) hP hS dX11_hasSeen_145 ⟨1, rfl, rfl, rfl, rfl, (by first | (rw [if_pos (cn_hi (x := x3) (by omega) (by omega) (decide_eq_true ⟨by omega, ou_y (x := x5) (by omega) (by omega) (by first | rw [if_pos (by omega)] | rw [if_neg (by omega)]) (by omega)⟩))]) | (rw [if_neg (by rw [show (v 25) = x3 by omega, hI]; decide)]))⟩
                exact L_14 21 (20 * a1) _ _ _ (by omega) (by omega) (by rw [show 20 * a1 - a1 * 20 = 0 by omega]; rfl) hP hS (lv_sub hl [2, 3, 4, 5, 1, 0] rfl)
              · refine lv_aload_n hx hb dX11_hasSeen_55 rfl (lv_at hl 0 rfl) ?_
                refine mdG_now C hP mF_X11_316 dX11_hasSeen_56 ?_
                have r_30 : 0 ≤ (v 24) ∧ (v 24) ≤ 1000000 := hok.1 24
                refine lv_goto (tgt := 68) hx hb dX11_hasSeen_59 (by decide) ?_
                refine lv_istore (lv' := [(4, .int (iI (v 24))), (0, .ref (ad 0)), (1, .int (iI a1)), (2, .int (iI a2)), (3, .int (iI x3))]) hx hb dX11_hasSeen_68 hl (by decide) rfl (fun ls hl => ?_)
                refine lv_bipush (v := iI 20) hx hb dX11_hasSeen_70 (by decide) ?_
                refine lv_iload_n hx hb dX11_hasSeen_72 rfl (lv_at hl 2 rfl) ?_
                refine gi_mul (z := (20 * a1)) hx hb dX11_hasSeen_73 rfl ?_
                refine lv_istore (lv' := [(5, .int (iI (20 * a1))), (4, .int (iI (v 24))), (0, .ref (ad 0)), (1, .int (iI a1)), (2, .int (iI a2)), (3, .int (iI x3))]) hx hb dX11_hasSeen_74 hl (by decide) rfl (fun ls hl => ?_)
                have L_31 : ∀ (n : Nat) (x5 : Int) (H : Heap) (locs : List Loc) (ls : Array Slot), 20 * a1 + 20 - x5 < (n : Int) → (20 * a1 ≤ x5 ∧ x5 ≤ 20 * a1 + (f 34) a1) → (cn (pOu (f 35) (f 36) (v 24) a1 ((f 27) x3) (if (f 28) x3 = -1 then (v 24) else (f 28) x3)) (x5 - a1 * 20).toNat = 0) → gWd D (mdT k ad) v f g H → va_S A s.heap H locs → lv_has ls 7 [(0, .ref (ad 0)), (1, .int (iI a1)), (2, .int (iI a2)), (3, .int (iI x3)), (4, .int (iI (v 24))), (5, .int (iI x5))] → W p l e (gRm 1 30) s m args below meth c H locs 0 0 Q (F0 m 76 ls []) := by
                  intro n
                  induction n with
                  | zero =>
                    intro x5 H locs ls hn_31 i31_0 i31_1 hP hS hl
                    exfalso; omega
                  | succ n ih_76 =>
                    intro x5 H locs ls hn_31 i31_0 i31_1 hP hS hl
                    have hJ := i31_1
                    have hlx : (v 24) = (if (f 28) x3 = -1 then (v 24) else (f 28) x3) := by have h9 := hti x3 (by omega) (by omega); first | rw [if_pos (by omega)] | rw [if_neg (by omega)]
                    have hlf : (f 27) x3 ≤ (v 24) := by have h9 := hti x3 (by omega) (by omega); omega
                    refine lv_iload hx hb dX11_hasSeen_76 (lv_at hl 5 rfl) ?_
                    refine lv_bipush (v := iI 20) hx hb dX11_hasSeen_78 (by decide) ?_
                    refine lv_iload_n hx hb dX11_hasSeen_80 rfl (lv_at hl 1 rfl) ?_
                    refine gi_mul (z := (20 * a1)) hx hb dX11_hasSeen_81 rfl ?_
                    refine lv_aload_n hx hb dX11_hasSeen_82 rfl (lv_at hl 0 rfl) ?_
                    refine mdG_outs C hP mF_X11_124 dX11_hasSeen_83 ?_
                    refine lv_iload_n hx hb dX11_hasSeen_86 rfl (lv_at hl 1 rfl) ?_
                    refine mdL_outs C hP (by omega) (by omega) dX11_hasSeen_87 ?_
                    have r_32 : 0 ≤ (f 34 a1) ∧ (f 34 a1) ≤ 20 := hP.2.2 34 a1
                    refine gi_add (z := ((20 * a1) + (f 34 a1))) hx hb dX11_hasSeen_88 rfl ?_
                    refine gi_cge (tgt := 152) hx hb dX11_hasSeen_89 (by decide) (by omega) (by omega) (fun c_33 => ?_) (fun c_33 => ?_)
                    · refine lv_iinc (v := iI (x3 + 1)) (lv' := [(3, .int (iI (x3 + 1))), (0, .ref (ad 0)), (1, .int (iI a1)), (2, .int (iI a2)), (4, .int (iI (v 24))), (5, .int (iI x5))]) hx hb dX11_hasSeen_152 hl (k := 3) rfl (by show iI _ + iI 1 = _; rw [iI_add]) (by decide) rfl (fun ls hl => ?_)
                      refine lv_goto (tgt := 2) hx hb dX11_hasSeen_155 (by decide) ?_
                      exact ih_2 (x3 + 1) _ _ _ (by omega) (by omega) (by rw [cn_n (by omega) (decide_eq_false (fun h => by have h1 := h.1; have h2 := h.2; first | omega | (rw [show (f 34) a1 = x5 - a1 * 20 by omega, hJ] at h2; omega)))]; exact hI) hP hS (lv_sub hl [1, 2, 3, 0] rfl)
                    · have hw9 := hwi (x5 - a1 * 20) (by omega) (by omega)
                      rw [show a1 * 20 + (x5 - a1 * 20) = x5 by omega] at hw9
                      refine lv_aload_n hx hb dX11_hasSeen_92 rfl (lv_at hl 0 rfl) ?_
                      refine mdG_outTo C hP mF_X11_130 dX11_hasSeen_93 ?_
                      refine lv_iload hx hb dX11_hasSeen_96 (lv_at hl 5 rfl) ?_
                      refine mdL_outTo C hP (by omega) (by omega) dX11_hasSeen_98 ?_
                      have r_34 : (-1) ≤ (f 36 x5) ∧ (f 36 x5) ≤ 1000000 := hP.2.2 36 x5
                      refine gi_zge (tgt := 109) hx hb dX11_hasSeen_99 (by decide) (by omega) (fun c_35 => ?_) (fun c_35 => ?_)
                      · refine lv_aload_n hx hb dX11_hasSeen_109 rfl (lv_at hl 0 rfl) ?_
                        refine mdG_outTo C hP mF_X11_130 dX11_hasSeen_110 ?_
                        refine lv_iload hx hb dX11_hasSeen_113 (lv_at hl 5 rfl) ?_
                        refine mdL_outTo C hP (by omega) (by omega) dX11_hasSeen_115 ?_
                        refine lv_istore (lv' := [(6, .int (iI (f 36 x5))), (0, .ref (ad 0)), (1, .int (iI a1)), (2, .int (iI a2)), (3, .int (iI x3)), (4, .int (iI (v 24))), (5, .int (iI x5))]) hx hb dX11_hasSeen_116 hl (by decide) rfl (fun ls hl => ?_)
                        refine lv_aload_n hx hb dX11_hasSeen_118 rfl (lv_at hl 1 rfl) ?_
                        refine mdG_from C hP mF_X11_103 dX11_hasSeen_119 ?_
                        refine lv_iload_n hx hb dX11_hasSeen_122 rfl (lv_at hl 4 rfl) ?_
                        refine mdL_from C hP (by omega) (by omega) dX11_hasSeen_123 ?_
                        have r_36 : 0 ≤ (f 27 x3) ∧ (f 27 x3) ≤ 1000000 := hP.2.2 27 x3
                        refine lv_aload_n hx hb dX11_hasSeen_124 rfl (lv_at hl 1 rfl) ?_
                        refine mdG_outFrom C hP mF_X11_127 dX11_hasSeen_125 ?_
                        refine lv_iload hx hb dX11_hasSeen_128 (lv_at hl 6 rfl) ?_
                        refine mdL_outFrom C hP (by omega) (by omega) dX11_hasSeen_130 ?_
                        have r_37 : 0 ≤ (f 35 x5) ∧ (f 35 x5) ≤ 1000000 := hP.2.2 35 x5
                        refine gi_max C hml hl.1 mM_X11_341 (by omega) (by omega) (Nat.le_of_ble_eq_true rfl) (Nat.le_of_ble_eq_true rfl) dX11_hasSeen_131 (fun x_38 hx_38 => ?_)
                        refine lv_iload hx hb dX11_hasSeen_134 (lv_at hl 5 rfl) ?_
                        refine lv_iload hx hb dX11_hasSeen_136 (lv_at hl 0 rfl) ?_
                        refine gi_min C hml hl.1 mM_X11_346 (by omega) (by omega) (Nat.le_of_ble_eq_true rfl) (Nat.le_of_ble_eq_true rfl) dX11_hasSeen_138 (fun x_39 hx_39 => ?_)
                        refine gi_cgt (tgt := 146) hx hb dX11_hasSeen_141 (by decide) (by omega) (by omega) (fun c_40 => ?_) (fun c_40 => ?_)
                        · refine lv_iinc (v := iI (x5 + 1)) (lv' := [(5, .int (iI (x5 + 1))), (6, .int (iI (f 36 x5))), (0, .ref (ad 0)), (1, .int (iI a1)), (2, .int (iI a2)), (3, .int (iI x3)), (4, .int (iI (v 24)))]) hx hb dX11_hasSeen_146 hl (k := 6) rfl (by show iI _ + iI 1 = _; rw [iI_add]) (by decide) rfl (fun ls hl => ?_)
                          refine lv_goto (tgt := 76) hx hb dX11_hasSeen_149 (by decide) ?_
                          exact ih_76 (x5 + 1) _ _ _ (by omega) (by omega) (ou_n hJ (by omega) (by first | rw [if_pos (by omega)] | rw [if_neg (by omega)]) (by omega)) hP hS (lv_sub hl [2, 3, 4, 5, 6, 0] rfl)
                        · refine lv_iconst (v := iI 1) hx hb dX11_hasSeen_144 rfl ?_
                          exact g_zret hQ C hr hlocks (by decide) hP hS dX11_hasSeen_145 ⟨1, rfl, rfl, rfl, rfl, (by first | (rw [if_pos (cn_hi (x := x3) (by omega) (by omega) (decide_eq_true ⟨by omega, ou_y (x := x5) (by omega) (by omega) (by first | rw [if_pos (by omega)] | rw [if_neg (by omega)]) (by omega)⟩))]) | (rw [if_neg (by rw [show (v 25) = x3 by omega, hI]; decide)]))⟩
                      · refine lv_aload_n hx hb dX11_hasSeen_102 rfl (lv_at hl 0 rfl) ?_
                        refine mdG_now C hP mF_X11_316 dX11_hasSeen_103 ?_
                        refine lv_goto (tgt := 116) hx hb dX11_hasSeen_106 (by decide) ?_
                        refine lv_istore (lv' := [(6, .int (iI (v 24))), (0, .ref (ad 0)), (1, .int (iI a1)), (2, .int (iI a2)), (3, .int (iI x3)), (4, .int (iI (v 24))), (5, .int (iI x5))]) hx hb dX11_hasSeen_116 hl (by decide) rfl (fun ls hl => ?_)
                        refine lv_aload_n hx hb dX11_hasSeen_118 rfl (lv_at hl 1 rfl) ?_
                        refine mdG_from C hP mF_X11_103 dX11_hasSeen_119 ?_
                        refine lv_iload_n hx hb dX11_hasSeen_122 rfl (lv_at hl 4 rfl) ?_
                        refine mdL_from C hP (by omega) (by omega) dX11_hasSeen_123 ?_
                        have r_41 : 0 ≤ (f 27 x3) ∧ (f 27 x3) ≤ 1000000 := hP.2.2 27 x3
                        refine lv_aload_n hx hb dX11_hasSeen_124 rfl (lv_at hl 1 rfl) ?_
                        refine mdG_outFrom C hP mF_X11_127 dX11_hasSeen_125 ?_
                        refine lv_iload hx hb dX11_hasSeen_128 (lv_at hl 6 rfl) ?_
                        refine mdL_outFrom C hP (by omega) (by omega) dX11_hasSeen_130 ?_
                        have r_42 : 0 ≤ (f 35 x5) ∧ (f 35 x5) ≤ 1000000 := hP.2.2 35 x5
                        refine gi_max C hml hl.1 mM_X11_341 (by omega) (by omega) (Nat.le_of_ble_eq_true rfl) (Nat.le_of_ble_eq_true rfl) dX11_hasSeen_131 (fun x_43 hx_43 => ?_)
                        refine lv_iload hx hb dX11_hasSeen_134 (lv_at hl 5 rfl) ?_
                        refine lv_iload hx hb dX11_hasSeen_136 (lv_at hl 0 rfl) ?_
                        refine gi_min C hml hl.1 mM_X11_346 (by omega) (by omega) (Nat.le_of_ble_eq_true rfl) (Nat.le_of_ble_eq_true rfl) dX11_hasSeen_138 (fun x_44 hx_44 => ?_)
                        refine gi_cgt (tgt := 146) hx hb dX11_hasSeen_141 (by decide) (by omega) (by omega) (fun c_45 => ?_) (fun c_45 => ?_)
                        · refine lv_iinc (v := iI (x5 + 1)) (lv' := [(5, .int (iI (x5 + 1))), (6, .int (iI (v 24))), (0, .ref (ad 0)), (1, .int (iI a1)), (2, .int (iI a2)), (3, .int (iI x3)), (4, .int (iI (v 24)))]) hx hb dX11_hasSeen_146 hl (k := 6) rfl (by show iI _ + iI 1 = _; rw [iI_add]) (by decide) rfl (fun ls hl => ?_)
                          refine lv_goto (tgt := 76) hx hb dX11_hasSeen_149 (by decide) ?_
                          exact ih_76 (x5 + 1) _ _ _ (by omega) (by omega) (ou_n hJ (by omega) (by first | rw [if_pos (by omega)] | rw [if_neg (by omega)]) (by omega)) hP hS (lv_sub hl [2, 3, 4, 5, 6, 0] rfl)
                        · refine lv_iconst (v := iI 1) hx hb dX11_hasSeen_144 rfl ?_
                          exact g_zret hQ C hr hlocks (by decide) hP hS dX11_hasSeen_145 ⟨1, rfl, rfl, rfl, rfl, (by first | (rw [if_pos (cn_hi (x := x3) (by omega) (by omega) (decide_eq_true ⟨by omega, ou_y (x := x5) (by omega) (by omega) (by first | rw [if_pos (by omega)] | rw [if_neg (by omega)]) (by omega)⟩))]) | (rw [if_neg (by rw [show (v 25) = x3 by omega, hI]; decide)]))⟩
                exact L_31 21 (20 * a1) _ _ _ (by omega) (by omega) (by rw [show 20 * a1 - a1 * 20 = 0 by omega]; rfl) hP hS (lv_sub hl [2, 3, 4, 5, 1, 0] rfl)
            · refine lv_goto (tgt := 152) hx hb dX11_hasSeen_43 (by decide) ?_
              refine lv_iinc (v := iI (x3 + 1)) (lv' := [(3, .int (iI (x3 + 1))), (0, .ref (ad 0)), (1, .int (iI a1)), (2, .int (iI a2))]) hx hb dX11_hasSeen_152 hl (k := 3) rfl (by show iI _ + iI 1 = _; rw [iI_add]) (by decide) rfl (fun ls hl => ?_)
              refine lv_goto (tgt := 2) hx hb dX11_hasSeen_155 (by decide) ?_
              exact ih_2 (x3 + 1) _ _ _ (by omega) (by omega) (by rw [cn_n (by omega) (decide_eq_false (fun h => by have h1 := h.1; have h2 := h.2; first | omega | (rw [show (f 34) a1 = x5 - a1 * 20 by omega, hJ] at h2; omega)))]; exact hI) hP hS (lv_sub hl [1, 2, 3, 0] rfl)
  exact L_2 301 0 _ _ _ (by omega) (by omega) rfl hP hS (lv_sub hl [1, 2, 3, 0] rfl)

set_option maxHeartbeats 4000000 in
set_option maxRecDepth 100000 in
theorem y_readyAt (l : Launch) (D : va_G) (k : Nat → ClassId) (A : Nat → Prop) (ad : Nat → Nat) (hD : mdD A k ad) (v : gV) (f g : gF) (a1 : Int) (h_a1 : inR a1) (hti : TI (v 25) (v 24) (f 27) (f 28) (f 30)) : GM l D k A (mdT k ad) yX11_readyAt cX11_readyAt 4 (some .int) 1 30 [.ref (ad 0), .int (iI a1)] v f g (fun r v1 f1 g1 => ∃ (z : Int), r = some (.int (iI z)) ∧ v = v1 ∧ f = f1 ∧ g = g1 ∧ (z = (rsF (mxE (f 24) (f 25) (f 28) a1 (v 23) (v 25).toNat) ((f 4) (v 23)))) ∧ (0 ≤ z ∧ z ≤ 1001998)) := by
  refine GM.of (by decide) (Nat.le_of_ble_eq_true rfl) ?_
  intro p e s m args below meth c Q ls hQ C hml hr hlocks hP hl
  have hx := C.1
  have hb := C.2.1
  have hok := hP.2
  have hS : va_S A s.heap s.heap [] := va_S.rf
  have hl : lv_has ls 4 [(0, .ref (ad 0)), (1, .int (iI a1))] := hl
  have r_1 : 0 ≤ (v 25) ∧ (v 25) ≤ 300 := hok.1 25
  refine lv_iconst (v := iI 0) hx hb dX11_readyAt_0 rfl ?_
  refine lv_istore_n (lv' := [(2, .int (iI 0)), (0, .ref (ad 0)), (1, .int (iI a1))]) hx hb dX11_readyAt_1 rfl hl (by decide) rfl (fun ls hl => ?_)
  refine lv_iconst (v := iI 0) hx hb dX11_readyAt_2 rfl ?_
  refine lv_istore_n (lv' := [(3, .int (iI 0)), (2, .int (iI 0)), (0, .ref (ad 0)), (1, .int (iI a1))]) hx hb dX11_readyAt_3 rfl hl (by decide) rfl (fun ls hl => ?_)
  have L_2 : ∀ (n : Nat) (x2 : Int) (x3 : Int) (H : Heap) (locs : List Loc) (ls : Array Slot), 300 - x3 < (n : Int) → (0 ≤ x3 ∧ x3 ≤ (v 25)) → (0 ≤ x2 ∧ x2 ≤ 1001998) → (x2 = rsF (mxE (f 24) (f 25) (f 28) a1 (v 23) x3.toNat) ((f 4) (v 23))) → gWd D (mdT k ad) v f g H → va_S A s.heap H locs → lv_has ls 4 [(0, .ref (ad 0)), (1, .int (iI a1)), (2, .int (iI x2)), (3, .int (iI x3))] → W p l e (gRm 1 30) s m args below meth c H locs 0 0 Q (F0 m 4 ls []) := by
    intro n
    induction n with
    | zero =>
      intro x2 x3 H locs ls hn_2 i2_0 i2_1 i2_2 hP hS hl
      exfalso; omega
    | succ n ih_4 =>
      intro x2 x3 H locs ls hn_2 i2_0 i2_1 i2_2 hP hS hl
      have hI := i2_2
      unfold rsF at hI
      have hmr := mxE_r (wh := (f 24)) (rd := (f 25)) (en := (f 28)) (c := a1) (r := (v 23)) (hok.2 28) x3.toNat
      have hrr : 0 ≤ (f 4) (v 23) ∧ (f 4) (v 23) ≤ 999 := hok.2 4 _
      refine lv_iload_n hx hb dX11_readyAt_4 rfl (lv_at hl 3 rfl) ?_
      refine lv_aload_n hx hb dX11_readyAt_5 rfl (lv_at hl 0 rfl) ?_
      refine mdG_tried C hP mF_X11_319 dX11_readyAt_6 ?_
      refine gi_cge (tgt := 71) hx hb dX11_readyAt_9 (by decide) (by omega) (by omega) (fun c_3 => ?_) (fun c_3 => ?_)
      · refine lv_iload_n hx hb dX11_readyAt_71 rfl (lv_at hl 2 rfl) ?_
        exact g_iret hQ C hr hlocks hP hS dX11_readyAt_72 ⟨x2, rfl, rfl, rfl, rfl, (by rw [show (v 25) = x3 by omega]; unfold rsF; exact hI), (by first | omega | ((repeat' split) <;> omega))⟩
      · refine lv_aload_n hx hb dX11_readyAt_12 rfl (lv_at hl 0 rfl) ?_
        refine mdG_who C hP mF_X11_94 dX11_readyAt_13 ?_
        refine lv_iload_n hx hb dX11_readyAt_16 rfl (lv_at hl 3 rfl) ?_
        refine mdL_who C hP (by omega) (by omega) dX11_readyAt_17 ?_
        have r_4 : 0 ≤ (f 24 x3) ∧ (f 24 x3) ≤ 15 := hP.2.2 24 x3
        refine lv_iload_n hx hb dX11_readyAt_18 rfl (lv_at hl 1 rfl) ?_
        refine gi_cne (tgt := 65) hx hb dX11_readyAt_19 (by decide) (by omega) (by omega) (fun c_5 => ?_) (fun c_5 => ?_)
        · refine lv_iinc (v := iI (x3 + 1)) (lv' := [(3, .int (iI (x3 + 1))), (0, .ref (ad 0)), (1, .int (iI a1)), (2, .int (iI x2))]) hx hb dX11_readyAt_65 hl (k := 3) rfl (by show iI _ + iI 1 = _; rw [iI_add]) (by decide) rfl (fun ls hl => ?_)
          refine lv_goto (tgt := 4) hx hb dX11_readyAt_68 (by decide) ?_
          exact ih_4 x2 (x3 + 1) _ _ _ (by omega) (by omega) (by omega) (by have h9 := hti x3 (by omega) (by omega); unfold rsF; rw [mxE_s (by omega)]; (repeat' split) <;> omega) hP hS (lv_sub hl [1, 2, 3, 0] rfl)
        · refine lv_aload_n hx hb dX11_readyAt_22 rfl (lv_at hl 0 rfl) ?_
          refine mdG_where C hP mF_X11_97 dX11_readyAt_23 ?_
          refine lv_iload_n hx hb dX11_readyAt_26 rfl (lv_at hl 3 rfl) ?_
          refine mdL_where C hP (by omega) (by omega) dX11_readyAt_27 ?_
          have r_6 : 0 ≤ (f 25 x3) ∧ (f 25 x3) ≤ 3 := hP.2.2 25 x3
          refine lv_aload_n hx hb dX11_readyAt_28 rfl (lv_at hl 0 rfl) ?_
          refine mdG_open C hP mF_X11_82 dX11_readyAt_29 ?_
          have r_7 : (-1) ≤ (v 23) ∧ (v 23) ≤ 3 := hok.1 23
          refine gi_cne (tgt := 65) hx hb dX11_readyAt_32 (by decide) (by omega) (by omega) (fun c_8 => ?_) (fun c_8 => ?_)
          · refine lv_iinc (v := iI (x3 + 1)) (lv' := [(3, .int (iI (x3 + 1))), (0, .ref (ad 0)), (1, .int (iI a1)), (2, .int (iI x2))]) hx hb dX11_readyAt_65 hl (k := 3) rfl (by show iI _ + iI 1 = _; rw [iI_add]) (by decide) rfl (fun ls hl => ?_)
            refine lv_goto (tgt := 4) hx hb dX11_readyAt_68 (by decide) ?_
            exact ih_4 x2 (x3 + 1) _ _ _ (by omega) (by omega) (by omega) (by have h9 := hti x3 (by omega) (by omega); unfold rsF; rw [mxE_s (by omega)]; (repeat' split) <;> omega) hP hS (lv_sub hl [1, 2, 3, 0] rfl)
          · refine lv_aload_n hx hb dX11_readyAt_35 rfl (lv_at hl 0 rfl) ?_
            refine mdG_how C hP mF_X11_112 dX11_readyAt_36 ?_
            refine lv_iload_n hx hb dX11_readyAt_39 rfl (lv_at hl 3 rfl) ?_
            refine mdL_how C hP (by omega) (by omega) dX11_readyAt_40 ?_
            have r_9 : 0 ≤ (f 30 x3) ∧ (f 30 x3) ≤ 4 := hP.2.2 30 x3
            refine gi_zeq (tgt := 65) hx hb dX11_readyAt_41 (by decide) (by omega) (fun c_10 => ?_) (fun c_10 => ?_)
            · refine lv_iinc (v := iI (x3 + 1)) (lv' := [(3, .int (iI (x3 + 1))), (0, .ref (ad 0)), (1, .int (iI a1)), (2, .int (iI x2))]) hx hb dX11_readyAt_65 hl (k := 3) rfl (by show iI _ + iI 1 = _; rw [iI_add]) (by decide) rfl (fun ls hl => ?_)
              refine lv_goto (tgt := 4) hx hb dX11_readyAt_68 (by decide) ?_
              exact ih_4 x2 (x3 + 1) _ _ _ (by omega) (by omega) (by omega) (by have h9 := hti x3 (by omega) (by omega); unfold rsF; rw [mxE_s (by omega)]; (repeat' split) <;> omega) hP hS (lv_sub hl [1, 2, 3, 0] rfl)
            · refine lv_iload_n hx hb dX11_readyAt_44 rfl (lv_at hl 2 rfl) ?_
              refine lv_aload_n hx hb dX11_readyAt_45 rfl (lv_at hl 0 rfl) ?_
              refine mdG_to C hP mF_X11_106 dX11_readyAt_46 ?_
              refine lv_iload_n hx hb dX11_readyAt_49 rfl (lv_at hl 3 rfl) ?_
              refine mdL_to C hP (by omega) (by omega) dX11_readyAt_50 ?_
              have r_11 : (-1) ≤ (f 28 x3) ∧ (f 28 x3) ≤ 1000999 := hP.2.2 28 x3
              refine lv_aload_n hx hb dX11_readyAt_51 rfl (lv_at hl 0 rfl) ?_
              refine mdG_rest C hP mF_X11_30 dX11_readyAt_52 ?_
              refine lv_aload_n hx hb dX11_readyAt_55 rfl (lv_at hl 0 rfl) ?_
              refine mdG_open C hP mF_X11_82 dX11_readyAt_56 ?_
              refine mdL_rest C hP (by omega) (by omega) dX11_readyAt_59 ?_
              have r_12 : 0 ≤ (f 4 (v 23)) ∧ (f 4 (v 23)) ≤ 999 := hP.2.2 4 (v 23)
              refine gi_add (z := ((f 28 x3) + (f 4 (v 23)))) hx hb dX11_readyAt_60 rfl ?_
              refine gi_max C hml hl.1 mM_X11_341 (by omega) (by omega) (Nat.le_of_ble_eq_true rfl) (Nat.le_of_ble_eq_true rfl) dX11_readyAt_61 (fun x_13 hx_13 => ?_)
              refine lv_istore_n (lv' := [(2, .int (iI x_13)), (0, .ref (ad 0)), (1, .int (iI a1)), (3, .int (iI x3))]) hx hb dX11_readyAt_64 rfl hl (by decide) rfl (fun ls hl => ?_)
              refine lv_iinc (v := iI (x3 + 1)) (lv' := [(3, .int (iI (x3 + 1))), (2, .int (iI x_13)), (0, .ref (ad 0)), (1, .int (iI a1))]) hx hb dX11_readyAt_65 hl (k := 3) rfl (by show iI _ + iI 1 = _; rw [iI_add]) (by decide) rfl (fun ls hl => ?_)
              refine lv_goto (tgt := 4) hx hb dX11_readyAt_68 (by decide) ?_
              exact ih_4 x_13 (x3 + 1) _ _ _ (by omega) (by omega) (by omega) (by have h9 := hti x3 (by omega) (by omega); unfold rsF; rw [mxE_s (by omega)]; (repeat' split) <;> omega) hP hS (lv_sub hl [2, 3, 1, 0] rfl)
  exact L_2 301 0 0 _ _ _ (by omega) (by omega) (by omega) rfl hP hS (lv_sub hl [2, 3, 1, 0] rfl)
end
