section
theorem dG_dX10_status_0 : (decode cX10_status 0 = .ok (.aload_n 0, 1)) ∧ (decode cX10_status 1 = .ok (.getfield 71, 3)) ∧ (decode cX10_status 4 = .ok (.ireturn, 1)) ∧ (decode cX10_feed 0 = .ok (.aload_n 0, 1)) ∧ (decode cX10_feed 1 = .ok (.getfield 81, 3)) ∧ (decode cX10_feed 4 = .ok (.bipush 20, 2)) ∧ (decode cX10_feed 6 = .ok (.iadd, 1)) ∧ (decode cX10_feed 7 = .ok (.sipush 700, 3)) ∧ (decode cX10_feed 10 = .ok (.if_icmp .le 5, 3)) ∧ (decode cX10_feed 13 = .ok (.iconst (-1), 1)) ∧ (decode cX10_feed 14 = .ok (.ireturn, 1)) ∧ (decode cX10_feed 15 = .ok (.aload_n 0, 1)) := by decide +kernel
theorem dX10_status_0 : decode cX10_status 0 = .ok (.aload_n 0, 1) := dG_dX10_status_0.1
theorem dX10_status_1 : decode cX10_status 1 = .ok (.getfield 71, 3) := dG_dX10_status_0.2.1
theorem dX10_status_4 : decode cX10_status 4 = .ok (.ireturn, 1) := dG_dX10_status_0.2.2.1
theorem dX10_feed_0 : decode cX10_feed 0 = .ok (.aload_n 0, 1) := dG_dX10_status_0.2.2.2.1
theorem dX10_feed_1 : decode cX10_feed 1 = .ok (.getfield 81, 3) := dG_dX10_status_0.2.2.2.2.1
theorem dX10_feed_4 : decode cX10_feed 4 = .ok (.bipush 20, 2) := dG_dX10_status_0.2.2.2.2.2.1
theorem dX10_feed_6 : decode cX10_feed 6 = .ok (.iadd, 1) := dG_dX10_status_0.2.2.2.2.2.2.1
theorem dX10_feed_7 : decode cX10_feed 7 = .ok (.sipush 700, 3) := dG_dX10_status_0.2.2.2.2.2.2.2.1
theorem dX10_feed_10 : decode cX10_feed 10 = .ok (.if_icmp .le 5, 3) := dG_dX10_status_0.2.2.2.2.2.2.2.2.1
theorem dX10_feed_13 : decode cX10_feed 13 = .ok (.iconst (-1), 1) := dG_dX10_status_0.2.2.2.2.2.2.2.2.2.1
theorem dX10_feed_14 : decode cX10_feed 14 = .ok (.ireturn, 1) := dG_dX10_status_0.2.2.2.2.2.2.2.2.2.2.1
theorem dX10_feed_15 : decode cX10_feed 15 = .ok (.aload_n 0, 1) := dG_dX10_status_0.2.2.2.2.2.2.2.2.2.2.2
theorem dG_dX10_feed_16 : (decode cX10_feed 16 = .ok (.iload_n 1, 1)) ∧ (decode cX10_feed 17 = .ok (.invokevirtual 84, 3)) ∧ (decode cX10_feed 20 = .ok (.aload_n 0, 1)) ∧ (decode cX10_feed 21 = .ok (.iload_n 2, 1)) ∧ (decode cX10_feed 22 = .ok (.invokevirtual 84, 3)) ∧ (decode cX10_feed 25 = .ok (.aload_n 0, 1)) ∧ (decode cX10_feed 26 = .ok (.iload_n 3, 1)) ∧ (decode cX10_feed 27 = .ok (.invokevirtual 84, 3)) ∧ (decode cX10_feed 30 = .ok (.aload_n 0, 1)) ∧ (decode cX10_feed 31 = .ok (.iload 4, 2)) ∧ (decode cX10_feed 33 = .ok (.invokevirtual 84, 3)) ∧ (decode cX10_feed 36 = .ok (.aload_n 0, 1)) := by decide +kernel
theorem dX10_feed_16 : decode cX10_feed 16 = .ok (.iload_n 1, 1) := dG_dX10_feed_16.1
theorem dX10_feed_17 : decode cX10_feed 17 = .ok (.invokevirtual 84, 3) := dG_dX10_feed_16.2.1
theorem dX10_feed_20 : decode cX10_feed 20 = .ok (.aload_n 0, 1) := dG_dX10_feed_16.2.2.1
theorem dX10_feed_21 : decode cX10_feed 21 = .ok (.iload_n 2, 1) := dG_dX10_feed_16.2.2.2.1
theorem dX10_feed_22 : decode cX10_feed 22 = .ok (.invokevirtual 84, 3) := dG_dX10_feed_16.2.2.2.2.1
theorem dX10_feed_25 : decode cX10_feed 25 = .ok (.aload_n 0, 1) := dG_dX10_feed_16.2.2.2.2.2.1
theorem dX10_feed_26 : decode cX10_feed 26 = .ok (.iload_n 3, 1) := dG_dX10_feed_16.2.2.2.2.2.2.1
theorem dX10_feed_27 : decode cX10_feed 27 = .ok (.invokevirtual 84, 3) := dG_dX10_feed_16.2.2.2.2.2.2.2.1
theorem dX10_feed_30 : decode cX10_feed 30 = .ok (.aload_n 0, 1) := dG_dX10_feed_16.2.2.2.2.2.2.2.2.1
theorem dX10_feed_31 : decode cX10_feed 31 = .ok (.iload 4, 2) := dG_dX10_feed_16.2.2.2.2.2.2.2.2.2.1
theorem dX10_feed_33 : decode cX10_feed 33 = .ok (.invokevirtual 84, 3) := dG_dX10_feed_16.2.2.2.2.2.2.2.2.2.2.1
theorem dX10_feed_36 : decode cX10_feed 36 = .ok (.aload_n 0, 1) := dG_dX10_feed_16.2.2.2.2.2.2.2.2.2.2.2
theorem dG_dX10_feed_37 : (decode cX10_feed 37 = .ok (.iload 5, 2)) ∧ (decode cX10_feed 39 = .ok (.invokevirtual 84, 3)) ∧ (decode cX10_feed 42 = .ok (.aload_n 0, 1)) ∧ (decode cX10_feed 43 = .ok (.getfield 81, 3)) ∧ (decode cX10_feed 46 = .ok (.ireturn, 1)) ∧ (decode cX10_fault 0 = .ok (.iload_n 1, 1)) ∧ (decode cX10_fault 1 = .ok (.ifCond .ne 8, 3)) ∧ (decode cX10_fault 4 = .ok (.aload_n 0, 1)) ∧ (decode cX10_fault 5 = .ok (.getfield 75, 3)) ∧ (decode cX10_fault 8 = .ok (.ireturn, 1)) ∧ (decode cX10_fault 9 = .ok (.iload_n 1, 1)) ∧ (decode cX10_fault 10 = .ok (.iconst 1, 1)) := by decide +kernel
theorem dX10_feed_37 : decode cX10_feed 37 = .ok (.iload 5, 2) := dG_dX10_feed_37.1
theorem dX10_feed_39 : decode cX10_feed 39 = .ok (.invokevirtual 84, 3) := dG_dX10_feed_37.2.1
theorem dX10_feed_42 : decode cX10_feed 42 = .ok (.aload_n 0, 1) := dG_dX10_feed_37.2.2.1
theorem dX10_feed_43 : decode cX10_feed 43 = .ok (.getfield 81, 3) := dG_dX10_feed_37.2.2.2.1
theorem dX10_feed_46 : decode cX10_feed 46 = .ok (.ireturn, 1) := dG_dX10_feed_37.2.2.2.2.1
theorem dX10_fault_0 : decode cX10_fault 0 = .ok (.iload_n 1, 1) := dG_dX10_feed_37.2.2.2.2.2.1
theorem dX10_fault_1 : decode cX10_fault 1 = .ok (.ifCond .ne 8, 3) := dG_dX10_feed_37.2.2.2.2.2.2.1
theorem dX10_fault_4 : decode cX10_fault 4 = .ok (.aload_n 0, 1) := dG_dX10_feed_37.2.2.2.2.2.2.2.1
theorem dX10_fault_5 : decode cX10_fault 5 = .ok (.getfield 75, 3) := dG_dX10_feed_37.2.2.2.2.2.2.2.2.1
theorem dX10_fault_8 : decode cX10_fault 8 = .ok (.ireturn, 1) := dG_dX10_feed_37.2.2.2.2.2.2.2.2.2.1
theorem dX10_fault_9 : decode cX10_fault 9 = .ok (.iload_n 1, 1) := dG_dX10_feed_37.2.2.2.2.2.2.2.2.2.2.1
theorem dX10_fault_10 : decode cX10_fault 10 = .ok (.iconst 1, 1) := dG_dX10_feed_37.2.2.2.2.2.2.2.2.2.2.2
theorem dG_dX10_fault_11 : (decode cX10_fault 11 = .ok (.if_icmp .ne 10, 3)) ∧ (decode cX10_fault 14 = .ok (.aload_n 0, 1)) ∧ (decode cX10_fault 15 = .ok (.getfield 78, 3)) ∧ (decode cX10_fault 18 = .ok (.goto 4, 3)) ∧ (decode cX10_fault 21 = .ok (.iconst (-1), 1)) ∧ (decode cX10_fault 22 = .ok (.ireturn, 1)) ∧ (decode cX10_putOnTape 0 = .ok (.bipush 24, 2)) ∧ (decode cX10_putOnTape 2 = .ok (.istore_n 2, 1)) ∧ (decode cX10_putOnTape 3 = .ok (.iload_n 2, 1)) ∧ (decode cX10_putOnTape 4 = .ok (.ifCond .lt 45, 3)) ∧ (decode cX10_putOnTape 7 = .ok (.aload_n 0, 1)) ∧ (decode cX10_putOnTape 8 = .ok (.getfield 81, 3)) := by decide +kernel
theorem dX10_fault_11 : decode cX10_fault 11 = .ok (.if_icmp .ne 10, 3) := dG_dX10_fault_11.1
theorem dX10_fault_14 : decode cX10_fault 14 = .ok (.aload_n 0, 1) := dG_dX10_fault_11.2.1
theorem dX10_fault_15 : decode cX10_fault 15 = .ok (.getfield 78, 3) := dG_dX10_fault_11.2.2.1
theorem dX10_fault_18 : decode cX10_fault 18 = .ok (.goto 4, 3) := dG_dX10_fault_11.2.2.2.1
theorem dX10_fault_21 : decode cX10_fault 21 = .ok (.iconst (-1), 1) := dG_dX10_fault_11.2.2.2.2.1
theorem dX10_fault_22 : decode cX10_fault 22 = .ok (.ireturn, 1) := dG_dX10_fault_11.2.2.2.2.2.1
theorem dX10_putOnTape_0 : decode cX10_putOnTape 0 = .ok (.bipush 24, 2) := dG_dX10_fault_11.2.2.2.2.2.2.1
theorem dX10_putOnTape_2 : decode cX10_putOnTape 2 = .ok (.istore_n 2, 1) := dG_dX10_fault_11.2.2.2.2.2.2.2.1
theorem dX10_putOnTape_3 : decode cX10_putOnTape 3 = .ok (.iload_n 2, 1) := dG_dX10_fault_11.2.2.2.2.2.2.2.2.1
theorem dX10_putOnTape_4 : decode cX10_putOnTape 4 = .ok (.ifCond .lt 45, 3) := dG_dX10_fault_11.2.2.2.2.2.2.2.2.2.1
theorem dX10_putOnTape_7 : decode cX10_putOnTape 7 = .ok (.aload_n 0, 1) := dG_dX10_fault_11.2.2.2.2.2.2.2.2.2.2.1
theorem dX10_putOnTape_8 : decode cX10_putOnTape 8 = .ok (.getfield 81, 3) := dG_dX10_fault_11.2.2.2.2.2.2.2.2.2.2.2
theorem dG_dX10_putOnTape_11 : (decode cX10_putOnTape 11 = .ok (.sipush 700, 3)) ∧ (decode cX10_putOnTape 14 = .ok (.if_icmp .ge 29, 3)) ∧ (decode cX10_putOnTape 17 = .ok (.aload_n 0, 1)) ∧ (decode cX10_putOnTape 18 = .ok (.getfield 9, 3)) ∧ (decode cX10_putOnTape 21 = .ok (.aload_n 0, 1)) ∧ (decode cX10_putOnTape 22 = .ok (.getfield 81, 3)) ∧ (decode cX10_putOnTape 25 = .ok (.iload_n 1, 1)) ∧ (decode cX10_putOnTape 26 = .ok (.iload_n 2, 1)) ∧ (decode cX10_putOnTape 27 = .ok (.iushr, 1)) ∧ (decode cX10_putOnTape 28 = .ok (.sipush 255, 3)) ∧ (decode cX10_putOnTape 31 = .ok (.iand, 1)) ∧ (decode cX10_putOnTape 32 = .ok (.iastore, 1)) := by decide +kernel
theorem dX10_putOnTape_11 : decode cX10_putOnTape 11 = .ok (.sipush 700, 3) := dG_dX10_putOnTape_11.1
theorem dX10_putOnTape_14 : decode cX10_putOnTape 14 = .ok (.if_icmp .ge 29, 3) := dG_dX10_putOnTape_11.2.1
theorem dX10_putOnTape_17 : decode cX10_putOnTape 17 = .ok (.aload_n 0, 1) := dG_dX10_putOnTape_11.2.2.1
theorem dX10_putOnTape_18 : decode cX10_putOnTape 18 = .ok (.getfield 9, 3) := dG_dX10_putOnTape_11.2.2.2.1
theorem dX10_putOnTape_21 : decode cX10_putOnTape 21 = .ok (.aload_n 0, 1) := dG_dX10_putOnTape_11.2.2.2.2.1
theorem dX10_putOnTape_22 : decode cX10_putOnTape 22 = .ok (.getfield 81, 3) := dG_dX10_putOnTape_11.2.2.2.2.2.1
theorem dX10_putOnTape_25 : decode cX10_putOnTape 25 = .ok (.iload_n 1, 1) := dG_dX10_putOnTape_11.2.2.2.2.2.2.1
theorem dX10_putOnTape_26 : decode cX10_putOnTape 26 = .ok (.iload_n 2, 1) := dG_dX10_putOnTape_11.2.2.2.2.2.2.2.1
theorem dX10_putOnTape_27 : decode cX10_putOnTape 27 = .ok (.iushr, 1) := dG_dX10_putOnTape_11.2.2.2.2.2.2.2.2.1
theorem dX10_putOnTape_28 : decode cX10_putOnTape 28 = .ok (.sipush 255, 3) := dG_dX10_putOnTape_11.2.2.2.2.2.2.2.2.2.1
theorem dX10_putOnTape_31 : decode cX10_putOnTape 31 = .ok (.iand, 1) := dG_dX10_putOnTape_11.2.2.2.2.2.2.2.2.2.2.1
theorem dX10_putOnTape_32 : decode cX10_putOnTape 32 = .ok (.iastore, 1) := dG_dX10_putOnTape_11.2.2.2.2.2.2.2.2.2.2.2
theorem dG_dX10_putOnTape_33 : (decode cX10_putOnTape 33 = .ok (.aload_n 0, 1)) ∧ (decode cX10_putOnTape 34 = .ok (.dup, 1)) ∧ (decode cX10_putOnTape 35 = .ok (.getfield 81, 3)) ∧ (decode cX10_putOnTape 38 = .ok (.iconst 1, 1)) ∧ (decode cX10_putOnTape 39 = .ok (.iadd, 1)) ∧ (decode cX10_putOnTape 40 = .ok (.putfield 81, 3)) ∧ (decode cX10_putOnTape 43 = .ok (.iinc 2 (-8), 3)) ∧ (decode cX10_putOnTape 46 = .ok (.goto (-43), 3)) ∧ (decode cX10_putOnTape 49 = .ok (.return_, 1)) := by decide +kernel
theorem dX10_putOnTape_33 : decode cX10_putOnTape 33 = .ok (.aload_n 0, 1) := dG_dX10_putOnTape_33.1
theorem dX10_putOnTape_34 : decode cX10_putOnTape 34 = .ok (.dup, 1) := dG_dX10_putOnTape_33.2.1
theorem dX10_putOnTape_35 : decode cX10_putOnTape 35 = .ok (.getfield 81, 3) := dG_dX10_putOnTape_33.2.2.1
theorem dX10_putOnTape_38 : decode cX10_putOnTape 38 = .ok (.iconst 1, 1) := dG_dX10_putOnTape_33.2.2.2.1
theorem dX10_putOnTape_39 : decode cX10_putOnTape 39 = .ok (.iadd, 1) := dG_dX10_putOnTape_33.2.2.2.2.1
theorem dX10_putOnTape_40 : decode cX10_putOnTape 40 = .ok (.putfield 81, 3) := dG_dX10_putOnTape_33.2.2.2.2.2.1
theorem dX10_putOnTape_43 : decode cX10_putOnTape 43 = .ok (.iinc 2 (-8), 3) := dG_dX10_putOnTape_33.2.2.2.2.2.2.1
theorem dX10_putOnTape_46 : decode cX10_putOnTape 46 = .ok (.goto (-43), 3) := dG_dX10_putOnTape_33.2.2.2.2.2.2.2.1
theorem dX10_putOnTape_49 : decode cX10_putOnTape 49 = .ok (.return_, 1) := dG_dX10_putOnTape_33.2.2.2.2.2.2.2.2
end

section
set_option maxHeartbeats 4000000 in
set_option maxRecDepth 100000 in
theorem c_X10_putOnTape (l : Launch) (D : va_G) (k : Nat → ClassId) (A : Nat → Prop) (ad : Nat → Nat) (hD : rwD A k ad) (v : gV) (f g : gF) (a1 : Int) (h_a1 : inR a1) (h1 : (v 0) ≤ 696) : GM l D k A (rwT k ad) yX10_putOnTape cX10_putOnTape 3 none 0 0 [.ref (ad 0), .int (iI a1)] v f g (fun r v1 f1 g1 => r = none ∧ (va_up v 0 ((v 0) + 4)) = v1 ∧ (va_up f 0 (bP (f 0) (v 0) a1)) = f1 ∧ g = g1) := by
  refine GM.of (by decide) (Nat.le_of_ble_eq_true rfl) ?_
  intro p e s m args below meth c Q ls hQ C hml hr hlocks hP hl
  have hx := C.1
  have hb := C.2.1
  have hok := hP.2
  have hS : va_S A s.heap s.heap [] := va_S.rf
  have hl : lv_has ls 3 [(0, .ref (ad 0)), (1, .int (iI a1))] := hl
  have hP : gWd D (rwT k ad) (va_up v 0 (v 0)) (va_up f 0 (f 0)) g s.heap := by rw [va_id, va_id]; exact hP
  refine lv_bipush (v := iI 24) hx hb dX10_putOnTape_0 (by decide) ?_
  refine lv_istore_n (lv' := [(2, .int (iI 24)), (0, .ref (ad 0)), (1, .int (iI a1))]) hx hb dX10_putOnTape_2 rfl hl (by decide) rfl (fun ls hl => ?_)
  refine lv_iload_n hx hb dX10_putOnTape_3 rfl (lv_at hl 0 rfl) ?_
  refine gi_zlt (tgt := 49) hx hb dX10_putOnTape_4 (by decide) (by decide) (fun c_1 => ?_) (fun c_1 => ?_)
  · exfalso; omega
  · refine lv_aload_n hx hb dX10_putOnTape_7 rfl (lv_at hl 1 rfl) ?_
    refine rwG_taped C hP mF_X10_81 dX10_putOnTape_8 ?_
    show W p l e (gRm 0 0) s m args below meth c _ _ 0 0 Q (F0 m 11 ls [.int (iI (v 0))])
    have r_2 : 0 ≤ (v 0) ∧ (v 0) ≤ 700 := hok.1 0
    refine lv_sipush (v := iI 700) hx hb dX10_putOnTape_11 (by decide) ?_
    refine gi_cge (tgt := 43) hx hb dX10_putOnTape_14 (by decide) (by omega) (by decide) (fun c_3 => ?_) (fun c_3 => ?_)
    · exfalso; omega
    · refine lv_aload_n hx hb dX10_putOnTape_17 rfl (lv_at hl 1 rfl) ?_
      refine rwG_tape C hP mF_X10_9 dX10_putOnTape_18 ?_
      refine lv_aload_n hx hb dX10_putOnTape_21 rfl (lv_at hl 1 rfl) ?_
      refine rwG_taped C hP mF_X10_81 dX10_putOnTape_22 ?_
      show W p l e (gRm 0 0) s m args below meth c _ _ 0 0 Q (F0 m 25 ls [.int (iI (v 0)), .ref (ad 1)])
      refine lv_iload_n hx hb dX10_putOnTape_25 rfl (lv_at hl 2 rfl) ?_
      refine lv_iload_n hx hb dX10_putOnTape_26 rfl (lv_at hl 0 rfl) ?_
      obtain ⟨x_4, ex_4, hx_4⟩ : ∃ z : Int, ((iI a1).toUInt32 >>> ((iI 24).toUInt32 &&& Int32.toUInt32 31)).toInt32 = iI z ∧ inR z := ⟨(((iI a1).toUInt32 >>> ((iI 24).toUInt32 &&& Int32.toUInt32 31)).toInt32).toInt, (iI_of _).symm, iI_rng _⟩
      refine gi_ushr (z := x_4) hx hb dX10_putOnTape_27 ex_4 ?_
      refine lv_sipush (v := iI 255) hx hb dX10_putOnTape_28 (by decide) ?_
      refine gi_and (z := (a1 / 16777216 % 256)) hx hb dX10_putOnTape_31 (gUs24 (by omega) ex_4) ?_
      refine rwS_tape (f1 := (va_up f 0 (u1 (f 0) (v 0) (a1 / 16777216 % 256)))) C hP hD hS (by omega) (by omega) (by omega) rfl (Or.inr (gF_up (V := rwV) (F := rwF) (gR_up (V := rwV) (F := rwF) ⟨hok.1, hok.2⟩ 0 (hP.2.1 0)) 0 (u1_rng (hP.2.2 0) (show 0 ≤ (a1 / 16777216 % 256) ∧ (a1 / 16777216 % 256) ≤ 255 from (by omega))))) dX10_putOnTape_32 (fun H locs hP hS => ?_)
      refine lv_aload_n hx hb dX10_putOnTape_33 rfl (lv_at hl 1 rfl) ?_
      refine lv_dup hx hb dX10_putOnTape_34 rfl ?_
      refine rwG_taped C hP mF_X10_81 dX10_putOnTape_35 ?_
      show W p l e (gRm 0 0) s m args below meth c _ _ 0 0 Q (F0 m 38 ls [.int (iI (v 0)), .ref (ad 0)])
      refine lv_iconst (v := iI 1) hx hb dX10_putOnTape_38 rfl ?_
      refine gi_add (z := ((v 0) + 1)) hx hb dX10_putOnTape_39 rfl ?_
      refine rwP_taped (v1 := (va_up v 0 ((v 0) + 1))) C hP hD hS mF_X10_81 (by omega) rfl (Or.inr (gF_up (V := rwV) (F := rwF) (gR_up (V := rwV) (F := rwF) ⟨hok.1, hok.2⟩ 0 (show 0 ≤ ((v 0) + 1) ∧ ((v 0) + 1) ≤ 700 from by omega)) 0 (hP.2.2 0))) dX10_putOnTape_40 (fun H locs hP hS => ?_)
      refine lv_iinc (v := iI 16) (lv' := [(2, .int (iI 16)), (0, .ref (ad 0)), (1, .int (iI a1))]) hx hb dX10_putOnTape_43 hl (k := 0) rfl (by show iI _ + iI (-8) = _; rw [iI_add]; congr 1) (by decide) rfl (fun ls hl => ?_)
      refine lv_goto (tgt := 3) hx hb dX10_putOnTape_46 (by decide) ?_
      refine lv_iload_n hx hb dX10_putOnTape_3 rfl (lv_at hl 0 rfl) ?_
      refine gi_zlt (tgt := 49) hx hb dX10_putOnTape_4 (by decide) (by decide) (fun c_5 => ?_) (fun c_5 => ?_)
      · exfalso; omega
      · refine lv_aload_n hx hb dX10_putOnTape_7 rfl (lv_at hl 1 rfl) ?_
        refine rwG_taped C hP mF_X10_81 dX10_putOnTape_8 ?_
        show W p l e (gRm 0 0) s m args below meth c _ _ 0 0 Q (F0 m 11 ls [.int (iI ((v 0) + 1))])
        have r_6 : 0 ≤ ((v 0) + 1) ∧ ((v 0) + 1) ≤ 700 := hP.2.1 0
        refine lv_sipush (v := iI 700) hx hb dX10_putOnTape_11 (by decide) ?_
        refine gi_cge (tgt := 43) hx hb dX10_putOnTape_14 (by decide) (by omega) (by decide) (fun c_7 => ?_) (fun c_7 => ?_)
        · exfalso; omega
        · refine lv_aload_n hx hb dX10_putOnTape_17 rfl (lv_at hl 1 rfl) ?_
          refine rwG_tape C hP mF_X10_9 dX10_putOnTape_18 ?_
          refine lv_aload_n hx hb dX10_putOnTape_21 rfl (lv_at hl 1 rfl) ?_
          refine rwG_taped C hP mF_X10_81 dX10_putOnTape_22 ?_
          show W p l e (gRm 0 0) s m args below meth c _ _ 0 0 Q (F0 m 25 ls [.int (iI ((v 0) + 1)), .ref (ad 1)])
          refine lv_iload_n hx hb dX10_putOnTape_25 rfl (lv_at hl 2 rfl) ?_
          refine lv_iload_n hx hb dX10_putOnTape_26 rfl (lv_at hl 0 rfl) ?_
          obtain ⟨x_8, ex_8, hx_8⟩ : ∃ z : Int, ((iI a1).toUInt32 >>> ((iI 16).toUInt32 &&& Int32.toUInt32 31)).toInt32 = iI z ∧ inR z := ⟨(((iI a1).toUInt32 >>> ((iI 16).toUInt32 &&& Int32.toUInt32 31)).toInt32).toInt, (iI_of _).symm, iI_rng _⟩
          refine gi_ushr (z := x_8) hx hb dX10_putOnTape_27 ex_8 ?_
          refine lv_sipush (v := iI 255) hx hb dX10_putOnTape_28 (by decide) ?_
          refine gi_and (z := (a1 / 65536 % 256)) hx hb dX10_putOnTape_31 (gUs16 (by omega) ex_8) ?_
          refine rwS_tape (f1 := (va_up f 0 (u1 (u1 (f 0) (v 0) (a1 / 16777216 % 256)) ((v 0) + 1) (a1 / 65536 % 256)))) C hP hD hS (by omega) (by omega) (by omega) rfl (Or.inr (gF_up (V := rwV) (F := rwF) (gR_up (V := rwV) (F := rwF) ⟨hok.1, hok.2⟩ 0 (hP.2.1 0)) 0 (u1_rng (hP.2.2 0) (show 0 ≤ (a1 / 65536 % 256) ∧ (a1 / 65536 % 256) ≤ 255 from (by omega))))) dX10_putOnTape_32 (fun H locs hP hS => ?_)
          refine lv_aload_n hx hb dX10_putOnTape_33 rfl (lv_at hl 1 rfl) ?_
          refine lv_dup hx hb dX10_putOnTape_34 rfl ?_
          refine rwG_taped C hP mF_X10_81 dX10_putOnTape_35 ?_
          show W p l e (gRm 0 0) s m args below meth c _ _ 0 0 Q (F0 m 38 ls [.int (iI ((v 0) + 1)), .ref (ad 0)])
          refine lv_iconst (v := iI 1) hx hb dX10_putOnTape_38 rfl ?_
          refine gi_add (z := ((v 0) + 2)) hx hb dX10_putOnTape_39 (by omega) ?_
          refine rwP_taped (v1 := (va_up v 0 ((v 0) + 2))) C hP hD hS mF_X10_81 (by omega) rfl (Or.inr (gF_up (V := rwV) (F := rwF) (gR_up (V := rwV) (F := rwF) ⟨hok.1, hok.2⟩ 0 (show 0 ≤ ((v 0) + 2) ∧ ((v 0) + 2) ≤ 700 from by omega)) 0 (hP.2.2 0))) dX10_putOnTape_40 (fun H locs hP hS => ?_)
          refine lv_iinc (v := iI 8) (lv' := [(2, .int (iI 8)), (0, .ref (ad 0)), (1, .int (iI a1))]) hx hb dX10_putOnTape_43 hl (k := 0) rfl (by show iI _ + iI (-8) = _; rw [iI_add]; congr 1) (by decide) rfl (fun ls hl => ?_)
          refine lv_goto (tgt := 3) hx hb dX10_putOnTape_46 (by decide) ?_
          refine lv_iload_n hx hb dX10_putOnTape_3 rfl (lv_at hl 0 rfl) ?_
          refine gi_zlt (tgt := 49) hx hb dX10_putOnTape_4 (by decide) (by decide) (fun c_9 => ?_) (fun c_9 => ?_)
          · exfalso; omega
          · refine lv_aload_n hx hb dX10_putOnTape_7 rfl (lv_at hl 1 rfl) ?_
            refine rwG_taped C hP mF_X10_81 dX10_putOnTape_8 ?_
            show W p l e (gRm 0 0) s m args below meth c _ _ 0 0 Q (F0 m 11 ls [.int (iI ((v 0) + 2))])
            have r_10 : 0 ≤ ((v 0) + 2) ∧ ((v 0) + 2) ≤ 700 := hP.2.1 0
            refine lv_sipush (v := iI 700) hx hb dX10_putOnTape_11 (by decide) ?_
            refine gi_cge (tgt := 43) hx hb dX10_putOnTape_14 (by decide) (by omega) (by decide) (fun c_11 => ?_) (fun c_11 => ?_)
            · exfalso; omega
            · refine lv_aload_n hx hb dX10_putOnTape_17 rfl (lv_at hl 1 rfl) ?_
              refine rwG_tape C hP mF_X10_9 dX10_putOnTape_18 ?_
              refine lv_aload_n hx hb dX10_putOnTape_21 rfl (lv_at hl 1 rfl) ?_
              refine rwG_taped C hP mF_X10_81 dX10_putOnTape_22 ?_
              show W p l e (gRm 0 0) s m args below meth c _ _ 0 0 Q (F0 m 25 ls [.int (iI ((v 0) + 2)), .ref (ad 1)])
              refine lv_iload_n hx hb dX10_putOnTape_25 rfl (lv_at hl 2 rfl) ?_
              refine lv_iload_n hx hb dX10_putOnTape_26 rfl (lv_at hl 0 rfl) ?_
              obtain ⟨x_12, ex_12, hx_12⟩ : ∃ z : Int, ((iI a1).toUInt32 >>> ((iI 8).toUInt32 &&& Int32.toUInt32 31)).toInt32 = iI z ∧ inR z := ⟨(((iI a1).toUInt32 >>> ((iI 8).toUInt32 &&& Int32.toUInt32 31)).toInt32).toInt, (iI_of _).symm, iI_rng _⟩
              refine gi_ushr (z := x_12) hx hb dX10_putOnTape_27 ex_12 ?_
              refine lv_sipush (v := iI 255) hx hb dX10_putOnTape_28 (by decide) ?_
              refine gi_and (z := (a1 / 256 % 256)) hx hb dX10_putOnTape_31 (gUs8 (by omega) ex_12) ?_
              refine rwS_tape (f1 := (va_up f 0 (u1 (u1 (u1 (f 0) (v 0) (a1 / 16777216 % 256)) ((v 0) + 1) (a1 / 65536 % 256)) ((v 0) + 2) (a1 / 256 % 256)))) C hP hD hS (by omega) (by omega) (by omega) rfl (Or.inr (gF_up (V := rwV) (F := rwF) (gR_up (V := rwV) (F := rwF) ⟨hok.1, hok.2⟩ 0 (hP.2.1 0)) 0 (u1_rng (hP.2.2 0) (show 0 ≤ (a1 / 256 % 256) ∧ (a1 / 256 % 256) ≤ 255 from (by omega))))) dX10_putOnTape_32 (fun H locs hP hS => ?_)
              refine lv_aload_n hx hb dX10_putOnTape_33 rfl (lv_at hl 1 rfl) ?_
              refine lv_dup hx hb dX10_putOnTape_34 rfl ?_
              refine rwG_taped C hP mF_X10_81 dX10_putOnTape_35 ?_
              show W p l e (gRm 0 0) s m args below meth c _ _ 0 0 Q (F0 m 38 ls [.int (iI ((v 0) + 2)), .ref (ad 0)])
              refine lv_iconst (v := iI 1) hx hb dX10_putOnTape_38 rfl ?_
              refine gi_add (z := ((v 0) + 3)) hx hb dX10_putOnTape_39 (by omega) ?_
              refine rwP_taped (v1 := (va_up v 0 ((v 0) + 3))) C hP hD hS mF_X10_81 (by omega) rfl (Or.inr (gF_up (V := rwV) (F := rwF) (gR_up (V := rwV) (F := rwF) ⟨hok.1, hok.2⟩ 0 (show 0 ≤ ((v 0) + 3) ∧ ((v 0) + 3) ≤ 700 from by omega)) 0 (hP.2.2 0))) dX10_putOnTape_40 (fun H locs hP hS => ?_)
              refine lv_iinc (v := iI 0) (lv' := [(2, .int (iI 0)), (0, .ref (ad 0)), (1, .int (iI a1))]) hx hb dX10_putOnTape_43 hl (k := 0) rfl (by show iI _ + iI (-8) = _; rw [iI_add]; congr 1) (by decide) rfl (fun ls hl => ?_)
              refine lv_goto (tgt := 3) hx hb dX10_putOnTape_46 (by decide) ?_
              refine lv_iload_n hx hb dX10_putOnTape_3 rfl (lv_at hl 0 rfl) ?_
              refine gi_zlt (tgt := 49) hx hb dX10_putOnTape_4 (by decide) (by decide) (fun c_13 => ?_) (fun c_13 => ?_)
              · exfalso; omega
              · refine lv_aload_n hx hb dX10_putOnTape_7 rfl (lv_at hl 1 rfl) ?_
                refine rwG_taped C hP mF_X10_81 dX10_putOnTape_8 ?_
                show W p l e (gRm 0 0) s m args below meth c _ _ 0 0 Q (F0 m 11 ls [.int (iI ((v 0) + 3))])
                have r_14 : 0 ≤ ((v 0) + 3) ∧ ((v 0) + 3) ≤ 700 := hP.2.1 0
                refine lv_sipush (v := iI 700) hx hb dX10_putOnTape_11 (by decide) ?_
                refine gi_cge (tgt := 43) hx hb dX10_putOnTape_14 (by decide) (by omega) (by decide) (fun c_15 => ?_) (fun c_15 => ?_)
                · exfalso; omega
                · refine lv_aload_n hx hb dX10_putOnTape_17 rfl (lv_at hl 1 rfl) ?_
                  refine rwG_tape C hP mF_X10_9 dX10_putOnTape_18 ?_
                  refine lv_aload_n hx hb dX10_putOnTape_21 rfl (lv_at hl 1 rfl) ?_
                  refine rwG_taped C hP mF_X10_81 dX10_putOnTape_22 ?_
                  show W p l e (gRm 0 0) s m args below meth c _ _ 0 0 Q (F0 m 25 ls [.int (iI ((v 0) + 3)), .ref (ad 1)])
                  refine lv_iload_n hx hb dX10_putOnTape_25 rfl (lv_at hl 2 rfl) ?_
                  refine lv_iload_n hx hb dX10_putOnTape_26 rfl (lv_at hl 0 rfl) ?_
                  obtain ⟨x_16, ex_16, hx_16⟩ : ∃ z : Int, ((iI a1).toUInt32 >>> ((iI 0).toUInt32 &&& Int32.toUInt32 31)).toInt32 = iI z ∧ inR z := ⟨(((iI a1).toUInt32 >>> ((iI 0).toUInt32 &&& Int32.toUInt32 31)).toInt32).toInt, (iI_of _).symm, iI_rng _⟩
                  refine gi_ushr (z := x_16) hx hb dX10_putOnTape_27 ex_16 ?_
                  refine lv_sipush (v := iI 255) hx hb dX10_putOnTape_28 (by decide) ?_
                  refine gi_and (z := (a1 / 1 % 256)) hx hb dX10_putOnTape_31 (gUs0 (by omega) ex_16) ?_
                  refine rwS_tape (f1 := (va_up f 0 (u1 (u1 (u1 (u1 (f 0) (v 0) (a1 / 16777216 % 256)) ((v 0) + 1) (a1 / 65536 % 256)) ((v 0) + 2) (a1 / 256 % 256)) ((v 0) + 3) (a1 / 1 % 256)))) C hP hD hS (by omega) (by omega) (by omega) rfl (Or.inr (gF_up (V := rwV) (F := rwF) (gR_up (V := rwV) (F := rwF) ⟨hok.1, hok.2⟩ 0 (hP.2.1 0)) 0 (u1_rng (hP.2.2 0) (show 0 ≤ (a1 / 1 % 256) ∧ (a1 / 1 % 256) ≤ 255 from (by omega))))) dX10_putOnTape_32 (fun H locs hP hS => ?_)
                  refine lv_aload_n hx hb dX10_putOnTape_33 rfl (lv_at hl 1 rfl) ?_
                  refine lv_dup hx hb dX10_putOnTape_34 rfl ?_
                  refine rwG_taped C hP mF_X10_81 dX10_putOnTape_35 ?_
                  show W p l e (gRm 0 0) s m args below meth c _ _ 0 0 Q (F0 m 38 ls [.int (iI ((v 0) + 3)), .ref (ad 0)])
                  refine lv_iconst (v := iI 1) hx hb dX10_putOnTape_38 rfl ?_
                  refine gi_add (z := ((v 0) + 4)) hx hb dX10_putOnTape_39 (by omega) ?_
                  refine rwP_taped (v1 := (va_up v 0 ((v 0) + 4))) C hP hD hS mF_X10_81 (by omega) rfl (Or.inr (gF_up (V := rwV) (F := rwF) (gR_up (V := rwV) (F := rwF) ⟨hok.1, hok.2⟩ 0 (show 0 ≤ ((v 0) + 4) ∧ ((v 0) + 4) ≤ 700 from by omega)) 0 (hP.2.2 0))) dX10_putOnTape_40 (fun H locs hP hS => ?_)
                  refine lv_iinc (v := iI (-8)) (lv' := [(2, .int (iI (-8))), (0, .ref (ad 0)), (1, .int (iI a1))]) hx hb dX10_putOnTape_43 hl (k := 0) rfl (by show iI _ + iI (-8) = _; rw [iI_add]; congr 1) (by decide) rfl (fun ls hl => ?_)
                  refine lv_goto (tgt := 3) hx hb dX10_putOnTape_46 (by decide) ?_
                  refine lv_iload_n hx hb dX10_putOnTape_3 rfl (lv_at hl 0 rfl) ?_
                  refine gi_zlt (tgt := 49) hx hb dX10_putOnTape_4 (by decide) (by decide) (fun c_17 => ?_) (fun c_17 => ?_)
                  · exact g_vret hQ C hr hlocks hP hS dX10_putOnTape_49 ⟨rfl, rfl, (by rw [show ((bP (f 0) (v 0) a1) : Int → Int) = (u1 (u1 (u1 (u1 (f 0) (v 0) (a1 / 16777216 % 256)) ((v 0) + 1) (a1 / 65536 % 256)) ((v 0) + 2) (a1 / 256 % 256)) ((v 0) + 3) (a1 / 1 % 256)) from rfl]), rfl⟩
                  · exfalso; omega

set_option maxHeartbeats 4000000 in
set_option maxRecDepth 100000 in
theorem c_X10_status (l : Launch) (D : va_G) (k : Nat → ClassId) (A : Nat → Prop) (ad : Nat → Nat) (hD : rwD A k ad) (v : gV) (f g : gF) : GM l D k A (rwT k ad) yX10_status cX10_status 1 (some .int) 0 0 [.ref (ad 0)] v f g (fun r v1 f1 g1 => ∃ (z : Int), r = some (.int (iI z)) ∧ v = v1 ∧ f = f1 ∧ g = g1 ∧ (z = (v 25)) ∧ (0 ≤ z ∧ z ≤ 10)) := by
  refine GM.of (by decide) (Nat.le_of_ble_eq_true rfl) ?_
  intro p e s m args below meth c Q ls hQ C hml hr hlocks hP hl
  have hx := C.1
  have hb := C.2.1
  have hok := hP.2
  have hS : va_S A s.heap s.heap [] := va_S.rf
  have hl : lv_has ls 1 [(0, .ref (ad 0))] := hl
  refine lv_aload_n hx hb dX10_status_0 rfl (lv_at hl 0 rfl) ?_
  refine rwG_state C hP mF_X10_71 dX10_status_1 ?_
  have r_1 : 0 ≤ (v 25) ∧ (v 25) ≤ 10 := hok.1 25
  exact g_iret hQ C hr hlocks hP hS dX10_status_4 ⟨(v 25), rfl, rfl, rfl, rfl, rfl, (by first | omega | ((repeat' split) <;> omega))⟩

set_option maxHeartbeats 4000000 in
set_option maxRecDepth 100000 in
theorem c_X10_feed (l : Launch) (D : va_G) (k : Nat → ClassId) (A : Nat → Prop) (ad : Nat → Nat) (hD : rwD A k ad) (v : gV) (f g : gF) (a1 : Int) (a2 : Int) (a3 : Int) (a4 : Int) (a5 : Int) (h_a1 : inR a1) (h_a2 : inR a2) (h_a3 : inR a3) (h_a4 : inR a4) (h_a5 : inR a5) : GM l D k A (rwT k ad) yX10_feed cX10_feed 6 (some .int) 1 22 [.ref (ad 0), .int (iI a1), .int (iI a2), .int (iI a3), .int (iI a4), .int (iI a5)] v f g (fun r v1 f1 g1 => ∃ (z : Int), r = some (.int (iI z)) ∧ (va_up v 0 (if (v 0) ≤ 680 then (v 0) + 20 else (v 0))) = v1 ∧ (va_up f 0 (if (v 0) ≤ 680 then bG (f 0) (v 0) a1 a2 a3 a4 a5 else (f 0))) = f1 ∧ g = g1 ∧ (z = (if (v 0) ≤ 680 then (v 0) + 20 else (-1)))) := by
  refine GM.of (by decide) (Nat.le_of_ble_eq_true rfl) ?_
  intro p e s m args below meth c Q ls hQ C hml hr hlocks hP hl
  have hx := C.1
  have hb := C.2.1
  have hok := hP.2
  have hS : va_S A s.heap s.heap [] := va_S.rf
  have hl : lv_has ls 6 [(0, .ref (ad 0)), (1, .int (iI a1)), (2, .int (iI a2)), (3, .int (iI a3)), (4, .int (iI a4)), (5, .int (iI a5))] := hl
  have hP : gWd D (rwT k ad) (va_up v 0 (v 0)) (va_up f 0 (f 0)) g s.heap := by rw [va_id, va_id]; exact hP
  refine lv_aload_n hx hb dX10_feed_0 rfl (lv_at hl 0 rfl) ?_
  refine rwG_taped C hP mF_X10_81 dX10_feed_1 ?_
  show W p l e (gRm 1 22) s m args below meth c _ _ 0 0 Q (F0 m 4 ls [.int (iI (v 0))])
  have r_1 : 0 ≤ (v 0) ∧ (v 0) ≤ 700 := hok.1 0
  refine lv_bipush (v := iI 20) hx hb dX10_feed_4 (by decide) ?_
  refine gi_add (z := ((v 0) + 20)) hx hb dX10_feed_6 rfl ?_
  refine lv_sipush (v := iI 700) hx hb dX10_feed_7 (by decide) ?_
  refine gi_cle (tgt := 15) hx hb dX10_feed_10 (by decide) (by omega) (by decide) (fun c_2 => ?_) (fun c_2 => ?_)
  · refine lv_aload_n hx hb dX10_feed_15 rfl (lv_at hl 0 rfl) ?_
    refine lv_iload_n hx hb dX10_feed_16 rfl (lv_at hl 1 rfl) ?_
    refine g_cv (As := [.int (iI a1)]) (rest := []) (n := 1) C hml (c_X10_putOnTape l D k A ad hD (va_up v 0 (v 0)) (va_up f 0 (f 0)) g a1 (by omega) (show (v 0) ≤ 696 from by omega)) mM_X10_84 mI_X10_putOnTape mE_X10_putOnTape mN_X10 mC_X10_putOnTape (by decide +kernel) 0 (ci := 10) rfl rfl hP hS (fun _ h => h) ⟨Nat.le_of_ble_eq_true rfl, Nat.le_of_ble_eq_true rfl⟩ ⟨Nat.zero_le _, Nat.zero_le _⟩ hl.1 rfl rfl (Nat.le_of_ble_eq_true rfl) dX10_feed_17 (fun r_3 v_3 f_3 g_3 H locs hq_3 hP _ hS => ?_)
    obtain ⟨rfl, rfl, rfl, rfl⟩ := hq_3
    show W p l e (gRm 1 22) s m args below meth c _ _ 0 0 Q (F0 m 20 ls [])
    have hP : gWd D (rwT k ad) (va_up v 0 ((v 0) + 4)) (va_up f 0 (bP (f 0) (v 0) a1)) g H := ⟨hP.1, (gF_up (V := rwV) (F := rwF) (gR_up (V := rwV) (F := rwF) ⟨hok.1, hok.2⟩ 0 (hP.2.1 0)) 0 (hP.2.2 0))⟩
    refine lv_aload_n hx hb dX10_feed_20 rfl (lv_at hl 0 rfl) ?_
    refine lv_iload_n hx hb dX10_feed_21 rfl (lv_at hl 2 rfl) ?_
    refine g_cv (As := [.int (iI a2)]) (rest := []) (n := 1) C hml (c_X10_putOnTape l D k A ad hD (va_up v 0 ((v 0) + 4)) (va_up f 0 (bP (f 0) (v 0) a1)) g a2 (by omega) (show ((v 0) + 4) ≤ 696 from by omega)) mM_X10_84 mI_X10_putOnTape mE_X10_putOnTape mN_X10 mC_X10_putOnTape (by decide +kernel) 0 (ci := 10) rfl rfl hP hS (fun _ h => h) ⟨Nat.le_of_ble_eq_true rfl, Nat.le_of_ble_eq_true rfl⟩ ⟨Nat.zero_le _, Nat.zero_le _⟩ hl.1 rfl rfl (Nat.le_of_ble_eq_true rfl) dX10_feed_22 (fun r_4 v_4 f_4 g_4 H locs hq_4 hP _ hS => ?_)
    obtain ⟨rfl, rfl, rfl, rfl⟩ := hq_4
    show W p l e (gRm 1 22) s m args below meth c _ _ 0 0 Q (F0 m 25 ls [])
    have hP : gWd D (rwT k ad) (va_up v 0 (((v 0) + 4) + 4)) (va_up f 0 (bP (bP (f 0) (v 0) a1) ((v 0) + 4) a2)) g H := ⟨hP.1, (gF_up (V := rwV) (F := rwF) (gR_up (V := rwV) (F := rwF) ⟨hok.1, hok.2⟩ 0 (hP.2.1 0)) 0 (hP.2.2 0))⟩
    refine lv_aload_n hx hb dX10_feed_25 rfl (lv_at hl 0 rfl) ?_
    refine lv_iload_n hx hb dX10_feed_26 rfl (lv_at hl 3 rfl) ?_
    refine g_cv (As := [.int (iI a3)]) (rest := []) (n := 1) C hml (c_X10_putOnTape l D k A ad hD (va_up v 0 (((v 0) + 4) + 4)) (va_up f 0 (bP (bP (f 0) (v 0) a1) ((v 0) + 4) a2)) g a3 (by omega) (show (((v 0) + 4) + 4) ≤ 696 from by omega)) mM_X10_84 mI_X10_putOnTape mE_X10_putOnTape mN_X10 mC_X10_putOnTape (by decide +kernel) 0 (ci := 10) rfl rfl hP hS (fun _ h => h) ⟨Nat.le_of_ble_eq_true rfl, Nat.le_of_ble_eq_true rfl⟩ ⟨Nat.zero_le _, Nat.zero_le _⟩ hl.1 rfl rfl (Nat.le_of_ble_eq_true rfl) dX10_feed_27 (fun r_5 v_5 f_5 g_5 H locs hq_5 hP _ hS => ?_)
    obtain ⟨rfl, rfl, rfl, rfl⟩ := hq_5
    show W p l e (gRm 1 22) s m args below meth c _ _ 0 0 Q (F0 m 30 ls [])
    have hP : gWd D (rwT k ad) (va_up v 0 ((((v 0) + 4) + 4) + 4)) (va_up f 0 (bP (bP (bP (f 0) (v 0) a1) ((v 0) + 4) a2) (((v 0) + 4) + 4) a3)) g H := ⟨hP.1, (gF_up (V := rwV) (F := rwF) (gR_up (V := rwV) (F := rwF) ⟨hok.1, hok.2⟩ 0 (hP.2.1 0)) 0 (hP.2.2 0))⟩
    refine lv_aload_n hx hb dX10_feed_30 rfl (lv_at hl 0 rfl) ?_
    refine lv_iload hx hb dX10_feed_31 (lv_at hl 4 rfl) ?_
    refine g_cv (As := [.int (iI a4)]) (rest := []) (n := 1) C hml (c_X10_putOnTape l D k A ad hD (va_up v 0 ((((v 0) + 4) + 4) + 4)) (va_up f 0 (bP (bP (bP (f 0) (v 0) a1) ((v 0) + 4) a2) (((v 0) + 4) + 4) a3)) g a4 (by omega) (show ((((v 0) + 4) + 4) + 4) ≤ 696 from by omega)) mM_X10_84 mI_X10_putOnTape mE_X10_putOnTape mN_X10 mC_X10_putOnTape (by decide +kernel) 0 (ci := 10) rfl rfl hP hS (fun _ h => h) ⟨Nat.le_of_ble_eq_true rfl, Nat.le_of_ble_eq_true rfl⟩ ⟨Nat.zero_le _, Nat.zero_le _⟩ hl.1 rfl rfl (Nat.le_of_ble_eq_true rfl) dX10_feed_33 (fun r_6 v_6 f_6 g_6 H locs hq_6 hP _ hS => ?_)
    obtain ⟨rfl, rfl, rfl, rfl⟩ := hq_6
    show W p l e (gRm 1 22) s m args below meth c _ _ 0 0 Q (F0 m 36 ls [])
    have hP : gWd D (rwT k ad) (va_up v 0 (((((v 0) + 4) + 4) + 4) + 4)) (va_up f 0 (bP (bP (bP (bP (f 0) (v 0) a1) ((v 0) + 4) a2) (((v 0) + 4) + 4) a3) ((((v 0) + 4) + 4) + 4) a4)) g H := ⟨hP.1, (gF_up (V := rwV) (F := rwF) (gR_up (V := rwV) (F := rwF) ⟨hok.1, hok.2⟩ 0 (hP.2.1 0)) 0 (hP.2.2 0))⟩
    refine lv_aload_n hx hb dX10_feed_36 rfl (lv_at hl 0 rfl) ?_
    refine lv_iload hx hb dX10_feed_37 (lv_at hl 5 rfl) ?_
    refine g_cv (As := [.int (iI a5)]) (rest := []) (n := 1) C hml (c_X10_putOnTape l D k A ad hD (va_up v 0 (((((v 0) + 4) + 4) + 4) + 4)) (va_up f 0 (bP (bP (bP (bP (f 0) (v 0) a1) ((v 0) + 4) a2) (((v 0) + 4) + 4) a3) ((((v 0) + 4) + 4) + 4) a4)) g a5 (by omega) (show (((((v 0) + 4) + 4) + 4) + 4) ≤ 696 from by omega)) mM_X10_84 mI_X10_putOnTape mE_X10_putOnTape mN_X10 mC_X10_putOnTape (by decide +kernel) 0 (ci := 10) rfl rfl hP hS (fun _ h => h) ⟨Nat.le_of_ble_eq_true rfl, Nat.le_of_ble_eq_true rfl⟩ ⟨Nat.zero_le _, Nat.zero_le _⟩ hl.1 rfl rfl (Nat.le_of_ble_eq_true rfl) dX10_feed_39 (fun r_7 v_7 f_7 g_7 H locs hq_7 hP _ hS => ?_)
    obtain ⟨rfl, rfl, rfl, rfl⟩ := hq_7
    show W p l e (gRm 1 22) s m args below meth c _ _ 0 0 Q (F0 m 42 ls [])
    have hP : gWd D (rwT k ad) (va_up v 0 ((((((v 0) + 4) + 4) + 4) + 4) + 4)) (va_up f 0 (bP (bP (bP (bP (bP (f 0) (v 0) a1) ((v 0) + 4) a2) (((v 0) + 4) + 4) a3) ((((v 0) + 4) + 4) + 4) a4) (((((v 0) + 4) + 4) + 4) + 4) a5)) g H := ⟨hP.1, (gF_up (V := rwV) (F := rwF) (gR_up (V := rwV) (F := rwF) ⟨hok.1, hok.2⟩ 0 (hP.2.1 0)) 0 (hP.2.2 0))⟩
    refine lv_aload_n hx hb dX10_feed_42 rfl (lv_at hl 0 rfl) ?_
    refine rwG_taped C hP mF_X10_81 dX10_feed_43 ?_
    show W p l e (gRm 1 22) s m args below meth c _ _ 0 0 Q (F0 m 46 ls [.int (iI ((((((v 0) + 4) + 4) + 4) + 4) + 4))])
    have r_8 : 0 ≤ ((((((v 0) + 4) + 4) + 4) + 4) + 4) ∧ ((((((v 0) + 4) + 4) + 4) + 4) + 4) ≤ 700 := hP.2.1 0
    exact g_iret hQ C hr hlocks hP hS dX10_feed_46 ⟨((((((v 0) + 4) + 4) + 4) + 4) + 4), rfl, (by rw [show ((if (v 0) ≤ 680 then (v 0) + 20 else (v 0)) : Int) = ((((((v 0) + 4) + 4) + 4) + 4) + 4) from by split <;> omega]), (by rw [show ((if (v 0) ≤ 680 then bG (f 0) (v 0) a1 a2 a3 a4 a5 else (f 0)) : Int → Int) = (bP (bP (bP (bP (bP (f 0) (v 0) a1) ((v 0) + 4) a2) (((v 0) + 4) + 4) a3) ((((v 0) + 4) + 4) + 4) a4) (((((v 0) + 4) + 4) + 4) + 4) a5) from by first | (rw [if_pos (by omega)]; rfl) | rw [if_neg (by omega)]]), rfl, (by first | omega | ((repeat' split) <;> omega))⟩
  · refine lv_iconst (v := iI (-1)) hx hb dX10_feed_13 rfl ?_
    exact g_iret hQ C hr hlocks hP hS dX10_feed_14 ⟨(-1), rfl, (by rw [show ((if (v 0) ≤ 680 then (v 0) + 20 else (v 0)) : Int) = (v 0) from by split <;> omega]), (by rw [show ((if (v 0) ≤ 680 then bG (f 0) (v 0) a1 a2 a3 a4 a5 else (f 0)) : Int → Int) = (f 0) from by first | (rw [if_pos (by omega)]; rfl) | rw [if_neg (by omega)]]), rfl, (by first | omega | ((repeat' split) <;> omega))⟩

set_option maxHeartbeats 4000000 in
set_option maxRecDepth 100000 in
theorem c_X10_fault (l : Launch) (D : va_G) (k : Nat → ClassId) (A : Nat → Prop) (ad : Nat → Nat) (hD : rwD A k ad) (v : gV) (f g : gF) (a1 : Int) (h_a1 : inR a1) : GM l D k A (rwT k ad) yX10_fault cX10_fault 2 (some .int) 0 0 [.ref (ad 0), .int (iI a1)] v f g (fun r v1 f1 g1 => ∃ (z : Int), r = some (.int (iI z)) ∧ v = v1 ∧ f = f1 ∧ g = g1 ∧ (z = (if a1 = 0 then (v 27) else if a1 = 1 then (v 28) else (-1))) ∧ ((-1) ≤ z ∧ z ≤ 700)) := by
  refine GM.of (by decide) (Nat.le_of_ble_eq_true rfl) ?_
  intro p e s m args below meth c Q ls hQ C hml hr hlocks hP hl
  have hx := C.1
  have hb := C.2.1
  have hok := hP.2
  have hS : va_S A s.heap s.heap [] := va_S.rf
  have hl : lv_has ls 2 [(0, .ref (ad 0)), (1, .int (iI a1))] := hl
  refine lv_iload_n hx hb dX10_fault_0 rfl (lv_at hl 1 rfl) ?_
  refine gi_zne (tgt := 9) hx hb dX10_fault_1 (by decide) (by omega) (fun c_1 => ?_) (fun c_1 => ?_)
  · refine lv_iload_n hx hb dX10_fault_9 rfl (lv_at hl 1 rfl) ?_
    refine lv_iconst (v := iI 1) hx hb dX10_fault_10 rfl ?_
    refine gi_cne (tgt := 21) hx hb dX10_fault_11 (by decide) (by omega) (by decide) (fun c_2 => ?_) (fun c_2 => ?_)
    · refine lv_iconst (v := iI (-1)) hx hb dX10_fault_21 rfl ?_
      exact g_iret hQ C hr hlocks hP hS dX10_fault_22 ⟨(-1), rfl, rfl, rfl, rfl, (by first | rw [if_pos (by omega)] | rw [if_neg (by omega), if_pos (by omega)] | rw [if_neg (by omega), if_neg (by omega)]), (by first | omega | ((repeat' split) <;> omega))⟩
    · refine lv_aload_n hx hb dX10_fault_14 rfl (lv_at hl 0 rfl) ?_
      refine rwG_faultPlace C hP mF_X10_78 dX10_fault_15 ?_
      have r_3 : (-1) ≤ (v 28) ∧ (v 28) ≤ 700 := hok.1 28
      refine lv_goto (tgt := 22) hx hb dX10_fault_18 (by decide) ?_
      exact g_iret hQ C hr hlocks hP hS dX10_fault_22 ⟨(v 28), rfl, rfl, rfl, rfl, (by first | rw [if_pos (by omega)] | rw [if_neg (by omega), if_pos (by omega)] | rw [if_neg (by omega), if_neg (by omega)]), (by first | omega | ((repeat' split) <;> omega))⟩
  · refine lv_aload_n hx hb dX10_fault_4 rfl (lv_at hl 0 rfl) ?_
    refine rwG_faultKind C hP mF_X10_75 dX10_fault_5 ?_
    have r_4 : (-1) ≤ (v 27) ∧ (v 27) ≤ 5 := hok.1 27
    exact g_iret hQ C hr hlocks hP hS dX10_fault_8 ⟨(v 27), rfl, rfl, rfl, rfl, (by first | rw [if_pos (by omega)] | rw [if_neg (by omega), if_pos (by omega)] | rw [if_neg (by omega), if_neg (by omega)]), (by first | omega | ((repeat' split) <;> omega))⟩
end
