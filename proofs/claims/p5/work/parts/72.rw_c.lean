set_option maxHeartbeats 4000000 in
set_option maxRecDepth 100000 in
theorem c_X10_putOnTape (l : Launch) (D : va_G) (k : Nat → ClassId) (A : Nat → Prop) (ad : Nat → Nat) (hD : rwD A k ad) (v : gV) (f g : gF) (a1 : Int) (h_a1 : inR a1) (h1 : (v 0) ≤ 696) : GM l D k A (rwT k ad) yX10_putOnTape cX10_putOnTape 3 none 0 0 [.ref (ad 0), .int (iI a1)] v f g (fun r v1 f1 g1 => r = none ∧ (va_up v 0 ((v 0) + 4)) = v1 ∧ (va_up f 0 (bP (f 0) (v 0) a1)) = f1 ∧ g = g1) := by
  refine GM.of (by decide) (Nat.le_of_ble_eq_true rfl) ?_
  intro p e s m args below meth c Q ls hQ C hml hr hlocks hP hl
  have hx := C.1
  have hb := C.2.1
  have hok := hP.2
  have hS : va_S A s.heap s.heap [] := va_S.rf
  have hl : lv_has ls 3 [(0, .ref (ad 0)), (1, .int (iI a1))] := hl
  have hP : gWd D (rwT k ad) (va_up v 0 (v 0)) (va_up f 0 (f 0)) g s.heap := by rw [va_id, va_id]; exact hP
  refine lv_bipush (v := iI 24) hx hb dX10_putOnTape_0 (by decide) ?_
  refine lv_istore_n (lv' := [(2, .int (iI 24)), (0, .ref (ad 0)), (1, .int (iI a1))]) hx hb dX10_putOnTape_2 rfl hl (by decide) rfl (fun ls hl => ?_)
  refine lv_iload_n hx hb dX10_putOnTape_3 rfl (lv_at hl 0 rfl) ?_
  refine gi_zlt (tgt := 49) hx hb dX10_putOnTape_4 (by decide) (by decide) (fun c_1 => ?_) (fun c_1 => ?_)
  · exfalso; omega
  · refine lv_aload_n hx hb dX10_putOnTape_7 rfl (lv_at hl 1 rfl) ?_
    refine rwG_taped C hP mF_X10_81 dX10_putOnTape_8 ?_
    show W p l e (gRm 0 0) s m args below meth c _ _ 0 0 Q (F0 m 11 ls [.int (iI (v 0))])
    have r_2 : 0 ≤ (v 0) ∧ (v 0) ≤ 700 := hok.1 0
    refine lv_sipush (v := iI 700) hx hb dX10_putOnTape_11 (by decide) ?_
    refine gi_cge (tgt := 43) hx hb dX10_putOnTape_14 (by decide) (by omega) (by decide) (fun c_3 => ?_) (fun c_3 => ?_)
    · exfalso; omega
    · refine lv_aload_n hx hb dX10_putOnTape_17 rfl (lv_at hl 1 rfl) ?_
      refine rwG_tape C hP mF_X10_9 dX10_putOnTape_18 ?_
      refine lv_aload_n hx hb dX10_putOnTape_21 rfl (lv_at hl 1 rfl) ?_
      refine rwG_taped C hP mF_X10_81 dX10_putOnTape_22 ?_
      show W p l e (gRm 0 0) s m args below meth c _ _ 0 0 Q (F0 m 25 ls [.int (iI (v 0)), .ref (ad 1)])
      refine lv_iload_n hx hb dX10_putOnTape_25 rfl (lv_at hl 2 rfl) ?_
      refine lv_iload_n hx hb dX10_putOnTape_26 rfl (lv_at hl 0 rfl) ?_
      obtain ⟨x_4, ex_4, hx_4⟩ : ∃ z : Int, ((iI a1).toUInt32 >>> ((iI 24).toUInt32 &&& Int32.toUInt32 31)).toInt32 = iI z ∧ inR z := ⟨(((iI a1).toUInt32 >>> ((iI 24).toUInt32 &&& Int32.toUInt32 31)).toInt32).toInt, (iI_of _).symm, iI_rng _⟩
      refine gi_ushr (z := x_4) hx hb dX10_putOnTape_27 ex_4 ?_
      refine lv_sipush (v := iI 255) hx hb dX10_putOnTape_28 (by decide) ?_
      refine gi_and (z := (a1 / 16777216 % 256)) hx hb dX10_putOnTape_31 (gUs24 (by omega) ex_4) ?_
      refine rwS_tape (f1 := (va_up f 0 (u1 (f 0) (v 0) (a1 / 16777216 % 256)))) C hP hD hS (by omega) (by omega) (by omega) rfl (Or.inr (gF_up (V := rwV) (F := rwF) (gR_up (V := rwV) (F := rwF) ⟨hok.1, hok.2⟩ 0 (hP.2.1 0)) 0 (u1_rng (hP.2.2 0) (show 0 ≤ (a1 / 16777216 % 256) ∧ (a1 / 16777216 % 256) ≤ 255 from (by omega))))) dX10_putOnTape_32 (fun H locs hP hS => ?_)
      refine lv_aload_n hx hb dX10_putOnTape_33 rfl (lv_at hl 1 rfl) ?_
      refine lv_dup hx hb dX10_putOnTape_34 rfl ?_
      refine rwG_taped C hP mF_X10_81 dX10_putOnTape_35 ?_
      show W p l e (gRm 0 0) s m args below meth c _ _ 0 0 Q (F0 m 38 ls [.int (iI (v 0)), .ref (ad 0)])
      refine lv_iconst (v := iI 1) hx hb dX10_putOnTape_38 rfl ?_
      refine gi_add (z := ((v 0) + 1)) hx hb dX10_putOnTape_39 rfl ?_
      refine rwP_taped (v1 := (va_up v 0 ((v 0) + 1))) C hP hD hS mF_X10_81 (by omega) rfl (Or.inr (gF_up (V := rwV) (F := rwF) (gR_up (V := rwV) (F := rwF) ⟨hok.1, hok.2⟩ 0 (show 0 ≤ ((v 0) + 1) ∧ ((v 0) + 1) ≤ 700 from by omega)) 0 (hP.2.2 0))) dX10_putOnTape_40 (fun H locs hP hS => ?_)
      refine lv_iinc (v := iI 16) (lv' := [(2, .int (iI 16)), (0, .ref (ad 0)), (1, .int (iI a1))]) hx hb dX10_putOnTape_43 hl (k := 0) rfl (by show iI _ + iI (-8) = _; rw [iI_add]; congr 1) (by decide) rfl (fun ls hl => ?_)
      refine lv_goto (tgt := 3) hx hb dX10_putOnTape_46 (by decide) ?_
      refine lv_iload_n hx hb dX10_putOnTape_3 rfl (lv_at hl 0 rfl) ?_
      refine gi_zlt (tgt := 49) hx hb dX10_putOnTape_4 (by decide) (by decide) (fun c_5 => ?_) (fun c_5 => ?_)
      · exfalso; omega
      · refine lv_aload_n hx hb dX10_putOnTape_7 rfl (lv_at hl 1 rfl) ?_
        refine rwG_taped C hP mF_X10_81 dX10_putOnTape_8 ?_
        show W p l e (gRm 0 0) s m args below meth c _ _ 0 0 Q (F0 m 11 ls [.int (iI ((v 0) + 1))])
        have r_6 : 0 ≤ ((v 0) + 1) ∧ ((v 0) + 1) ≤ 700 := hP.2.1 0
        refine lv_sipush (v := iI 700) hx hb dX10_putOnTape_11 (by decide) ?_
        refine gi_cge (tgt := 43) hx hb dX10_putOnTape_14 (by decide) (by omega) (by decide) (fun c_7 => ?_) (fun c_7 => ?_)
        · exfalso; omega
        · refine lv_aload_n hx hb dX10_putOnTape_17 rfl (lv_at hl 1 rfl) ?_
          refine rwG_tape C hP mF_X10_9 dX10_putOnTape_18 ?_
          refine lv_aload_n hx hb dX10_putOnTape_21 rfl (lv_at hl 1 rfl) ?_
          refine rwG_taped C hP mF_X10_81 dX10_putOnTape_22 ?_
          show W p l e (gRm 0 0) s m args below meth c _ _ 0 0 Q (F0 m 25 ls [.int (iI ((v 0) + 1)), .ref (ad 1)])
          refine lv_iload_n hx hb dX10_putOnTape_25 rfl (lv_at hl 2 rfl) ?_
          refine lv_iload_n hx hb dX10_putOnTape_26 rfl (lv_at hl 0 rfl) ?_
          obtain ⟨x_8, ex_8, hx_8⟩ : ∃ z : Int, ((iI a1).toUInt32 >>> ((iI 16).toUInt32 &&& Int32.toUInt32 31)).toInt32 = iI z ∧ inR z := ⟨(((iI a1).toUInt32 >>> ((iI 16).toUInt32 &&& Int32.toUInt32 31)).toInt32).toInt, (iI_of _).symm, iI_rng _⟩
          refine gi_ushr (z := x_8) hx hb dX10_putOnTape_27 ex_8 ?_
          refine lv_sipush (v := iI 255) hx hb dX10_putOnTape_28 (by decide) ?_
          refine gi_and (z := (a1 / 65536 % 256)) hx hb dX10_putOnTape_31 (gUs16 (by omega) ex_8) ?_
          refine rwS_tape (f1 := (va_up f 0 (u1 (u1 (f 0) (v 0) (a1 / 16777216 % 256)) ((v 0) + 1) (a1 / 65536 % 256)))) C hP hD hS (by omega) (by omega) (by omega) rfl (Or.inr (gF_up (V := rwV) (F := rwF) (gR_up (V := rwV) (F := rwF) ⟨hok.1, hok.2⟩ 0 (hP.2.1 0)) 0 (u1_rng (hP.2.2 0) (show 0 ≤ (a1 / 65536 % 256) ∧ (a1 / 65536 % 256) ≤ 255 from (by omega))))) dX10_putOnTape_32 (fun H locs hP hS => ?_)
          refine lv_aload_n hx hb dX10_putOnTape_33 rfl (lv_at hl 1 rfl) ?_
          refine lv_dup hx hb dX10_putOnTape_34 rfl ?_
          refine rwG_taped C hP mF_X10_81 dX10_putOnTape_35 ?_
          show W p l e (gRm 0 0) s m args below meth c _ _ 0 0 Q (F0 m 38 ls [.int (iI ((v 0) + 1)), .ref (ad 0)])
          refine lv_iconst (v := iI 1) hx hb dX10_putOnTape_38 rfl ?_
          refine gi_add (z := ((v 0) + 2)) hx hb dX10_putOnTape_39 (by omega) ?_
          refine rwP_taped (v1 := (va_up v 0 ((v 0) + 2))) C hP hD hS mF_X10_81 (by omega) rfl (Or.inr (gF_up (V := rwV) (F := rwF) (gR_up (V := rwV) (F := rwF) ⟨hok.1, hok.2⟩ 0 (show 0 ≤ ((v 0) + 2) ∧ ((v 0) + 2) ≤ 700 from by omega)) 0 (hP.2.2 0))) dX10_putOnTape_40 (fun H locs hP hS => ?_)
          refine lv_iinc (v := iI 8) (lv' := [(2, .int (iI 8)), (0, .ref (ad 0)), (1, .int (iI a1))]) hx hb dX10_putOnTape_43 hl (k := 0) rfl (by show iI _ + iI (-8) = _; rw [iI_add]; congr 1) (by decide) rfl (fun ls hl => ?_)
          refine lv_goto (tgt := 3) hx hb dX10_putOnTape_46 (by decide) ?_
          refine lv_iload_n hx hb dX10_putOnTape_3 rfl (lv_at hl 0 rfl) ?_
          refine gi_zlt (tgt := 49) hx hb dX10_putOnTape_4 (by decide) (by decide) (fun c_9 => ?_) (fun c_9 => ?_)
          · exfalso; omega
          · refine lv_aload_n hx hb dX10_putOnTape_7 rfl (lv_at hl 1 rfl) ?_
            refine rwG_taped C hP mF_X10_81 dX10_putOnTape_8 ?_
            show W p l e (gRm 0 0) s m args below meth c _ _ 0 0 Q (F0 m 11 ls [.int (iI ((v 0) + 2))])
            have r_10 : 0 ≤ ((v 0) + 2) ∧ ((v 0) + 2) ≤ 700 := hP.2.1 0
            refine lv_sipush (v := iI 700) hx hb dX10_putOnTape_11 (by decide) ?_
            refine gi_cge (tgt := 43) hx hb dX10_putOnTape_14 (by decide) (by omega) (by decide) (fun c_11 => ?_) (fun c_11 => ?_)
            · exfalso; omega
            · refine lv_aload_n hx hb dX10_putOnTape_17 rfl (lv_at hl 1 rfl) ?_
              refine rwG_tape C hP mF_X10_9 dX10_putOnTape_18 ?_
              refine lv_aload_n hx hb dX10_putOnTape_21 rfl (lv_at hl 1 rfl) ?_
              refine rwG_taped C hP mF_X10_81 dX10_putOnTape_22 ?_
              show W p l e (gRm 0 0) s m args below meth c _ _ 0 0 Q (F0 m 25 ls [.int (iI ((v 0) + 2)), .ref (ad 1)])
              refine lv_iload_n hx hb dX10_putOnTape_25 rfl (lv_at hl 2 rfl) ?_
              refine lv_iload_n hx hb dX10_putOnTape_26 rfl (lv_at hl 0 rfl) ?_
              obtain ⟨x_12, ex_12, hx_12⟩ : ∃ z : Int, ((iI a1).toUInt32 >>> ((iI 8).toUInt32 &&& Int32.toUInt32 31)).toInt32 = iI z ∧ inR z := ⟨(((iI a1).toUInt32 >>> ((iI 8).toUInt32 &&& Int32.toUInt32 31)).toInt32).toInt, (iI_of _).symm, iI_rng _⟩
              refine gi_ushr (z := x_12) hx hb dX10_putOnTape_27 ex_12 ?_
              refine lv_sipush (v := iI 255) hx hb dX10_putOnTape_28 (by decide) ?_
              refine gi_and (z := (a1 / 256 % 256)) hx hb dX10_putOnTape_31 (gUs8 (by omega) ex_12) ?_
              refine rwS_tape (f1 := (va_up f 0 (u1 (u1 (u1 (f 0) (v 0) (a1 / 16777216 % 256)) ((v 0) + 1) (a1 / 65536 % 256)) ((v 0) + 2) (a1 / 256 % 256)))) C hP hD hS (by omega) (by omega) (by omega) rfl (Or.inr (gF_up (V := rwV) (F := rwF) (gR_up (V := rwV) (F := rwF) ⟨hok.1, hok.2⟩ 0 (hP.2.1 0)) 0 (u1_rng (hP.2.2 0) (show 0 ≤ (a1 / 256 % 256) ∧ (a1 / 256 % 256) ≤ 255 from (by omega))))) dX10_putOnTape_32 (fun H locs hP hS => ?_)
              refine lv_aload_n hx hb dX10_putOnTape_33 rfl (lv_at hl 1 rfl) ?_
              refine lv_dup hx hb dX10_putOnTape_34 rfl ?_
              refine rwG_taped C hP mF_X10_81 dX10_putOnTape_35 ?_
              show W p l e (gRm 0 0) s m args below meth c _ _ 0 0 Q (F0 m 38 ls [.int (iI ((v 0) + 2)), .ref (ad 0)])
              refine lv_iconst (v := iI 1) hx hb dX10_putOnTape_38 rfl ?_
              refine gi_add (z := ((v 0) + 3)) hx hb dX10_putOnTape_39 (by omega) ?_
              refine rwP_taped (v1 := (va_up v 0 ((v 0) + 3))) C hP hD hS mF_X10_81 (by omega) rfl (Or.inr (gF_up (V := rwV) (F := rwF) (gR_up (V := rwV) (F := rwF) ⟨hok.1, hok.2⟩ 0 (show 0 ≤ ((v 0) + 3) ∧ ((v 0) + 3) ≤ 700 from by omega)) 0 (hP.2.2 0))) dX10_putOnTape_40 (fun H locs hP hS => ?_)
              refine lv_iinc (v := iI 0) (lv' := [(2, .int (iI 0)), (0, .ref (ad 0)), (1, .int (iI a1))]) hx hb dX10_putOnTape_43 hl (k := 0) rfl (by show iI _ + iI (-8) = _; rw [iI_add]; congr 1) (by decide) rfl (fun ls hl => ?_)
              refine lv_goto (tgt := 3) hx hb dX10_putOnTape_46 (by decide) ?_
              refine lv_iload_n hx hb dX10_putOnTape_3 rfl (lv_at hl 0 rfl) ?_
              refine gi_zlt (tgt := 49) hx hb dX10_putOnTape_4 (by decide) (by decide) (fun c_13 => ?_) (fun c_13 => ?_)
              · exfalso; omega
              · refine lv_aload_n hx hb dX10_putOnTape_7 rfl (lv_at hl 1 rfl) ?_
                refine rwG_taped C hP mF_X10_81 dX10_putOnTape_8 ?_
                show W p l e (gRm 0 0) s m args below meth c _ _ 0 0 Q (F0 m 11 ls [.int (iI ((v 0) + 3))])
                have r_14 : 0 ≤ ((v 0) + 3) ∧ ((v 0) + 3) ≤ 700 := hP.2.1 0
                refine lv_sipush (v := iI 700) hx hb dX10_putOnTape_11 (by decide) ?_
                refine gi_cge (tgt := 43) hx hb dX10_putOnTape_14 (by decide) (by omega) (by decide) (fun c_15 => ?_) (fun c_15 => ?_)
                · exfalso; omega
                · refine lv_aload_n hx hb dX10_putOnTape_17 rfl (lv_at hl 1 rfl) ?_
                  refine rwG_tape C hP mF_X10_9 dX10_putOnTape_18 ?_
                  refine lv_aload_n hx hb dX10_putOnTape_21 rfl (lv_at hl 1 rfl) ?_
                  refine rwG_taped C hP mF_X10_81 dX10_putOnTape_22 ?_
                  show W p l e (gRm 0 0) s m args below meth c _ _ 0 0 Q (F0 m 25 ls [.int (iI ((v 0) + 3)), .ref (ad 1)])
                  refine lv_iload_n hx hb dX10_putOnTape_25 rfl (lv_at hl 2 rfl) ?_
                  refine lv_iload_n hx hb dX10_putOnTape_26 rfl (lv_at hl 0 rfl) ?_
                  obtain ⟨x_16, ex_16, hx_16⟩ : ∃ z : Int, ((iI a1).toUInt32 >>> ((iI 0).toUInt32 &&& Int32.toUInt32 31)).toInt32 = iI z ∧ inR z := ⟨(((iI a1).toUInt32 >>> ((iI 0).toUInt32 &&& Int32.toUInt32 31)).toInt32).toInt, (iI_of _).symm, iI_rng _⟩
                  refine gi_ushr (z := x_16) hx hb dX10_putOnTape_27 ex_16 ?_
                  refine lv_sipush (v := iI 255) hx hb dX10_putOnTape_28 (by decide) ?_
                  refine gi_and (z := (a1 / 1 % 256)) hx hb dX10_putOnTape_31 (gUs0 (by omega) ex_16) ?_
                  refine rwS_tape (f1 := (va_up f 0 (u1 (u1 (u1 (u1 (f 0) (v 0) (a1 / 16777216 % 256)) ((v 0) + 1) (a1 / 65536 % 256)) ((v 0) + 2) (a1 / 256 % 256)) ((v 0) + 3) (a1 / 1 % 256)))) C hP hD hS (by omega) (by omega) (by omega) rfl (Or.inr (gF_up (V := rwV) (F := rwF) (gR_up (V := rwV) (F := rwF) ⟨hok.1, hok.2⟩ 0 (hP.2.1 0)) 0 (u1_rng (hP.2.2 0) (show 0 ≤ (a1 / 1 % 256) ∧ (a1 / 1 % 256) ≤ 255 from (by omega))))) dX10_putOnTape_32 (fun H locs hP hS => ?_)
                  refine lv_aload_n hx hb dX10_putOnTape_33 rfl (lv_at hl 1 rfl) ?_
                  refine lv_dup hx hb dX10_putOnTape_34 rfl ?_
                  refine rwG_taped C hP mF_X10_81 dX10_putOnTape_35 ?_
                  show W p l e (gRm 0 0) s m args below meth c _ _ 0 0 Q (F0 m 38 ls [.int (iI ((v 0) + 3)), .ref (ad 0)])
                  refine lv_iconst (v := iI 1) hx hb dX10_putOnTape_38 rfl ?_
                  refine gi_add (z := ((v 0) + 4)) hx hb dX10_putOnTape_39 (by omega) ?_
                  refine rwP_taped (v1 := (va_up v 0 ((v 0) + 4))) C hP hD hS mF_X10_81 (by omega) rfl (Or.inr (gF_up (V := rwV) (F := rwF) (gR_up (V := rwV) (F := rwF) ⟨hok.1, hok.2⟩ 0 (show 0 ≤ ((v 0) + 4) ∧ ((v 0) + 4) ≤ 700 from by omega)) 0 (hP.2.2 0))) dX10_putOnTape_40 (fun H locs hP hS => ?_)
                  refine lv_iinc (v := iI (-8)) (lv' := [(2, .int (iI (-8))), (0, .ref (ad 0)), (1, .int (iI a1))]) hx hb dX10_putOnTape_43 hl (k := 0) rfl (by show iI _ + iI (-8) = _; rw [iI_add]; congr 1) (by decide) rfl (fun ls hl => ?_)
                  refine lv_goto (tgt := 3) hx hb dX10_putOnTape_46 (by decide) ?_
                  refine lv_iload_n hx hb dX10_putOnTape_3 rfl (lv_at hl 0 rfl) ?_
                  refine gi_zlt (tgt := 49) hx hb dX10_putOnTape_4 (by decide) (by decide) (fun c_17 => ?_) (fun c_17 => ?_)
                  · exact g_vret hQ C hr hlocks hP hS dX10_putOnTape_49 ⟨rfl, rfl, (by rw [show ((bP (f 0) (v 0) a1) : Int → Int) = (u1 (u1 (u1 (u1 (f 0) (v 0) (a1 / 16777216 % 256)) ((v 0) + 1) (a1 / 65536 % 256)) ((v 0) + 2) (a1 / 256 % 256)) ((v 0) + 3) (a1 / 1 % 256)) from rfl]), rfl⟩
                  · exfalso; omega

set_option maxHeartbeats 4000000 in
set_option maxRecDepth 100000 in
theorem c_X10_feed (l : Launch) (D : va_G) (k : Nat → ClassId) (A : Nat → Prop) (ad : Nat → Nat) (hD : rwD A k ad) (v : gV) (f g : gF) (a1 : Int) (a2 : Int) (a3 : Int) (a4 : Int) (a5 : Int) (h_a1 : inR a1) (h_a2 : inR a2) (h_a3 : inR a3) (h_a4 : inR a4) (h_a5 : inR a5) : GM l D k A (rwT k ad) yX10_feed cX10_feed 6 (some .int) 1 22 [.ref (ad 0), .int (iI a1), .int (iI a2), .int (iI a3), .int (iI a4), .int (iI a5)] v f g (fun r v1 f1 g1 => ∃ (z : Int), r = some (.int (iI z)) ∧ (va_up v 0 (if (v 0) ≤ 680 then (v 0) + 20 else (v 0))) = v1 ∧ (va_up f 0 (if (v 0) ≤ 680 then bG (f 0) (v 0) a1 a2 a3 a4 a5 else (f 0))) = f1 ∧ g = g1 ∧ (z = (if (v 0) ≤ 680 then (v 0) + 20 else (-1)))) := by
  refine GM.of (by decide) (Nat.le_of_ble_eq_true rfl) ?_
  intro p e s m args below meth c Q ls hQ C hml hr hlocks hP hl
  have hx := C.1
  have hb := C.2.1
  have hok := hP.2
  have hS : va_S A s.heap s.heap [] := va_S.rf
  have hl : lv_has ls 6 [(0, .ref (ad 0)), (1, .int (iI a1)), (2, .int (iI a2)), (3, .int (iI a3)), (4, .int (iI a4)), (5, .int (iI a5))] := hl
  have hP : gWd D (rwT k ad) (va_up v 0 (v 0)) (va_up f 0 (f 0)) g s.heap := by rw [va_id, va_id]; exact hP
  refine lv_aload_n hx hb dX10_feed_0 rfl (lv_at hl 0 rfl) ?_
  refine rwG_taped C hP mF_X10_81 dX10_feed_1 ?_
  show W p l e (gRm 1 22) s m args below meth c _ _ 0 0 Q (F0 m 4 ls [.int (iI (v 0))])
  have r_1 : 0 ≤ (v 0) ∧ (v 0) ≤ 700 := hok.1 0
  refine lv_bipush (v := iI 20) hx hb dX10_feed_4 (by decide) ?_
  refine gi_add (z := ((v 0) + 20)) hx hb dX10_feed_6 rfl ?_
  refine lv_sipush (v := iI 700) hx hb dX10_feed_7 (by decide) ?_
  refine gi_cle (tgt := 15) hx hb dX10_feed_10 (by decide) (by omega) (by decide) (fun c_2 => ?_) (fun c_2 => ?_)
  · refine lv_aload_n hx hb dX10_feed_15 rfl (lv_at hl 0 rfl) ?_
    refine lv_iload_n hx hb dX10_feed_16 rfl (lv_at hl 1 rfl) ?_
    refine g_cv (As := [.int (iI a1)]) (rest := []) (n := 1) C hml (c_X10_putOnTape l D k A ad hD (va_up v 0 (v 0)) (va_up f 0 (f 0)) g a1 (by omega) (show (v 0) ≤ 696 from by omega)) mM_X10_84 mI_X10_putOnTape mE_X10_putOnTape mN_X10 mC_X10_putOnTape (by decide +kernel) 0 (ci := 10) rfl rfl hP hS (fun _ h => h) ⟨Nat.le_of_ble_eq_true rfl, Nat.le_of_ble_eq_true rfl⟩ ⟨Nat.zero_le _, Nat.zero_le _⟩ hl.1 rfl rfl (Nat.le_of_ble_eq_true rfl) dX10_feed_17 (fun r_3 v_3 f_3 g_3 H locs hq_3 hP _ hS => ?_)
    obtain ⟨rfl, rfl, rfl, rfl⟩ := hq_3
    show W p l e (gRm 1 22) s m args below meth c _ _ 0 0 Q (F0 m 20 ls [])
    have hP : gWd D (rwT k ad) (va_up v 0 ((v 0) + 4)) (va_up f 0 (bP (f 0) (v 0) a1)) g H := ⟨hP.1, (gF_up (V := rwV) (F := rwF) (gR_up (V := rwV) (F := rwF) ⟨hok.1, hok.2⟩ 0 (hP.2.1 0)) 0 (hP.2.2 0))⟩
    refine lv_aload_n hx hb dX10_feed_20 rfl (lv_at hl 0 rfl) ?_
    refine lv_iload_n hx hb dX10_feed_21 rfl (lv_at hl 2 rfl) ?_
    refine g_cv (As := [.int (iI a2)]) (rest := []) (n := 1) C hml (c_X10_putOnTape l D k A ad hD (va_up v 0 ((v 0) + 4)) (va_up f 0 (bP (f 0) (v 0) a1)) g a2 (by omega) (show ((v 0) + 4) ≤ 696 from by omega)) mM_X10_84 mI_X10_putOnTape mE_X10_putOnTape mN_X10 mC_X10_putOnTape (by decide +kernel) 0 (ci := 10) rfl rfl hP hS (fun _ h => h) ⟨Nat.le_of_ble_eq_true rfl, Nat.le_of_ble_eq_true rfl⟩ ⟨Nat.zero_le _, Nat.zero_le _⟩ hl.1 rfl rfl (Nat.le_of_ble_eq_true rfl) dX10_feed_22 (fun r_4 v_4 f_4 g_4 H locs hq_4 hP _ hS => ?_)
    obtain ⟨rfl, rfl, rfl, rfl⟩ := hq_4
    show W p l e (gRm 1 22) s m args below meth c _ _ 0 0 Q (F0 m 25 ls [])
    have hP : gWd D (rwT k ad) (va_up v 0 (((v 0) + 4) + 4)) (va_up f 0 (bP (bP (f 0) (v 0) a1) ((v 0) + 4) a2)) g H := ⟨hP.1, (gF_up (V := rwV) (F := rwF) (gR_up (V := rwV) (F := rwF) ⟨hok.1, hok.2⟩ 0 (hP.2.1 0)) 0 (hP.2.2 0))⟩
    refine lv_aload_n hx hb dX10_feed_25 rfl (lv_at hl 0 rfl) ?_
    refine lv_iload_n hx hb dX10_feed_26 rfl (lv_at hl 3 rfl) ?_
    refine g_cv (As := [.int (iI a3)]) (rest := []) (n := 1) C hml (c_X10_putOnTape l D k A ad hD (va_up v 0 (((v 0) + 4) + 4)) (va_up f 0 (bP (bP (f 0) (v 0) a1) ((v 0) + 4) a2)) g a3 (by omega) (show (((v 0) + 4) + 4) ≤ 696 from by omega)) mM_X10_84 mI_X10_putOnTape mE_X10_putOnTape mN_X10 mC_X10_putOnTape (by decide +kernel) 0 (ci := 10) rfl rfl hP hS (fun _ h => h) ⟨Nat.le_of_ble_eq_true rfl, Nat.le_of_ble_eq_true rfl⟩ ⟨Nat.zero_le _, Nat.zero_le _⟩ hl.1 rfl rfl (Nat.le_of_ble_eq_true rfl) dX10_feed_27 (fun r_5 v_5 f_5 g_5 H locs hq_5 hP _ hS => ?_)
    obtain ⟨rfl, rfl, rfl, rfl⟩ := hq_5
    show W p l e (gRm 1 22) s m args below meth c _ _ 0 0 Q (F0 m 30 ls [])
    have hP : gWd D (rwT k ad) (va_up v 0 ((((v 0) + 4) + 4) + 4)) (va_up f 0 (bP (bP (bP (f 0) (v 0) a1) ((v 0) + 4) a2) (((v 0) + 4) + 4) a3)) g H := ⟨hP.1, (gF_up (V := rwV) (F := rwF) (gR_up (V := rwV) (F := rwF) ⟨hok.1, hok.2⟩ 0 (hP.2.1 0)) 0 (hP.2.2 0))⟩
    refine lv_aload_n hx hb dX10_feed_30 rfl (lv_at hl 0 rfl) ?_
    refine lv_iload hx hb dX10_feed_31 (lv_at hl 4 rfl) ?_
    refine g_cv (As := [.int (iI a4)]) (rest := []) (n := 1) C hml (c_X10_putOnTape l D k A ad hD (va_up v 0 ((((v 0) + 4) + 4) + 4)) (va_up f 0 (bP (bP (bP (f 0) (v 0) a1) ((v 0) + 4) a2) (((v 0) + 4) + 4) a3)) g a4 (by omega) (show ((((v 0) + 4) + 4) + 4) ≤ 696 from by omega)) mM_X10_84 mI_X10_putOnTape mE_X10_putOnTape mN_X10 mC_X10_putOnTape (by decide +kernel) 0 (ci := 10) rfl rfl hP hS (fun _ h => h) ⟨Nat.le_of_ble_eq_true rfl, Nat.le_of_ble_eq_true rfl⟩ ⟨Nat.zero_le _, Nat.zero_le _⟩ hl.1 rfl rfl (Nat.le_of_ble_eq_true rfl) dX10_feed_33 (fun r_6 v_6 f_6 g_6 H locs hq_6 hP _ hS => ?_)
    obtain ⟨rfl, rfl, rfl, rfl⟩ := hq_6
    show W p l e (gRm 1 22) s m args below meth c _ _ 0 0 Q (F0 m 36 ls [])
    have hP : gWd D (rwT k ad) (va_up v 0 (((((v 0) + 4) + 4) + 4) + 4)) (va_up f 0 (bP (bP (bP (bP (f 0) (v 0) a1) ((v 0) + 4) a2) (((v 0) + 4) + 4) a3) ((((v 0) + 4) + 4) + 4) a4)) g H := ⟨hP.1, (gF_up (V := rwV) (F := rwF) (gR_up (V := rwV) (F := rwF) ⟨hok.1, hok.2⟩ 0 (hP.2.1 0)) 0 (hP.2.2 0))⟩
    refine lv_aload_n hx hb dX10_feed_36 rfl (lv_at hl 0 rfl) ?_
    refine lv_iload hx hb dX10_feed_37 (lv_at hl 5 rfl) ?_
    refine g_cv (As := [.int (iI a5)]) (rest := []) (n := 1) C hml (c_X10_putOnTape l D k A ad hD (va_up v 0 (((((v 0) + 4) + 4) + 4) + 4)) (va_up f 0 (bP (bP (bP (bP (f 0) (v 0) a1) ((v 0) + 4) a2) (((v 0) + 4) + 4) a3) ((((v 0) + 4) + 4) + 4) a4)) g a5 (by omega) (show (((((v 0) + 4) + 4) + 4) + 4) ≤ 696 from by omega)) mM_X10_84 mI_X10_putOnTape mE_X10_putOnTape mN_X10 mC_X10_putOnTape (by decide +kernel) 0 (ci := 10) rfl rfl hP hS (fun _ h => h) ⟨Nat.le_of_ble_eq_true rfl, Nat.le_of_ble_eq_true rfl⟩ ⟨Nat.zero_le _, Nat.zero_le _⟩ hl.1 rfl rfl (Nat.le_of_ble_eq_true rfl) dX10_feed_39 (fun r_7 v_7 f_7 g_7 H locs hq_7 hP _ hS => ?_)
    obtain ⟨rfl, rfl, rfl, rfl⟩ := hq_7
    show W p l e (gRm 1 22) s m args below meth c _ _ 0 0 Q (F0 m 42 ls [])
    have hP : gWd D (rwT k ad) (va_up v 0 ((((((v 0) + 4) + 4) + 4) + 4) + 4)) (va_up f 0 (bP (bP (bP (bP (bP (f 0) (v 0) a1) ((v 0) + 4) a2) (((v 0) + 4) + 4) a3) ((((v 0) + 4) + 4) + 4) a4) (((((v 0) + 4) + 4) + 4) + 4) a5)) g H := ⟨hP.1, (gF_up (V := rwV) (F := rwF) (gR_up (V := rwV) (F := rwF) ⟨hok.1, hok.2⟩ 0 (hP.2.1 0)) 0 (hP.2.2 0))⟩
    refine lv_aload_n hx hb dX10_feed_42 rfl (lv_at hl 0 rfl) ?_
    refine rwG_taped C hP mF_X10_81 dX10_feed_43 ?_
    show W p l e (gRm 1 22) s m args below meth c _ _ 0 0 Q (F0 m 46 ls [.int (iI ((((((v 0) + 4) + 4) + 4) + 4) + 4))])
    have r_8 : 0 ≤ ((((((v 0) + 4) + 4) + 4) + 4) + 4) ∧ ((((((v 0) + 4) + 4) + 4) + 4) + 4) ≤ 700 := hP.2.1 0
    exact g_iret hQ C hr hlocks hP hS dX10_feed_46 ⟨((((((v 0) + 4) + 4) + 4) + 4) + 4), rfl, (by rw [show ((if (v 0) ≤ 680 then (v 0) + 20 else (v 0)) : Int) = ((((((v 0) + 4) + 4) + 4) + 4) + 4) from by split <;> omega]), (by rw [show ((if (v 0) ≤ 680 then bG (f 0) (v 0) a1 a2 a3 a4 a5 else (f 0)) : Int → Int) = (bP (bP (bP (bP (bP (f 0) (v 0) a1) ((v 0) + 4) a2) (((v 0) + 4) + 4) a3) ((((v 0) + 4) + 4) + 4) a4) (((((v 0) + 4) + 4) + 4) + 4) a5) from by first | (rw [if_pos (by omega)]; rfl) | rw [if_neg (by omega)]]), rfl, (by first | omega | (split <;> omega))⟩
  · refine lv_iconst (v := iI (-1)) hx hb dX10_feed_13 rfl ?_
    exact g_iret hQ C hr hlocks hP hS dX10_feed_14 ⟨(-1), rfl, (by rw [show ((if (v 0) ≤ 680 then (v 0) + 20 else (v 0)) : Int) = (v 0) from by split <;> omega]), (by rw [show ((if (v 0) ≤ 680 then bG (f 0) (v 0) a1 a2 a3 a4 a5 else (f 0)) : Int → Int) = (f 0) from by first | (rw [if_pos (by omega)]; rfl) | rw [if_neg (by omega)]]), rfl, (by first | omega | (split <;> omega))⟩

set_option maxHeartbeats 4000000 in
set_option maxRecDepth 100000 in
theorem c_X10_status (l : Launch) (D : va_G) (k : Nat → ClassId) (A : Nat → Prop) (ad : Nat → Nat) (hD : rwD A k ad) (v : gV) (f g : gF) : GM l D k A (rwT k ad) yX10_status cX10_status 1 (some .int) 0 0 [.ref (ad 0)] v f g (fun r v1 f1 g1 => ∃ (z : Int), r = some (.int (iI z)) ∧ v = v1 ∧ f = f1 ∧ g = g1 ∧ (z = (v 25)) ∧ (0 ≤ z ∧ z ≤ 10)) := by
  refine GM.of (by decide) (Nat.le_of_ble_eq_true rfl) ?_
  intro p e s m args below meth c Q ls hQ C hml hr hlocks hP hl
  have hx := C.1
  have hb := C.2.1
  have hok := hP.2
  have hS : va_S A s.heap s.heap [] := va_S.rf
  have hl : lv_has ls 1 [(0, .ref (ad 0))] := hl
  refine lv_aload_n hx hb dX10_status_0 rfl (lv_at hl 0 rfl) ?_
  refine rwG_state C hP mF_X10_71 dX10_status_1 ?_
  have r_1 : 0 ≤ (v 25) ∧ (v 25) ≤ 10 := hok.1 25
  exact g_iret hQ C hr hlocks hP hS dX10_status_4 ⟨(v 25), rfl, rfl, rfl, rfl, rfl, (by first | omega | (split <;> omega))⟩

set_option maxHeartbeats 4000000 in
set_option maxRecDepth 100000 in
theorem c_X10_fault (l : Launch) (D : va_G) (k : Nat → ClassId) (A : Nat → Prop) (ad : Nat → Nat) (hD : rwD A k ad) (v : gV) (f g : gF) (a1 : Int) (h_a1 : inR a1) : GM l D k A (rwT k ad) yX10_fault cX10_fault 2 (some .int) 0 0 [.ref (ad 0), .int (iI a1)] v f g (fun r v1 f1 g1 => ∃ (z : Int), r = some (.int (iI z)) ∧ v = v1 ∧ f = f1 ∧ g = g1 ∧ (z = (if a1 = 0 then (v 27) else if a1 = 1 then (v 28) else (-1))) ∧ ((-1) ≤ z ∧ z ≤ 700)) := by
  refine GM.of (by decide) (Nat.le_of_ble_eq_true rfl) ?_
  intro p e s m args below meth c Q ls hQ C hml hr hlocks hP hl
  have hx := C.1
  have hb := C.2.1
  have hok := hP.2
  have hS : va_S A s.heap s.heap [] := va_S.rf
  have hl : lv_has ls 2 [(0, .ref (ad 0)), (1, .int (iI a1))] := hl
  refine lv_iload_n hx hb dX10_fault_0 rfl (lv_at hl 1 rfl) ?_
  refine gi_zne (tgt := 9) hx hb dX10_fault_1 (by decide) (by omega) (fun c_1 => ?_) (fun c_1 => ?_)
  · refine lv_iload_n hx hb dX10_fault_9 rfl (lv_at hl 1 rfl) ?_
    refine lv_iconst (v := iI 1) hx hb dX10_fault_10 rfl ?_
    refine gi_cne (tgt := 21) hx hb dX10_fault_11 (by decide) (by omega) (by decide) (fun c_2 => ?_) (fun c_2 => ?_)
    · refine lv_iconst (v := iI (-1)) hx hb dX10_fault_21 rfl ?_
      exact g_iret hQ C hr hlocks hP hS dX10_fault_22 ⟨(-1), rfl, rfl, rfl, rfl, (by first | rw [if_pos (by omega)] | rw [if_neg (by omega), if_pos (by omega)] | rw [if_neg (by omega), if_neg (by omega)]), (by first | omega | (split <;> omega))⟩
    · refine lv_aload_n hx hb dX10_fault_14 rfl (lv_at hl 0 rfl) ?_
      refine rwG_faultPlace C hP mF_X10_78 dX10_fault_15 ?_
      have r_3 : (-1) ≤ (v 28) ∧ (v 28) ≤ 700 := hok.1 28
      refine lv_goto (tgt := 22) hx hb dX10_fault_18 (by decide) ?_
      exact g_iret hQ C hr hlocks hP hS dX10_fault_22 ⟨(v 28), rfl, rfl, rfl, rfl, (by first | rw [if_pos (by omega)] | rw [if_neg (by omega), if_pos (by omega)] | rw [if_neg (by omega), if_neg (by omega)]), (by first | omega | (split <;> omega))⟩
  · refine lv_aload_n hx hb dX10_fault_4 rfl (lv_at hl 0 rfl) ?_
    refine rwG_faultKind C hP mF_X10_75 dX10_fault_5 ?_
    have r_4 : (-1) ≤ (v 27) ∧ (v 27) ≤ 5 := hok.1 27
    exact g_iret hQ C hr hlocks hP hS dX10_fault_8 ⟨(v 27), rfl, rfl, rfl, rfl, (by first | rw [if_pos (by omega)] | rw [if_neg (by omega), if_pos (by omega)] | rw [if_neg (by omega), if_neg (by omega)]), (by first | omega | (split <;> omega))⟩

set_option maxHeartbeats 4000000 in
set_option maxRecDepth 100000 in
theorem c_X10_passTo (l : Launch) (D : va_G) (k : Nat → ClassId) (A : Nat → Prop) (ad : Nat → Nat) (hD : rwD A k ad) (v : gV) (f g : gF) (a1 : Int) (h_a1 : inR a1) (hs : shOk (v 1) (f 1)) : GM l D k A (rwT k ad) yX10_passTo cX10_passTo 2 (some .int) 2 47 [.ref (ad 0), .int (iI a1)] v f g (fun r v1 f1 g1 => ∃ (z : Int) (w26 : Int) (a24_ : Int → Int) (a26_ : Int → Int) (a27_ : Int → Int), r = some (.int (iI z)) ∧ (va_up v 26 w26) = v1 ∧ (va_up (va_up (va_up f 24 a24_) 26 a26_) 27 a27_) = f1 ∧ g = g1 ∧ (0 ≤ z ∧ z ≤ 9)) := by
  refine GM.of (by decide) (Nat.le_of_ble_eq_true rfl) ?_
  intro p e s m args below meth c Q ls hQ C hml hr hlocks hP hl
  have hx := C.1
  have hb := C.2.1
  have hok := hP.2
  have hS : va_S A s.heap s.heap [] := va_S.rf
  have hl : lv_has ls 2 [(0, .ref (ad 0)), (1, .int (iI a1))] := hl
  have hP : gWd D (rwT k ad) (va_up v 26 (v 26)) (va_up (va_up (va_up f 24 (f 24)) 26 (f 26)) 27 (f 27)) g s.heap := by rw [va_id, va_id, va_id, va_id]; exact hP
  have r_1 : 0 ≤ (v 1) ∧ (v 1) ≤ 4 := hok.1 1
  have r_2 : 0 ≤ (v 21) ∧ (v 21) ≤ 16 := hok.1 21
  have r_3 : 0 ≤ (v 22) ∧ (v 22) ≤ 3 := hok.1 22
  refine lv_iload_n hx hb dX10_passTo_0 rfl (lv_at hl 1 rfl) ?_
  refine gi_zlt (tgt := 11) hx hb dX10_passTo_1 (by decide) (by omega) (fun c_4 => ?_) (fun c_4 => ?_)
  · refine lv_iconst (v := iI 2) hx hb dX10_passTo_11 rfl ?_
    exact g_iret hQ C hr hlocks hP hS dX10_passTo_12 ⟨2, (v 26), (f 24), (f 26), (f 27), rfl, rfl, rfl, rfl, (by first | omega | (split <;> omega))⟩
  · refine lv_iload_n hx hb dX10_passTo_4 rfl (lv_at hl 1 rfl) ?_
    refine lv_ldcw (v := iI 1000000) hx hb C.2.2.2.1 (C.2.2.1 _ (show Cond.constant RX10 313 (iI 1000000) ∈ gWs from mD_X10_313)) dX10_passTo_5 ?_
    refine gi_cle (tgt := 13) hx hb dX10_passTo_8 (by decide) (by omega) (by decide) (fun c_5 => ?_) (fun c_5 => ?_)
    · refine lv_iload_n hx hb dX10_passTo_13 rfl (lv_at hl 1 rfl) ?_
      refine lv_aload_n hx hb dX10_passTo_14 rfl (lv_at hl 0 rfl) ?_
      refine rwG_time C hP mF_X10_114 dX10_passTo_15 ?_
      show W p l e (gRm 2 47) s m args below meth c _ _ 0 0 Q (F0 m 18 ls [.int (iI (v 26)), .int (iI a1)])
      have r_6 : 0 ≤ (v 26) ∧ (v 26) ≤ 1000000 := hok.1 26
      refine gi_cge (tgt := 24) hx hb dX10_passTo_18 (by decide) (by omega) (by omega) (fun c_7 => ?_) (fun c_7 => ?_)
      · refine lv_aload_n hx hb dX10_passTo_24 rfl (lv_at hl 0 rfl) ?_
        refine lv_iload_n hx hb dX10_passTo_25 rfl (lv_at hl 1 rfl) ?_
        refine rwP_time (v1 := (va_up v 26 a1)) C hP hD hS mF_X10_114 (by omega) rfl (Or.inr (gF_up (V := rwV) (F := rwF) (gF_up (V := rwV) (F := rwF) (gF_up (V := rwV) (F := rwF) (gR_up (V := rwV) (F := rwF) ⟨hok.1, hok.2⟩ 26 (show 0 ≤ a1 ∧ a1 ≤ 1000000 from by omega)) 24 (hP.2.2 24)) 26 (hP.2.2 26)) 27 (hP.2.2 27))) dX10_passTo_26 (fun H locs hP hS => ?_)
        refine lv_aload_n hx hb dX10_passTo_29 rfl (lv_at hl 0 rfl) ?_
        refine rwG_tries C hP mF_X10_44 dX10_passTo_30 ?_
        refine lv_iload_n hx hb dX10_passTo_33 rfl (lv_at hl 1 rfl) ?_
        refine lv_aload_n hx hb dX10_passTo_34 rfl (lv_at hl 0 rfl) ?_
        refine rwG_laws C hP mF_X10_16 dX10_passTo_35 ?_
        refine lv_aload_n hx hb dX10_passTo_38 rfl (lv_at hl 0 rfl) ?_
        refine rwG_field C hP mF_X10_37 dX10_passTo_39 ?_
        refine rwG_field_open C hP mF_X10_129 dX10_passTo_42 ?_
        show W p l e (gRm 2 47) s m args below meth c _ _ 0 0 Q (F0 m 45 ls [.int (iI (v 22)), .ref (ad 2), .int (iI a1), .ref (ad 30)])
        refine lv_iconst (v := iI 2) hx hb dX10_passTo_45 rfl ?_
        refine g_cv (As := [.int (iI (v 22)), .int (iI 2)]) (rest := [.int (iI a1), .ref (ad 30)]) (n := 2) C hml (c_X4_shapeOf l D k A ad hD (va_up v 26 a1) (va_up (va_up (va_up f 24 (f 24)) 26 (f 26)) 27 (f 27)) g (v 22) 2 (by omega) (by decide)) mM_X10_170 mI_X4_shapeOf mE_X4_shapeOf mN_X4 mC_X4_shapeOf (by decide +kernel) 2 (ci := 4) rfl rfl hP hS (fun _ h => h) ⟨Nat.le_of_ble_eq_true rfl, Nat.le_of_ble_eq_true rfl⟩ ⟨Nat.zero_le _, Nat.zero_le _⟩ hl.1 rfl rfl (Nat.le_of_ble_eq_true rfl) dX10_passTo_46 (fun r_8 v_8 f_8 g_8 H locs hq_8 hP _ hS => ?_)
        obtain ⟨z_8, rfl, rfl, rfl, rfl, p0_8, p1_8⟩ := hq_8
        show W p l e (gRm 2 47) s m args below meth c _ _ 0 0 Q (F0 m 49 ls [.int (iI z_8), .int (iI a1), .ref (ad 30)])
        replace p0_8 : z_8 = (if (0 ≤ (v 22) ∧ (v 22) < (v 1)) ∧ 0 ≤ (2 : Int) ∧ (2 : Int) < 4 then (f 1) ((v 22) * 4 + (2 : Int)) else 0) := p0_8
        replace p1_8 : 0 ≤ z_8 ∧ z_8 ≤ 999999 := p1_8
        have hz_8 : inR z_8 := (by first | omega | (rw [p0_8]; split <;> omega))
        have q_8 := by first | exact sh0 hs p0_8 | exact sh2 hs p0_8 | exact sh3 hs p0_8 | exact trivial
        refine g_cv (As := [.int (iI a1), .int (iI z_8)]) (rest := []) (n := 2) C hml (c_X7_endOverdue l D k A ad hD (va_up v 26 a1) (va_up (va_up (va_up f 24 (f 24)) 26 (f 26)) 27 (f 27)) g a1 z_8 (by omega) (by omega) (show 0 ≤ a1 ∧ a1 ≤ 1000000 from by omega) (show 0 ≤ z_8 ∧ z_8 ≤ 999 from by omega)) mM_X10_314 mI_X7_endOverdue mE_X7_endOverdue mN_X7 mC_X7_endOverdue (by decide +kernel) 30 (ci := 7) rfl rfl hP hS (fun _ h => h) ⟨Nat.le_of_ble_eq_true rfl, Nat.le_of_ble_eq_true rfl⟩ ⟨Nat.zero_le _, Nat.zero_le _⟩ hl.1 rfl rfl (Nat.le_of_ble_eq_true rfl) dX10_passTo_49 (fun r_9 v_9 f_9 g_9 H locs hq_9 hP _ hS => ?_)
        obtain ⟨a24_9, a26_9, a27_9, rfl, rfl, rfl, rfl⟩ := hq_9
        show W p l e (gRm 2 47) s m args below meth c _ _ 0 0 Q (F0 m 52 ls [])
        have hP : gWd D (rwT k ad) (va_up v 26 a1) (va_up (va_up (va_up f 24 a24_9) 26 a26_9) 27 a27_9) g H := ⟨hP.1, (gF_up (V := rwV) (F := rwF) (gF_up (V := rwV) (F := rwF) (gF_up (V := rwV) (F := rwF) (gR_up (V := rwV) (F := rwF) ⟨hok.1, hok.2⟩ 26 (hP.2.1 26)) 24 (hP.2.2 24)) 26 (hP.2.2 26)) 27 (hP.2.2 27))⟩
        refine lv_iconst (v := iI 0) hx hb dX10_passTo_52 rfl ?_
        exact g_iret hQ C hr hlocks hP hS dX10_passTo_53 ⟨0, a1, a24_9, a26_9, a27_9, rfl, rfl, rfl, rfl, (by first | omega | (split <;> omega))⟩
      · refine lv_bipush (v := iI 9) hx hb dX10_passTo_21 (by decide) ?_
        exact g_iret hQ C hr hlocks hP hS dX10_passTo_23 ⟨9, (v 26), (f 24), (f 26), (f 27), rfl, rfl, rfl, rfl, (by first | omega | (split <;> omega))⟩
    · refine lv_iconst (v := iI 2) hx hb dX10_passTo_11 rfl ?_
      exact g_iret hQ C hr hlocks hP hS dX10_passTo_12 ⟨2, (v 26), (f 24), (f 26), (f 27), rfl, rfl, rfl, rfl, (by first | omega | (split <;> omega))⟩

set_option maxHeartbeats 4000000 in
set_option maxRecDepth 100000 in
theorem c_X10_restOver (l : Launch) (D : va_G) (k : Nat → ClassId) (A : Nat → Prop) (ad : Nat → Nat) (hD : rwD A k ad) (v : gV) (f g : gF) (a1 : Int) (h_a1 : inR a1) (hs : shOk (v 1) (f 1)) : GM l D k A (rwT k ad) yX10_restOver cX10_restOver 3 (some .int) 2 54 [.ref (ad 0), .int (iI a1)] v f g (fun r v1 f1 g1 => ∃ (z : Int), r = some (.int (iI z)) ∧ v = v1 ∧ f = f1 ∧ g = g1 ∧ (0 ≤ z ∧ z ≤ 1001998)) := by
  refine GM.of (by decide) (Nat.le_of_ble_eq_true rfl) ?_
  intro p e s m args below meth c Q ls hQ C hml hr hlocks hP hl
  have hx := C.1
  have hb := C.2.1
  have hok := hP.2
  have hS : va_S A s.heap s.heap [] := va_S.rf
  have hl : lv_has ls 3 [(0, .ref (ad 0)), (1, .int (iI a1))] := hl
  have r_1 : 0 ≤ (v 1) ∧ (v 1) ≤ 4 := hok.1 1
  have r_2 : 0 ≤ (v 21) ∧ (v 21) ≤ 16 := hok.1 21
  have r_3 : 0 ≤ (v 22) ∧ (v 22) ≤ 3 := hok.1 22
  refine lv_aload_n hx hb dX10_restOver_0 rfl (lv_at hl 0 rfl) ?_
  refine rwG_tries C hP mF_X10_44 dX10_restOver_1 ?_
  refine lv_iload_n hx hb dX10_restOver_4 rfl (lv_at hl 1 rfl) ?_
  refine lv_aload_n hx hb dX10_restOver_5 rfl (lv_at hl 0 rfl) ?_
  refine rwG_field C hP mF_X10_37 dX10_restOver_6 ?_
  refine rwG_field_open C hP mF_X10_129 dX10_restOver_9 ?_
  refine g_cv (As := [.int (iI a1), .int (iI (v 22))]) (rest := []) (n := 2) C hml (c_X7_lastEnd l D k A ad hD v f g a1 (v 22) (by omega) (by omega)) mM_X10_323 mI_X7_lastEnd mE_X7_lastEnd mN_X7 mC_X7_lastEnd (by decide +kernel) 30 (ci := 7) rfl rfl hP hS (fun _ h => h) ⟨Nat.le_of_ble_eq_true rfl, Nat.le_of_ble_eq_true rfl⟩ ⟨Nat.zero_le _, Nat.zero_le _⟩ hl.1 rfl rfl (Nat.le_of_ble_eq_true rfl) dX10_restOver_12 (fun r_4 v_4 f_4 g_4 H locs hq_4 hP _ hS => ?_)
  obtain ⟨z_4, rfl, rfl, rfl, rfl, p0_4⟩ := hq_4
  show W p l e (gRm 2 54) s m args below meth c _ _ 0 0 Q (F0 m 15 ls [.int (iI z_4)])
  replace p0_4 : (-1) ≤ z_4 ∧ z_4 ≤ 1000999 := p0_4
  refine lv_istore_n (lv' := [(2, .int (iI z_4)), (0, .ref (ad 0)), (1, .int (iI a1))]) hx hb dX10_restOver_15 rfl hl (by decide) rfl (fun ls hl => ?_)
  refine lv_iload_n hx hb dX10_restOver_16 rfl (lv_at hl 0 rfl) ?_
  refine lv_iconst (v := iI (-1)) hx hb dX10_restOver_17 rfl ?_
  refine gi_cne (tgt := 25) hx hb dX10_restOver_18 (by decide) (by omega) (by decide) (fun c_5 => ?_) (fun c_5 => ?_)
  · refine lv_iload_n hx hb dX10_restOver_25 rfl (lv_at hl 0 rfl) ?_
    refine lv_aload_n hx hb dX10_restOver_26 rfl (lv_at hl 1 rfl) ?_
    refine rwG_laws C hP mF_X10_16 dX10_restOver_27 ?_
    refine lv_aload_n hx hb dX10_restOver_30 rfl (lv_at hl 1 rfl) ?_
    refine rwG_field C hP mF_X10_37 dX10_restOver_31 ?_
    refine rwG_field_open C hP mF_X10_129 dX10_restOver_34 ?_
    refine lv_iconst (v := iI 3) hx hb dX10_restOver_37 rfl ?_
    refine g_cv (As := [.int (iI (v 22)), .int (iI 3)]) (rest := [.int (iI z_4)]) (n := 2) C hml (c_X4_shapeOf l D k A ad hD v f g (v 22) 3 (by omega) (by decide)) mM_X10_170 mI_X4_shapeOf mE_X4_shapeOf mN_X4 mC_X4_shapeOf (by decide +kernel) 2 (ci := 4) rfl rfl hP hS (fun _ h => h) ⟨Nat.le_of_ble_eq_true rfl, Nat.le_of_ble_eq_true rfl⟩ ⟨Nat.zero_le _, Nat.zero_le _⟩ hl.1 rfl rfl (Nat.le_of_ble_eq_true rfl) dX10_restOver_38 (fun r_6 v_6 f_6 g_6 H locs hq_6 hP _ hS => ?_)
    obtain ⟨z_6, rfl, rfl, rfl, rfl, p0_6, p1_6⟩ := hq_6
    show W p l e (gRm 2 54) s m args below meth c _ _ 0 0 Q (F0 m 41 ls [.int (iI z_6), .int (iI z_4)])
    replace p0_6 : z_6 = (if (0 ≤ (v 22) ∧ (v 22) < (v 1)) ∧ 0 ≤ (3 : Int) ∧ (3 : Int) < 4 then (f 1) ((v 22) * 4 + (3 : Int)) else 0) := p0_6
    replace p1_6 : 0 ≤ z_6 ∧ z_6 ≤ 999999 := p1_6
    have hz_6 : inR z_6 := (by first | omega | (rw [p0_6]; split <;> omega))
    have q_6 := by first | exact sh0 hs p0_6 | exact sh2 hs p0_6 | exact sh3 hs p0_6 | exact trivial
    refine gi_add (z := (z_4 + z_6)) hx hb dX10_restOver_41 rfl ?_
    exact g_iret hQ C hr hlocks hP hS dX10_restOver_42 ⟨(z_4 + z_6), rfl, rfl, rfl, rfl, (by first | omega | (split <;> omega))⟩
  · refine lv_iconst (v := iI 0) hx hb dX10_restOver_21 rfl ?_
    refine lv_goto (tgt := 42) hx hb dX10_restOver_22 (by decide) ?_
    exact g_iret hQ C hr hlocks hP hS dX10_restOver_42 ⟨0, rfl, rfl, rfl, rfl, (by first | omega | (split <;> omega))⟩

set_option maxHeartbeats 4000000 in
set_option maxRecDepth 100000 in
theorem c_X10_hasSeen (l : Launch) (D : va_G) (k : Nat → ClassId) (A : Nat → Prop) (ad : Nat → Nat) (hD : rwD A k ad) (v : gV) (f g : gF) (a1 : Int) (a2 : Int) (h_a1 : inR a1) (h_a2 : inR a2) (hc : 0 ≤ a1 ∧ a1 ≤ 15) : GM l D k A (rwT k ad) yX10_hasSeen cX10_hasSeen 3 (some .boolean) 3 73 [.ref (ad 0), .int (iI a1), .int (iI a2)] v f g (fun r v1 f1 g1 => ∃ (z : Int), r = some (.int (iI z)) ∧ v = v1 ∧ f = f1 ∧ g = g1 ∧ (0 ≤ z ∧ z ≤ 1)) := by
  refine GM.of (by decide) (Nat.le_of_ble_eq_true rfl) ?_
  intro p e s m args below meth c Q ls hQ C hml hr hlocks hP hl
  have hx := C.1
  have hb := C.2.1
  have hok := hP.2
  have hS : va_S A s.heap s.heap [] := va_S.rf
  have hl : lv_has ls 3 [(0, .ref (ad 0)), (1, .int (iI a1)), (2, .int (iI a2))] := hl
  refine lv_aload_n hx hb dX10_hasSeen_0 rfl (lv_at hl 0 rfl) ?_
  refine rwG_watch C hP mF_X10_58 dX10_hasSeen_1 ?_
  refine lv_aload_n hx hb dX10_hasSeen_4 rfl (lv_at hl 0 rfl) ?_
  refine rwG_tries C hP mF_X10_44 dX10_hasSeen_5 ?_
  refine lv_iload_n hx hb dX10_hasSeen_8 rfl (lv_at hl 1 rfl) ?_
  refine lv_aload_n hx hb dX10_hasSeen_9 rfl (lv_at hl 0 rfl) ?_
  refine rwG_field C hP mF_X10_37 dX10_hasSeen_10 ?_
  refine rwG_field_open C hP mF_X10_129 dX10_hasSeen_13 ?_
  have r_1 : 0 ≤ (v 22) ∧ (v 22) ≤ 3 := hok.1 22
  refine lv_iload_n hx hb dX10_hasSeen_16 rfl (lv_at hl 2 rfl) ?_
  refine lv_aload_n hx hb dX10_hasSeen_17 rfl (lv_at hl 0 rfl) ?_
  refine rwG_time C hP mF_X10_114 dX10_hasSeen_18 ?_
  have r_2 : 0 ≤ (v 26) ∧ (v 26) ≤ 1000000 := hok.1 26
  refine g_cv (As := [.ref (ad 30), .int (iI a1), .int (iI (v 22)), .int (iI a2), .int (iI (v 26))]) (rest := []) (n := 5) C hml (c_X9_hasSeen l D k A ad hD v f g a1 (v 22) a2 (v 26) (by omega) (by omega) (by omega) (by omega) (show 0 ≤ a1 ∧ a1 ≤ 15 from by omega)) mM_X10_320 mI_X9_hasSeen mE_X9_hasSeen mN_X9 mC_X9_hasSeen (by decide +kernel) 43 (ci := 9) rfl rfl hP hS (fun _ h => h) ⟨Nat.le_of_ble_eq_true rfl, Nat.le_of_ble_eq_true rfl⟩ ⟨Nat.zero_le _, Nat.zero_le _⟩ hl.1 rfl rfl (Nat.le_of_ble_eq_true rfl) dX10_hasSeen_21 (fun r_3 v_3 f_3 g_3 H locs hq_3 hP _ hS => ?_)
  obtain ⟨z_3, rfl, rfl, rfl, rfl, p0_3⟩ := hq_3
  show W p l e (gRm 3 73) s m args below meth c _ _ 0 0 Q (F0 m 24 ls [.int (iI z_3)])
  replace p0_3 : 0 ≤ z_3 ∧ z_3 ≤ 1 := p0_3
  exact g_zret hQ C hr hlocks (by omega) hP hS dX10_hasSeen_24 ⟨z_3, rfl, rfl, rfl, rfl, (by first | omega | (split <;> omega))⟩

set_option maxHeartbeats 4000000 in
set_option maxRecDepth 100000 in
theorem c_X10_whyNotBegin (l : Launch) (D : va_G) (k : Nat → ClassId) (A : Nat → Prop) (ad : Nat → Nat) (hD : rwD A k ad) (v : gV) (f g : gF) (a1 : Int) (a2 : Int) (h_a1 : inR a1) (h_a2 : inR a2) (hs : shOk (v 1) (f 1)) (hc : 0 ≤ a1 ∧ a1 ≤ 15) (h2 : 0 ≤ a2 ∧ a2 ≤ 4) : GM l D k A (rwT k ad) yX10_whyNotBegin cX10_whyNotBegin 4 (some .int) 4 95 [.ref (ad 0), .int (iI a1), .int (iI a2)] v f g (fun r v1 f1 g1 => ∃ (z : Int), r = some (.int (iI z)) ∧ v = v1 ∧ f = f1 ∧ g = g1 ∧ (0 ≤ z ∧ z ≤ 8) ∧ (z = 0 → (v 23) < 300)) := by
  refine GM.of (by decide) (Nat.le_of_ble_eq_true rfl) ?_
  intro p e s m args below meth c Q ls hQ C hml hr hlocks hP hl
  have hx := C.1
  have hb := C.2.1
  have hok := hP.2
  have hS : va_S A s.heap s.heap [] := va_S.rf
  have hl : lv_has ls 4 [(0, .ref (ad 0)), (1, .int (iI a1)), (2, .int (iI a2))] := hl
  have r_1 : 0 ≤ (v 1) ∧ (v 1) ≤ 4 := hok.1 1
  have r_2 : 0 ≤ (v 21) ∧ (v 21) ≤ 16 := hok.1 21
  have r_3 : 0 ≤ (v 22) ∧ (v 22) ≤ 3 := hok.1 22
  refine lv_aload_n hx hb dX10_whyNotBegin_0 rfl (lv_at hl 0 rfl) ?_
  refine rwG_field C hP mF_X10_37 dX10_whyNotBegin_1 ?_
  refine rwG_field_open C hP mF_X10_129 dX10_whyNotBegin_4 ?_
  refine lv_istore_n (lv' := [(3, .int (iI (v 22))), (0, .ref (ad 0)), (1, .int (iI a1)), (2, .int (iI a2))]) hx hb dX10_whyNotBegin_7 rfl hl (by decide) rfl (fun ls hl => ?_)
  refine lv_aload_n hx hb dX10_whyNotBegin_8 rfl (lv_at hl 1 rfl) ?_
  refine rwG_field C hP mF_X10_37 dX10_whyNotBegin_9 ?_
  refine lv_iload_n hx hb dX10_whyNotBegin_12 rfl (lv_at hl 0 rfl) ?_
  refine lv_iload_n hx hb dX10_whyNotBegin_13 rfl (lv_at hl 2 rfl) ?_
  refine g_cv (As := [.int (iI (v 22)), .int (iI a1)]) (rest := []) (n := 2) C hml (c_X2_isIn l D k A ad hD v f g (v 22) a1 (by omega) (by omega)) mM_X10_268 mI_X2_isIn mE_X2_isIn mN_X2 mC_X2_isIn (by decide +kernel) 27 (ci := 2) rfl rfl hP hS (fun _ h => h) ⟨Nat.le_of_ble_eq_true rfl, Nat.le_of_ble_eq_true rfl⟩ ⟨Nat.zero_le _, Nat.zero_le _⟩ hl.1 rfl rfl (Nat.le_of_ble_eq_true rfl) dX10_whyNotBegin_14 (fun r_4 v_4 f_4 g_4 H locs hq_4 hP _ hS => ?_)
  obtain ⟨z_4, rfl, rfl, rfl, rfl, p0_4⟩ := hq_4
  show W p l e (gRm 4 95) s m args below meth c _ _ 0 0 Q (F0 m 17 ls [.int (iI z_4)])
  replace p0_4 : z_4 = (if (0 ≤ a1 ∧ a1 < (v 21)) ∧ (v 22) ≤ (f 18) a1 then 1 else 0) := p0_4
  have w_4 := gif (P := (0 ≤ a1 ∧ a1 < (v 21)) ∧ (v 22) ≤ (f 18) a1) p0_4
  have hz_4 : inR z_4 := (by first | omega | (rw [p0_4]; split <;> omega))
  refine gi_zne (tgt := 22) hx hb dX10_whyNotBegin_17 (by decide) (by omega) (fun c_5 => ?_) (fun c_5 => ?_)
  · refine lv_aload_n hx hb dX10_whyNotBegin_22 rfl (lv_at hl 1 rfl) ?_
    refine rwG_tries C hP mF_X10_44 dX10_whyNotBegin_23 ?_
    refine lv_iload_n hx hb dX10_whyNotBegin_26 rfl (lv_at hl 2 rfl) ?_
    refine g_cv (As := [.int (iI a1)]) (rest := []) (n := 1) C hml (c_X7_openOf l D k A ad hD v f g a1 (by omega) (show 0 ≤ a1 ∧ a1 ≤ 15 from by omega)) mM_X10_197 mI_X7_openOf mE_X7_openOf mN_X7 mC_X7_openOf (by decide +kernel) 30 (ci := 7) rfl rfl hP hS (fun _ h => h) ⟨Nat.le_of_ble_eq_true rfl, Nat.le_of_ble_eq_true rfl⟩ ⟨Nat.zero_le _, Nat.zero_le _⟩ hl.1 rfl rfl (Nat.le_of_ble_eq_true rfl) dX10_whyNotBegin_27 (fun r_6 v_6 f_6 g_6 H locs hq_6 hP _ hS => ?_)
    obtain ⟨z_6, rfl, rfl, rfl, rfl, p0_6, p1_6⟩ := hq_6
    show W p l e (gRm 4 95) s m args below meth c _ _ 0 0 Q (F0 m 30 ls [.int (iI z_6)])
    replace p0_6 : z_6 = ((f 27) a1 - 1) := p0_6
    replace p1_6 : (-1) ≤ z_6 ∧ z_6 ≤ 299 := p1_6
    have hz_6 : inR z_6 := (by first | omega | (rw [p0_6]; split <;> omega))
    refine lv_iconst (v := iI (-1)) hx hb dX10_whyNotBegin_30 rfl ?_
    refine gi_ceq (tgt := 36) hx hb dX10_whyNotBegin_31 (by decide) (by omega) (by decide) (fun c_7 => ?_) (fun c_7 => ?_)
    · refine lv_aload_n hx hb dX10_whyNotBegin_36 rfl (lv_at hl 1 rfl) ?_
      refine rwG_tries C hP mF_X10_44 dX10_whyNotBegin_37 ?_
      refine lv_iload_n hx hb dX10_whyNotBegin_40 rfl (lv_at hl 2 rfl) ?_
      refine lv_iload_n hx hb dX10_whyNotBegin_41 rfl (lv_at hl 0 rfl) ?_
      refine lv_iload_n hx hb dX10_whyNotBegin_42 rfl (lv_at hl 3 rfl) ?_
      refine lv_aload_n hx hb dX10_whyNotBegin_43 rfl (lv_at hl 1 rfl) ?_
      refine rwG_laws C hP mF_X10_16 dX10_whyNotBegin_44 ?_
      refine lv_iload_n hx hb dX10_whyNotBegin_47 rfl (lv_at hl 0 rfl) ?_
      refine lv_iconst (v := iI 1) hx hb dX10_whyNotBegin_48 rfl ?_
      refine g_cv (As := [.int (iI (v 22)), .int (iI 1)]) (rest := [.int (iI a2), .int (iI (v 22)), .int (iI a1), .ref (ad 30)]) (n := 2) C hml (c_X4_shapeOf l D k A ad hD v f g (v 22) 1 (by omega) (by decide)) mM_X10_170 mI_X4_shapeOf mE_X4_shapeOf mN_X4 mC_X4_shapeOf (by decide +kernel) 2 (ci := 4) rfl rfl hP hS (fun _ h => h) ⟨Nat.le_of_ble_eq_true rfl, Nat.le_of_ble_eq_true rfl⟩ ⟨Nat.zero_le _, Nat.zero_le _⟩ hl.1 rfl rfl (Nat.le_of_ble_eq_true rfl) dX10_whyNotBegin_49 (fun r_8 v_8 f_8 g_8 H locs hq_8 hP _ hS => ?_)
      obtain ⟨z_8, rfl, rfl, rfl, rfl, p0_8, p1_8⟩ := hq_8
      show W p l e (gRm 4 95) s m args below meth c _ _ 0 0 Q (F0 m 52 ls [.int (iI z_8), .int (iI a2), .int (iI (v 22)), .int (iI a1), .ref (ad 30)])
      replace p0_8 : z_8 = (if (0 ≤ (v 22) ∧ (v 22) < (v 1)) ∧ 0 ≤ (1 : Int) ∧ (1 : Int) < 4 then (f 1) ((v 22) * 4 + (1 : Int)) else 0) := p0_8
      replace p1_8 : 0 ≤ z_8 ∧ z_8 ≤ 999999 := p1_8
      have hz_8 : inR z_8 := (by first | omega | (rw [p0_8]; split <;> omega))
      have q_8 := by first | exact sh0 hs p0_8 | exact sh2 hs p0_8 | exact sh3 hs p0_8 | exact trivial
      refine g_cv (As := [.int (iI a1), .int (iI (v 22)), .int (iI a2), .int (iI z_8)]) (rest := []) (n := 4) C hml (c_X7_mayNotTry l D k A ad hD v f g a1 (v 22) a2 z_8 (by omega) (by omega) (by omega) (by omega)) mM_X10_317 mI_X7_mayNotTry mE_X7_mayNotTry mN_X7 mC_X7_mayNotTry (by decide +kernel) 30 (ci := 7) rfl rfl hP hS (fun _ h => h) ⟨Nat.le_of_ble_eq_true rfl, Nat.le_of_ble_eq_true rfl⟩ ⟨Nat.zero_le _, Nat.zero_le _⟩ hl.1 rfl rfl (Nat.le_of_ble_eq_true rfl) dX10_whyNotBegin_52 (fun r_9 v_9 f_9 g_9 H locs hq_9 hP _ hS => ?_)
      obtain ⟨z_9, rfl, rfl, rfl, rfl, p0_9⟩ := hq_9
      show W p l e (gRm 4 95) s m args below meth c _ _ 0 0 Q (F0 m 55 ls [.int (iI z_9)])
      replace p0_9 : 0 ≤ z_9 ∧ z_9 ≤ 1 := p0_9
      refine gi_zeq (tgt := 61) hx hb dX10_whyNotBegin_55 (by decide) (by omega) (fun c_10 => ?_) (fun c_10 => ?_)
      · refine lv_aload_n hx hb dX10_whyNotBegin_61 rfl (lv_at hl 1 rfl) ?_
        refine rwG_tries C hP mF_X10_44 dX10_whyNotBegin_62 ?_
        refine rwG_tries_many C hP mF_X10_126 dX10_whyNotBegin_65 ?_
        have r_11 : 0 ≤ (v 23) ∧ (v 23) ≤ 300 := hok.1 23
        refine lv_sipush (v := iI 300) hx hb dX10_whyNotBegin_68 (by decide) ?_
        refine gi_clt (tgt := 76) hx hb dX10_whyNotBegin_71 (by decide) (by omega) (by decide) (fun c_12 => ?_) (fun c_12 => ?_)
        · refine lv_aload_n hx hb dX10_whyNotBegin_76 rfl (lv_at hl 1 rfl) ?_
          refine lv_iload_n hx hb dX10_whyNotBegin_77 rfl (lv_at hl 2 rfl) ?_
          refine lv_iload_n hx hb dX10_whyNotBegin_78 rfl (lv_at hl 3 rfl) ?_
          refine g_cv (As := [.int (iI a1), .int (iI a2)]) (rest := []) (n := 2) C hml (c_X10_hasSeen l D k A ad hD v f g a1 a2 (by omega) (by omega) (show 0 ≤ a1 ∧ a1 ≤ 15 from by omega)) mM_X10_237 mI_X10_hasSeen mE_X10_hasSeen mN_X10 mC_X10_hasSeen (by decide +kernel) 0 (ci := 10) rfl rfl hP hS (fun _ h => h) ⟨Nat.le_of_ble_eq_true rfl, Nat.le_of_ble_eq_true rfl⟩ ⟨Nat.zero_le _, Nat.zero_le _⟩ hl.1 rfl rfl (Nat.le_of_ble_eq_true rfl) dX10_whyNotBegin_79 (fun r_13 v_13 f_13 g_13 H locs hq_13 hP _ hS => ?_)
          obtain ⟨z_13, rfl, rfl, rfl, rfl, p0_13⟩ := hq_13
          show W p l e (gRm 4 95) s m args below meth c _ _ 0 0 Q (F0 m 82 ls [.int (iI z_13)])
          replace p0_13 : 0 ≤ z_13 ∧ z_13 ≤ 1 := p0_13
          refine gi_zeq (tgt := 88) hx hb dX10_whyNotBegin_82 (by decide) (by omega) (fun c_14 => ?_) (fun c_14 => ?_)
          · refine lv_aload_n hx hb dX10_whyNotBegin_88 rfl (lv_at hl 1 rfl) ?_
            refine rwG_time C hP mF_X10_114 dX10_whyNotBegin_89 ?_
            have r_15 : 0 ≤ (v 26) ∧ (v 26) ≤ 1000000 := hok.1 26
            refine lv_aload_n hx hb dX10_whyNotBegin_92 rfl (lv_at hl 1 rfl) ?_
            refine lv_iload_n hx hb dX10_whyNotBegin_93 rfl (lv_at hl 2 rfl) ?_
            refine g_cv (As := [.int (iI a1)]) (rest := [.int (iI (v 26))]) (n := 1) C hml (c_X10_restOver l D k A ad hD v f g a1 (by omega) (show shOk (v 1) (f 1) from hs)) mM_X10_240 mI_X10_restOver mE_X10_restOver mN_X10 mC_X10_restOver (by decide +kernel) 0 (ci := 10) rfl rfl hP hS (fun _ h => h) ⟨Nat.le_of_ble_eq_true rfl, Nat.le_of_ble_eq_true rfl⟩ ⟨Nat.zero_le _, Nat.zero_le _⟩ hl.1 rfl rfl (Nat.le_of_ble_eq_true rfl) dX10_whyNotBegin_94 (fun r_16 v_16 f_16 g_16 H locs hq_16 hP _ hS => ?_)
            obtain ⟨z_16, rfl, rfl, rfl, rfl, p0_16⟩ := hq_16
            show W p l e (gRm 4 95) s m args below meth c _ _ 0 0 Q (F0 m 97 ls [.int (iI z_16), .int (iI (v 26))])
            replace p0_16 : 0 ≤ z_16 ∧ z_16 ≤ 1001998 := p0_16
            refine gi_cge (tgt := 105) hx hb dX10_whyNotBegin_97 (by decide) (by omega) (by omega) (fun c_17 => ?_) (fun c_17 => ?_)
            · refine lv_iconst (v := iI 0) hx hb dX10_whyNotBegin_105 rfl ?_
              exact g_iret hQ C hr hlocks hP hS dX10_whyNotBegin_106 ⟨0, rfl, rfl, rfl, rfl, (by first | omega | (split <;> omega)), (by first | omega | (split <;> omega))⟩
            · refine lv_bipush (v := iI 8) hx hb dX10_whyNotBegin_100 (by decide) ?_
              refine lv_goto (tgt := 106) hx hb dX10_whyNotBegin_102 (by decide) ?_
              exact g_iret hQ C hr hlocks hP hS dX10_whyNotBegin_106 ⟨8, rfl, rfl, rfl, rfl, (by first | omega | (split <;> omega)), (by first | omega | (split <;> omega))⟩
          · refine lv_bipush (v := iI 7) hx hb dX10_whyNotBegin_85 (by decide) ?_
            exact g_iret hQ C hr hlocks hP hS dX10_whyNotBegin_87 ⟨7, rfl, rfl, rfl, rfl, (by first | omega | (split <;> omega)), (by first | omega | (split <;> omega))⟩
        · refine lv_iconst (v := iI 3) hx hb dX10_whyNotBegin_74 rfl ?_
          exact g_iret hQ C hr hlocks hP hS dX10_whyNotBegin_75 ⟨3, rfl, rfl, rfl, rfl, (by first | omega | (split <;> omega)), (by first | omega | (split <;> omega))⟩
      · refine lv_bipush (v := iI 6) hx hb dX10_whyNotBegin_58 (by decide) ?_
        exact g_iret hQ C hr hlocks hP hS dX10_whyNotBegin_60 ⟨6, rfl, rfl, rfl, rfl, (by first | omega | (split <;> omega)), (by first | omega | (split <;> omega))⟩
    · refine lv_iconst (v := iI 5) hx hb dX10_whyNotBegin_34 rfl ?_
      exact g_iret hQ C hr hlocks hP hS dX10_whyNotBegin_35 ⟨5, rfl, rfl, rfl, rfl, (by first | omega | (split <;> omega)), (by first | omega | (split <;> omega))⟩
  · refine lv_iconst (v := iI 4) hx hb dX10_whyNotBegin_20 rfl ?_
    exact g_iret hQ C hr hlocks hP hS dX10_whyNotBegin_21 ⟨4, rfl, rfl, rfl, rfl, (by first | omega | (split <;> omega)), (by first | omega | (split <;> omega))⟩

set_option maxHeartbeats 4000000 in
set_option maxRecDepth 100000 in
theorem c_X10_climber (l : Launch) (D : va_G) (k : Nat → ClassId) (A : Nat → Prop) (ad : Nat → Nat) (hD : rwD A k ad) (v : gV) (f g : gF) : GM l D k A (rwT k ad) yX10_climber cX10_climber 1 (some .int) 1 21 [.ref (ad 0)] v f g (fun r v1 f1 g1 => ∃ (z : Int) (w21 : Int) (w25 : Int) (a18_ : Int → Int), r = some (.int (iI z)) ∧ (va_up (va_up v 21 w21) 25 w25) = v1 ∧ (va_up f 18 a18_) = f1 ∧ g = g1 ∧ ((-1) ≤ z ∧ z ≤ 15)) := by
  refine GM.of (by decide) (Nat.le_of_ble_eq_true rfl) ?_
  intro p e s m args below meth c Q ls hQ C hml hr hlocks hP hl
  have hx := C.1
  have hb := C.2.1
  have hok := hP.2
  have hS : va_S A s.heap s.heap [] := va_S.rf
  have hl : lv_has ls 1 [(0, .ref (ad 0))] := hl
  have hP : gWd D (rwT k ad) (va_up (va_up v 21 (v 21)) 25 (v 25)) (va_up f 18 (f 18)) g s.heap := by rw [va_id, va_id, va_id]; exact hP
  refine lv_aload_n hx hb dX10_climber_0 rfl (lv_at hl 0 rfl) ?_
  refine rwG_laws C hP mF_X10_16 dX10_climber_1 ?_
  refine rwG_laws_rounds C hP mF_X10_117 dX10_climber_4 ?_
  show W p l e (gRm 1 21) s m args below meth c _ _ 0 0 Q (F0 m 7 ls [.int (iI (v 1))])
  have r_1 : 0 ≤ (v 1) ∧ (v 1) ≤ 4 := hok.1 1
  refine gi_zne (tgt := 16) hx hb dX10_climber_7 (by decide) (by omega) (fun c_2 => ?_) (fun c_2 => ?_)
  · refine lv_aload_n hx hb dX10_climber_16 rfl (lv_at hl 0 rfl) ?_
    refine rwG_field C hP mF_X10_37 dX10_climber_17 ?_
    refine rwG_field_climbers C hP mF_X10_123 dX10_climber_20 ?_
    show W p l e (gRm 1 21) s m args below meth c _ _ 0 0 Q (F0 m 23 ls [.int (iI (v 21))])
    have r_3 : 0 ≤ (v 21) ∧ (v 21) ≤ 16 := hok.1 21
    refine lv_bipush (v := iI 16) hx hb dX10_climber_23 (by decide) ?_
    refine gi_clt (tgt := 34) hx hb dX10_climber_25 (by decide) (by omega) (by decide) (fun c_4 => ?_) (fun c_4 => ?_)
    · refine lv_aload_n hx hb dX10_climber_34 rfl (lv_at hl 0 rfl) ?_
      refine rwG_tries C hP mF_X10_44 dX10_climber_35 ?_
      refine rwG_tries_many C hP mF_X10_126 dX10_climber_38 ?_
      show W p l e (gRm 1 21) s m args below meth c _ _ 0 0 Q (F0 m 41 ls [.int (iI (v 23))])
      have r_5 : 0 ≤ (v 23) ∧ (v 23) ≤ 300 := hok.1 23
      refine gi_zgt (tgt := 54) hx hb dX10_climber_41 (by decide) (by omega) (fun c_6 => ?_) (fun c_6 => ?_)
      · refine lv_aload_n hx hb dX10_climber_54 rfl (lv_at hl 0 rfl) ?_
        refine lv_bipush (v := iI 10) hx hb dX10_climber_55 (by decide) ?_
        refine g_cv (As := [.int (iI 10)]) (rest := []) (n := 1) C hml (c_X10_refuse l D k A ad hD (va_up (va_up v 21 (v 21)) 25 (v 25)) (va_up f 18 (f 18)) g 10 (by decide) (show 0 ≤ (10 : Int) ∧ (10 : Int) ≤ 10 from by omega)) mM_X10_88 mI_X10_refuse mE_X10_refuse mN_X10 mC_X10_refuse (by decide +kernel) 0 (ci := 10) rfl rfl hP hS (fun _ h => h) ⟨Nat.le_of_ble_eq_true rfl, Nat.le_of_ble_eq_true rfl⟩ ⟨Nat.zero_le _, Nat.zero_le _⟩ hl.1 rfl rfl (Nat.le_of_ble_eq_true rfl) dX10_climber_57 (fun r_7 v_7 f_7 g_7 H locs hq_7 hP _ hS => ?_)
        obtain ⟨rfl, rfl, rfl, rfl⟩ := hq_7
        show W p l e (gRm 1 21) s m args below meth c _ _ 0 0 Q (F0 m 60 ls [.int (iI (-1))])
        have hP : gWd D (rwT k ad) (va_up (va_up v 21 (v 21)) 25 (10 : Int)) (va_up f 18 (f 18)) g H := ⟨hP.1, (gF_up (V := rwV) (F := rwF) (gR_up (V := rwV) (F := rwF) (gR_up (V := rwV) (F := rwF) ⟨hok.1, hok.2⟩ 21 (hP.2.1 21)) 25 (hP.2.1 25)) 18 (hP.2.2 18))⟩
        exact g_iret hQ C hr hlocks hP hS dX10_climber_60 ⟨(-1), (v 21), (10 : Int), (f 18), rfl, rfl, rfl, rfl, (by first | omega | (split <;> omega))⟩
      · refine lv_aload_n hx hb dX10_climber_44 rfl (lv_at hl 0 rfl) ?_
        refine rwG_field C hP mF_X10_37 dX10_climber_45 ?_
        refine rwG_field_open C hP mF_X10_129 dX10_climber_48 ?_
        show W p l e (gRm 1 21) s m args below meth c _ _ 0 0 Q (F0 m 51 ls [.int (iI (v 22))])
        have r_8 : 0 ≤ (v 22) ∧ (v 22) ≤ 3 := hok.1 22
        refine gi_zle (tgt := 61) hx hb dX10_climber_51 (by decide) (by omega) (fun c_9 => ?_) (fun c_9 => ?_)
        · refine lv_aload_n hx hb dX10_climber_61 rfl (lv_at hl 0 rfl) ?_
          refine lv_aload_n hx hb dX10_climber_62 rfl (lv_at hl 0 rfl) ?_
          refine rwG_field C hP mF_X10_37 dX10_climber_63 ?_
          refine g_cv (As := []) (rest := [.ref (ad 0)]) (n := 0) C hml (c_X2_enter l D k A ad hD (va_up (va_up v 21 (v 21)) 25 (v 25)) (va_up f 18 (f 18)) g (show (v 21) < 16 from by omega)) mM_X10_132 mI_X2_enter mE_X2_enter mN_X2 mC_X2_enter (by decide +kernel) 27 (ci := 2) rfl rfl hP hS (fun _ h => h) ⟨Nat.le_of_ble_eq_true rfl, Nat.le_of_ble_eq_true rfl⟩ ⟨Nat.zero_le _, Nat.zero_le _⟩ hl.1 rfl rfl (Nat.le_of_ble_eq_true rfl) dX10_climber_66 (fun r_10 v_10 f_10 g_10 H locs hq_10 hP _ hS => ?_)
          obtain ⟨z_10, rfl, rfl, rfl, rfl, p0_10⟩ := hq_10
          show W p l e (gRm 1 21) s m args below meth c _ _ 0 0 Q (F0 m 69 ls [.int (iI z_10), .ref (ad 0)])
          have hP : gWd D (rwT k ad) (va_up (va_up v 21 ((v 21) + 1)) 25 (v 25)) (va_up f 18 (u1 (f 18) (v 21) 0)) g H := ⟨hP.1, (gF_up (V := rwV) (F := rwF) (gR_up (V := rwV) (F := rwF) (gR_up (V := rwV) (F := rwF) ⟨hok.1, hok.2⟩ 21 (hP.2.1 21)) 25 (hP.2.1 25)) 18 (hP.2.2 18))⟩
          replace p0_10 : z_10 = (v 21) := p0_10
          have hz_10 : inR z_10 := (by first | omega | (rw [p0_10]; split <;> omega))
          refine g_cv (As := [.int (iI z_10)]) (rest := []) (n := 1) C hml (c_X10_answer l D k A ad hD (va_up (va_up v 21 ((v 21) + 1)) 25 (v 25)) (va_up f 18 (u1 (f 18) (v 21) 0)) g z_10 (by omega)) mM_X10_120 mI_X10_answer mE_X10_answer mN_X10 mC_X10_answer (by decide +kernel) 0 (ci := 10) rfl rfl hP hS (fun _ h => h) ⟨Nat.le_of_ble_eq_true rfl, Nat.le_of_ble_eq_true rfl⟩ ⟨Nat.zero_le _, Nat.zero_le _⟩ hl.1 rfl rfl (Nat.le_of_ble_eq_true rfl) dX10_climber_69 (fun r_11 v_11 f_11 g_11 H locs hq_11 hP _ hS => ?_)
          obtain ⟨z_11, rfl, rfl, rfl, rfl, p0_11⟩ := hq_11
          show W p l e (gRm 1 21) s m args below meth c _ _ 0 0 Q (F0 m 72 ls [.int (iI z_11)])
          have hP : gWd D (rwT k ad) (va_up (va_up v 21 ((v 21) + 1)) 25 0) (va_up f 18 (u1 (f 18) (v 21) 0)) g H := ⟨hP.1, (gF_up (V := rwV) (F := rwF) (gR_up (V := rwV) (F := rwF) (gR_up (V := rwV) (F := rwF) ⟨hok.1, hok.2⟩ 21 (hP.2.1 21)) 25 (hP.2.1 25)) 18 (hP.2.2 18))⟩
          replace p0_11 : z_11 = z_10 := p0_11
          have hz_11 : inR z_11 := (by first | omega | (rw [p0_11]; split <;> omega))
          exact g_iret hQ C hr hlocks hP hS dX10_climber_72 ⟨z_11, ((v 21) + 1), 0, (u1 (f 18) (v 21) 0), rfl, rfl, rfl, rfl, (by first | omega | (split <;> omega))⟩
        · refine lv_aload_n hx hb dX10_climber_54 rfl (lv_at hl 0 rfl) ?_
          refine lv_bipush (v := iI 10) hx hb dX10_climber_55 (by decide) ?_
          refine g_cv (As := [.int (iI 10)]) (rest := []) (n := 1) C hml (c_X10_refuse l D k A ad hD (va_up (va_up v 21 (v 21)) 25 (v 25)) (va_up f 18 (f 18)) g 10 (by decide) (show 0 ≤ (10 : Int) ∧ (10 : Int) ≤ 10 from by omega)) mM_X10_88 mI_X10_refuse mE_X10_refuse mN_X10 mC_X10_refuse (by decide +kernel) 0 (ci := 10) rfl rfl hP hS (fun _ h => h) ⟨Nat.le_of_ble_eq_true rfl, Nat.le_of_ble_eq_true rfl⟩ ⟨Nat.zero_le _, Nat.zero_le _⟩ hl.1 rfl rfl (Nat.le_of_ble_eq_true rfl) dX10_climber_57 (fun r_12 v_12 f_12 g_12 H locs hq_12 hP _ hS => ?_)
          obtain ⟨rfl, rfl, rfl, rfl⟩ := hq_12
          show W p l e (gRm 1 21) s m args below meth c _ _ 0 0 Q (F0 m 60 ls [.int (iI (-1))])
          have hP : gWd D (rwT k ad) (va_up (va_up v 21 (v 21)) 25 (10 : Int)) (va_up f 18 (f 18)) g H := ⟨hP.1, (gF_up (V := rwV) (F := rwF) (gR_up (V := rwV) (F := rwF) (gR_up (V := rwV) (F := rwF) ⟨hok.1, hok.2⟩ 21 (hP.2.1 21)) 25 (hP.2.1 25)) 18 (hP.2.2 18))⟩
          exact g_iret hQ C hr hlocks hP hS dX10_climber_60 ⟨(-1), (v 21), (10 : Int), (f 18), rfl, rfl, rfl, rfl, (by first | omega | (split <;> omega))⟩
    · refine lv_aload_n hx hb dX10_climber_28 rfl (lv_at hl 0 rfl) ?_
      refine lv_iconst (v := iI 3) hx hb dX10_climber_29 rfl ?_
      refine g_cv (As := [.int (iI 3)]) (rest := []) (n := 1) C hml (c_X10_refuse l D k A ad hD (va_up (va_up v 21 (v 21)) 25 (v 25)) (va_up f 18 (f 18)) g 3 (by decide) (show 0 ≤ (3 : Int) ∧ (3 : Int) ≤ 10 from by omega)) mM_X10_88 mI_X10_refuse mE_X10_refuse mN_X10 mC_X10_refuse (by decide +kernel) 0 (ci := 10) rfl rfl hP hS (fun _ h => h) ⟨Nat.le_of_ble_eq_true rfl, Nat.le_of_ble_eq_true rfl⟩ ⟨Nat.zero_le _, Nat.zero_le _⟩ hl.1 rfl rfl (Nat.le_of_ble_eq_true rfl) dX10_climber_30 (fun r_13 v_13 f_13 g_13 H locs hq_13 hP _ hS => ?_)
      obtain ⟨rfl, rfl, rfl, rfl⟩ := hq_13
      show W p l e (gRm 1 21) s m args below meth c _ _ 0 0 Q (F0 m 33 ls [.int (iI (-1))])
      have hP : gWd D (rwT k ad) (va_up (va_up v 21 (v 21)) 25 (3 : Int)) (va_up f 18 (f 18)) g H := ⟨hP.1, (gF_up (V := rwV) (F := rwF) (gR_up (V := rwV) (F := rwF) (gR_up (V := rwV) (F := rwF) ⟨hok.1, hok.2⟩ 21 (hP.2.1 21)) 25 (hP.2.1 25)) 18 (hP.2.2 18))⟩
      exact g_iret hQ C hr hlocks hP hS dX10_climber_33 ⟨(-1), (v 21), (3 : Int), (f 18), rfl, rfl, rfl, rfl, (by first | omega | (split <;> omega))⟩
  · refine lv_aload_n hx hb dX10_climber_10 rfl (lv_at hl 0 rfl) ?_
    refine lv_iconst (v := iI 1) hx hb dX10_climber_11 rfl ?_
    refine g_cv (As := [.int (iI 1)]) (rest := []) (n := 1) C hml (c_X10_refuse l D k A ad hD (va_up (va_up v 21 (v 21)) 25 (v 25)) (va_up f 18 (f 18)) g 1 (by decide) (show 0 ≤ (1 : Int) ∧ (1 : Int) ≤ 10 from by omega)) mM_X10_88 mI_X10_refuse mE_X10_refuse mN_X10 mC_X10_refuse (by decide +kernel) 0 (ci := 10) rfl rfl hP hS (fun _ h => h) ⟨Nat.le_of_ble_eq_true rfl, Nat.le_of_ble_eq_true rfl⟩ ⟨Nat.zero_le _, Nat.zero_le _⟩ hl.1 rfl rfl (Nat.le_of_ble_eq_true rfl) dX10_climber_12 (fun r_14 v_14 f_14 g_14 H locs hq_14 hP _ hS => ?_)
    obtain ⟨rfl, rfl, rfl, rfl⟩ := hq_14
    show W p l e (gRm 1 21) s m args below meth c _ _ 0 0 Q (F0 m 15 ls [.int (iI (-1))])
    have hP : gWd D (rwT k ad) (va_up (va_up v 21 (v 21)) 25 (1 : Int)) (va_up f 18 (f 18)) g H := ⟨hP.1, (gF_up (V := rwV) (F := rwF) (gR_up (V := rwV) (F := rwF) (gR_up (V := rwV) (F := rwF) ⟨hok.1, hok.2⟩ 21 (hP.2.1 21)) 25 (hP.2.1 25)) 18 (hP.2.2 18))⟩
    exact g_iret hQ C hr hlocks hP hS dX10_climber_15 ⟨(-1), (v 21), (1 : Int), (f 18), rfl, rfl, rfl, rfl, (by first | omega | (split <;> omega))⟩

set_option maxHeartbeats 4000000 in
set_option maxRecDepth 100000 in
theorem c_X10_route (l : Launch) (D : va_G) (k : Nat → ClassId) (A : Nat → Prop) (ad : Nat → Nat) (hD : rwD A k ad) (v : gV) (f g : gF) (a1 : Int) (a2 : Int) (a3 : Int) (a4 : Int) (a5 : Int) (a6 : Int) (h_a1 : inR a1) (h_a2 : inR a2) (h_a3 : inR a3) (h_a4 : inR a4) (h_a5 : inR a5) (h_a6 : inR a6) (hs : shOk (v 1) (f 1)) : GM l D k A (rwT k ad) yX10_route cX10_route 7 (some .boolean) 2 46 [.ref (ad 0), .int (iI a1), .int (iI a2), .int (iI a3), .int (iI a4), .int (iI a5), .int (iI a6)] v f g (fun r v1 f1 g1 => ∃ (z : Int) (w25 : Int) (a15_ : Int → Int) (a17_ : Int → Int), r = some (.int (iI z)) ∧ (va_up v 25 w25) = v1 ∧ (va_up (va_up f 15 a15_) 17 a17_) = f1 ∧ g = g1 ∧ (0 ≤ z ∧ z ≤ 1)) := by
  refine GM.of (by decide) (Nat.le_of_ble_eq_true rfl) ?_
  intro p e s m args below meth c Q ls hQ C hml hr hlocks hP hl
  have hx := C.1
  have hb := C.2.1
  have hok := hP.2
  have hS : va_S A s.heap s.heap [] := va_S.rf
  have hl : lv_has ls 7 [(0, .ref (ad 0)), (1, .int (iI a1)), (2, .int (iI a2)), (3, .int (iI a3)), (4, .int (iI a4)), (5, .int (iI a5)), (6, .int (iI a6))] := hl
  have hP : gWd D (rwT k ad) (va_up v 25 (v 25)) (va_up (va_up f 15 (f 15)) 17 (f 17)) g s.heap := by rw [va_id, va_id, va_id]; exact hP
  have r_1 : 0 ≤ (v 1) ∧ (v 1) ≤ 4 := hok.1 1
  have r_2 : 0 ≤ (v 21) ∧ (v 21) ≤ 16 := hok.1 21
  have r_3 : 0 ≤ (v 22) ∧ (v 22) ≤ 3 := hok.1 22
  refine lv_aload_n hx hb dX10_route_0 rfl (lv_at hl 0 rfl) ?_
  refine rwG_laws C hP mF_X10_16 dX10_route_1 ?_
  refine lv_iload_n hx hb dX10_route_4 rfl (lv_at hl 1 rfl) ?_
  refine lv_iload_n hx hb dX10_route_5 rfl (lv_at hl 2 rfl) ?_
  refine g_cv (As := [.int (iI a1), .int (iI a2)]) (rest := []) (n := 2) C hml (c_X4_hasRoute l D k A ad hD (va_up v 25 (v 25)) (va_up (va_up f 15 (f 15)) 17 (f 17)) g a1 a2 (by omega) (by omega)) mM_X10_136 mI_X4_hasRoute mE_X4_hasRoute mN_X4 mC_X4_hasRoute (by decide +kernel) 2 (ci := 4) rfl rfl hP hS (fun _ h => h) ⟨Nat.le_of_ble_eq_true rfl, Nat.le_of_ble_eq_true rfl⟩ ⟨Nat.zero_le _, Nat.zero_le _⟩ hl.1 rfl rfl (Nat.le_of_ble_eq_true rfl) dX10_route_6 (fun r_4 v_4 f_4 g_4 H locs hq_4 hP _ hS => ?_)
  obtain ⟨z_4, rfl, rfl, rfl, rfl, p0_4⟩ := hq_4
  show W p l e (gRm 2 46) s m args below meth c _ _ 0 0 Q (F0 m 9 ls [.int (iI z_4)])
  replace p0_4 : z_4 = (if (0 ≤ a1 ∧ a1 < (v 1)) ∧ 0 ≤ a2 ∧ a2 < (f 1) (a1 * 4) then 1 else 0) := p0_4
  have w_4 := gif (P := (0 ≤ a1 ∧ a1 < (v 1)) ∧ 0 ≤ a2 ∧ a2 < (f 1) (a1 * 4)) p0_4
  have hz_4 : inR z_4 := (by first | omega | (rw [p0_4]; split <;> omega))
  have q_4 : z_4 = 1 → a2 ≤ 4 := fun h => by rcases w_4 with w | w; exact shR hs w.2; omega
  refine gi_zne (tgt := 18) hx hb dX10_route_9 (by decide) (by omega) (fun c_5 => ?_) (fun c_5 => ?_)
  · refine lv_iload_n hx hb dX10_route_18 rfl (lv_at hl 3 rfl) ?_
    refine lv_iconst (v := iI 2) hx hb dX10_route_19 rfl ?_
    refine gi_clt (tgt := 42) hx hb dX10_route_20 (by decide) (by omega) (by decide) (fun c_6 => ?_) (fun c_6 => ?_)
    · refine lv_aload_n hx hb dX10_route_42 rfl (lv_at hl 0 rfl) ?_
      refine lv_iconst (v := iI 2) hx hb dX10_route_43 rfl ?_
      refine g_cv (As := [.int (iI 2)]) (rest := []) (n := 1) C hml (c_X10_deny l D k A ad hD (va_up v 25 (v 25)) (va_up (va_up f 15 (f 15)) 17 (f 17)) g 2 (by decide) (show 0 ≤ (2 : Int) ∧ (2 : Int) ≤ 10 from by omega)) mM_X10_140 mI_X10_deny mE_X10_deny mN_X10 mC_X10_deny (by decide +kernel) 0 (ci := 10) rfl rfl hP hS (fun _ h => h) ⟨Nat.le_of_ble_eq_true rfl, Nat.le_of_ble_eq_true rfl⟩ ⟨Nat.zero_le _, Nat.zero_le _⟩ hl.1 rfl rfl (Nat.le_of_ble_eq_true rfl) dX10_route_44 (fun r_7 v_7 f_7 g_7 H locs hq_7 hP _ hS => ?_)
      obtain ⟨rfl, rfl, rfl, rfl⟩ := hq_7
      show W p l e (gRm 2 46) s m args below meth c _ _ 0 0 Q (F0 m 47 ls [.int (iI 0)])
      have hP : gWd D (rwT k ad) (va_up v 25 (2 : Int)) (va_up (va_up f 15 (f 15)) 17 (f 17)) g H := ⟨hP.1, (gF_up (V := rwV) (F := rwF) (gF_up (V := rwV) (F := rwF) (gR_up (V := rwV) (F := rwF) ⟨hok.1, hok.2⟩ 25 (hP.2.1 25)) 15 (hP.2.2 15)) 17 (hP.2.2 17))⟩
      exact g_zret hQ C hr hlocks (by decide) hP hS dX10_route_47 ⟨0, (2 : Int), (f 15), (f 17), rfl, rfl, rfl, rfl, (by first | omega | (split <;> omega))⟩
    · refine lv_iload_n hx hb dX10_route_23 rfl (lv_at hl 3 rfl) ?_
      refine lv_bipush (v := iI 60) hx hb dX10_route_24 (by decide) ?_
      refine gi_cgt (tgt := 42) hx hb dX10_route_26 (by decide) (by omega) (by decide) (fun c_8 => ?_) (fun c_8 => ?_)
      · refine lv_aload_n hx hb dX10_route_42 rfl (lv_at hl 0 rfl) ?_
        refine lv_iconst (v := iI 2) hx hb dX10_route_43 rfl ?_
        refine g_cv (As := [.int (iI 2)]) (rest := []) (n := 1) C hml (c_X10_deny l D k A ad hD (va_up v 25 (v 25)) (va_up (va_up f 15 (f 15)) 17 (f 17)) g 2 (by decide) (show 0 ≤ (2 : Int) ∧ (2 : Int) ≤ 10 from by omega)) mM_X10_140 mI_X10_deny mE_X10_deny mN_X10 mC_X10_deny (by decide +kernel) 0 (ci := 10) rfl rfl hP hS (fun _ h => h) ⟨Nat.le_of_ble_eq_true rfl, Nat.le_of_ble_eq_true rfl⟩ ⟨Nat.zero_le _, Nat.zero_le _⟩ hl.1 rfl rfl (Nat.le_of_ble_eq_true rfl) dX10_route_44 (fun r_9 v_9 f_9 g_9 H locs hq_9 hP _ hS => ?_)
        obtain ⟨rfl, rfl, rfl, rfl⟩ := hq_9
        show W p l e (gRm 2 46) s m args below meth c _ _ 0 0 Q (F0 m 47 ls [.int (iI 0)])
        have hP : gWd D (rwT k ad) (va_up v 25 (2 : Int)) (va_up (va_up f 15 (f 15)) 17 (f 17)) g H := ⟨hP.1, (gF_up (V := rwV) (F := rwF) (gF_up (V := rwV) (F := rwF) (gR_up (V := rwV) (F := rwF) ⟨hok.1, hok.2⟩ 25 (hP.2.1 25)) 15 (hP.2.2 15)) 17 (hP.2.2 17))⟩
        exact g_zret hQ C hr hlocks (by decide) hP hS dX10_route_47 ⟨0, (2 : Int), (f 15), (f 17), rfl, rfl, rfl, rfl, (by first | omega | (split <;> omega))⟩
      · refine lv_iload_n hx hb dX10_route_29 rfl (lv_at hl 3 rfl) ?_
        refine lv_iload hx hb dX10_route_30 (lv_at hl 4 rfl) ?_
        refine lv_iload hx hb dX10_route_32 (lv_at hl 5 rfl) ?_
        refine lv_iload hx hb dX10_route_34 (lv_at hl 6 rfl) ?_
        refine g_cs (As := [.int (iI a3), .int (iI a4), .int (iI a5), .int (iI a6)]) (rest := []) (n := 4) C hml (c_X10_zonesCanBe l D k A ad hD (va_up v 25 (v 25)) (va_up (va_up f 15 (f 15)) 17 (f 17)) g a3 a4 a5 a6 (by omega) (by omega) (by omega) (by omega)) mM_X10_144 mS_X10_zonesCanBe mN_X10 mC_X10_zonesCanBe (by decide +kernel) hP hS (fun _ h => h) ⟨Nat.le_of_ble_eq_true rfl, Nat.le_of_ble_eq_true rfl⟩ ⟨Nat.zero_le _, Nat.zero_le _⟩ hl.1 rfl rfl (Nat.le_of_ble_eq_true rfl) dX10_route_36 (fun r_10 v_10 f_10 g_10 H locs hq_10 hP _ hS => ?_)
        obtain ⟨z_10, rfl, rfl, rfl, rfl, p0_10, p1_10⟩ := hq_10
        show W p l e (gRm 2 46) s m args below meth c _ _ 0 0 Q (F0 m 39 ls [.int (iI z_10)])
        replace p0_10 : 0 ≤ z_10 ∧ z_10 ≤ 1 := p0_10
        replace p1_10 : z_10 = 1 → a3 ≤ 60 → (0 ≤ a4 ∧ a4 ≤ 60) ∧ (0 ≤ a5 ∧ a5 ≤ 60) ∧ (0 ≤ a6 ∧ a6 ≤ 60) := p1_10
        refine gi_zne (tgt := 48) hx hb dX10_route_39 (by decide) (by omega) (fun c_11 => ?_) (fun c_11 => ?_)
        · refine lv_aload_n hx hb dX10_route_48 rfl (lv_at hl 0 rfl) ?_
          refine rwG_wall C hP mF_X10_30 dX10_route_49 ?_
          refine lv_iload_n hx hb dX10_route_52 rfl (lv_at hl 1 rfl) ?_
          refine lv_iload_n hx hb dX10_route_53 rfl (lv_at hl 2 rfl) ?_
          refine g_cv (As := [.int (iI a1), .int (iI a2)]) (rest := []) (n := 2) C hml (c_X8_begunOn l D k A ad hD (va_up v 25 (v 25)) (va_up (va_up f 15 (f 15)) 17 (f 17)) g a1 a2 (by omega) (by omega) (show 0 ≤ a1 ∧ a1 ≤ 3 from by omega) (show 0 ≤ a2 ∧ a2 ≤ 4 from by omega)) mM_X10_148 mI_X8_begunOn mE_X8_begunOn mN_X8 mC_X8_begunOn (by decide +kernel) 23 (ci := 8) rfl rfl hP hS (fun _ h => h) ⟨Nat.le_of_ble_eq_true rfl, Nat.le_of_ble_eq_true rfl⟩ ⟨Nat.zero_le _, Nat.zero_le _⟩ hl.1 rfl rfl (Nat.le_of_ble_eq_true rfl) dX10_route_54 (fun r_12 v_12 f_12 g_12 H locs hq_12 hP _ hS => ?_)
          obtain ⟨z_12, rfl, rfl, rfl, rfl, p0_12, p1_12⟩ := hq_12
          show W p l e (gRm 2 46) s m args below meth c _ _ 0 0 Q (F0 m 57 ls [.int (iI z_12)])
          replace p0_12 : z_12 = ((f 16) (a1 * 5 + a2)) := p0_12
          replace p1_12 : 0 ≤ z_12 ∧ z_12 ≤ 300 := p1_12
          have hz_12 : inR z_12 := (by first | omega | (rw [p0_12]; split <;> omega))
          refine gi_zle (tgt := 67) hx hb dX10_route_57 (by decide) (by omega) (fun c_13 => ?_) (fun c_13 => ?_)
          · refine lv_aload_n hx hb dX10_route_67 rfl (lv_at hl 0 rfl) ?_
            refine rwG_wall C hP mF_X10_30 dX10_route_68 ?_
            refine lv_iload_n hx hb dX10_route_71 rfl (lv_at hl 1 rfl) ?_
            refine lv_iload_n hx hb dX10_route_72 rfl (lv_at hl 2 rfl) ?_
            refine lv_iload_n hx hb dX10_route_73 rfl (lv_at hl 3 rfl) ?_
            refine g_cv (As := [.int (iI a1), .int (iI a2), .int (iI a3)]) (rest := []) (n := 3) C hml (c_X8_set l D k A ad hD (va_up v 25 (v 25)) (va_up (va_up f 15 (f 15)) 17 (f 17)) g a1 a2 a3 (by omega) (by omega) (by omega) (show 0 ≤ a1 ∧ a1 ≤ 3 from by omega) (show 0 ≤ a2 ∧ a2 ≤ 4 from by omega) (show 0 ≤ a3 ∧ a3 ≤ 60 from by omega)) mM_X10_152 mI_X8_set mE_X8_set mN_X8 mC_X8_set (by decide +kernel) 23 (ci := 8) rfl rfl hP hS (fun _ h => h) ⟨Nat.le_of_ble_eq_true rfl, Nat.le_of_ble_eq_true rfl⟩ ⟨Nat.zero_le _, Nat.zero_le _⟩ hl.1 rfl rfl (Nat.le_of_ble_eq_true rfl) dX10_route_74 (fun r_14 v_14 f_14 g_14 H locs hq_14 hP _ hS => ?_)
            obtain ⟨rfl, rfl, rfl, rfl⟩ := hq_14
            show W p l e (gRm 2 46) s m args below meth c _ _ 0 0 Q (F0 m 77 ls [])
            have hP : gWd D (rwT k ad) (va_up v 25 (v 25)) (va_up (va_up f 15 (u1 (f 15) (a1 * 5 + a2) a3)) 17 (f 17)) g H := ⟨hP.1, (gF_up (V := rwV) (F := rwF) (gF_up (V := rwV) (F := rwF) (gR_up (V := rwV) (F := rwF) ⟨hok.1, hok.2⟩ 25 (hP.2.1 25)) 15 (hP.2.2 15)) 17 (hP.2.2 17))⟩
            refine lv_aload_n hx hb dX10_route_77 rfl (lv_at hl 0 rfl) ?_
            refine rwG_wall C hP mF_X10_30 dX10_route_78 ?_
            refine lv_iload_n hx hb dX10_route_81 rfl (lv_at hl 1 rfl) ?_
            refine lv_iload_n hx hb dX10_route_82 rfl (lv_at hl 2 rfl) ?_
            refine lv_iconst (v := iI 0) hx hb dX10_route_83 rfl ?_
            refine lv_iload hx hb dX10_route_84 (lv_at hl 4 rfl) ?_
            refine g_cv (As := [.int (iI a1), .int (iI a2), .int (iI 0), .int (iI a4)]) (rest := []) (n := 4) C hml (c_X8_setZone l D k A ad hD (va_up v 25 (v 25)) (va_up (va_up f 15 (u1 (f 15) (a1 * 5 + a2) a3)) 17 (f 17)) g a1 a2 0 a4 (by omega) (by omega) (by decide) (by omega) (show 0 ≤ a1 ∧ a1 ≤ 3 from by omega) (show 0 ≤ a2 ∧ a2 ≤ 4 from by omega) (show 0 ≤ (0 : Int) ∧ (0 : Int) < 3 from by omega) (show 0 ≤ a4 ∧ a4 ≤ 60 from by omega)) mM_X10_156 mI_X8_setZone mE_X8_setZone mN_X8 mC_X8_setZone (by decide +kernel) 23 (ci := 8) rfl rfl hP hS (fun _ h => h) ⟨Nat.le_of_ble_eq_true rfl, Nat.le_of_ble_eq_true rfl⟩ ⟨Nat.zero_le _, Nat.zero_le _⟩ hl.1 rfl rfl (Nat.le_of_ble_eq_true rfl) dX10_route_86 (fun r_15 v_15 f_15 g_15 H locs hq_15 hP _ hS => ?_)
            obtain ⟨rfl, rfl, rfl, rfl⟩ := hq_15
            show W p l e (gRm 2 46) s m args below meth c _ _ 0 0 Q (F0 m 89 ls [])
            have hP : gWd D (rwT k ad) (va_up v 25 (v 25)) (va_up (va_up f 15 (u1 (f 15) (a1 * 5 + a2) a3)) 17 (u1 (f 17) ((a1 * 5 + a2) * 3 + (0 : Int)) a4)) g H := ⟨hP.1, (gF_up (V := rwV) (F := rwF) (gF_up (V := rwV) (F := rwF) (gR_up (V := rwV) (F := rwF) ⟨hok.1, hok.2⟩ 25 (hP.2.1 25)) 15 (hP.2.2 15)) 17 (hP.2.2 17))⟩
            refine lv_aload_n hx hb dX10_route_89 rfl (lv_at hl 0 rfl) ?_
            refine rwG_wall C hP mF_X10_30 dX10_route_90 ?_
            refine lv_iload_n hx hb dX10_route_93 rfl (lv_at hl 1 rfl) ?_
            refine lv_iload_n hx hb dX10_route_94 rfl (lv_at hl 2 rfl) ?_
            refine lv_iconst (v := iI 1) hx hb dX10_route_95 rfl ?_
            refine lv_iload hx hb dX10_route_96 (lv_at hl 5 rfl) ?_
            refine g_cv (As := [.int (iI a1), .int (iI a2), .int (iI 1), .int (iI a5)]) (rest := []) (n := 4) C hml (c_X8_setZone l D k A ad hD (va_up v 25 (v 25)) (va_up (va_up f 15 (u1 (f 15) (a1 * 5 + a2) a3)) 17 (u1 (f 17) ((a1 * 5 + a2) * 3 + (0 : Int)) a4)) g a1 a2 1 a5 (by omega) (by omega) (by decide) (by omega) (show 0 ≤ a1 ∧ a1 ≤ 3 from by omega) (show 0 ≤ a2 ∧ a2 ≤ 4 from by omega) (show 0 ≤ (1 : Int) ∧ (1 : Int) < 3 from by omega) (show 0 ≤ a5 ∧ a5 ≤ 60 from by omega)) mM_X10_156 mI_X8_setZone mE_X8_setZone mN_X8 mC_X8_setZone (by decide +kernel) 23 (ci := 8) rfl rfl hP hS (fun _ h => h) ⟨Nat.le_of_ble_eq_true rfl, Nat.le_of_ble_eq_true rfl⟩ ⟨Nat.zero_le _, Nat.zero_le _⟩ hl.1 rfl rfl (Nat.le_of_ble_eq_true rfl) dX10_route_98 (fun r_16 v_16 f_16 g_16 H locs hq_16 hP _ hS => ?_)
            obtain ⟨rfl, rfl, rfl, rfl⟩ := hq_16
            show W p l e (gRm 2 46) s m args below meth c _ _ 0 0 Q (F0 m 101 ls [])
            have hP : gWd D (rwT k ad) (va_up v 25 (v 25)) (va_up (va_up f 15 (u1 (f 15) (a1 * 5 + a2) a3)) 17 (u1 (u1 (f 17) ((a1 * 5 + a2) * 3 + (0 : Int)) a4) ((a1 * 5 + a2) * 3 + (1 : Int)) a5)) g H := ⟨hP.1, (gF_up (V := rwV) (F := rwF) (gF_up (V := rwV) (F := rwF) (gR_up (V := rwV) (F := rwF) ⟨hok.1, hok.2⟩ 25 (hP.2.1 25)) 15 (hP.2.2 15)) 17 (hP.2.2 17))⟩
            refine lv_aload_n hx hb dX10_route_101 rfl (lv_at hl 0 rfl) ?_
            refine rwG_wall C hP mF_X10_30 dX10_route_102 ?_
            refine lv_iload_n hx hb dX10_route_105 rfl (lv_at hl 1 rfl) ?_
            refine lv_iload_n hx hb dX10_route_106 rfl (lv_at hl 2 rfl) ?_
            refine lv_iconst (v := iI 2) hx hb dX10_route_107 rfl ?_
            refine lv_iload hx hb dX10_route_108 (lv_at hl 6 rfl) ?_
            refine g_cv (As := [.int (iI a1), .int (iI a2), .int (iI 2), .int (iI a6)]) (rest := []) (n := 4) C hml (c_X8_setZone l D k A ad hD (va_up v 25 (v 25)) (va_up (va_up f 15 (u1 (f 15) (a1 * 5 + a2) a3)) 17 (u1 (u1 (f 17) ((a1 * 5 + a2) * 3 + (0 : Int)) a4) ((a1 * 5 + a2) * 3 + (1 : Int)) a5)) g a1 a2 2 a6 (by omega) (by omega) (by decide) (by omega) (show 0 ≤ a1 ∧ a1 ≤ 3 from by omega) (show 0 ≤ a2 ∧ a2 ≤ 4 from by omega) (show 0 ≤ (2 : Int) ∧ (2 : Int) < 3 from by omega) (show 0 ≤ a6 ∧ a6 ≤ 60 from by omega)) mM_X10_156 mI_X8_setZone mE_X8_setZone mN_X8 mC_X8_setZone (by decide +kernel) 23 (ci := 8) rfl rfl hP hS (fun _ h => h) ⟨Nat.le_of_ble_eq_true rfl, Nat.le_of_ble_eq_true rfl⟩ ⟨Nat.zero_le _, Nat.zero_le _⟩ hl.1 rfl rfl (Nat.le_of_ble_eq_true rfl) dX10_route_110 (fun r_17 v_17 f_17 g_17 H locs hq_17 hP _ hS => ?_)
            obtain ⟨rfl, rfl, rfl, rfl⟩ := hq_17
            show W p l e (gRm 2 46) s m args below meth c _ _ 0 0 Q (F0 m 113 ls [])
            have hP : gWd D (rwT k ad) (va_up v 25 (v 25)) (va_up (va_up f 15 (u1 (f 15) (a1 * 5 + a2) a3)) 17 (u1 (u1 (u1 (f 17) ((a1 * 5 + a2) * 3 + (0 : Int)) a4) ((a1 * 5 + a2) * 3 + (1 : Int)) a5) ((a1 * 5 + a2) * 3 + (2 : Int)) a6)) g H := ⟨hP.1, (gF_up (V := rwV) (F := rwF) (gF_up (V := rwV) (F := rwF) (gR_up (V := rwV) (F := rwF) ⟨hok.1, hok.2⟩ 25 (hP.2.1 25)) 15 (hP.2.2 15)) 17 (hP.2.2 17))⟩
            refine lv_aload_n hx hb dX10_route_113 rfl (lv_at hl 0 rfl) ?_
            refine g_cv (As := []) (rest := []) (n := 0) C hml (c_X10_grant l D k A ad hD (va_up v 25 (v 25)) (va_up (va_up f 15 (u1 (f 15) (a1 * 5 + a2) a3)) 17 (u1 (u1 (u1 (f 17) ((a1 * 5 + a2) * 3 + (0 : Int)) a4) ((a1 * 5 + a2) * 3 + (1 : Int)) a5) ((a1 * 5 + a2) * 3 + (2 : Int)) a6)) g) mM_X10_160 mI_X10_grant mE_X10_grant mN_X10 mC_X10_grant (by decide +kernel) 0 (ci := 10) rfl rfl hP hS (fun _ h => h) ⟨Nat.le_of_ble_eq_true rfl, Nat.le_of_ble_eq_true rfl⟩ ⟨Nat.zero_le _, Nat.zero_le _⟩ hl.1 rfl rfl (Nat.le_of_ble_eq_true rfl) dX10_route_114 (fun r_18 v_18 f_18 g_18 H locs hq_18 hP _ hS => ?_)
            obtain ⟨rfl, rfl, rfl, rfl⟩ := hq_18
            show W p l e (gRm 2 46) s m args below meth c _ _ 0 0 Q (F0 m 117 ls [.int (iI 1)])
            have hP : gWd D (rwT k ad) (va_up v 25 0) (va_up (va_up f 15 (u1 (f 15) (a1 * 5 + a2) a3)) 17 (u1 (u1 (u1 (f 17) ((a1 * 5 + a2) * 3 + (0 : Int)) a4) ((a1 * 5 + a2) * 3 + (1 : Int)) a5) ((a1 * 5 + a2) * 3 + (2 : Int)) a6)) g H := ⟨hP.1, (gF_up (V := rwV) (F := rwF) (gF_up (V := rwV) (F := rwF) (gR_up (V := rwV) (F := rwF) ⟨hok.1, hok.2⟩ 25 (hP.2.1 25)) 15 (hP.2.2 15)) 17 (hP.2.2 17))⟩
            exact g_zret hQ C hr hlocks (by decide) hP hS dX10_route_117 ⟨1, 0, (u1 (f 15) (a1 * 5 + a2) a3), (u1 (u1 (u1 (f 17) ((a1 * 5 + a2) * 3 + (0 : Int)) a4) ((a1 * 5 + a2) * 3 + (1 : Int)) a5) ((a1 * 5 + a2) * 3 + (2 : Int)) a6), rfl, rfl, rfl, rfl, (by first | omega | (split <;> omega))⟩
          · refine lv_aload_n hx hb dX10_route_60 rfl (lv_at hl 0 rfl) ?_
            refine lv_bipush (v := iI 10) hx hb dX10_route_61 (by decide) ?_
            refine g_cv (As := [.int (iI 10)]) (rest := []) (n := 1) C hml (c_X10_deny l D k A ad hD (va_up v 25 (v 25)) (va_up (va_up f 15 (f 15)) 17 (f 17)) g 10 (by decide) (show 0 ≤ (10 : Int) ∧ (10 : Int) ≤ 10 from by omega)) mM_X10_140 mI_X10_deny mE_X10_deny mN_X10 mC_X10_deny (by decide +kernel) 0 (ci := 10) rfl rfl hP hS (fun _ h => h) ⟨Nat.le_of_ble_eq_true rfl, Nat.le_of_ble_eq_true rfl⟩ ⟨Nat.zero_le _, Nat.zero_le _⟩ hl.1 rfl rfl (Nat.le_of_ble_eq_true rfl) dX10_route_63 (fun r_19 v_19 f_19 g_19 H locs hq_19 hP _ hS => ?_)
            obtain ⟨rfl, rfl, rfl, rfl⟩ := hq_19
            show W p l e (gRm 2 46) s m args below meth c _ _ 0 0 Q (F0 m 66 ls [.int (iI 0)])
            have hP : gWd D (rwT k ad) (va_up v 25 (10 : Int)) (va_up (va_up f 15 (f 15)) 17 (f 17)) g H := ⟨hP.1, (gF_up (V := rwV) (F := rwF) (gF_up (V := rwV) (F := rwF) (gR_up (V := rwV) (F := rwF) ⟨hok.1, hok.2⟩ 25 (hP.2.1 25)) 15 (hP.2.2 15)) 17 (hP.2.2 17))⟩
            exact g_zret hQ C hr hlocks (by decide) hP hS dX10_route_66 ⟨0, (10 : Int), (f 15), (f 17), rfl, rfl, rfl, rfl, (by first | omega | (split <;> omega))⟩
        · refine lv_aload_n hx hb dX10_route_42 rfl (lv_at hl 0 rfl) ?_
          refine lv_iconst (v := iI 2) hx hb dX10_route_43 rfl ?_
          refine g_cv (As := [.int (iI 2)]) (rest := []) (n := 1) C hml (c_X10_deny l D k A ad hD (va_up v 25 (v 25)) (va_up (va_up f 15 (f 15)) 17 (f 17)) g 2 (by decide) (show 0 ≤ (2 : Int) ∧ (2 : Int) ≤ 10 from by omega)) mM_X10_140 mI_X10_deny mE_X10_deny mN_X10 mC_X10_deny (by decide +kernel) 0 (ci := 10) rfl rfl hP hS (fun _ h => h) ⟨Nat.le_of_ble_eq_true rfl, Nat.le_of_ble_eq_true rfl⟩ ⟨Nat.zero_le _, Nat.zero_le _⟩ hl.1 rfl rfl (Nat.le_of_ble_eq_true rfl) dX10_route_44 (fun r_20 v_20 f_20 g_20 H locs hq_20 hP _ hS => ?_)
          obtain ⟨rfl, rfl, rfl, rfl⟩ := hq_20
          show W p l e (gRm 2 46) s m args below meth c _ _ 0 0 Q (F0 m 47 ls [.int (iI 0)])
          have hP : gWd D (rwT k ad) (va_up v 25 (2 : Int)) (va_up (va_up f 15 (f 15)) 17 (f 17)) g H := ⟨hP.1, (gF_up (V := rwV) (F := rwF) (gF_up (V := rwV) (F := rwF) (gR_up (V := rwV) (F := rwF) ⟨hok.1, hok.2⟩ 25 (hP.2.1 25)) 15 (hP.2.2 15)) 17 (hP.2.2 17))⟩
          exact g_zret hQ C hr hlocks (by decide) hP hS dX10_route_47 ⟨0, (2 : Int), (f 15), (f 17), rfl, rfl, rfl, rfl, (by first | omega | (split <;> omega))⟩
  · refine lv_aload_n hx hb dX10_route_12 rfl (lv_at hl 0 rfl) ?_
    refine lv_iconst (v := iI 1) hx hb dX10_route_13 rfl ?_
    refine g_cv (As := [.int (iI 1)]) (rest := []) (n := 1) C hml (c_X10_deny l D k A ad hD (va_up v 25 (v 25)) (va_up (va_up f 15 (f 15)) 17 (f 17)) g 1 (by decide) (show 0 ≤ (1 : Int) ∧ (1 : Int) ≤ 10 from by omega)) mM_X10_140 mI_X10_deny mE_X10_deny mN_X10 mC_X10_deny (by decide +kernel) 0 (ci := 10) rfl rfl hP hS (fun _ h => h) ⟨Nat.le_of_ble_eq_true rfl, Nat.le_of_ble_eq_true rfl⟩ ⟨Nat.zero_le _, Nat.zero_le _⟩ hl.1 rfl rfl (Nat.le_of_ble_eq_true rfl) dX10_route_14 (fun r_21 v_21 f_21 g_21 H locs hq_21 hP _ hS => ?_)
    obtain ⟨rfl, rfl, rfl, rfl⟩ := hq_21
    show W p l e (gRm 2 46) s m args below meth c _ _ 0 0 Q (F0 m 17 ls [.int (iI 0)])
    have hP : gWd D (rwT k ad) (va_up v 25 (1 : Int)) (va_up (va_up f 15 (f 15)) 17 (f 17)) g H := ⟨hP.1, (gF_up (V := rwV) (F := rwF) (gF_up (V := rwV) (F := rwF) (gR_up (V := rwV) (F := rwF) ⟨hok.1, hok.2⟩ 25 (hP.2.1 25)) 15 (hP.2.2 15)) 17 (hP.2.2 17))⟩
    exact g_zret hQ C hr hlocks (by decide) hP hS dX10_route_17 ⟨0, (1 : Int), (f 15), (f 17), rfl, rfl, rfl, rfl, (by first | omega | (split <;> omega))⟩

set_option maxHeartbeats 4000000 in
set_option maxRecDepth 100000 in
theorem c_X10_told (l : Launch) (D : va_G) (k : Nat → ClassId) (A : Nat → Prop) (ad : Nat → Nat) (hD : rwD A k ad) (v : gV) (f g : gF) (a1 : Int) (a2 : Int) (a3 : Int) (h_a1 : inR a1) (h_a2 : inR a2) (h_a3 : inR a3) (hs : shOk (v 1) (f 1)) : GM l D k A (rwT k ad) yX10_told cX10_told 5 (some .int) 2 43 [.ref (ad 0), .int (iI a1), .int (iI a2), .int (iI a3)] v f g (fun r v1 f1 g1 => ∃ (z : Int) (w25 : Int), r = some (.int (iI z)) ∧ (va_up v 25 w25) = v1 ∧ f = f1 ∧ g = g1 ∧ ((-1) ≤ z ∧ z ≤ 999999)) := by
  refine GM.of (by decide) (Nat.le_of_ble_eq_true rfl) ?_
  intro p e s m args below meth c Q ls hQ C hml hr hlocks hP hl
  have hx := C.1
  have hb := C.2.1
  have hok := hP.2
  have hS : va_S A s.heap s.heap [] := va_S.rf
  have hl : lv_has ls 5 [(0, .ref (ad 0)), (1, .int (iI a1)), (2, .int (iI a2)), (3, .int (iI a3))] := hl
  have hP : gWd D (rwT k ad) (va_up v 25 (v 25)) f g s.heap := by rw [va_id]; exact hP
  have r_1 : 0 ≤ (v 1) ∧ (v 1) ≤ 4 := hok.1 1
  have r_2 : 0 ≤ (v 21) ∧ (v 21) ≤ 16 := hok.1 21
  have r_3 : 0 ≤ (v 22) ∧ (v 22) ≤ 3 := hok.1 22
  refine lv_iload_n hx hb dX10_told_0 rfl (lv_at hl 2 rfl) ?_
  refine lv_iconst (v := iI (-1)) hx hb dX10_told_1 rfl ?_
  refine gi_cne (tgt := 9) hx hb dX10_told_2 (by decide) (by omega) (by decide) (fun c_4 => ?_) (fun c_4 => ?_)
  · refine lv_iconst (v := iI 0) hx hb dX10_told_9 rfl ?_
    refine lv_istore (lv' := [(4, .int (iI 0)), (0, .ref (ad 0)), (1, .int (iI a1)), (2, .int (iI a2)), (3, .int (iI a3))]) hx hb dX10_told_10 hl (by decide) rfl (fun ls hl => ?_)
    refine lv_iload hx hb dX10_told_12 (lv_at hl 0 rfl) ?_
    refine gi_zeq (tgt := 31) hx hb dX10_told_14 (by decide) (by decide) (fun c_5 => ?_) (fun c_5 => ?_)
    · refine lv_aload_n hx hb dX10_told_31 rfl (lv_at hl 1 rfl) ?_
      refine rwG_laws C hP mF_X10_16 dX10_told_32 ?_
      refine lv_iload_n hx hb dX10_told_35 rfl (lv_at hl 2 rfl) ?_
      refine lv_iload_n hx hb dX10_told_36 rfl (lv_at hl 3 rfl) ?_
      refine g_cv (As := [.int (iI a1), .int (iI a2)]) (rest := []) (n := 2) C hml (c_X4_hasRoute l D k A ad hD (va_up v 25 (v 25)) f g a1 a2 (by omega) (by omega)) mM_X10_136 mI_X4_hasRoute mE_X4_hasRoute mN_X4 mC_X4_hasRoute (by decide +kernel) 2 (ci := 4) rfl rfl hP hS (fun _ h => h) ⟨Nat.le_of_ble_eq_true rfl, Nat.le_of_ble_eq_true rfl⟩ ⟨Nat.zero_le _, Nat.zero_le _⟩ hl.1 rfl rfl (Nat.le_of_ble_eq_true rfl) dX10_told_37 (fun r_6 v_6 f_6 g_6 H locs hq_6 hP _ hS => ?_)
      obtain ⟨z_6, rfl, rfl, rfl, rfl, p0_6⟩ := hq_6
      show W p l e (gRm 2 43) s m args below meth c _ _ 0 0 Q (F0 m 40 ls [.int (iI z_6)])
      replace p0_6 : z_6 = (if (0 ≤ a1 ∧ a1 < (v 1)) ∧ 0 ≤ a2 ∧ a2 < (f 1) (a1 * 4) then 1 else 0) := p0_6
      have w_6 := gif (P := (0 ≤ a1 ∧ a1 < (v 1)) ∧ 0 ≤ a2 ∧ a2 < (f 1) (a1 * 4)) p0_6
      have hz_6 : inR z_6 := (by first | omega | (rw [p0_6]; split <;> omega))
      have q_6 : z_6 = 1 → a2 ≤ 4 := fun h => by rcases w_6 with w | w; exact shR hs w.2; omega
      refine gi_zne (tgt := 49) hx hb dX10_told_40 (by decide) (by omega) (fun c_7 => ?_) (fun c_7 => ?_)
      · refine lv_iload_n hx hb dX10_told_49 rfl (lv_at hl 4 rfl) ?_
        refine gi_zlt (tgt := 58) hx hb dX10_told_50 (by decide) (by omega) (fun c_8 => ?_) (fun c_8 => ?_)
        · refine lv_aload_n hx hb dX10_told_58 rfl (lv_at hl 1 rfl) ?_
          refine lv_iconst (v := iI 2) hx hb dX10_told_59 rfl ?_
          refine g_cv (As := [.int (iI 2)]) (rest := []) (n := 1) C hml (c_X10_refuse l D k A ad hD (va_up v 25 (v 25)) f g 2 (by decide) (show 0 ≤ (2 : Int) ∧ (2 : Int) ≤ 10 from by omega)) mM_X10_88 mI_X10_refuse mE_X10_refuse mN_X10 mC_X10_refuse (by decide +kernel) 0 (ci := 10) rfl rfl hP hS (fun _ h => h) ⟨Nat.le_of_ble_eq_true rfl, Nat.le_of_ble_eq_true rfl⟩ ⟨Nat.zero_le _, Nat.zero_le _⟩ hl.1 rfl rfl (Nat.le_of_ble_eq_true rfl) dX10_told_60 (fun r_9 v_9 f_9 g_9 H locs hq_9 hP _ hS => ?_)
          obtain ⟨rfl, rfl, rfl, rfl⟩ := hq_9
          show W p l e (gRm 2 43) s m args below meth c _ _ 0 0 Q (F0 m 63 ls [.int (iI (-1))])
          have hP : gWd D (rwT k ad) (va_up v 25 (2 : Int)) f g H := ⟨hP.1, (gR_up (V := rwV) (F := rwF) ⟨hok.1, hok.2⟩ 25 (hP.2.1 25))⟩
          exact g_iret hQ C hr hlocks hP hS dX10_told_63 ⟨(-1), (2 : Int), rfl, rfl, rfl, rfl, (by first | omega | (split <;> omega))⟩
        · refine lv_iload_n hx hb dX10_told_53 rfl (lv_at hl 4 rfl) ?_
          refine lv_iconst (v := iI 4) hx hb dX10_told_54 rfl ?_
          refine gi_cle (tgt := 64) hx hb dX10_told_55 (by decide) (by omega) (by decide) (fun c_10 => ?_) (fun c_10 => ?_)
          · refine lv_iload hx hb dX10_told_64 (lv_at hl 0 rfl) ?_
            refine gi_zeq (tgt := 99) hx hb dX10_told_66 (by decide) (by decide) (fun c_11 => ?_) (fun c_11 => ?_)
            · refine lv_iload_n hx hb dX10_told_99 rfl (lv_at hl 4 rfl) ?_
              refine gi_zne (tgt := 117) hx hb dX10_told_100 (by decide) (by omega) (fun c_12 => ?_) (fun c_12 => ?_)
              · refine lv_aload_n hx hb dX10_told_117 rfl (lv_at hl 1 rfl) ?_
                refine lv_iload_n hx hb dX10_told_118 rfl (lv_at hl 4 rfl) ?_
                refine lv_iconst (v := iI 4) hx hb dX10_told_119 rfl ?_
                refine gi_cne (tgt := 135) hx hb dX10_told_120 (by decide) (by omega) (by decide) (fun c_13 => ?_) (fun c_13 => ?_)
                · refine lv_aload_n hx hb dX10_told_135 rfl (lv_at hl 1 rfl) ?_
                  refine rwG_wall C hP mF_X10_30 dX10_told_136 ?_
                  refine lv_iload_n hx hb dX10_told_139 rfl (lv_at hl 2 rfl) ?_
                  refine lv_iload_n hx hb dX10_told_140 rfl (lv_at hl 3 rfl) ?_
                  refine lv_iload_n hx hb dX10_told_141 rfl (lv_at hl 4 rfl) ?_
                  refine lv_iconst (v := iI 1) hx hb dX10_told_142 rfl ?_
                  refine gi_sub (z := (a3 - 1)) hx hb dX10_told_143 rfl ?_
                  refine g_cv (As := [.int (iI a1), .int (iI a2), .int (iI (a3 - 1))]) (rest := [.ref (ad 0)]) (n := 3) C hml (c_X8_zoneOf l D k A ad hD (va_up v 25 (v 25)) f g a1 a2 (a3 - 1) (by omega) (by omega) (by omega) (show 0 ≤ a1 ∧ a1 ≤ 3 from by omega) (show 0 ≤ a2 ∧ a2 ≤ 4 from by omega) (show 0 ≤ (a3 - 1) ∧ (a3 - 1) < 3 from by omega)) mM_X10_176 mI_X8_zoneOf mE_X8_zoneOf mN_X8 mC_X8_zoneOf (by decide +kernel) 23 (ci := 8) rfl rfl hP hS (fun _ h => h) ⟨Nat.le_of_ble_eq_true rfl, Nat.le_of_ble_eq_true rfl⟩ ⟨Nat.zero_le _, Nat.zero_le _⟩ hl.1 rfl rfl (Nat.le_of_ble_eq_true rfl) dX10_told_144 (fun r_14 v_14 f_14 g_14 H locs hq_14 hP _ hS => ?_)
                  obtain ⟨z_14, rfl, rfl, rfl, rfl, p0_14, p1_14⟩ := hq_14
                  show W p l e (gRm 2 43) s m args below meth c _ _ 0 0 Q (F0 m 147 ls [.int (iI z_14), .ref (ad 0)])
                  replace p0_14 : z_14 = ((f 17) ((a1 * 5 + a2) * 3 + (a3 - 1))) := p0_14
                  replace p1_14 : 0 ≤ z_14 ∧ z_14 ≤ 60 := p1_14
                  have hz_14 : inR z_14 := (by first | omega | (rw [p0_14]; split <;> omega))
                  refine g_cv (As := [.int (iI z_14)]) (rest := []) (n := 1) C hml (c_X10_answer l D k A ad hD (va_up v 25 (v 25)) f g z_14 (by omega)) mM_X10_120 mI_X10_answer mE_X10_answer mN_X10 mC_X10_answer (by decide +kernel) 0 (ci := 10) rfl rfl hP hS (fun _ h => h) ⟨Nat.le_of_ble_eq_true rfl, Nat.le_of_ble_eq_true rfl⟩ ⟨Nat.zero_le _, Nat.zero_le _⟩ hl.1 rfl rfl (Nat.le_of_ble_eq_true rfl) dX10_told_147 (fun r_15 v_15 f_15 g_15 H locs hq_15 hP _ hS => ?_)
                  obtain ⟨z_15, rfl, rfl, rfl, rfl, p0_15⟩ := hq_15
                  show W p l e (gRm 2 43) s m args below meth c _ _ 0 0 Q (F0 m 150 ls [.int (iI z_15)])
                  have hP : gWd D (rwT k ad) (va_up v 25 0) f g H := ⟨hP.1, (gR_up (V := rwV) (F := rwF) ⟨hok.1, hok.2⟩ 25 (hP.2.1 25))⟩
                  replace p0_15 : z_15 = z_14 := p0_15
                  have hz_15 : inR z_15 := (by first | omega | (rw [p0_15]; split <;> omega))
                  exact g_iret hQ C hr hlocks hP hS dX10_told_150 ⟨z_15, 0, rfl, rfl, rfl, rfl, (by first | omega | (split <;> omega))⟩
                · refine lv_aload_n hx hb dX10_told_123 rfl (lv_at hl 1 rfl) ?_
                  refine rwG_wall C hP mF_X10_30 dX10_told_124 ?_
                  refine lv_iload_n hx hb dX10_told_127 rfl (lv_at hl 2 rfl) ?_
                  refine lv_iload_n hx hb dX10_told_128 rfl (lv_at hl 3 rfl) ?_
                  refine g_cv (As := [.int (iI a1), .int (iI a2)]) (rest := [.ref (ad 0)]) (n := 2) C hml (c_X8_begunOn l D k A ad hD (va_up v 25 (v 25)) f g a1 a2 (by omega) (by omega) (show 0 ≤ a1 ∧ a1 ≤ 3 from by omega) (show 0 ≤ a2 ∧ a2 ≤ 4 from by omega)) mM_X10_148 mI_X8_begunOn mE_X8_begunOn mN_X8 mC_X8_begunOn (by decide +kernel) 23 (ci := 8) rfl rfl hP hS (fun _ h => h) ⟨Nat.le_of_ble_eq_true rfl, Nat.le_of_ble_eq_true rfl⟩ ⟨Nat.zero_le _, Nat.zero_le _⟩ hl.1 rfl rfl (Nat.le_of_ble_eq_true rfl) dX10_told_129 (fun r_16 v_16 f_16 g_16 H locs hq_16 hP _ hS => ?_)
                  obtain ⟨z_16, rfl, rfl, rfl, rfl, p0_16, p1_16⟩ := hq_16
                  show W p l e (gRm 2 43) s m args below meth c _ _ 0 0 Q (F0 m 132 ls [.int (iI z_16), .ref (ad 0)])
                  replace p0_16 : z_16 = ((f 16) (a1 * 5 + a2)) := p0_16
                  replace p1_16 : 0 ≤ z_16 ∧ z_16 ≤ 300 := p1_16
                  have hz_16 : inR z_16 := (by first | omega | (rw [p0_16]; split <;> omega))
                  refine lv_goto (tgt := 147) hx hb dX10_told_132 (by decide) ?_
                  refine g_cv (As := [.int (iI z_16)]) (rest := []) (n := 1) C hml (c_X10_answer l D k A ad hD (va_up v 25 (v 25)) f g z_16 (by omega)) mM_X10_120 mI_X10_answer mE_X10_answer mN_X10 mC_X10_answer (by decide +kernel) 0 (ci := 10) rfl rfl hP hS (fun _ h => h) ⟨Nat.le_of_ble_eq_true rfl, Nat.le_of_ble_eq_true rfl⟩ ⟨Nat.zero_le _, Nat.zero_le _⟩ hl.1 rfl rfl (Nat.le_of_ble_eq_true rfl) dX10_told_147 (fun r_17 v_17 f_17 g_17 H locs hq_17 hP _ hS => ?_)
                  obtain ⟨z_17, rfl, rfl, rfl, rfl, p0_17⟩ := hq_17
                  show W p l e (gRm 2 43) s m args below meth c _ _ 0 0 Q (F0 m 150 ls [.int (iI z_17)])
                  have hP : gWd D (rwT k ad) (va_up v 25 0) f g H := ⟨hP.1, (gR_up (V := rwV) (F := rwF) ⟨hok.1, hok.2⟩ 25 (hP.2.1 25))⟩
                  replace p0_17 : z_17 = z_16 := p0_17
                  have hz_17 : inR z_17 := (by first | omega | (rw [p0_17]; split <;> omega))
                  exact g_iret hQ C hr hlocks hP hS dX10_told_150 ⟨z_17, 0, rfl, rfl, rfl, rfl, (by first | omega | (split <;> omega))⟩
              · refine lv_aload_n hx hb dX10_told_103 rfl (lv_at hl 1 rfl) ?_
                refine lv_aload_n hx hb dX10_told_104 rfl (lv_at hl 1 rfl) ?_
                refine rwG_wall C hP mF_X10_30 dX10_told_105 ?_
                refine lv_iload_n hx hb dX10_told_108 rfl (lv_at hl 2 rfl) ?_
                refine lv_iload_n hx hb dX10_told_109 rfl (lv_at hl 3 rfl) ?_
                refine g_cv (As := [.int (iI a1), .int (iI a2)]) (rest := [.ref (ad 0)]) (n := 2) C hml (c_X8_holdsOf l D k A ad hD (va_up v 25 (v 25)) f g a1 a2 (by omega) (by omega) (show 0 ≤ a1 ∧ a1 ≤ 3 from by omega) (show 0 ≤ a2 ∧ a2 ≤ 4 from by omega)) mM_X10_173 mI_X8_holdsOf mE_X8_holdsOf mN_X8 mC_X8_holdsOf (by decide +kernel) 23 (ci := 8) rfl rfl hP hS (fun _ h => h) ⟨Nat.le_of_ble_eq_true rfl, Nat.le_of_ble_eq_true rfl⟩ ⟨Nat.zero_le _, Nat.zero_le _⟩ hl.1 rfl rfl (Nat.le_of_ble_eq_true rfl) dX10_told_110 (fun r_18 v_18 f_18 g_18 H locs hq_18 hP _ hS => ?_)
                obtain ⟨z_18, rfl, rfl, rfl, rfl, p0_18, p1_18⟩ := hq_18
                show W p l e (gRm 2 43) s m args below meth c _ _ 0 0 Q (F0 m 113 ls [.int (iI z_18), .ref (ad 0)])
                replace p0_18 : z_18 = ((f 15) (a1 * 5 + a2)) := p0_18
                replace p1_18 : 0 ≤ z_18 ∧ z_18 ≤ 60 := p1_18
                have hz_18 : inR z_18 := (by first | omega | (rw [p0_18]; split <;> omega))
                refine g_cv (As := [.int (iI z_18)]) (rest := []) (n := 1) C hml (c_X10_answer l D k A ad hD (va_up v 25 (v 25)) f g z_18 (by omega)) mM_X10_120 mI_X10_answer mE_X10_answer mN_X10 mC_X10_answer (by decide +kernel) 0 (ci := 10) rfl rfl hP hS (fun _ h => h) ⟨Nat.le_of_ble_eq_true rfl, Nat.le_of_ble_eq_true rfl⟩ ⟨Nat.zero_le _, Nat.zero_le _⟩ hl.1 rfl rfl (Nat.le_of_ble_eq_true rfl) dX10_told_113 (fun r_19 v_19 f_19 g_19 H locs hq_19 hP _ hS => ?_)
                obtain ⟨z_19, rfl, rfl, rfl, rfl, p0_19⟩ := hq_19
                show W p l e (gRm 2 43) s m args below meth c _ _ 0 0 Q (F0 m 116 ls [.int (iI z_19)])
                have hP : gWd D (rwT k ad) (va_up v 25 0) f g H := ⟨hP.1, (gR_up (V := rwV) (F := rwF) ⟨hok.1, hok.2⟩ 25 (hP.2.1 25))⟩
                replace p0_19 : z_19 = z_18 := p0_19
                have hz_19 : inR z_19 := (by first | omega | (rw [p0_19]; split <;> omega))
                exact g_iret hQ C hr hlocks hP hS dX10_told_116 ⟨z_19, 0, rfl, rfl, rfl, rfl, (by first | omega | (split <;> omega))⟩
            · exfalso; omega
          · refine lv_aload_n hx hb dX10_told_58 rfl (lv_at hl 1 rfl) ?_
            refine lv_iconst (v := iI 2) hx hb dX10_told_59 rfl ?_
            refine g_cv (As := [.int (iI 2)]) (rest := []) (n := 1) C hml (c_X10_refuse l D k A ad hD (va_up v 25 (v 25)) f g 2 (by decide) (show 0 ≤ (2 : Int) ∧ (2 : Int) ≤ 10 from by omega)) mM_X10_88 mI_X10_refuse mE_X10_refuse mN_X10 mC_X10_refuse (by decide +kernel) 0 (ci := 10) rfl rfl hP hS (fun _ h => h) ⟨Nat.le_of_ble_eq_true rfl, Nat.le_of_ble_eq_true rfl⟩ ⟨Nat.zero_le _, Nat.zero_le _⟩ hl.1 rfl rfl (Nat.le_of_ble_eq_true rfl) dX10_told_60 (fun r_20 v_20 f_20 g_20 H locs hq_20 hP _ hS => ?_)
            obtain ⟨rfl, rfl, rfl, rfl⟩ := hq_20
            show W p l e (gRm 2 43) s m args below meth c _ _ 0 0 Q (F0 m 63 ls [.int (iI (-1))])
            have hP : gWd D (rwT k ad) (va_up v 25 (2 : Int)) f g H := ⟨hP.1, (gR_up (V := rwV) (F := rwF) ⟨hok.1, hok.2⟩ 25 (hP.2.1 25))⟩
            exact g_iret hQ C hr hlocks hP hS dX10_told_63 ⟨(-1), (2 : Int), rfl, rfl, rfl, rfl, (by first | omega | (split <;> omega))⟩
      · refine lv_aload_n hx hb dX10_told_43 rfl (lv_at hl 1 rfl) ?_
        refine lv_iconst (v := iI 1) hx hb dX10_told_44 rfl ?_
        refine g_cv (As := [.int (iI 1)]) (rest := []) (n := 1) C hml (c_X10_refuse l D k A ad hD (va_up v 25 (v 25)) f g 1 (by decide) (show 0 ≤ (1 : Int) ∧ (1 : Int) ≤ 10 from by omega)) mM_X10_88 mI_X10_refuse mE_X10_refuse mN_X10 mC_X10_refuse (by decide +kernel) 0 (ci := 10) rfl rfl hP hS (fun _ h => h) ⟨Nat.le_of_ble_eq_true rfl, Nat.le_of_ble_eq_true rfl⟩ ⟨Nat.zero_le _, Nat.zero_le _⟩ hl.1 rfl rfl (Nat.le_of_ble_eq_true rfl) dX10_told_45 (fun r_21 v_21 f_21 g_21 H locs hq_21 hP _ hS => ?_)
        obtain ⟨rfl, rfl, rfl, rfl⟩ := hq_21
        show W p l e (gRm 2 43) s m args below meth c _ _ 0 0 Q (F0 m 48 ls [.int (iI (-1))])
        have hP : gWd D (rwT k ad) (va_up v 25 (1 : Int)) f g H := ⟨hP.1, (gR_up (V := rwV) (F := rwF) ⟨hok.1, hok.2⟩ 25 (hP.2.1 25))⟩
        exact g_iret hQ C hr hlocks hP hS dX10_told_48 ⟨(-1), (1 : Int), rfl, rfl, rfl, rfl, (by first | omega | (split <;> omega))⟩
    · exfalso; omega
  · refine lv_iconst (v := iI 1) hx hb dX10_told_5 rfl ?_
    refine lv_goto (tgt := 10) hx hb dX10_told_6 (by decide) ?_
    refine lv_istore (lv' := [(4, .int (iI 1)), (0, .ref (ad 0)), (1, .int (iI a1)), (2, .int (iI a2)), (3, .int (iI a3))]) hx hb dX10_told_10 hl (by decide) rfl (fun ls hl => ?_)
    refine lv_iload hx hb dX10_told_12 (lv_at hl 0 rfl) ?_
    refine gi_zeq (tgt := 31) hx hb dX10_told_14 (by decide) (by decide) (fun c_22 => ?_) (fun c_22 => ?_)
    · exfalso; omega
    · refine lv_aload_n hx hb dX10_told_17 rfl (lv_at hl 1 rfl) ?_
      refine rwG_laws C hP mF_X10_16 dX10_told_18 ?_
      refine lv_iload_n hx hb dX10_told_21 rfl (lv_at hl 2 rfl) ?_
      refine g_cv (As := [.int (iI a1)]) (rest := []) (n := 1) C hml (c_X4_hasRound l D k A ad hD (va_up v 25 (v 25)) f g a1 (by omega)) mM_X10_164 mI_X4_hasRound mE_X4_hasRound mN_X4 mC_X4_hasRound (by decide +kernel) 2 (ci := 4) rfl rfl hP hS (fun _ h => h) ⟨Nat.le_of_ble_eq_true rfl, Nat.le_of_ble_eq_true rfl⟩ ⟨Nat.zero_le _, Nat.zero_le _⟩ hl.1 rfl rfl (Nat.le_of_ble_eq_true rfl) dX10_told_22 (fun r_23 v_23 f_23 g_23 H locs hq_23 hP _ hS => ?_)
      obtain ⟨z_23, rfl, rfl, rfl, rfl, p0_23⟩ := hq_23
      show W p l e (gRm 2 43) s m args below meth c _ _ 0 0 Q (F0 m 25 ls [.int (iI z_23)])
      replace p0_23 : z_23 = (if 0 ≤ a1 ∧ a1 < (v 1) then 1 else 0) := p0_23
      have w_23 := gif (P := 0 ≤ a1 ∧ a1 < (v 1)) p0_23
      have hz_23 : inR z_23 := (by first | omega | (rw [p0_23]; split <;> omega))
      refine gi_zne (tgt := 49) hx hb dX10_told_25 (by decide) (by omega) (fun c_24 => ?_) (fun c_24 => ?_)
      · refine lv_iload_n hx hb dX10_told_49 rfl (lv_at hl 4 rfl) ?_
        refine gi_zlt (tgt := 58) hx hb dX10_told_50 (by decide) (by omega) (fun c_25 => ?_) (fun c_25 => ?_)
        · refine lv_aload_n hx hb dX10_told_58 rfl (lv_at hl 1 rfl) ?_
          refine lv_iconst (v := iI 2) hx hb dX10_told_59 rfl ?_
          refine g_cv (As := [.int (iI 2)]) (rest := []) (n := 1) C hml (c_X10_refuse l D k A ad hD (va_up v 25 (v 25)) f g 2 (by decide) (show 0 ≤ (2 : Int) ∧ (2 : Int) ≤ 10 from by omega)) mM_X10_88 mI_X10_refuse mE_X10_refuse mN_X10 mC_X10_refuse (by decide +kernel) 0 (ci := 10) rfl rfl hP hS (fun _ h => h) ⟨Nat.le_of_ble_eq_true rfl, Nat.le_of_ble_eq_true rfl⟩ ⟨Nat.zero_le _, Nat.zero_le _⟩ hl.1 rfl rfl (Nat.le_of_ble_eq_true rfl) dX10_told_60 (fun r_26 v_26 f_26 g_26 H locs hq_26 hP _ hS => ?_)
          obtain ⟨rfl, rfl, rfl, rfl⟩ := hq_26
          show W p l e (gRm 2 43) s m args below meth c _ _ 0 0 Q (F0 m 63 ls [.int (iI (-1))])
          have hP : gWd D (rwT k ad) (va_up v 25 (2 : Int)) f g H := ⟨hP.1, (gR_up (V := rwV) (F := rwF) ⟨hok.1, hok.2⟩ 25 (hP.2.1 25))⟩
          exact g_iret hQ C hr hlocks hP hS dX10_told_63 ⟨(-1), (2 : Int), rfl, rfl, rfl, rfl, (by first | omega | (split <;> omega))⟩
        · refine lv_iload_n hx hb dX10_told_53 rfl (lv_at hl 4 rfl) ?_
          refine lv_iconst (v := iI 4) hx hb dX10_told_54 rfl ?_
          refine gi_cle (tgt := 64) hx hb dX10_told_55 (by decide) (by omega) (by decide) (fun c_27 => ?_) (fun c_27 => ?_)
          · refine lv_iload hx hb dX10_told_64 (lv_at hl 0 rfl) ?_
            refine gi_zeq (tgt := 99) hx hb dX10_told_66 (by decide) (by decide) (fun c_28 => ?_) (fun c_28 => ?_)
            · exfalso; omega
            · refine lv_aload_n hx hb dX10_told_69 rfl (lv_at hl 1 rfl) ?_
              refine lv_iload_n hx hb dX10_told_70 rfl (lv_at hl 4 rfl) ?_
              refine lv_iconst (v := iI 4) hx hb dX10_told_71 rfl ?_
              refine gi_cne (tgt := 86) hx hb dX10_told_72 (by decide) (by omega) (by decide) (fun c_29 => ?_) (fun c_29 => ?_)
              · refine lv_aload_n hx hb dX10_told_86 rfl (lv_at hl 1 rfl) ?_
                refine rwG_laws C hP mF_X10_16 dX10_told_87 ?_
                refine lv_iload_n hx hb dX10_told_90 rfl (lv_at hl 2 rfl) ?_
                refine lv_iload_n hx hb dX10_told_91 rfl (lv_at hl 4 rfl) ?_
                refine g_cv (As := [.int (iI a1), .int (iI a3)]) (rest := [.ref (ad 0)]) (n := 2) C hml (c_X4_shapeOf l D k A ad hD (va_up v 25 (v 25)) f g a1 a3 (by omega) (by omega)) mM_X10_170 mI_X4_shapeOf mE_X4_shapeOf mN_X4 mC_X4_shapeOf (by decide +kernel) 2 (ci := 4) rfl rfl hP hS (fun _ h => h) ⟨Nat.le_of_ble_eq_true rfl, Nat.le_of_ble_eq_true rfl⟩ ⟨Nat.zero_le _, Nat.zero_le _⟩ hl.1 rfl rfl (Nat.le_of_ble_eq_true rfl) dX10_told_92 (fun r_30 v_30 f_30 g_30 H locs hq_30 hP _ hS => ?_)
                obtain ⟨z_30, rfl, rfl, rfl, rfl, p0_30, p1_30⟩ := hq_30
                show W p l e (gRm 2 43) s m args below meth c _ _ 0 0 Q (F0 m 95 ls [.int (iI z_30), .ref (ad 0)])
                replace p0_30 : z_30 = (if (0 ≤ a1 ∧ a1 < (v 1)) ∧ 0 ≤ a3 ∧ a3 < 4 then (f 1) (a1 * 4 + a3) else 0) := p0_30
                replace p1_30 : 0 ≤ z_30 ∧ z_30 ≤ 999999 := p1_30
                have hz_30 : inR z_30 := (by first | omega | (rw [p0_30]; split <;> omega))
                have q_30 := by first | exact sh0 hs p0_30 | exact sh2 hs p0_30 | exact sh3 hs p0_30 | exact trivial
                refine g_cv (As := [.int (iI z_30)]) (rest := []) (n := 1) C hml (c_X10_answer l D k A ad hD (va_up v 25 (v 25)) f g z_30 (by omega)) mM_X10_120 mI_X10_answer mE_X10_answer mN_X10 mC_X10_answer (by decide +kernel) 0 (ci := 10) rfl rfl hP hS (fun _ h => h) ⟨Nat.le_of_ble_eq_true rfl, Nat.le_of_ble_eq_true rfl⟩ ⟨Nat.zero_le _, Nat.zero_le _⟩ hl.1 rfl rfl (Nat.le_of_ble_eq_true rfl) dX10_told_95 (fun r_31 v_31 f_31 g_31 H locs hq_31 hP _ hS => ?_)
                obtain ⟨z_31, rfl, rfl, rfl, rfl, p0_31⟩ := hq_31
                show W p l e (gRm 2 43) s m args below meth c _ _ 0 0 Q (F0 m 98 ls [.int (iI z_31)])
                have hP : gWd D (rwT k ad) (va_up v 25 0) f g H := ⟨hP.1, (gR_up (V := rwV) (F := rwF) ⟨hok.1, hok.2⟩ 25 (hP.2.1 25))⟩
                replace p0_31 : z_31 = z_30 := p0_31
                have hz_31 : inR z_31 := (by first | omega | (rw [p0_31]; split <;> omega))
                exact g_iret hQ C hr hlocks hP hS dX10_told_98 ⟨z_31, 0, rfl, rfl, rfl, rfl, (by first | omega | (split <;> omega))⟩
              · refine lv_aload_n hx hb dX10_told_75 rfl (lv_at hl 1 rfl) ?_
                refine rwG_field C hP mF_X10_37 dX10_told_76 ?_
                refine lv_iload_n hx hb dX10_told_79 rfl (lv_at hl 2 rfl) ?_
                refine g_cv (As := [.int (iI a1)]) (rest := [.ref (ad 0)]) (n := 1) C hml (c_X2_manyIn l D k A ad hD (va_up v 25 (v 25)) f g a1 (by omega)) mM_X10_167 mI_X2_manyIn mE_X2_manyIn mN_X2 mC_X2_manyIn (by decide +kernel) 27 (ci := 2) rfl rfl hP hS (fun _ h => h) ⟨Nat.le_of_ble_eq_true rfl, Nat.le_of_ble_eq_true rfl⟩ ⟨Nat.zero_le _, Nat.zero_le _⟩ hl.1 rfl rfl (Nat.le_of_ble_eq_true rfl) dX10_told_80 (fun r_32 v_32 f_32 g_32 H locs hq_32 hP _ hS => ?_)
                obtain ⟨z_32, rfl, rfl, rfl, rfl, p0_32⟩ := hq_32
                show W p l e (gRm 2 43) s m args below meth c _ _ 0 0 Q (F0 m 83 ls [.int (iI z_32), .ref (ad 0)])
                replace p0_32 : 0 ≤ z_32 ∧ z_32 ≤ 16 := p0_32
                refine lv_goto (tgt := 95) hx hb dX10_told_83 (by decide) ?_
                refine g_cv (As := [.int (iI z_32)]) (rest := []) (n := 1) C hml (c_X10_answer l D k A ad hD (va_up v 25 (v 25)) f g z_32 (by omega)) mM_X10_120 mI_X10_answer mE_X10_answer mN_X10 mC_X10_answer (by decide +kernel) 0 (ci := 10) rfl rfl hP hS (fun _ h => h) ⟨Nat.le_of_ble_eq_true rfl, Nat.le_of_ble_eq_true rfl⟩ ⟨Nat.zero_le _, Nat.zero_le _⟩ hl.1 rfl rfl (Nat.le_of_ble_eq_true rfl) dX10_told_95 (fun r_33 v_33 f_33 g_33 H locs hq_33 hP _ hS => ?_)
                obtain ⟨z_33, rfl, rfl, rfl, rfl, p0_33⟩ := hq_33
                show W p l e (gRm 2 43) s m args below meth c _ _ 0 0 Q (F0 m 98 ls [.int (iI z_33)])
                have hP : gWd D (rwT k ad) (va_up v 25 0) f g H := ⟨hP.1, (gR_up (V := rwV) (F := rwF) ⟨hok.1, hok.2⟩ 25 (hP.2.1 25))⟩
                replace p0_33 : z_33 = z_32 := p0_33
                have hz_33 : inR z_33 := (by first | omega | (rw [p0_33]; split <;> omega))
                exact g_iret hQ C hr hlocks hP hS dX10_told_98 ⟨z_33, 0, rfl, rfl, rfl, rfl, (by first | omega | (split <;> omega))⟩
          · refine lv_aload_n hx hb dX10_told_58 rfl (lv_at hl 1 rfl) ?_
            refine lv_iconst (v := iI 2) hx hb dX10_told_59 rfl ?_
            refine g_cv (As := [.int (iI 2)]) (rest := []) (n := 1) C hml (c_X10_refuse l D k A ad hD (va_up v 25 (v 25)) f g 2 (by decide) (show 0 ≤ (2 : Int) ∧ (2 : Int) ≤ 10 from by omega)) mM_X10_88 mI_X10_refuse mE_X10_refuse mN_X10 mC_X10_refuse (by decide +kernel) 0 (ci := 10) rfl rfl hP hS (fun _ h => h) ⟨Nat.le_of_ble_eq_true rfl, Nat.le_of_ble_eq_true rfl⟩ ⟨Nat.zero_le _, Nat.zero_le _⟩ hl.1 rfl rfl (Nat.le_of_ble_eq_true rfl) dX10_told_60 (fun r_34 v_34 f_34 g_34 H locs hq_34 hP _ hS => ?_)
            obtain ⟨rfl, rfl, rfl, rfl⟩ := hq_34
            show W p l e (gRm 2 43) s m args below meth c _ _ 0 0 Q (F0 m 63 ls [.int (iI (-1))])
            have hP : gWd D (rwT k ad) (va_up v 25 (2 : Int)) f g H := ⟨hP.1, (gR_up (V := rwV) (F := rwF) ⟨hok.1, hok.2⟩ 25 (hP.2.1 25))⟩
            exact g_iret hQ C hr hlocks hP hS dX10_told_63 ⟨(-1), (2 : Int), rfl, rfl, rfl, rfl, (by first | omega | (split <;> omega))⟩
      · refine lv_goto (tgt := 43) hx hb dX10_told_28 (by decide) ?_
        refine lv_aload_n hx hb dX10_told_43 rfl (lv_at hl 1 rfl) ?_
        refine lv_iconst (v := iI 1) hx hb dX10_told_44 rfl ?_
        refine g_cv (As := [.int (iI 1)]) (rest := []) (n := 1) C hml (c_X10_refuse l D k A ad hD (va_up v 25 (v 25)) f g 1 (by decide) (show 0 ≤ (1 : Int) ∧ (1 : Int) ≤ 10 from by omega)) mM_X10_88 mI_X10_refuse mE_X10_refuse mN_X10 mC_X10_refuse (by decide +kernel) 0 (ci := 10) rfl rfl hP hS (fun _ h => h) ⟨Nat.le_of_ble_eq_true rfl, Nat.le_of_ble_eq_true rfl⟩ ⟨Nat.zero_le _, Nat.zero_le _⟩ hl.1 rfl rfl (Nat.le_of_ble_eq_true rfl) dX10_told_45 (fun r_35 v_35 f_35 g_35 H locs hq_35 hP _ hS => ?_)
        obtain ⟨rfl, rfl, rfl, rfl⟩ := hq_35
        show W p l e (gRm 2 43) s m args below meth c _ _ 0 0 Q (F0 m 48 ls [.int (iI (-1))])
        have hP : gWd D (rwT k ad) (va_up v 25 (1 : Int)) f g H := ⟨hP.1, (gR_up (V := rwV) (F := rwF) ⟨hok.1, hok.2⟩ 25 (hP.2.1 25))⟩
        exact g_iret hQ C hr hlocks hP hS dX10_told_48 ⟨(-1), (1 : Int), rfl, rfl, rfl, rfl, (by first | omega | (split <;> omega))⟩

set_option maxHeartbeats 4000000 in
set_option maxRecDepth 100000 in
theorem c_X10_begin (l : Launch) (D : va_G) (k : Nat → ClassId) (A : Nat → Prop) (ad : Nat → Nat) (hD : rwD A k ad) (v : gV) (f g : gF) (a1 : Int) (a2 : Int) (a3 : Int) (h_a1 : inR a1) (h_a2 : inR a2) (h_a3 : inR a3) (hs : shOk (v 1) (f 1)) (hbg : ∀ k, 0 ≤ k → k < 20 → (f 16) k ≤ (v 23)) : GM l D k A (rwT k ad) yX10_begin cX10_begin 5 (some .int) 5 118 [.ref (ad 0), .int (iI a1), .int (iI a2), .int (iI a3)] v f g (fun r v1 f1 g1 => ∃ (z : Int) (w23 : Int) (w25 : Int) (w26 : Int) (a16_ : Int → Int) (a20_ : Int → Int) (a21_ : Int → Int) (a22_ : Int → Int) (a23_ : Int → Int) (a24_ : Int → Int) (a25_ : Int → Int) (a26_ : Int → Int) (a27_ : Int → Int), r = some (.int (iI z)) ∧ (va_up (va_up (va_up v 23 w23) 25 w25) 26 w26) = v1 ∧ (va_up (va_up (va_up (va_up (va_up (va_up (va_up (va_up (va_up f 16 a16_) 20 a20_) 21 a21_) 22 a22_) 23 a23_) 24 a24_) 25 a25_) 26 a26_) 27 a27_) = f1 ∧ g = g1 ∧ ((-1) ≤ z ∧ z ≤ 299) ∧ (∀ k, 0 ≤ k → k < 20 → a16_ k ≤ w23)) := by
  refine GM.of (by decide) (Nat.le_of_ble_eq_true rfl) ?_
  intro p e s m args below meth c Q ls hQ C hml hr hlocks hP hl
  have hx := C.1
  have hb := C.2.1
  have hok := hP.2
  have hS : va_S A s.heap s.heap [] := va_S.rf
  have hl : lv_has ls 5 [(0, .ref (ad 0)), (1, .int (iI a1)), (2, .int (iI a2)), (3, .int (iI a3))] := hl
  have hP : gWd D (rwT k ad) (va_up (va_up (va_up v 23 (v 23)) 25 (v 25)) 26 (v 26)) (va_up (va_up (va_up (va_up (va_up (va_up (va_up (va_up (va_up f 16 (f 16)) 20 (f 20)) 21 (f 21)) 22 (f 22)) 23 (f 23)) 24 (f 24)) 25 (f 25)) 26 (f 26)) 27 (f 27)) g s.heap := by rw [va_id, va_id, va_id, va_id, va_id, va_id, va_id, va_id, va_id, va_id, va_id, va_id]; exact hP
  have r_1 : 0 ≤ (v 1) ∧ (v 1) ≤ 4 := hok.1 1
  have r_2 : 0 ≤ (v 21) ∧ (v 21) ≤ 16 := hok.1 21
  have r_3 : 0 ≤ (v 22) ∧ (v 22) ≤ 3 := hok.1 22
  have r_4 : 0 ≤ (v 23) ∧ (v 23) ≤ 300 := hok.1 23
  refine lv_iconst (v := iI 1) hx hb dX10_begin_0 rfl ?_
  refine lv_istore (lv' := [(4, .int (iI 1)), (0, .ref (ad 0)), (1, .int (iI a1)), (2, .int (iI a2)), (3, .int (iI a3))]) hx hb dX10_begin_1 hl (by decide) rfl (fun ls hl => ?_)
  refine lv_aload_n hx hb dX10_begin_3 rfl (lv_at hl 1 rfl) ?_
  refine rwG_field C hP mF_X10_37 dX10_begin_4 ?_
  refine lv_iload_n hx hb dX10_begin_7 rfl (lv_at hl 2 rfl) ?_
  refine g_cv (As := [.int (iI a1)]) (rest := []) (n := 1) C hml (c_X2_knows l D k A ad hD (va_up (va_up (va_up v 23 (v 23)) 25 (v 25)) 26 (v 26)) (va_up (va_up (va_up (va_up (va_up (va_up (va_up (va_up (va_up f 16 (f 16)) 20 (f 20)) 21 (f 21)) 22 (f 22)) 23 (f 23)) 24 (f 24)) 25 (f 25)) 26 (f 26)) 27 (f 27)) g a1 (by omega)) mM_X10_180 mI_X2_knows mE_X2_knows mN_X2 mC_X2_knows (by decide +kernel) 27 (ci := 2) rfl rfl hP hS (fun _ h => h) ⟨Nat.le_of_ble_eq_true rfl, Nat.le_of_ble_eq_true rfl⟩ ⟨Nat.zero_le _, Nat.zero_le _⟩ hl.1 rfl rfl (Nat.le_of_ble_eq_true rfl) dX10_begin_8 (fun r_5 v_5 f_5 g_5 H locs hq_5 hP _ hS => ?_)
  obtain ⟨z_5, rfl, rfl, rfl, rfl, p0_5⟩ := hq_5
  show W p l e (gRm 5 118) s m args below meth c _ _ 0 0 Q (F0 m 11 ls [.int (iI z_5)])
  replace p0_5 : z_5 = (if 0 ≤ a1 ∧ a1 < (v 21) then 1 else 0) := p0_5
  have w_5 := gif (P := 0 ≤ a1 ∧ a1 < (v 21)) p0_5
  have hz_5 : inR z_5 := (by first | omega | (rw [p0_5]; split <;> omega))
  refine gi_zeq (tgt := 39) hx hb dX10_begin_11 (by decide) (by omega) (fun c_6 => ?_) (fun c_6 => ?_)
  · refine lv_iload hx hb dX10_begin_39 (lv_at hl 0 rfl) ?_
    refine gi_zne (tgt := 52) hx hb dX10_begin_41 (by decide) (by decide) (fun c_7 => ?_) (fun c_7 => ?_)
    · refine lv_iload hx hb dX10_begin_52 (lv_at hl 0 rfl) ?_
      refine gi_zeq (tgt := 64) hx hb dX10_begin_54 (by decide) (by decide) (fun c_8 => ?_) (fun c_8 => ?_)
      · exfalso; omega
      · refine lv_aload_n hx hb dX10_begin_57 rfl (lv_at hl 1 rfl) ?_
        refine lv_iload hx hb dX10_begin_58 (lv_at hl 0 rfl) ?_
        refine g_cv (As := [.int (iI 1)]) (rest := []) (n := 1) C hml (c_X10_refuse l D k A ad hD (va_up (va_up (va_up v 23 (v 23)) 25 (v 25)) 26 (v 26)) (va_up (va_up (va_up (va_up (va_up (va_up (va_up (va_up (va_up f 16 (f 16)) 20 (f 20)) 21 (f 21)) 22 (f 22)) 23 (f 23)) 24 (f 24)) 25 (f 25)) 26 (f 26)) 27 (f 27)) g 1 (by decide) (show 0 ≤ (1 : Int) ∧ (1 : Int) ≤ 10 from by omega)) mM_X10_88 mI_X10_refuse mE_X10_refuse mN_X10 mC_X10_refuse (by decide +kernel) 0 (ci := 10) rfl rfl hP hS (fun _ h => h) ⟨Nat.le_of_ble_eq_true rfl, Nat.le_of_ble_eq_true rfl⟩ ⟨Nat.zero_le _, Nat.zero_le _⟩ hl.1 rfl rfl (Nat.le_of_ble_eq_true rfl) dX10_begin_60 (fun r_9 v_9 f_9 g_9 H locs hq_9 hP _ hS => ?_)
        obtain ⟨rfl, rfl, rfl, rfl⟩ := hq_9
        show W p l e (gRm 5 118) s m args below meth c _ _ 0 0 Q (F0 m 63 ls [.int (iI (-1))])
        have hP : gWd D (rwT k ad) (va_up (va_up (va_up v 23 (v 23)) 25 (1 : Int)) 26 (v 26)) (va_up (va_up (va_up (va_up (va_up (va_up (va_up (va_up (va_up f 16 (f 16)) 20 (f 20)) 21 (f 21)) 22 (f 22)) 23 (f 23)) 24 (f 24)) 25 (f 25)) 26 (f 26)) 27 (f 27)) g H := ⟨hP.1, (gF_up (V := rwV) (F := rwF) (gF_up (V := rwV) (F := rwF) (gF_up (V := rwV) (F := rwF) (gF_up (V := rwV) (F := rwF) (gF_up (V := rwV) (F := rwF) (gF_up (V := rwV) (F := rwF) (gF_up (V := rwV) (F := rwF) (gF_up (V := rwV) (F := rwF) (gF_up (V := rwV) (F := rwF) (gR_up (V := rwV) (F := rwF) (gR_up (V := rwV) (F := rwF) (gR_up (V := rwV) (F := rwF) ⟨hok.1, hok.2⟩ 23 (hP.2.1 23)) 25 (hP.2.1 25)) 26 (hP.2.1 26)) 16 (hP.2.2 16)) 20 (hP.2.2 20)) 21 (hP.2.2 21)) 22 (hP.2.2 22)) 23 (hP.2.2 23)) 24 (hP.2.2 24)) 25 (hP.2.2 25)) 26 (hP.2.2 26)) 27 (hP.2.2 27))⟩
        exact g_iret hQ C hr hlocks hP hS dX10_begin_63 ⟨(-1), (v 23), (1 : Int), (v 26), (f 16), (f 20), (f 21), (f 22), (f 23), (f 24), (f 25), (f 26), (f 27), rfl, rfl, rfl, rfl, (by first | omega | (split <;> omega)), (by first | exact hbg | exact cntUp hbg (hbg _ (by omega) (by omega)))⟩
    · exfalso; omega
  · refine lv_aload_n hx hb dX10_begin_14 rfl (lv_at hl 1 rfl) ?_
    refine rwG_laws C hP mF_X10_16 dX10_begin_15 ?_
    refine lv_aload_n hx hb dX10_begin_18 rfl (lv_at hl 1 rfl) ?_
    refine rwG_field C hP mF_X10_37 dX10_begin_19 ?_
    refine rwG_field_open C hP mF_X10_129 dX10_begin_22 ?_
    show W p l e (gRm 5 118) s m args below meth c _ _ 0 0 Q (F0 m 25 ls [.int (iI (v 22)), .ref (ad 2)])
    refine lv_iload_n hx hb dX10_begin_25 rfl (lv_at hl 3 rfl) ?_
    refine g_cv (As := [.int (iI (v 22)), .int (iI a2)]) (rest := []) (n := 2) C hml (c_X4_hasRoute l D k A ad hD (va_up (va_up (va_up v 23 (v 23)) 25 (v 25)) 26 (v 26)) (va_up (va_up (va_up (va_up (va_up (va_up (va_up (va_up (va_up f 16 (f 16)) 20 (f 20)) 21 (f 21)) 22 (f 22)) 23 (f 23)) 24 (f 24)) 25 (f 25)) 26 (f 26)) 27 (f 27)) g (v 22) a2 (by omega) (by omega)) mM_X10_136 mI_X4_hasRoute mE_X4_hasRoute mN_X4 mC_X4_hasRoute (by decide +kernel) 2 (ci := 4) rfl rfl hP hS (fun _ h => h) ⟨Nat.le_of_ble_eq_true rfl, Nat.le_of_ble_eq_true rfl⟩ ⟨Nat.zero_le _, Nat.zero_le _⟩ hl.1 rfl rfl (Nat.le_of_ble_eq_true rfl) dX10_begin_26 (fun r_10 v_10 f_10 g_10 H locs hq_10 hP _ hS => ?_)
    obtain ⟨z_10, rfl, rfl, rfl, rfl, p0_10⟩ := hq_10
    show W p l e (gRm 5 118) s m args below meth c _ _ 0 0 Q (F0 m 29 ls [.int (iI z_10)])
    replace p0_10 : z_10 = (if (0 ≤ (v 22) ∧ (v 22) < (v 1)) ∧ 0 ≤ a2 ∧ a2 < (f 1) ((v 22) * 4) then 1 else 0) := p0_10
    have w_10 := gif (P := (0 ≤ (v 22) ∧ (v 22) < (v 1)) ∧ 0 ≤ a2 ∧ a2 < (f 1) ((v 22) * 4)) p0_10
    have hz_10 : inR z_10 := (by first | omega | (rw [p0_10]; split <;> omega))
    have q_10 : z_10 = 1 → a2 ≤ 4 := fun h => by rcases w_10 with w | w; exact shR hs w.2; omega
    refine gi_zeq (tgt := 39) hx hb dX10_begin_29 (by decide) (by omega) (fun c_11 => ?_) (fun c_11 => ?_)
    · refine lv_iload hx hb dX10_begin_39 (lv_at hl 0 rfl) ?_
      refine gi_zne (tgt := 52) hx hb dX10_begin_41 (by decide) (by decide) (fun c_12 => ?_) (fun c_12 => ?_)
      · refine lv_iload hx hb dX10_begin_52 (lv_at hl 0 rfl) ?_
        refine gi_zeq (tgt := 64) hx hb dX10_begin_54 (by decide) (by decide) (fun c_13 => ?_) (fun c_13 => ?_)
        · exfalso; omega
        · refine lv_aload_n hx hb dX10_begin_57 rfl (lv_at hl 1 rfl) ?_
          refine lv_iload hx hb dX10_begin_58 (lv_at hl 0 rfl) ?_
          refine g_cv (As := [.int (iI 1)]) (rest := []) (n := 1) C hml (c_X10_refuse l D k A ad hD (va_up (va_up (va_up v 23 (v 23)) 25 (v 25)) 26 (v 26)) (va_up (va_up (va_up (va_up (va_up (va_up (va_up (va_up (va_up f 16 (f 16)) 20 (f 20)) 21 (f 21)) 22 (f 22)) 23 (f 23)) 24 (f 24)) 25 (f 25)) 26 (f 26)) 27 (f 27)) g 1 (by decide) (show 0 ≤ (1 : Int) ∧ (1 : Int) ≤ 10 from by omega)) mM_X10_88 mI_X10_refuse mE_X10_refuse mN_X10 mC_X10_refuse (by decide +kernel) 0 (ci := 10) rfl rfl hP hS (fun _ h => h) ⟨Nat.le_of_ble_eq_true rfl, Nat.le_of_ble_eq_true rfl⟩ ⟨Nat.zero_le _, Nat.zero_le _⟩ hl.1 rfl rfl (Nat.le_of_ble_eq_true rfl) dX10_begin_60 (fun r_14 v_14 f_14 g_14 H locs hq_14 hP _ hS => ?_)
          obtain ⟨rfl, rfl, rfl, rfl⟩ := hq_14
          show W p l e (gRm 5 118) s m args below meth c _ _ 0 0 Q (F0 m 63 ls [.int (iI (-1))])
          have hP : gWd D (rwT k ad) (va_up (va_up (va_up v 23 (v 23)) 25 (1 : Int)) 26 (v 26)) (va_up (va_up (va_up (va_up (va_up (va_up (va_up (va_up (va_up f 16 (f 16)) 20 (f 20)) 21 (f 21)) 22 (f 22)) 23 (f 23)) 24 (f 24)) 25 (f 25)) 26 (f 26)) 27 (f 27)) g H := ⟨hP.1, (gF_up (V := rwV) (F := rwF) (gF_up (V := rwV) (F := rwF) (gF_up (V := rwV) (F := rwF) (gF_up (V := rwV) (F := rwF) (gF_up (V := rwV) (F := rwF) (gF_up (V := rwV) (F := rwF) (gF_up (V := rwV) (F := rwF) (gF_up (V := rwV) (F := rwF) (gF_up (V := rwV) (F := rwF) (gR_up (V := rwV) (F := rwF) (gR_up (V := rwV) (F := rwF) (gR_up (V := rwV) (F := rwF) ⟨hok.1, hok.2⟩ 23 (hP.2.1 23)) 25 (hP.2.1 25)) 26 (hP.2.1 26)) 16 (hP.2.2 16)) 20 (hP.2.2 20)) 21 (hP.2.2 21)) 22 (hP.2.2 22)) 23 (hP.2.2 23)) 24 (hP.2.2 24)) 25 (hP.2.2 25)) 26 (hP.2.2 26)) 27 (hP.2.2 27))⟩
          exact g_iret hQ C hr hlocks hP hS dX10_begin_63 ⟨(-1), (v 23), (1 : Int), (v 26), (f 16), (f 20), (f 21), (f 22), (f 23), (f 24), (f 25), (f 26), (f 27), rfl, rfl, rfl, rfl, (by first | omega | (split <;> omega)), (by first | exact hbg | exact cntUp hbg (hbg _ (by omega) (by omega)))⟩
      · exfalso; omega
    · refine lv_aload_n hx hb dX10_begin_32 rfl (lv_at hl 1 rfl) ?_
      refine lv_iload_n hx hb dX10_begin_33 rfl (lv_at hl 4 rfl) ?_
      refine g_cv (As := [.int (iI a3)]) (rest := []) (n := 1) C hml (c_X10_passTo l D k A ad hD (va_up (va_up (va_up v 23 (v 23)) 25 (v 25)) 26 (v 26)) (va_up (va_up (va_up (va_up (va_up (va_up (va_up (va_up (va_up f 16 (f 16)) 20 (f 20)) 21 (f 21)) 22 (f 22)) 23 (f 23)) 24 (f 24)) 25 (f 25)) 26 (f 26)) 27 (f 27)) g a3 (by omega) (show shOk (v 1) (f 1) from hs)) mM_X10_183 mI_X10_passTo mE_X10_passTo mN_X10 mC_X10_passTo (by decide +kernel) 0 (ci := 10) rfl rfl hP hS (fun _ h => h) ⟨Nat.le_of_ble_eq_true rfl, Nat.le_of_ble_eq_true rfl⟩ ⟨Nat.zero_le _, Nat.zero_le _⟩ hl.1 rfl rfl (Nat.le_of_ble_eq_true rfl) dX10_begin_34 (fun r_15 v_15 f_15 g_15 H locs hq_15 hP _ hS => ?_)
      obtain ⟨z_15, w26_15, a24_15, a26_15, a27_15, rfl, rfl, rfl, rfl, p0_15⟩ := hq_15
      show W p l e (gRm 5 118) s m args below meth c _ _ 0 0 Q (F0 m 37 ls [.int (iI z_15)])
      have hP : gWd D (rwT k ad) (va_up (va_up (va_up v 23 (v 23)) 25 (v 25)) 26 w26_15) (va_up (va_up (va_up (va_up (va_up (va_up (va_up (va_up (va_up f 16 (f 16)) 20 (f 20)) 21 (f 21)) 22 (f 22)) 23 (f 23)) 24 a24_15) 25 (f 25)) 26 a26_15) 27 a27_15) g H := ⟨hP.1, (gF_up (V := rwV) (F := rwF) (gF_up (V := rwV) (F := rwF) (gF_up (V := rwV) (F := rwF) (gF_up (V := rwV) (F := rwF) (gF_up (V := rwV) (F := rwF) (gF_up (V := rwV) (F := rwF) (gF_up (V := rwV) (F := rwF) (gF_up (V := rwV) (F := rwF) (gF_up (V := rwV) (F := rwF) (gR_up (V := rwV) (F := rwF) (gR_up (V := rwV) (F := rwF) (gR_up (V := rwV) (F := rwF) ⟨hok.1, hok.2⟩ 23 (hP.2.1 23)) 25 (hP.2.1 25)) 26 (hP.2.1 26)) 16 (hP.2.2 16)) 20 (hP.2.2 20)) 21 (hP.2.2 21)) 22 (hP.2.2 22)) 23 (hP.2.2 23)) 24 (hP.2.2 24)) 25 (hP.2.2 25)) 26 (hP.2.2 26)) 27 (hP.2.2 27))⟩
      replace p0_15 : 0 ≤ z_15 ∧ z_15 ≤ 9 := p0_15
      have rw26_15 : 0 ≤ w26_15 ∧ w26_15 ≤ 1000000 := hP.2.1 26
      refine lv_istore (lv' := [(4, .int (iI z_15)), (0, .ref (ad 0)), (1, .int (iI a1)), (2, .int (iI a2)), (3, .int (iI a3))]) hx hb dX10_begin_37 hl (by decide) rfl (fun ls hl => ?_)
      refine lv_iload hx hb dX10_begin_39 (lv_at hl 0 rfl) ?_
      refine gi_zne (tgt := 52) hx hb dX10_begin_41 (by decide) (by omega) (fun c_16 => ?_) (fun c_16 => ?_)
      · refine lv_iload hx hb dX10_begin_52 (lv_at hl 0 rfl) ?_
        refine gi_zeq (tgt := 64) hx hb dX10_begin_54 (by decide) (by omega) (fun c_17 => ?_) (fun c_17 => ?_)
        · refine lv_aload_n hx hb dX10_begin_64 rfl (lv_at hl 1 rfl) ?_
          refine rwG_wall C hP mF_X10_30 dX10_begin_65 ?_
          refine lv_aload_n hx hb dX10_begin_68 rfl (lv_at hl 1 rfl) ?_
          refine rwG_field C hP mF_X10_37 dX10_begin_69 ?_
          refine rwG_field_open C hP mF_X10_129 dX10_begin_72 ?_
          show W p l e (gRm 5 118) s m args below meth c _ _ 0 0 Q (F0 m 75 ls [.int (iI (v 22)), .ref (ad 23)])
          refine lv_iload_n hx hb dX10_begin_75 rfl (lv_at hl 3 rfl) ?_
          refine g_cv (As := [.int (iI (v 22)), .int (iI a2)]) (rest := []) (n := 2) C hml (c_X8_countBegun l D k A ad hD (va_up (va_up (va_up v 23 (v 23)) 25 (v 25)) 26 w26_15) (va_up (va_up (va_up (va_up (va_up (va_up (va_up (va_up (va_up f 16 (f 16)) 20 (f 20)) 21 (f 21)) 22 (f 22)) 23 (f 23)) 24 a24_15) 25 (f 25)) 26 a26_15) 27 a27_15) g (v 22) a2 (by omega) (by omega) (show 0 ≤ (v 22) ∧ (v 22) ≤ 3 from by omega) (show 0 ≤ a2 ∧ a2 ≤ 4 from by omega) (show (f 16) ((v 22) * 5 + a2) < 300 from by have := hbg ((v 22) * 5 + a2) (by omega) (by omega); omega)) mM_X10_189 mI_X8_countBegun mE_X8_countBegun mN_X8 mC_X8_countBegun (by decide +kernel) 23 (ci := 8) rfl rfl hP hS (fun _ h => h) ⟨Nat.le_of_ble_eq_true rfl, Nat.le_of_ble_eq_true rfl⟩ ⟨Nat.zero_le _, Nat.zero_le _⟩ hl.1 rfl rfl (Nat.le_of_ble_eq_true rfl) dX10_begin_76 (fun r_18 v_18 f_18 g_18 H locs hq_18 hP _ hS => ?_)
          obtain ⟨rfl, rfl, rfl, rfl⟩ := hq_18
          show W p l e (gRm 5 118) s m args below meth c _ _ 0 0 Q (F0 m 79 ls [])
          have hP : gWd D (rwT k ad) (va_up (va_up (va_up v 23 (v 23)) 25 (v 25)) 26 w26_15) (va_up (va_up (va_up (va_up (va_up (va_up (va_up (va_up (va_up f 16 (u1 (f 16) ((v 22) * 5 + a2) ((f 16) ((v 22) * 5 + a2) + 1))) 20 (f 20)) 21 (f 21)) 22 (f 22)) 23 (f 23)) 24 a24_15) 25 (f 25)) 26 a26_15) 27 a27_15) g H := ⟨hP.1, (gF_up (V := rwV) (F := rwF) (gF_up (V := rwV) (F := rwF) (gF_up (V := rwV) (F := rwF) (gF_up (V := rwV) (F := rwF) (gF_up (V := rwV) (F := rwF) (gF_up (V := rwV) (F := rwF) (gF_up (V := rwV) (F := rwF) (gF_up (V := rwV) (F := rwF) (gF_up (V := rwV) (F := rwF) (gR_up (V := rwV) (F := rwF) (gR_up (V := rwV) (F := rwF) (gR_up (V := rwV) (F := rwF) ⟨hok.1, hok.2⟩ 23 (hP.2.1 23)) 25 (hP.2.1 25)) 26 (hP.2.1 26)) 16 (hP.2.2 16)) 20 (hP.2.2 20)) 21 (hP.2.2 21)) 22 (hP.2.2 22)) 23 (hP.2.2 23)) 24 (hP.2.2 24)) 25 (hP.2.2 25)) 26 (hP.2.2 26)) 27 (hP.2.2 27))⟩
          refine lv_aload_n hx hb dX10_begin_79 rfl (lv_at hl 1 rfl) ?_
          refine lv_aload_n hx hb dX10_begin_80 rfl (lv_at hl 1 rfl) ?_
          refine rwG_tries C hP mF_X10_44 dX10_begin_81 ?_
          refine lv_iload_n hx hb dX10_begin_84 rfl (lv_at hl 2 rfl) ?_
          refine lv_aload_n hx hb dX10_begin_85 rfl (lv_at hl 1 rfl) ?_
          refine rwG_field C hP mF_X10_37 dX10_begin_86 ?_
          refine rwG_field_open C hP mF_X10_129 dX10_begin_89 ?_
          show W p l e (gRm 5 118) s m args below meth c _ _ 0 0 Q (F0 m 92 ls [.int (iI (v 22)), .int (iI a1), .ref (ad 30), .ref (ad 0)])
          refine lv_iload_n hx hb dX10_begin_92 rfl (lv_at hl 3 rfl) ?_
          refine lv_aload_n hx hb dX10_begin_93 rfl (lv_at hl 1 rfl) ?_
          refine rwG_time C hP mF_X10_114 dX10_begin_94 ?_
          show W p l e (gRm 5 118) s m args below meth c _ _ 0 0 Q (F0 m 97 ls [.int (iI w26_15), .int (iI a2), .int (iI (v 22)), .int (iI a1), .ref (ad 30), .ref (ad 0)])
          have r_19 : 0 ≤ w26_15 ∧ w26_15 ≤ 1000000 := hP.2.1 26
          refine g_cv (As := [.int (iI a1), .int (iI (v 22)), .int (iI a2), .int (iI w26_15)]) (rest := [.ref (ad 0)]) (n := 4) C hml (c_X7_start l D k A ad hD (va_up (va_up (va_up v 23 (v 23)) 25 (v 25)) 26 w26_15) (va_up (va_up (va_up (va_up (va_up (va_up (va_up (va_up (va_up f 16 (u1 (f 16) ((v 22) * 5 + a2) ((f 16) ((v 22) * 5 + a2) + 1))) 20 (f 20)) 21 (f 21)) 22 (f 22)) 23 (f 23)) 24 a24_15) 25 (f 25)) 26 a26_15) 27 a27_15) g a1 (v 22) a2 w26_15 (by omega) (by omega) (by omega) (by omega) (show (v 23) < 300 from by omega) (show 0 ≤ a1 ∧ a1 ≤ 15 from by omega) (show 0 ≤ (v 22) ∧ (v 22) ≤ 3 from by omega) (show 0 ≤ a2 ∧ a2 ≤ 4 from by omega) (show 0 ≤ w26_15 ∧ w26_15 ≤ 1000000 from by omega)) mM_X10_193 mI_X7_start mE_X7_start mN_X7 mC_X7_start (by decide +kernel) 30 (ci := 7) rfl rfl hP hS (fun _ h => h) ⟨Nat.le_of_ble_eq_true rfl, Nat.le_of_ble_eq_true rfl⟩ ⟨Nat.zero_le _, Nat.zero_le _⟩ hl.1 rfl rfl (Nat.le_of_ble_eq_true rfl) dX10_begin_97 (fun r_20 v_20 f_20 g_20 H locs hq_20 hP _ hS => ?_)
          obtain ⟨z_20, rfl, rfl, rfl, rfl, p0_20⟩ := hq_20
          show W p l e (gRm 5 118) s m args below meth c _ _ 0 0 Q (F0 m 100 ls [.int (iI z_20), .ref (ad 0)])
          have hP : gWd D (rwT k ad) (va_up (va_up (va_up v 23 ((v 23) + 1)) 25 (v 25)) 26 w26_15) (va_up (va_up (va_up (va_up (va_up (va_up (va_up (va_up (va_up f 16 (u1 (f 16) ((v 22) * 5 + a2) ((f 16) ((v 22) * 5 + a2) + 1))) 20 (u1 (f 20) (v 23) a1)) 21 (u1 (f 21) (v 23) (v 22))) 22 (u1 (f 22) (v 23) a2)) 23 (u1 (f 23) (v 23) w26_15)) 24 (u1 a24_15 (v 23) (-1))) 25 (u1 (f 25) (v 23) 0)) 26 (u1 a26_15 (v 23) 0)) 27 (u1 a27_15 a1 ((v 23) + 1))) g H := ⟨hP.1, (gF_up (V := rwV) (F := rwF) (gF_up (V := rwV) (F := rwF) (gF_up (V := rwV) (F := rwF) (gF_up (V := rwV) (F := rwF) (gF_up (V := rwV) (F := rwF) (gF_up (V := rwV) (F := rwF) (gF_up (V := rwV) (F := rwF) (gF_up (V := rwV) (F := rwF) (gF_up (V := rwV) (F := rwF) (gR_up (V := rwV) (F := rwF) (gR_up (V := rwV) (F := rwF) (gR_up (V := rwV) (F := rwF) ⟨hok.1, hok.2⟩ 23 (hP.2.1 23)) 25 (hP.2.1 25)) 26 (hP.2.1 26)) 16 (hP.2.2 16)) 20 (hP.2.2 20)) 21 (hP.2.2 21)) 22 (hP.2.2 22)) 23 (hP.2.2 23)) 24 (hP.2.2 24)) 25 (hP.2.2 25)) 26 (hP.2.2 26)) 27 (hP.2.2 27))⟩
          replace p0_20 : z_20 = (v 23) := p0_20
          have hz_20 : inR z_20 := (by first | omega | (rw [p0_20]; split <;> omega))
          refine g_cv (As := [.int (iI z_20)]) (rest := []) (n := 1) C hml (c_X10_answer l D k A ad hD (va_up (va_up (va_up v 23 ((v 23) + 1)) 25 (v 25)) 26 w26_15) (va_up (va_up (va_up (va_up (va_up (va_up (va_up (va_up (va_up f 16 (u1 (f 16) ((v 22) * 5 + a2) ((f 16) ((v 22) * 5 + a2) + 1))) 20 (u1 (f 20) (v 23) a1)) 21 (u1 (f 21) (v 23) (v 22))) 22 (u1 (f 22) (v 23) a2)) 23 (u1 (f 23) (v 23) w26_15)) 24 (u1 a24_15 (v 23) (-1))) 25 (u1 (f 25) (v 23) 0)) 26 (u1 a26_15 (v 23) 0)) 27 (u1 a27_15 a1 ((v 23) + 1))) g z_20 (by omega)) mM_X10_120 mI_X10_answer mE_X10_answer mN_X10 mC_X10_answer (by decide +kernel) 0 (ci := 10) rfl rfl hP hS (fun _ h => h) ⟨Nat.le_of_ble_eq_true rfl, Nat.le_of_ble_eq_true rfl⟩ ⟨Nat.zero_le _, Nat.zero_le _⟩ hl.1 rfl rfl (Nat.le_of_ble_eq_true rfl) dX10_begin_100 (fun r_21 v_21 f_21 g_21 H locs hq_21 hP _ hS => ?_)
          obtain ⟨z_21, rfl, rfl, rfl, rfl, p0_21⟩ := hq_21
          show W p l e (gRm 5 118) s m args below meth c _ _ 0 0 Q (F0 m 103 ls [.int (iI z_21)])
          have hP : gWd D (rwT k ad) (va_up (va_up (va_up v 23 ((v 23) + 1)) 25 0) 26 w26_15) (va_up (va_up (va_up (va_up (va_up (va_up (va_up (va_up (va_up f 16 (u1 (f 16) ((v 22) * 5 + a2) ((f 16) ((v 22) * 5 + a2) + 1))) 20 (u1 (f 20) (v 23) a1)) 21 (u1 (f 21) (v 23) (v 22))) 22 (u1 (f 22) (v 23) a2)) 23 (u1 (f 23) (v 23) w26_15)) 24 (u1 a24_15 (v 23) (-1))) 25 (u1 (f 25) (v 23) 0)) 26 (u1 a26_15 (v 23) 0)) 27 (u1 a27_15 a1 ((v 23) + 1))) g H := ⟨hP.1, (gF_up (V := rwV) (F := rwF) (gF_up (V := rwV) (F := rwF) (gF_up (V := rwV) (F := rwF) (gF_up (V := rwV) (F := rwF) (gF_up (V := rwV) (F := rwF) (gF_up (V := rwV) (F := rwF) (gF_up (V := rwV) (F := rwF) (gF_up (V := rwV) (F := rwF) (gF_up (V := rwV) (F := rwF) (gR_up (V := rwV) (F := rwF) (gR_up (V := rwV) (F := rwF) (gR_up (V := rwV) (F := rwF) ⟨hok.1, hok.2⟩ 23 (hP.2.1 23)) 25 (hP.2.1 25)) 26 (hP.2.1 26)) 16 (hP.2.2 16)) 20 (hP.2.2 20)) 21 (hP.2.2 21)) 22 (hP.2.2 22)) 23 (hP.2.2 23)) 24 (hP.2.2 24)) 25 (hP.2.2 25)) 26 (hP.2.2 26)) 27 (hP.2.2 27))⟩
          replace p0_21 : z_21 = z_20 := p0_21
          have hz_21 : inR z_21 := (by first | omega | (rw [p0_21]; split <;> omega))
          exact g_iret hQ C hr hlocks hP hS dX10_begin_103 ⟨z_21, ((v 23) + 1), 0, w26_15, (u1 (f 16) ((v 22) * 5 + a2) ((f 16) ((v 22) * 5 + a2) + 1)), (u1 (f 20) (v 23) a1), (u1 (f 21) (v 23) (v 22)), (u1 (f 22) (v 23) a2), (u1 (f 23) (v 23) w26_15), (u1 a24_15 (v 23) (-1)), (u1 (f 25) (v 23) 0), (u1 a26_15 (v 23) 0), (u1 a27_15 a1 ((v 23) + 1)), rfl, rfl, rfl, rfl, (by first | omega | (split <;> omega)), (by first | exact hbg | exact cntUp hbg (hbg _ (by omega) (by omega)))⟩
        · refine lv_aload_n hx hb dX10_begin_57 rfl (lv_at hl 1 rfl) ?_
          refine lv_iload hx hb dX10_begin_58 (lv_at hl 0 rfl) ?_
          refine g_cv (As := [.int (iI z_15)]) (rest := []) (n := 1) C hml (c_X10_refuse l D k A ad hD (va_up (va_up (va_up v 23 (v 23)) 25 (v 25)) 26 w26_15) (va_up (va_up (va_up (va_up (va_up (va_up (va_up (va_up (va_up f 16 (f 16)) 20 (f 20)) 21 (f 21)) 22 (f 22)) 23 (f 23)) 24 a24_15) 25 (f 25)) 26 a26_15) 27 a27_15) g z_15 (by omega) (show 0 ≤ z_15 ∧ z_15 ≤ 10 from by omega)) mM_X10_88 mI_X10_refuse mE_X10_refuse mN_X10 mC_X10_refuse (by decide +kernel) 0 (ci := 10) rfl rfl hP hS (fun _ h => h) ⟨Nat.le_of_ble_eq_true rfl, Nat.le_of_ble_eq_true rfl⟩ ⟨Nat.zero_le _, Nat.zero_le _⟩ hl.1 rfl rfl (Nat.le_of_ble_eq_true rfl) dX10_begin_60 (fun r_22 v_22 f_22 g_22 H locs hq_22 hP _ hS => ?_)
          obtain ⟨rfl, rfl, rfl, rfl⟩ := hq_22
          show W p l e (gRm 5 118) s m args below meth c _ _ 0 0 Q (F0 m 63 ls [.int (iI (-1))])
          have hP : gWd D (rwT k ad) (va_up (va_up (va_up v 23 (v 23)) 25 z_15) 26 w26_15) (va_up (va_up (va_up (va_up (va_up (va_up (va_up (va_up (va_up f 16 (f 16)) 20 (f 20)) 21 (f 21)) 22 (f 22)) 23 (f 23)) 24 a24_15) 25 (f 25)) 26 a26_15) 27 a27_15) g H := ⟨hP.1, (gF_up (V := rwV) (F := rwF) (gF_up (V := rwV) (F := rwF) (gF_up (V := rwV) (F := rwF) (gF_up (V := rwV) (F := rwF) (gF_up (V := rwV) (F := rwF) (gF_up (V := rwV) (F := rwF) (gF_up (V := rwV) (F := rwF) (gF_up (V := rwV) (F := rwF) (gF_up (V := rwV) (F := rwF) (gR_up (V := rwV) (F := rwF) (gR_up (V := rwV) (F := rwF) (gR_up (V := rwV) (F := rwF) ⟨hok.1, hok.2⟩ 23 (hP.2.1 23)) 25 (hP.2.1 25)) 26 (hP.2.1 26)) 16 (hP.2.2 16)) 20 (hP.2.2 20)) 21 (hP.2.2 21)) 22 (hP.2.2 22)) 23 (hP.2.2 23)) 24 (hP.2.2 24)) 25 (hP.2.2 25)) 26 (hP.2.2 26)) 27 (hP.2.2 27))⟩
          exact g_iret hQ C hr hlocks hP hS dX10_begin_63 ⟨(-1), (v 23), z_15, w26_15, (f 16), (f 20), (f 21), (f 22), (f 23), a24_15, (f 25), a26_15, a27_15, rfl, rfl, rfl, rfl, (by first | omega | (split <;> omega)), (by first | exact hbg | exact cntUp hbg (hbg _ (by omega) (by omega)))⟩
      · refine lv_aload_n hx hb dX10_begin_44 rfl (lv_at hl 1 rfl) ?_
        refine lv_iload_n hx hb dX10_begin_45 rfl (lv_at hl 2 rfl) ?_
        refine lv_iload_n hx hb dX10_begin_46 rfl (lv_at hl 3 rfl) ?_
        refine g_cv (As := [.int (iI a1), .int (iI a2)]) (rest := []) (n := 2) C hml (c_X10_whyNotBegin l D k A ad hD (va_up (va_up (va_up v 23 (v 23)) 25 (v 25)) 26 w26_15) (va_up (va_up (va_up (va_up (va_up (va_up (va_up (va_up (va_up f 16 (f 16)) 20 (f 20)) 21 (f 21)) 22 (f 22)) 23 (f 23)) 24 a24_15) 25 (f 25)) 26 a26_15) 27 a27_15) g a1 a2 (by omega) (by omega) (show shOk (v 1) (f 1) from hs) (show 0 ≤ a1 ∧ a1 ≤ 15 from by omega) (show 0 ≤ a2 ∧ a2 ≤ 4 from by omega)) mM_X10_186 mI_X10_whyNotBegin mE_X10_whyNotBegin mN_X10 mC_X10_whyNotBegin (by decide +kernel) 0 (ci := 10) rfl rfl hP hS (fun _ h => h) ⟨Nat.le_of_ble_eq_true rfl, Nat.le_of_ble_eq_true rfl⟩ ⟨Nat.zero_le _, Nat.zero_le _⟩ hl.1 rfl rfl (Nat.le_of_ble_eq_true rfl) dX10_begin_47 (fun r_23 v_23 f_23 g_23 H locs hq_23 hP _ hS => ?_)
        obtain ⟨z_23, rfl, rfl, rfl, rfl, p0_23, p1_23⟩ := hq_23
        show W p l e (gRm 5 118) s m args below meth c _ _ 0 0 Q (F0 m 50 ls [.int (iI z_23)])
        replace p0_23 : 0 ≤ z_23 ∧ z_23 ≤ 8 := p0_23
        replace p1_23 : z_23 = 0 → (v 23) < 300 := p1_23
        refine lv_istore (lv' := [(4, .int (iI z_23)), (0, .ref (ad 0)), (1, .int (iI a1)), (2, .int (iI a2)), (3, .int (iI a3))]) hx hb dX10_begin_50 hl (by decide) rfl (fun ls hl => ?_)
        refine lv_iload hx hb dX10_begin_52 (lv_at hl 0 rfl) ?_
        refine gi_zeq (tgt := 64) hx hb dX10_begin_54 (by decide) (by omega) (fun c_24 => ?_) (fun c_24 => ?_)
        · refine lv_aload_n hx hb dX10_begin_64 rfl (lv_at hl 1 rfl) ?_
          refine rwG_wall C hP mF_X10_30 dX10_begin_65 ?_
          refine lv_aload_n hx hb dX10_begin_68 rfl (lv_at hl 1 rfl) ?_
          refine rwG_field C hP mF_X10_37 dX10_begin_69 ?_
          refine rwG_field_open C hP mF_X10_129 dX10_begin_72 ?_
          show W p l e (gRm 5 118) s m args below meth c _ _ 0 0 Q (F0 m 75 ls [.int (iI (v 22)), .ref (ad 23)])
          refine lv_iload_n hx hb dX10_begin_75 rfl (lv_at hl 3 rfl) ?_
          refine g_cv (As := [.int (iI (v 22)), .int (iI a2)]) (rest := []) (n := 2) C hml (c_X8_countBegun l D k A ad hD (va_up (va_up (va_up v 23 (v 23)) 25 (v 25)) 26 w26_15) (va_up (va_up (va_up (va_up (va_up (va_up (va_up (va_up (va_up f 16 (f 16)) 20 (f 20)) 21 (f 21)) 22 (f 22)) 23 (f 23)) 24 a24_15) 25 (f 25)) 26 a26_15) 27 a27_15) g (v 22) a2 (by omega) (by omega) (show 0 ≤ (v 22) ∧ (v 22) ≤ 3 from by omega) (show 0 ≤ a2 ∧ a2 ≤ 4 from by omega) (show (f 16) ((v 22) * 5 + a2) < 300 from by have := hbg ((v 22) * 5 + a2) (by omega) (by omega); omega)) mM_X10_189 mI_X8_countBegun mE_X8_countBegun mN_X8 mC_X8_countBegun (by decide +kernel) 23 (ci := 8) rfl rfl hP hS (fun _ h => h) ⟨Nat.le_of_ble_eq_true rfl, Nat.le_of_ble_eq_true rfl⟩ ⟨Nat.zero_le _, Nat.zero_le _⟩ hl.1 rfl rfl (Nat.le_of_ble_eq_true rfl) dX10_begin_76 (fun r_25 v_25 f_25 g_25 H locs hq_25 hP _ hS => ?_)
          obtain ⟨rfl, rfl, rfl, rfl⟩ := hq_25
          show W p l e (gRm 5 118) s m args below meth c _ _ 0 0 Q (F0 m 79 ls [])
          have hP : gWd D (rwT k ad) (va_up (va_up (va_up v 23 (v 23)) 25 (v 25)) 26 w26_15) (va_up (va_up (va_up (va_up (va_up (va_up (va_up (va_up (va_up f 16 (u1 (f 16) ((v 22) * 5 + a2) ((f 16) ((v 22) * 5 + a2) + 1))) 20 (f 20)) 21 (f 21)) 22 (f 22)) 23 (f 23)) 24 a24_15) 25 (f 25)) 26 a26_15) 27 a27_15) g H := ⟨hP.1, (gF_up (V := rwV) (F := rwF) (gF_up (V := rwV) (F := rwF) (gF_up (V := rwV) (F := rwF) (gF_up (V := rwV) (F := rwF) (gF_up (V := rwV) (F := rwF) (gF_up (V := rwV) (F := rwF) (gF_up (V := rwV) (F := rwF) (gF_up (V := rwV) (F := rwF) (gF_up (V := rwV) (F := rwF) (gR_up (V := rwV) (F := rwF) (gR_up (V := rwV) (F := rwF) (gR_up (V := rwV) (F := rwF) ⟨hok.1, hok.2⟩ 23 (hP.2.1 23)) 25 (hP.2.1 25)) 26 (hP.2.1 26)) 16 (hP.2.2 16)) 20 (hP.2.2 20)) 21 (hP.2.2 21)) 22 (hP.2.2 22)) 23 (hP.2.2 23)) 24 (hP.2.2 24)) 25 (hP.2.2 25)) 26 (hP.2.2 26)) 27 (hP.2.2 27))⟩
          refine lv_aload_n hx hb dX10_begin_79 rfl (lv_at hl 1 rfl) ?_
          refine lv_aload_n hx hb dX10_begin_80 rfl (lv_at hl 1 rfl) ?_
          refine rwG_tries C hP mF_X10_44 dX10_begin_81 ?_
          refine lv_iload_n hx hb dX10_begin_84 rfl (lv_at hl 2 rfl) ?_
          refine lv_aload_n hx hb dX10_begin_85 rfl (lv_at hl 1 rfl) ?_
          refine rwG_field C hP mF_X10_37 dX10_begin_86 ?_
          refine rwG_field_open C hP mF_X10_129 dX10_begin_89 ?_
          show W p l e (gRm 5 118) s m args below meth c _ _ 0 0 Q (F0 m 92 ls [.int (iI (v 22)), .int (iI a1), .ref (ad 30), .ref (ad 0)])
          refine lv_iload_n hx hb dX10_begin_92 rfl (lv_at hl 3 rfl) ?_
          refine lv_aload_n hx hb dX10_begin_93 rfl (lv_at hl 1 rfl) ?_
          refine rwG_time C hP mF_X10_114 dX10_begin_94 ?_
          show W p l e (gRm 5 118) s m args below meth c _ _ 0 0 Q (F0 m 97 ls [.int (iI w26_15), .int (iI a2), .int (iI (v 22)), .int (iI a1), .ref (ad 30), .ref (ad 0)])
          have r_26 : 0 ≤ w26_15 ∧ w26_15 ≤ 1000000 := hP.2.1 26
          refine g_cv (As := [.int (iI a1), .int (iI (v 22)), .int (iI a2), .int (iI w26_15)]) (rest := [.ref (ad 0)]) (n := 4) C hml (c_X7_start l D k A ad hD (va_up (va_up (va_up v 23 (v 23)) 25 (v 25)) 26 w26_15) (va_up (va_up (va_up (va_up (va_up (va_up (va_up (va_up (va_up f 16 (u1 (f 16) ((v 22) * 5 + a2) ((f 16) ((v 22) * 5 + a2) + 1))) 20 (f 20)) 21 (f 21)) 22 (f 22)) 23 (f 23)) 24 a24_15) 25 (f 25)) 26 a26_15) 27 a27_15) g a1 (v 22) a2 w26_15 (by omega) (by omega) (by omega) (by omega) (show (v 23) < 300 from by omega) (show 0 ≤ a1 ∧ a1 ≤ 15 from by omega) (show 0 ≤ (v 22) ∧ (v 22) ≤ 3 from by omega) (show 0 ≤ a2 ∧ a2 ≤ 4 from by omega) (show 0 ≤ w26_15 ∧ w26_15 ≤ 1000000 from by omega)) mM_X10_193 mI_X7_start mE_X7_start mN_X7 mC_X7_start (by decide +kernel) 30 (ci := 7) rfl rfl hP hS (fun _ h => h) ⟨Nat.le_of_ble_eq_true rfl, Nat.le_of_ble_eq_true rfl⟩ ⟨Nat.zero_le _, Nat.zero_le _⟩ hl.1 rfl rfl (Nat.le_of_ble_eq_true rfl) dX10_begin_97 (fun r_27 v_27 f_27 g_27 H locs hq_27 hP _ hS => ?_)
          obtain ⟨z_27, rfl, rfl, rfl, rfl, p0_27⟩ := hq_27
          show W p l e (gRm 5 118) s m args below meth c _ _ 0 0 Q (F0 m 100 ls [.int (iI z_27), .ref (ad 0)])
          have hP : gWd D (rwT k ad) (va_up (va_up (va_up v 23 ((v 23) + 1)) 25 (v 25)) 26 w26_15) (va_up (va_up (va_up (va_up (va_up (va_up (va_up (va_up (va_up f 16 (u1 (f 16) ((v 22) * 5 + a2) ((f 16) ((v 22) * 5 + a2) + 1))) 20 (u1 (f 20) (v 23) a1)) 21 (u1 (f 21) (v 23) (v 22))) 22 (u1 (f 22) (v 23) a2)) 23 (u1 (f 23) (v 23) w26_15)) 24 (u1 a24_15 (v 23) (-1))) 25 (u1 (f 25) (v 23) 0)) 26 (u1 a26_15 (v 23) 0)) 27 (u1 a27_15 a1 ((v 23) + 1))) g H := ⟨hP.1, (gF_up (V := rwV) (F := rwF) (gF_up (V := rwV) (F := rwF) (gF_up (V := rwV) (F := rwF) (gF_up (V := rwV) (F := rwF) (gF_up (V := rwV) (F := rwF) (gF_up (V := rwV) (F := rwF) (gF_up (V := rwV) (F := rwF) (gF_up (V := rwV) (F := rwF) (gF_up (V := rwV) (F := rwF) (gR_up (V := rwV) (F := rwF) (gR_up (V := rwV) (F := rwF) (gR_up (V := rwV) (F := rwF) ⟨hok.1, hok.2⟩ 23 (hP.2.1 23)) 25 (hP.2.1 25)) 26 (hP.2.1 26)) 16 (hP.2.2 16)) 20 (hP.2.2 20)) 21 (hP.2.2 21)) 22 (hP.2.2 22)) 23 (hP.2.2 23)) 24 (hP.2.2 24)) 25 (hP.2.2 25)) 26 (hP.2.2 26)) 27 (hP.2.2 27))⟩
          replace p0_27 : z_27 = (v 23) := p0_27
          have hz_27 : inR z_27 := (by first | omega | (rw [p0_27]; split <;> omega))
          refine g_cv (As := [.int (iI z_27)]) (rest := []) (n := 1) C hml (c_X10_answer l D k A ad hD (va_up (va_up (va_up v 23 ((v 23) + 1)) 25 (v 25)) 26 w26_15) (va_up (va_up (va_up (va_up (va_up (va_up (va_up (va_up (va_up f 16 (u1 (f 16) ((v 22) * 5 + a2) ((f 16) ((v 22) * 5 + a2) + 1))) 20 (u1 (f 20) (v 23) a1)) 21 (u1 (f 21) (v 23) (v 22))) 22 (u1 (f 22) (v 23) a2)) 23 (u1 (f 23) (v 23) w26_15)) 24 (u1 a24_15 (v 23) (-1))) 25 (u1 (f 25) (v 23) 0)) 26 (u1 a26_15 (v 23) 0)) 27 (u1 a27_15 a1 ((v 23) + 1))) g z_27 (by omega)) mM_X10_120 mI_X10_answer mE_X10_answer mN_X10 mC_X10_answer (by decide +kernel) 0 (ci := 10) rfl rfl hP hS (fun _ h => h) ⟨Nat.le_of_ble_eq_true rfl, Nat.le_of_ble_eq_true rfl⟩ ⟨Nat.zero_le _, Nat.zero_le _⟩ hl.1 rfl rfl (Nat.le_of_ble_eq_true rfl) dX10_begin_100 (fun r_28 v_28 f_28 g_28 H locs hq_28 hP _ hS => ?_)
          obtain ⟨z_28, rfl, rfl, rfl, rfl, p0_28⟩ := hq_28
          show W p l e (gRm 5 118) s m args below meth c _ _ 0 0 Q (F0 m 103 ls [.int (iI z_28)])
          have hP : gWd D (rwT k ad) (va_up (va_up (va_up v 23 ((v 23) + 1)) 25 0) 26 w26_15) (va_up (va_up (va_up (va_up (va_up (va_up (va_up (va_up (va_up f 16 (u1 (f 16) ((v 22) * 5 + a2) ((f 16) ((v 22) * 5 + a2) + 1))) 20 (u1 (f 20) (v 23) a1)) 21 (u1 (f 21) (v 23) (v 22))) 22 (u1 (f 22) (v 23) a2)) 23 (u1 (f 23) (v 23) w26_15)) 24 (u1 a24_15 (v 23) (-1))) 25 (u1 (f 25) (v 23) 0)) 26 (u1 a26_15 (v 23) 0)) 27 (u1 a27_15 a1 ((v 23) + 1))) g H := ⟨hP.1, (gF_up (V := rwV) (F := rwF) (gF_up (V := rwV) (F := rwF) (gF_up (V := rwV) (F := rwF) (gF_up (V := rwV) (F := rwF) (gF_up (V := rwV) (F := rwF) (gF_up (V := rwV) (F := rwF) (gF_up (V := rwV) (F := rwF) (gF_up (V := rwV) (F := rwF) (gF_up (V := rwV) (F := rwF) (gR_up (V := rwV) (F := rwF) (gR_up (V := rwV) (F := rwF) (gR_up (V := rwV) (F := rwF) ⟨hok.1, hok.2⟩ 23 (hP.2.1 23)) 25 (hP.2.1 25)) 26 (hP.2.1 26)) 16 (hP.2.2 16)) 20 (hP.2.2 20)) 21 (hP.2.2 21)) 22 (hP.2.2 22)) 23 (hP.2.2 23)) 24 (hP.2.2 24)) 25 (hP.2.2 25)) 26 (hP.2.2 26)) 27 (hP.2.2 27))⟩
          replace p0_28 : z_28 = z_27 := p0_28
          have hz_28 : inR z_28 := (by first | omega | (rw [p0_28]; split <;> omega))
          exact g_iret hQ C hr hlocks hP hS dX10_begin_103 ⟨z_28, ((v 23) + 1), 0, w26_15, (u1 (f 16) ((v 22) * 5 + a2) ((f 16) ((v 22) * 5 + a2) + 1)), (u1 (f 20) (v 23) a1), (u1 (f 21) (v 23) (v 22)), (u1 (f 22) (v 23) a2), (u1 (f 23) (v 23) w26_15), (u1 a24_15 (v 23) (-1)), (u1 (f 25) (v 23) 0), (u1 a26_15 (v 23) 0), (u1 a27_15 a1 ((v 23) + 1)), rfl, rfl, rfl, rfl, (by first | omega | (split <;> omega)), (by first | exact hbg | exact cntUp hbg (hbg _ (by omega) (by omega)))⟩
        · refine lv_aload_n hx hb dX10_begin_57 rfl (lv_at hl 1 rfl) ?_
          refine lv_iload hx hb dX10_begin_58 (lv_at hl 0 rfl) ?_
          refine g_cv (As := [.int (iI z_23)]) (rest := []) (n := 1) C hml (c_X10_refuse l D k A ad hD (va_up (va_up (va_up v 23 (v 23)) 25 (v 25)) 26 w26_15) (va_up (va_up (va_up (va_up (va_up (va_up (va_up (va_up (va_up f 16 (f 16)) 20 (f 20)) 21 (f 21)) 22 (f 22)) 23 (f 23)) 24 a24_15) 25 (f 25)) 26 a26_15) 27 a27_15) g z_23 (by omega) (show 0 ≤ z_23 ∧ z_23 ≤ 10 from by omega)) mM_X10_88 mI_X10_refuse mE_X10_refuse mN_X10 mC_X10_refuse (by decide +kernel) 0 (ci := 10) rfl rfl hP hS (fun _ h => h) ⟨Nat.le_of_ble_eq_true rfl, Nat.le_of_ble_eq_true rfl⟩ ⟨Nat.zero_le _, Nat.zero_le _⟩ hl.1 rfl rfl (Nat.le_of_ble_eq_true rfl) dX10_begin_60 (fun r_29 v_29 f_29 g_29 H locs hq_29 hP _ hS => ?_)
          obtain ⟨rfl, rfl, rfl, rfl⟩ := hq_29
          show W p l e (gRm 5 118) s m args below meth c _ _ 0 0 Q (F0 m 63 ls [.int (iI (-1))])
          have hP : gWd D (rwT k ad) (va_up (va_up (va_up v 23 (v 23)) 25 z_23) 26 w26_15) (va_up (va_up (va_up (va_up (va_up (va_up (va_up (va_up (va_up f 16 (f 16)) 20 (f 20)) 21 (f 21)) 22 (f 22)) 23 (f 23)) 24 a24_15) 25 (f 25)) 26 a26_15) 27 a27_15) g H := ⟨hP.1, (gF_up (V := rwV) (F := rwF) (gF_up (V := rwV) (F := rwF) (gF_up (V := rwV) (F := rwF) (gF_up (V := rwV) (F := rwF) (gF_up (V := rwV) (F := rwF) (gF_up (V := rwV) (F := rwF) (gF_up (V := rwV) (F := rwF) (gF_up (V := rwV) (F := rwF) (gF_up (V := rwV) (F := rwF) (gR_up (V := rwV) (F := rwF) (gR_up (V := rwV) (F := rwF) (gR_up (V := rwV) (F := rwF) ⟨hok.1, hok.2⟩ 23 (hP.2.1 23)) 25 (hP.2.1 25)) 26 (hP.2.1 26)) 16 (hP.2.2 16)) 20 (hP.2.2 20)) 21 (hP.2.2 21)) 22 (hP.2.2 22)) 23 (hP.2.2 23)) 24 (hP.2.2 24)) 25 (hP.2.2 25)) 26 (hP.2.2 26)) 27 (hP.2.2 27))⟩
          exact g_iret hQ C hr hlocks hP hS dX10_begin_63 ⟨(-1), (v 23), z_23, w26_15, (f 16), (f 20), (f 21), (f 22), (f 23), a24_15, (f 25), a26_15, a27_15, rfl, rfl, rfl, rfl, (by first | omega | (split <;> omega)), (by first | exact hbg | exact cntUp hbg (hbg _ (by omega) (by omega)))⟩

set_option maxHeartbeats 4000000 in
set_option maxRecDepth 100000 in
theorem c_X10_reach (l : Launch) (D : va_G) (k : Nat → ClassId) (A : Nat → Prop) (ad : Nat → Nat) (hD : rwD A k ad) (v : gV) (f g : gF) (a1 : Int) (a2 : Int) (a3 : Int) (h_a1 : inR a1) (h_a2 : inR a2) (h_a3 : inR a3) (hs : shOk (v 1) (f 1)) : GM l D k A (rwT k ad) yX10_reach cX10_reach 7 (some .int) 3 68 [.ref (ad 0), .int (iI a1), .int (iI a2), .int (iI a3)] v f g (fun r v1 f1 g1 => ∃ (z : Int) (w25 : Int) (w26 : Int) (a24_ : Int → Int) (a25_ : Int → Int) (a26_ : Int → Int) (a27_ : Int → Int), r = some (.int (iI z)) ∧ (va_up (va_up v 25 w25) 26 w26) = v1 ∧ (va_up (va_up (va_up (va_up f 24 a24_) 25 a25_) 26 a26_) 27 a27_) = f1 ∧ g = g1 ∧ ((-1) ≤ z ∧ z ≤ 1)) := by
  refine GM.of (by decide) (Nat.le_of_ble_eq_true rfl) ?_
  intro p e s m args below meth c Q ls hQ C hml hr hlocks hP hl
  have hx := C.1
  have hb := C.2.1
  have hok := hP.2
  have hS : va_S A s.heap s.heap [] := va_S.rf
  have hl : lv_has ls 7 [(0, .ref (ad 0)), (1, .int (iI a1)), (2, .int (iI a2)), (3, .int (iI a3))] := hl
  have hP : gWd D (rwT k ad) (va_up (va_up v 25 (v 25)) 26 (v 26)) (va_up (va_up (va_up (va_up f 24 (f 24)) 25 (f 25)) 26 (f 26)) 27 (f 27)) g s.heap := by rw [va_id, va_id, va_id, va_id, va_id, va_id]; exact hP
  have r_1 : 0 ≤ (v 1) ∧ (v 1) ≤ 4 := hok.1 1
  have r_2 : 0 ≤ (v 21) ∧ (v 21) ≤ 16 := hok.1 21
  have r_3 : 0 ≤ (v 22) ∧ (v 22) ≤ 3 := hok.1 22
  refine lv_iconst (v := iI 1) hx hb dX10_reach_0 rfl ?_
  refine lv_istore (lv' := [(4, .int (iI 1)), (0, .ref (ad 0)), (1, .int (iI a1)), (2, .int (iI a2)), (3, .int (iI a3))]) hx hb dX10_reach_1 hl (by decide) rfl (fun ls hl => ?_)
  refine lv_aload_n hx hb dX10_reach_3 rfl (lv_at hl 1 rfl) ?_
  refine rwG_field C hP mF_X10_37 dX10_reach_4 ?_
  refine lv_iload_n hx hb dX10_reach_7 rfl (lv_at hl 2 rfl) ?_
  refine g_cv (As := [.int (iI a1)]) (rest := []) (n := 1) C hml (c_X2_knows l D k A ad hD (va_up (va_up v 25 (v 25)) 26 (v 26)) (va_up (va_up (va_up (va_up f 24 (f 24)) 25 (f 25)) 26 (f 26)) 27 (f 27)) g a1 (by omega)) mM_X10_180 mI_X2_knows mE_X2_knows mN_X2 mC_X2_knows (by decide +kernel) 27 (ci := 2) rfl rfl hP hS (fun _ h => h) ⟨Nat.le_of_ble_eq_true rfl, Nat.le_of_ble_eq_true rfl⟩ ⟨Nat.zero_le _, Nat.zero_le _⟩ hl.1 rfl rfl (Nat.le_of_ble_eq_true rfl) dX10_reach_8 (fun r_4 v_4 f_4 g_4 H locs hq_4 hP _ hS => ?_)
  obtain ⟨z_4, rfl, rfl, rfl, rfl, p0_4⟩ := hq_4
  show W p l e (gRm 3 68) s m args below meth c _ _ 0 0 Q (F0 m 11 ls [.int (iI z_4)])
  replace p0_4 : z_4 = (if 0 ≤ a1 ∧ a1 < (v 21) then 1 else 0) := p0_4
  have w_4 := gif (P := 0 ≤ a1 ∧ a1 < (v 21)) p0_4
  have hz_4 : inR z_4 := (by first | omega | (rw [p0_4]; split <;> omega))
  refine gi_zeq (tgt := 36) hx hb dX10_reach_11 (by decide) (by omega) (fun c_5 => ?_) (fun c_5 => ?_)
  · refine lv_iload hx hb dX10_reach_36 (lv_at hl 0 rfl) ?_
    refine gi_zeq (tgt := 48) hx hb dX10_reach_38 (by decide) (by decide) (fun c_6 => ?_) (fun c_6 => ?_)
    · exfalso; omega
    · refine lv_aload_n hx hb dX10_reach_41 rfl (lv_at hl 1 rfl) ?_
      refine lv_iload hx hb dX10_reach_42 (lv_at hl 0 rfl) ?_
      refine g_cv (As := [.int (iI 1)]) (rest := []) (n := 1) C hml (c_X10_refuse l D k A ad hD (va_up (va_up v 25 (v 25)) 26 (v 26)) (va_up (va_up (va_up (va_up f 24 (f 24)) 25 (f 25)) 26 (f 26)) 27 (f 27)) g 1 (by decide) (show 0 ≤ (1 : Int) ∧ (1 : Int) ≤ 10 from by omega)) mM_X10_88 mI_X10_refuse mE_X10_refuse mN_X10 mC_X10_refuse (by decide +kernel) 0 (ci := 10) rfl rfl hP hS (fun _ h => h) ⟨Nat.le_of_ble_eq_true rfl, Nat.le_of_ble_eq_true rfl⟩ ⟨Nat.zero_le _, Nat.zero_le _⟩ hl.1 rfl rfl (Nat.le_of_ble_eq_true rfl) dX10_reach_44 (fun r_7 v_7 f_7 g_7 H locs hq_7 hP _ hS => ?_)
      obtain ⟨rfl, rfl, rfl, rfl⟩ := hq_7
      show W p l e (gRm 3 68) s m args below meth c _ _ 0 0 Q (F0 m 47 ls [.int (iI (-1))])
      have hP : gWd D (rwT k ad) (va_up (va_up v 25 (1 : Int)) 26 (v 26)) (va_up (va_up (va_up (va_up f 24 (f 24)) 25 (f 25)) 26 (f 26)) 27 (f 27)) g H := ⟨hP.1, (gF_up (V := rwV) (F := rwF) (gF_up (V := rwV) (F := rwF) (gF_up (V := rwV) (F := rwF) (gF_up (V := rwV) (F := rwF) (gR_up (V := rwV) (F := rwF) (gR_up (V := rwV) (F := rwF) ⟨hok.1, hok.2⟩ 25 (hP.2.1 25)) 26 (hP.2.1 26)) 24 (hP.2.2 24)) 25 (hP.2.2 25)) 26 (hP.2.2 26)) 27 (hP.2.2 27))⟩
      exact g_iret hQ C hr hlocks hP hS dX10_reach_47 ⟨(-1), (1 : Int), (v 26), (f 24), (f 25), (f 26), (f 27), rfl, rfl, rfl, rfl, (by first | omega | (split <;> omega))⟩
  · refine lv_iload_n hx hb dX10_reach_14 rfl (lv_at hl 3 rfl) ?_
    refine lv_iconst (v := iI 1) hx hb dX10_reach_15 rfl ?_
    refine gi_clt (tgt := 25) hx hb dX10_reach_16 (by decide) (by omega) (by decide) (fun c_8 => ?_) (fun c_8 => ?_)
    · refine lv_iconst (v := iI 2) hx hb dX10_reach_25 rfl ?_
      refine lv_goto (tgt := 34) hx hb dX10_reach_26 (by decide) ?_
      refine lv_istore (lv' := [(4, .int (iI 2)), (0, .ref (ad 0)), (1, .int (iI a1)), (2, .int (iI a2)), (3, .int (iI a3))]) hx hb dX10_reach_34 hl (by decide) rfl (fun ls hl => ?_)
      refine lv_iload hx hb dX10_reach_36 (lv_at hl 0 rfl) ?_
      refine gi_zeq (tgt := 48) hx hb dX10_reach_38 (by decide) (by decide) (fun c_9 => ?_) (fun c_9 => ?_)
      · exfalso; omega
      · refine lv_aload_n hx hb dX10_reach_41 rfl (lv_at hl 1 rfl) ?_
        refine lv_iload hx hb dX10_reach_42 (lv_at hl 0 rfl) ?_
        refine g_cv (As := [.int (iI 2)]) (rest := []) (n := 1) C hml (c_X10_refuse l D k A ad hD (va_up (va_up v 25 (v 25)) 26 (v 26)) (va_up (va_up (va_up (va_up f 24 (f 24)) 25 (f 25)) 26 (f 26)) 27 (f 27)) g 2 (by decide) (show 0 ≤ (2 : Int) ∧ (2 : Int) ≤ 10 from by omega)) mM_X10_88 mI_X10_refuse mE_X10_refuse mN_X10 mC_X10_refuse (by decide +kernel) 0 (ci := 10) rfl rfl hP hS (fun _ h => h) ⟨Nat.le_of_ble_eq_true rfl, Nat.le_of_ble_eq_true rfl⟩ ⟨Nat.zero_le _, Nat.zero_le _⟩ hl.1 rfl rfl (Nat.le_of_ble_eq_true rfl) dX10_reach_44 (fun r_10 v_10 f_10 g_10 H locs hq_10 hP _ hS => ?_)
        obtain ⟨rfl, rfl, rfl, rfl⟩ := hq_10
        show W p l e (gRm 3 68) s m args below meth c _ _ 0 0 Q (F0 m 47 ls [.int (iI (-1))])
        have hP : gWd D (rwT k ad) (va_up (va_up v 25 (2 : Int)) 26 (v 26)) (va_up (va_up (va_up (va_up f 24 (f 24)) 25 (f 25)) 26 (f 26)) 27 (f 27)) g H := ⟨hP.1, (gF_up (V := rwV) (F := rwF) (gF_up (V := rwV) (F := rwF) (gF_up (V := rwV) (F := rwF) (gF_up (V := rwV) (F := rwF) (gR_up (V := rwV) (F := rwF) (gR_up (V := rwV) (F := rwF) ⟨hok.1, hok.2⟩ 25 (hP.2.1 25)) 26 (hP.2.1 26)) 24 (hP.2.2 24)) 25 (hP.2.2 25)) 26 (hP.2.2 26)) 27 (hP.2.2 27))⟩
        exact g_iret hQ C hr hlocks hP hS dX10_reach_47 ⟨(-1), (2 : Int), (v 26), (f 24), (f 25), (f 26), (f 27), rfl, rfl, rfl, rfl, (by first | omega | (split <;> omega))⟩
    · refine lv_iload_n hx hb dX10_reach_19 rfl (lv_at hl 3 rfl) ?_
      refine lv_bipush (v := iI 60) hx hb dX10_reach_20 (by decide) ?_
      refine gi_cle (tgt := 29) hx hb dX10_reach_22 (by decide) (by omega) (by decide) (fun c_11 => ?_) (fun c_11 => ?_)
      · refine lv_aload_n hx hb dX10_reach_29 rfl (lv_at hl 1 rfl) ?_
        refine lv_iload_n hx hb dX10_reach_30 rfl (lv_at hl 4 rfl) ?_
        refine g_cv (As := [.int (iI a3)]) (rest := []) (n := 1) C hml (c_X10_passTo l D k A ad hD (va_up (va_up v 25 (v 25)) 26 (v 26)) (va_up (va_up (va_up (va_up f 24 (f 24)) 25 (f 25)) 26 (f 26)) 27 (f 27)) g a3 (by omega) (show shOk (v 1) (f 1) from hs)) mM_X10_183 mI_X10_passTo mE_X10_passTo mN_X10 mC_X10_passTo (by decide +kernel) 0 (ci := 10) rfl rfl hP hS (fun _ h => h) ⟨Nat.le_of_ble_eq_true rfl, Nat.le_of_ble_eq_true rfl⟩ ⟨Nat.zero_le _, Nat.zero_le _⟩ hl.1 rfl rfl (Nat.le_of_ble_eq_true rfl) dX10_reach_31 (fun r_12 v_12 f_12 g_12 H locs hq_12 hP _ hS => ?_)
        obtain ⟨z_12, w26_12, a24_12, a26_12, a27_12, rfl, rfl, rfl, rfl, p0_12⟩ := hq_12
        show W p l e (gRm 3 68) s m args below meth c _ _ 0 0 Q (F0 m 34 ls [.int (iI z_12)])
        have hP : gWd D (rwT k ad) (va_up (va_up v 25 (v 25)) 26 w26_12) (va_up (va_up (va_up (va_up f 24 a24_12) 25 (f 25)) 26 a26_12) 27 a27_12) g H := ⟨hP.1, (gF_up (V := rwV) (F := rwF) (gF_up (V := rwV) (F := rwF) (gF_up (V := rwV) (F := rwF) (gF_up (V := rwV) (F := rwF) (gR_up (V := rwV) (F := rwF) (gR_up (V := rwV) (F := rwF) ⟨hok.1, hok.2⟩ 25 (hP.2.1 25)) 26 (hP.2.1 26)) 24 (hP.2.2 24)) 25 (hP.2.2 25)) 26 (hP.2.2 26)) 27 (hP.2.2 27))⟩
        replace p0_12 : 0 ≤ z_12 ∧ z_12 ≤ 9 := p0_12
        have rw26_12 : 0 ≤ w26_12 ∧ w26_12 ≤ 1000000 := hP.2.1 26
        refine lv_istore (lv' := [(4, .int (iI z_12)), (0, .ref (ad 0)), (1, .int (iI a1)), (2, .int (iI a2)), (3, .int (iI a3))]) hx hb dX10_reach_34 hl (by decide) rfl (fun ls hl => ?_)
        refine lv_iload hx hb dX10_reach_36 (lv_at hl 0 rfl) ?_
        refine gi_zeq (tgt := 48) hx hb dX10_reach_38 (by decide) (by omega) (fun c_13 => ?_) (fun c_13 => ?_)
        · refine lv_aload_n hx hb dX10_reach_48 rfl (lv_at hl 1 rfl) ?_
          refine rwG_tries C hP mF_X10_44 dX10_reach_49 ?_
          refine lv_iload_n hx hb dX10_reach_52 rfl (lv_at hl 2 rfl) ?_
          refine g_cv (As := [.int (iI a1)]) (rest := []) (n := 1) C hml (c_X7_openOf l D k A ad hD (va_up (va_up v 25 (v 25)) 26 w26_12) (va_up (va_up (va_up (va_up f 24 a24_12) 25 (f 25)) 26 a26_12) 27 a27_12) g a1 (by omega) (show 0 ≤ a1 ∧ a1 ≤ 15 from by omega)) mM_X10_197 mI_X7_openOf mE_X7_openOf mN_X7 mC_X7_openOf (by decide +kernel) 30 (ci := 7) rfl rfl hP hS (fun _ h => h) ⟨Nat.le_of_ble_eq_true rfl, Nat.le_of_ble_eq_true rfl⟩ ⟨Nat.zero_le _, Nat.zero_le _⟩ hl.1 rfl rfl (Nat.le_of_ble_eq_true rfl) dX10_reach_53 (fun r_14 v_14 f_14 g_14 H locs hq_14 hP _ hS => ?_)
          obtain ⟨z_14, rfl, rfl, rfl, rfl, p0_14, p1_14⟩ := hq_14
          show W p l e (gRm 3 68) s m args below meth c _ _ 0 0 Q (F0 m 56 ls [.int (iI z_14)])
          replace p0_14 : z_14 = (a27_12 a1 - 1) := p0_14
          replace p1_14 : (-1) ≤ z_14 ∧ z_14 ≤ 299 := p1_14
          have hz_14 : inR z_14 := (by first | omega | (rw [p0_14]; split <;> omega))
          refine lv_istore (lv' := [(5, .int (iI z_14)), (4, .int (iI z_12)), (0, .ref (ad 0)), (1, .int (iI a1)), (2, .int (iI a2)), (3, .int (iI a3))]) hx hb dX10_reach_56 hl (by decide) rfl (fun ls hl => ?_)
          refine lv_iload hx hb dX10_reach_58 (lv_at hl 0 rfl) ?_
          refine lv_iconst (v := iI (-1)) hx hb dX10_reach_60 rfl ?_
          refine gi_cne (tgt := 70) hx hb dX10_reach_61 (by decide) (by omega) (by decide) (fun c_15 => ?_) (fun c_15 => ?_)
          · refine lv_aload_n hx hb dX10_reach_70 rfl (lv_at hl 2 rfl) ?_
            refine rwG_wall C hP mF_X10_30 dX10_reach_71 ?_
            refine lv_aload_n hx hb dX10_reach_74 rfl (lv_at hl 2 rfl) ?_
            refine rwG_tries C hP mF_X10_44 dX10_reach_75 ?_
            refine rwG_tries_round C hP mF_X10_200 dX10_reach_78 ?_
            refine lv_iload hx hb dX10_reach_81 (lv_at hl 0 rfl) ?_
            refine rwL_tries_round C hP (by omega) (by omega) dX10_reach_83 ?_
            show W p l e (gRm 3 68) s m args below meth c _ _ 0 0 Q (F0 m 84 ls [.int (iI (f 21 z_14)), .ref (ad 23)])
            have r_16 : 0 ≤ (f 21 z_14) ∧ (f 21 z_14) ≤ 3 := hP.2.2 21 z_14
            refine lv_aload_n hx hb dX10_reach_84 rfl (lv_at hl 2 rfl) ?_
            refine rwG_tries C hP mF_X10_44 dX10_reach_85 ?_
            refine rwG_tries_route C hP mF_X10_203 dX10_reach_88 ?_
            refine lv_iload hx hb dX10_reach_91 (lv_at hl 0 rfl) ?_
            refine rwL_tries_route C hP (by omega) (by omega) dX10_reach_93 ?_
            show W p l e (gRm 3 68) s m args below meth c _ _ 0 0 Q (F0 m 94 ls [.int (iI (f 22 z_14)), .int (iI (f 21 z_14)), .ref (ad 23)])
            have r_17 : 0 ≤ (f 22 z_14) ∧ (f 22 z_14) ≤ 4 := hP.2.2 22 z_14
            refine g_cv (As := [.int (iI (f 21 z_14)), .int (iI (f 22 z_14))]) (rest := []) (n := 2) C hml (c_X8_holdsOf l D k A ad hD (va_up (va_up v 25 (v 25)) 26 w26_12) (va_up (va_up (va_up (va_up f 24 a24_12) 25 (f 25)) 26 a26_12) 27 a27_12) g (f 21 z_14) (f 22 z_14) (by omega) (by omega) (show 0 ≤ (f 21 z_14) ∧ (f 21 z_14) ≤ 3 from by omega) (show 0 ≤ (f 22 z_14) ∧ (f 22 z_14) ≤ 4 from by omega)) mM_X10_173 mI_X8_holdsOf mE_X8_holdsOf mN_X8 mC_X8_holdsOf (by decide +kernel) 23 (ci := 8) rfl rfl hP hS (fun _ h => h) ⟨Nat.le_of_ble_eq_true rfl, Nat.le_of_ble_eq_true rfl⟩ ⟨Nat.zero_le _, Nat.zero_le _⟩ hl.1 rfl rfl (Nat.le_of_ble_eq_true rfl) dX10_reach_94 (fun r_18 v_18 f_18 g_18 H locs hq_18 hP _ hS => ?_)
            obtain ⟨z_18, rfl, rfl, rfl, rfl, p0_18, p1_18⟩ := hq_18
            show W p l e (gRm 3 68) s m args below meth c _ _ 0 0 Q (F0 m 97 ls [.int (iI z_18)])
            replace p0_18 : z_18 = ((f 15) ((f 21 z_14) * 5 + (f 22 z_14))) := p0_18
            replace p1_18 : 0 ≤ z_18 ∧ z_18 ≤ 60 := p1_18
            have hz_18 : inR z_18 := (by first | omega | (rw [p0_18]; split <;> omega))
            refine lv_istore (lv' := [(6, .int (iI z_18)), (5, .int (iI z_14)), (4, .int (iI z_12)), (0, .ref (ad 0)), (1, .int (iI a1)), (2, .int (iI a2)), (3, .int (iI a3))]) hx hb dX10_reach_97 hl (by decide) rfl (fun ls hl => ?_)
            refine lv_iload_n hx hb dX10_reach_99 rfl (lv_at hl 5 rfl) ?_
            refine lv_aload_n hx hb dX10_reach_100 rfl (lv_at hl 3 rfl) ?_
            refine rwG_tries C hP mF_X10_44 dX10_reach_101 ?_
            refine rwG_tries_hold C hP mF_X10_206 dX10_reach_104 ?_
            refine lv_iload hx hb dX10_reach_107 (lv_at hl 1 rfl) ?_
            refine rwL_tries_hold C hP (by omega) (by omega) dX10_reach_109 ?_
            show W p l e (gRm 3 68) s m args below meth c _ _ 0 0 Q (F0 m 110 ls [.int (iI (f 25 z_14)), .int (iI a2)])
            have r_19 : 0 ≤ (f 25 z_14) ∧ (f 25 z_14) ≤ 60 := hP.2.2 25 z_14
            refine gi_cle (tgt := 119) hx hb dX10_reach_110 (by decide) (by omega) (by omega) (fun c_20 => ?_) (fun c_20 => ?_)
            · refine lv_aload_n hx hb dX10_reach_119 rfl (lv_at hl 3 rfl) ?_
              refine lv_bipush (v := iI 10) hx hb dX10_reach_120 (by decide) ?_
              refine g_cv (As := [.int (iI 10)]) (rest := []) (n := 1) C hml (c_X10_refuse l D k A ad hD (va_up (va_up v 25 (v 25)) 26 w26_12) (va_up (va_up (va_up (va_up f 24 a24_12) 25 (f 25)) 26 a26_12) 27 a27_12) g 10 (by decide) (show 0 ≤ (10 : Int) ∧ (10 : Int) ≤ 10 from by omega)) mM_X10_88 mI_X10_refuse mE_X10_refuse mN_X10 mC_X10_refuse (by decide +kernel) 0 (ci := 10) rfl rfl hP hS (fun _ h => h) ⟨Nat.le_of_ble_eq_true rfl, Nat.le_of_ble_eq_true rfl⟩ ⟨Nat.zero_le _, Nat.zero_le _⟩ hl.1 rfl rfl (Nat.le_of_ble_eq_true rfl) dX10_reach_122 (fun r_21 v_21 f_21 g_21 H locs hq_21 hP _ hS => ?_)
              obtain ⟨rfl, rfl, rfl, rfl⟩ := hq_21
              show W p l e (gRm 3 68) s m args below meth c _ _ 0 0 Q (F0 m 125 ls [.int (iI (-1))])
              have hP : gWd D (rwT k ad) (va_up (va_up v 25 (10 : Int)) 26 w26_12) (va_up (va_up (va_up (va_up f 24 a24_12) 25 (f 25)) 26 a26_12) 27 a27_12) g H := ⟨hP.1, (gF_up (V := rwV) (F := rwF) (gF_up (V := rwV) (F := rwF) (gF_up (V := rwV) (F := rwF) (gF_up (V := rwV) (F := rwF) (gR_up (V := rwV) (F := rwF) (gR_up (V := rwV) (F := rwF) ⟨hok.1, hok.2⟩ 25 (hP.2.1 25)) 26 (hP.2.1 26)) 24 (hP.2.2 24)) 25 (hP.2.2 25)) 26 (hP.2.2 26)) 27 (hP.2.2 27))⟩
              exact g_iret hQ C hr hlocks hP hS dX10_reach_125 ⟨(-1), (10 : Int), w26_12, a24_12, (f 25), a26_12, a27_12, rfl, rfl, rfl, rfl, (by first | omega | (split <;> omega))⟩
            · refine lv_iload_n hx hb dX10_reach_113 rfl (lv_at hl 5 rfl) ?_
              refine lv_iload hx hb dX10_reach_114 (lv_at hl 0 rfl) ?_
              refine gi_cle (tgt := 126) hx hb dX10_reach_116 (by decide) (by omega) (by omega) (fun c_22 => ?_) (fun c_22 => ?_)
              · refine lv_aload_n hx hb dX10_reach_126 rfl (lv_at hl 3 rfl) ?_
                refine rwG_tries C hP mF_X10_44 dX10_reach_127 ?_
                refine rwG_tries_hold C hP mF_X10_206 dX10_reach_130 ?_
                refine lv_iload hx hb dX10_reach_133 (lv_at hl 1 rfl) ?_
                refine lv_iload_n hx hb dX10_reach_135 rfl (lv_at hl 5 rfl) ?_
                refine rwS_tries_hold (f1 := (va_up (va_up (va_up (va_up f 24 a24_12) 25 (u1 (f 25) z_14 a2)) 26 a26_12) 27 a27_12)) C hP hD hS (by omega) (by omega) (by omega) rfl (Or.inr (gF_up (V := rwV) (F := rwF) (gF_up (V := rwV) (F := rwF) (gF_up (V := rwV) (F := rwF) (gF_up (V := rwV) (F := rwF) (gR_up (V := rwV) (F := rwF) (gR_up (V := rwV) (F := rwF) ⟨hok.1, hok.2⟩ 25 (hP.2.1 25)) 26 (hP.2.1 26)) 24 (hP.2.2 24)) 25 (u1_rng (hP.2.2 25) (show 0 ≤ a2 ∧ a2 ≤ 60 from (by omega)))) 26 (hP.2.2 26)) 27 (hP.2.2 27))) dX10_reach_136 (fun H locs hP hS => ?_)
                refine lv_iload_n hx hb dX10_reach_137 rfl (lv_at hl 5 rfl) ?_
                refine lv_iload hx hb dX10_reach_138 (lv_at hl 0 rfl) ?_
                refine gi_cge (tgt := 149) hx hb dX10_reach_140 (by decide) (by omega) (by omega) (fun c_23 => ?_) (fun c_23 => ?_)
                · refine lv_aload_n hx hb dX10_reach_149 rfl (lv_at hl 3 rfl) ?_
                  refine rwG_tries C hP mF_X10_44 dX10_reach_150 ?_
                  refine lv_iload hx hb dX10_reach_153 (lv_at hl 1 rfl) ?_
                  refine lv_aload_n hx hb dX10_reach_155 rfl (lv_at hl 3 rfl) ?_
                  refine rwG_time C hP mF_X10_114 dX10_reach_156 ?_
                  show W p l e (gRm 3 68) s m args below meth c _ _ 0 0 Q (F0 m 159 ls [.int (iI w26_12), .int (iI z_14), .ref (ad 30)])
                  have r_24 : 0 ≤ w26_12 ∧ w26_12 ≤ 1000000 := hP.2.1 26
                  refine lv_iconst (v := iI 1) hx hb dX10_reach_159 rfl ?_
                  refine g_cv (As := [.int (iI z_14), .int (iI w26_12), .int (iI 1)]) (rest := []) (n := 3) C hml (c_X7_finish l D k A ad hD (va_up (va_up v 25 (v 25)) 26 w26_12) (va_up (va_up (va_up (va_up f 24 a24_12) 25 (u1 (f 25) z_14 a2)) 26 a26_12) 27 a27_12) g z_14 w26_12 1 (by omega) (by omega) (by decide) (show 0 ≤ z_14 ∧ z_14 ≤ 299 from by omega) (show (-1) ≤ w26_12 ∧ w26_12 ≤ 1000999 from by omega) (show 0 ≤ (1 : Int) ∧ (1 : Int) ≤ 4 from by omega)) mM_X10_209 mI_X7_finish mE_X7_finish mN_X7 mC_X7_finish (by decide +kernel) 30 (ci := 7) rfl rfl hP hS (fun _ h => h) ⟨Nat.le_of_ble_eq_true rfl, Nat.le_of_ble_eq_true rfl⟩ ⟨Nat.zero_le _, Nat.zero_le _⟩ hl.1 rfl rfl (Nat.le_of_ble_eq_true rfl) dX10_reach_160 (fun r_25 v_25 f_25 g_25 H locs hq_25 hP _ hS => ?_)
                  obtain ⟨rfl, rfl, rfl, rfl⟩ := hq_25
                  show W p l e (gRm 3 68) s m args below meth c _ _ 0 0 Q (F0 m 163 ls [])
                  have hP : gWd D (rwT k ad) (va_up (va_up v 25 (v 25)) 26 w26_12) (va_up (va_up (va_up (va_up f 24 (u1 a24_12 z_14 w26_12)) 25 (u1 (f 25) z_14 a2)) 26 (u1 a26_12 z_14 (1 : Int))) 27 (u1 a27_12 ((f 20) z_14) 0)) g H := ⟨hP.1, (gF_up (V := rwV) (F := rwF) (gF_up (V := rwV) (F := rwF) (gF_up (V := rwV) (F := rwF) (gF_up (V := rwV) (F := rwF) (gR_up (V := rwV) (F := rwF) (gR_up (V := rwV) (F := rwF) ⟨hok.1, hok.2⟩ 25 (hP.2.1 25)) 26 (hP.2.1 26)) 24 (hP.2.2 24)) 25 (hP.2.2 25)) 26 (hP.2.2 26)) 27 (hP.2.2 27))⟩
                  refine lv_aload_n hx hb dX10_reach_163 rfl (lv_at hl 3 rfl) ?_
                  refine lv_iconst (v := iI 1) hx hb dX10_reach_164 rfl ?_
                  refine g_cv (As := [.int (iI 1)]) (rest := []) (n := 1) C hml (c_X10_answer l D k A ad hD (va_up (va_up v 25 (v 25)) 26 w26_12) (va_up (va_up (va_up (va_up f 24 (u1 a24_12 z_14 w26_12)) 25 (u1 (f 25) z_14 a2)) 26 (u1 a26_12 z_14 (1 : Int))) 27 (u1 a27_12 ((f 20) z_14) 0)) g 1 (by decide)) mM_X10_120 mI_X10_answer mE_X10_answer mN_X10 mC_X10_answer (by decide +kernel) 0 (ci := 10) rfl rfl hP hS (fun _ h => h) ⟨Nat.le_of_ble_eq_true rfl, Nat.le_of_ble_eq_true rfl⟩ ⟨Nat.zero_le _, Nat.zero_le _⟩ hl.1 rfl rfl (Nat.le_of_ble_eq_true rfl) dX10_reach_165 (fun r_26 v_26 f_26 g_26 H locs hq_26 hP _ hS => ?_)
                  obtain ⟨z_26, rfl, rfl, rfl, rfl, p0_26⟩ := hq_26
                  show W p l e (gRm 3 68) s m args below meth c _ _ 0 0 Q (F0 m 168 ls [.int (iI z_26)])
                  have hP : gWd D (rwT k ad) (va_up (va_up v 25 0) 26 w26_12) (va_up (va_up (va_up (va_up f 24 (u1 a24_12 z_14 w26_12)) 25 (u1 (f 25) z_14 a2)) 26 (u1 a26_12 z_14 (1 : Int))) 27 (u1 a27_12 ((f 20) z_14) 0)) g H := ⟨hP.1, (gF_up (V := rwV) (F := rwF) (gF_up (V := rwV) (F := rwF) (gF_up (V := rwV) (F := rwF) (gF_up (V := rwV) (F := rwF) (gR_up (V := rwV) (F := rwF) (gR_up (V := rwV) (F := rwF) ⟨hok.1, hok.2⟩ 25 (hP.2.1 25)) 26 (hP.2.1 26)) 24 (hP.2.2 24)) 25 (hP.2.2 25)) 26 (hP.2.2 26)) 27 (hP.2.2 27))⟩
                  replace p0_26 : z_26 = (1 : Int) := p0_26
                  have hz_26 : inR z_26 := (by first | omega | (rw [p0_26]; split <;> omega))
                  exact g_iret hQ C hr hlocks hP hS dX10_reach_168 ⟨z_26, 0, w26_12, (u1 a24_12 z_14 w26_12), (u1 (f 25) z_14 a2), (u1 a26_12 z_14 (1 : Int)), (u1 a27_12 ((f 20) z_14) 0), rfl, rfl, rfl, rfl, (by first | omega | (split <;> omega))⟩
                · refine lv_aload_n hx hb dX10_reach_143 rfl (lv_at hl 3 rfl) ?_
                  refine lv_iconst (v := iI 0) hx hb dX10_reach_144 rfl ?_
                  refine g_cv (As := [.int (iI 0)]) (rest := []) (n := 1) C hml (c_X10_answer l D k A ad hD (va_up (va_up v 25 (v 25)) 26 w26_12) (va_up (va_up (va_up (va_up f 24 a24_12) 25 (u1 (f 25) z_14 a2)) 26 a26_12) 27 a27_12) g 0 (by decide)) mM_X10_120 mI_X10_answer mE_X10_answer mN_X10 mC_X10_answer (by decide +kernel) 0 (ci := 10) rfl rfl hP hS (fun _ h => h) ⟨Nat.le_of_ble_eq_true rfl, Nat.le_of_ble_eq_true rfl⟩ ⟨Nat.zero_le _, Nat.zero_le _⟩ hl.1 rfl rfl (Nat.le_of_ble_eq_true rfl) dX10_reach_145 (fun r_27 v_27 f_27 g_27 H locs hq_27 hP _ hS => ?_)
                  obtain ⟨z_27, rfl, rfl, rfl, rfl, p0_27⟩ := hq_27
                  show W p l e (gRm 3 68) s m args below meth c _ _ 0 0 Q (F0 m 148 ls [.int (iI z_27)])
                  have hP : gWd D (rwT k ad) (va_up (va_up v 25 0) 26 w26_12) (va_up (va_up (va_up (va_up f 24 a24_12) 25 (u1 (f 25) z_14 a2)) 26 a26_12) 27 a27_12) g H := ⟨hP.1, (gF_up (V := rwV) (F := rwF) (gF_up (V := rwV) (F := rwF) (gF_up (V := rwV) (F := rwF) (gF_up (V := rwV) (F := rwF) (gR_up (V := rwV) (F := rwF) (gR_up (V := rwV) (F := rwF) ⟨hok.1, hok.2⟩ 25 (hP.2.1 25)) 26 (hP.2.1 26)) 24 (hP.2.2 24)) 25 (hP.2.2 25)) 26 (hP.2.2 26)) 27 (hP.2.2 27))⟩
                  replace p0_27 : z_27 = (0 : Int) := p0_27
                  have hz_27 : inR z_27 := (by first | omega | (rw [p0_27]; split <;> omega))
                  exact g_iret hQ C hr hlocks hP hS dX10_reach_148 ⟨z_27, 0, w26_12, a24_12, (u1 (f 25) z_14 a2), a26_12, a27_12, rfl, rfl, rfl, rfl, (by first | omega | (split <;> omega))⟩
              · refine lv_aload_n hx hb dX10_reach_119 rfl (lv_at hl 3 rfl) ?_
                refine lv_bipush (v := iI 10) hx hb dX10_reach_120 (by decide) ?_
                refine g_cv (As := [.int (iI 10)]) (rest := []) (n := 1) C hml (c_X10_refuse l D k A ad hD (va_up (va_up v 25 (v 25)) 26 w26_12) (va_up (va_up (va_up (va_up f 24 a24_12) 25 (f 25)) 26 a26_12) 27 a27_12) g 10 (by decide) (show 0 ≤ (10 : Int) ∧ (10 : Int) ≤ 10 from by omega)) mM_X10_88 mI_X10_refuse mE_X10_refuse mN_X10 mC_X10_refuse (by decide +kernel) 0 (ci := 10) rfl rfl hP hS (fun _ h => h) ⟨Nat.le_of_ble_eq_true rfl, Nat.le_of_ble_eq_true rfl⟩ ⟨Nat.zero_le _, Nat.zero_le _⟩ hl.1 rfl rfl (Nat.le_of_ble_eq_true rfl) dX10_reach_122 (fun r_28 v_28 f_28 g_28 H locs hq_28 hP _ hS => ?_)
                obtain ⟨rfl, rfl, rfl, rfl⟩ := hq_28
                show W p l e (gRm 3 68) s m args below meth c _ _ 0 0 Q (F0 m 125 ls [.int (iI (-1))])
                have hP : gWd D (rwT k ad) (va_up (va_up v 25 (10 : Int)) 26 w26_12) (va_up (va_up (va_up (va_up f 24 a24_12) 25 (f 25)) 26 a26_12) 27 a27_12) g H := ⟨hP.1, (gF_up (V := rwV) (F := rwF) (gF_up (V := rwV) (F := rwF) (gF_up (V := rwV) (F := rwF) (gF_up (V := rwV) (F := rwF) (gR_up (V := rwV) (F := rwF) (gR_up (V := rwV) (F := rwF) ⟨hok.1, hok.2⟩ 25 (hP.2.1 25)) 26 (hP.2.1 26)) 24 (hP.2.2 24)) 25 (hP.2.2 25)) 26 (hP.2.2 26)) 27 (hP.2.2 27))⟩
                exact g_iret hQ C hr hlocks hP hS dX10_reach_125 ⟨(-1), (10 : Int), w26_12, a24_12, (f 25), a26_12, a27_12, rfl, rfl, rfl, rfl, (by first | omega | (split <;> omega))⟩
          · refine lv_aload_n hx hb dX10_reach_64 rfl (lv_at hl 2 rfl) ?_
            refine lv_iconst (v := iI 5) hx hb dX10_reach_65 rfl ?_
            refine g_cv (As := [.int (iI 5)]) (rest := []) (n := 1) C hml (c_X10_refuse l D k A ad hD (va_up (va_up v 25 (v 25)) 26 w26_12) (va_up (va_up (va_up (va_up f 24 a24_12) 25 (f 25)) 26 a26_12) 27 a27_12) g 5 (by decide) (show 0 ≤ (5 : Int) ∧ (5 : Int) ≤ 10 from by omega)) mM_X10_88 mI_X10_refuse mE_X10_refuse mN_X10 mC_X10_refuse (by decide +kernel) 0 (ci := 10) rfl rfl hP hS (fun _ h => h) ⟨Nat.le_of_ble_eq_true rfl, Nat.le_of_ble_eq_true rfl⟩ ⟨Nat.zero_le _, Nat.zero_le _⟩ hl.1 rfl rfl (Nat.le_of_ble_eq_true rfl) dX10_reach_66 (fun r_29 v_29 f_29 g_29 H locs hq_29 hP _ hS => ?_)
            obtain ⟨rfl, rfl, rfl, rfl⟩ := hq_29
            show W p l e (gRm 3 68) s m args below meth c _ _ 0 0 Q (F0 m 69 ls [.int (iI (-1))])
            have hP : gWd D (rwT k ad) (va_up (va_up v 25 (5 : Int)) 26 w26_12) (va_up (va_up (va_up (va_up f 24 a24_12) 25 (f 25)) 26 a26_12) 27 a27_12) g H := ⟨hP.1, (gF_up (V := rwV) (F := rwF) (gF_up (V := rwV) (F := rwF) (gF_up (V := rwV) (F := rwF) (gF_up (V := rwV) (F := rwF) (gR_up (V := rwV) (F := rwF) (gR_up (V := rwV) (F := rwF) ⟨hok.1, hok.2⟩ 25 (hP.2.1 25)) 26 (hP.2.1 26)) 24 (hP.2.2 24)) 25 (hP.2.2 25)) 26 (hP.2.2 26)) 27 (hP.2.2 27))⟩
            exact g_iret hQ C hr hlocks hP hS dX10_reach_69 ⟨(-1), (5 : Int), w26_12, a24_12, (f 25), a26_12, a27_12, rfl, rfl, rfl, rfl, (by first | omega | (split <;> omega))⟩
        · refine lv_aload_n hx hb dX10_reach_41 rfl (lv_at hl 1 rfl) ?_
          refine lv_iload hx hb dX10_reach_42 (lv_at hl 0 rfl) ?_
          refine g_cv (As := [.int (iI z_12)]) (rest := []) (n := 1) C hml (c_X10_refuse l D k A ad hD (va_up (va_up v 25 (v 25)) 26 w26_12) (va_up (va_up (va_up (va_up f 24 a24_12) 25 (f 25)) 26 a26_12) 27 a27_12) g z_12 (by omega) (show 0 ≤ z_12 ∧ z_12 ≤ 10 from by omega)) mM_X10_88 mI_X10_refuse mE_X10_refuse mN_X10 mC_X10_refuse (by decide +kernel) 0 (ci := 10) rfl rfl hP hS (fun _ h => h) ⟨Nat.le_of_ble_eq_true rfl, Nat.le_of_ble_eq_true rfl⟩ ⟨Nat.zero_le _, Nat.zero_le _⟩ hl.1 rfl rfl (Nat.le_of_ble_eq_true rfl) dX10_reach_44 (fun r_30 v_30 f_30 g_30 H locs hq_30 hP _ hS => ?_)
          obtain ⟨rfl, rfl, rfl, rfl⟩ := hq_30
          show W p l e (gRm 3 68) s m args below meth c _ _ 0 0 Q (F0 m 47 ls [.int (iI (-1))])
          have hP : gWd D (rwT k ad) (va_up (va_up v 25 z_12) 26 w26_12) (va_up (va_up (va_up (va_up f 24 a24_12) 25 (f 25)) 26 a26_12) 27 a27_12) g H := ⟨hP.1, (gF_up (V := rwV) (F := rwF) (gF_up (V := rwV) (F := rwF) (gF_up (V := rwV) (F := rwF) (gF_up (V := rwV) (F := rwF) (gR_up (V := rwV) (F := rwF) (gR_up (V := rwV) (F := rwF) ⟨hok.1, hok.2⟩ 25 (hP.2.1 25)) 26 (hP.2.1 26)) 24 (hP.2.2 24)) 25 (hP.2.2 25)) 26 (hP.2.2 26)) 27 (hP.2.2 27))⟩
          exact g_iret hQ C hr hlocks hP hS dX10_reach_47 ⟨(-1), z_12, w26_12, a24_12, (f 25), a26_12, a27_12, rfl, rfl, rfl, rfl, (by first | omega | (split <;> omega))⟩
      · refine lv_iconst (v := iI 2) hx hb dX10_reach_25 rfl ?_
        refine lv_goto (tgt := 34) hx hb dX10_reach_26 (by decide) ?_
        refine lv_istore (lv' := [(4, .int (iI 2)), (0, .ref (ad 0)), (1, .int (iI a1)), (2, .int (iI a2)), (3, .int (iI a3))]) hx hb dX10_reach_34 hl (by decide) rfl (fun ls hl => ?_)
        refine lv_iload hx hb dX10_reach_36 (lv_at hl 0 rfl) ?_
        refine gi_zeq (tgt := 48) hx hb dX10_reach_38 (by decide) (by decide) (fun c_31 => ?_) (fun c_31 => ?_)
        · exfalso; omega
        · refine lv_aload_n hx hb dX10_reach_41 rfl (lv_at hl 1 rfl) ?_
          refine lv_iload hx hb dX10_reach_42 (lv_at hl 0 rfl) ?_
          refine g_cv (As := [.int (iI 2)]) (rest := []) (n := 1) C hml (c_X10_refuse l D k A ad hD (va_up (va_up v 25 (v 25)) 26 (v 26)) (va_up (va_up (va_up (va_up f 24 (f 24)) 25 (f 25)) 26 (f 26)) 27 (f 27)) g 2 (by decide) (show 0 ≤ (2 : Int) ∧ (2 : Int) ≤ 10 from by omega)) mM_X10_88 mI_X10_refuse mE_X10_refuse mN_X10 mC_X10_refuse (by decide +kernel) 0 (ci := 10) rfl rfl hP hS (fun _ h => h) ⟨Nat.le_of_ble_eq_true rfl, Nat.le_of_ble_eq_true rfl⟩ ⟨Nat.zero_le _, Nat.zero_le _⟩ hl.1 rfl rfl (Nat.le_of_ble_eq_true rfl) dX10_reach_44 (fun r_32 v_32 f_32 g_32 H locs hq_32 hP _ hS => ?_)
          obtain ⟨rfl, rfl, rfl, rfl⟩ := hq_32
          show W p l e (gRm 3 68) s m args below meth c _ _ 0 0 Q (F0 m 47 ls [.int (iI (-1))])
          have hP : gWd D (rwT k ad) (va_up (va_up v 25 (2 : Int)) 26 (v 26)) (va_up (va_up (va_up (va_up f 24 (f 24)) 25 (f 25)) 26 (f 26)) 27 (f 27)) g H := ⟨hP.1, (gF_up (V := rwV) (F := rwF) (gF_up (V := rwV) (F := rwF) (gF_up (V := rwV) (F := rwF) (gF_up (V := rwV) (F := rwF) (gR_up (V := rwV) (F := rwF) (gR_up (V := rwV) (F := rwF) ⟨hok.1, hok.2⟩ 25 (hP.2.1 25)) 26 (hP.2.1 26)) 24 (hP.2.2 24)) 25 (hP.2.2 25)) 26 (hP.2.2 26)) 27 (hP.2.2 27))⟩
          exact g_iret hQ C hr hlocks hP hS dX10_reach_47 ⟨(-1), (2 : Int), (v 26), (f 24), (f 25), (f 26), (f 27), rfl, rfl, rfl, rfl, (by first | omega | (split <;> omega))⟩

set_option maxHeartbeats 4000000 in
set_option maxRecDepth 100000 in
theorem c_X10_fall (l : Launch) (D : va_G) (k : Nat → ClassId) (A : Nat → Prop) (ad : Nat → Nat) (hD : rwD A k ad) (v : gV) (f g : gF) (a1 : Int) (a2 : Int) (a3 : Int) (h_a1 : inR a1) (h_a2 : inR a2) (h_a3 : inR a3) (hs : shOk (v 1) (f 1)) : GM l D k A (rwT k ad) yX10_fall cX10_fall 6 (some .boolean) 3 68 [.ref (ad 0), .int (iI a1), .int (iI a2), .int (iI a3)] v f g (fun r v1 f1 g1 => ∃ (z : Int) (w25 : Int) (w26 : Int) (a24_ : Int → Int) (a26_ : Int → Int) (a27_ : Int → Int), r = some (.int (iI z)) ∧ (va_up (va_up v 25 w25) 26 w26) = v1 ∧ (va_up (va_up (va_up f 24 a24_) 26 a26_) 27 a27_) = f1 ∧ g = g1 ∧ (0 ≤ z ∧ z ≤ 1)) := by
  refine GM.of (by decide) (Nat.le_of_ble_eq_true rfl) ?_
  intro p e s m args below meth c Q ls hQ C hml hr hlocks hP hl
  have hx := C.1
  have hb := C.2.1
  have hok := hP.2
  have hS : va_S A s.heap s.heap [] := va_S.rf
  have hl : lv_has ls 6 [(0, .ref (ad 0)), (1, .int (iI a1)), (2, .int (iI a2)), (3, .int (iI a3))] := hl
  have hP : gWd D (rwT k ad) (va_up (va_up v 25 (v 25)) 26 (v 26)) (va_up (va_up (va_up f 24 (f 24)) 26 (f 26)) 27 (f 27)) g s.heap := by rw [va_id, va_id, va_id, va_id, va_id]; exact hP
  have r_1 : 0 ≤ (v 1) ∧ (v 1) ≤ 4 := hok.1 1
  have r_2 : 0 ≤ (v 21) ∧ (v 21) ≤ 16 := hok.1 21
  have r_3 : 0 ≤ (v 22) ∧ (v 22) ≤ 3 := hok.1 22
  refine lv_aload_n hx hb dX10_fall_0 rfl (lv_at hl 0 rfl) ?_
  refine rwG_field C hP mF_X10_37 dX10_fall_1 ?_
  refine lv_iload_n hx hb dX10_fall_4 rfl (lv_at hl 1 rfl) ?_
  refine g_cv (As := [.int (iI a1)]) (rest := []) (n := 1) C hml (c_X2_knows l D k A ad hD (va_up (va_up v 25 (v 25)) 26 (v 26)) (va_up (va_up (va_up f 24 (f 24)) 26 (f 26)) 27 (f 27)) g a1 (by omega)) mM_X10_180 mI_X2_knows mE_X2_knows mN_X2 mC_X2_knows (by decide +kernel) 27 (ci := 2) rfl rfl hP hS (fun _ h => h) ⟨Nat.le_of_ble_eq_true rfl, Nat.le_of_ble_eq_true rfl⟩ ⟨Nat.zero_le _, Nat.zero_le _⟩ hl.1 rfl rfl (Nat.le_of_ble_eq_true rfl) dX10_fall_5 (fun r_4 v_4 f_4 g_4 H locs hq_4 hP _ hS => ?_)
  obtain ⟨z_4, rfl, rfl, rfl, rfl, p0_4⟩ := hq_4
  show W p l e (gRm 3 68) s m args below meth c _ _ 0 0 Q (F0 m 8 ls [.int (iI z_4)])
  replace p0_4 : z_4 = (if 0 ≤ a1 ∧ a1 < (v 21) then 1 else 0) := p0_4
  have w_4 := gif (P := 0 ≤ a1 ∧ a1 < (v 21)) p0_4
  have hz_4 : inR z_4 := (by first | omega | (rw [p0_4]; split <;> omega))
  refine gi_zeq (tgt := 19) hx hb dX10_fall_8 (by decide) (by omega) (fun c_5 => ?_) (fun c_5 => ?_)
  · refine lv_iconst (v := iI 1) hx hb dX10_fall_19 rfl ?_
    refine lv_istore (lv' := [(4, .int (iI 1)), (0, .ref (ad 0)), (1, .int (iI a1)), (2, .int (iI a2)), (3, .int (iI a3))]) hx hb dX10_fall_20 hl (by decide) rfl (fun ls hl => ?_)
    refine lv_iload hx hb dX10_fall_22 (lv_at hl 0 rfl) ?_
    refine gi_zeq (tgt := 34) hx hb dX10_fall_24 (by decide) (by decide) (fun c_6 => ?_) (fun c_6 => ?_)
    · exfalso; omega
    · refine lv_aload_n hx hb dX10_fall_27 rfl (lv_at hl 1 rfl) ?_
      refine lv_iload hx hb dX10_fall_28 (lv_at hl 0 rfl) ?_
      refine g_cv (As := [.int (iI 1)]) (rest := []) (n := 1) C hml (c_X10_deny l D k A ad hD (va_up (va_up v 25 (v 25)) 26 (v 26)) (va_up (va_up (va_up f 24 (f 24)) 26 (f 26)) 27 (f 27)) g 1 (by decide) (show 0 ≤ (1 : Int) ∧ (1 : Int) ≤ 10 from by omega)) mM_X10_140 mI_X10_deny mE_X10_deny mN_X10 mC_X10_deny (by decide +kernel) 0 (ci := 10) rfl rfl hP hS (fun _ h => h) ⟨Nat.le_of_ble_eq_true rfl, Nat.le_of_ble_eq_true rfl⟩ ⟨Nat.zero_le _, Nat.zero_le _⟩ hl.1 rfl rfl (Nat.le_of_ble_eq_true rfl) dX10_fall_30 (fun r_7 v_7 f_7 g_7 H locs hq_7 hP _ hS => ?_)
      obtain ⟨rfl, rfl, rfl, rfl⟩ := hq_7
      show W p l e (gRm 3 68) s m args below meth c _ _ 0 0 Q (F0 m 33 ls [.int (iI 0)])
      have hP : gWd D (rwT k ad) (va_up (va_up v 25 (1 : Int)) 26 (v 26)) (va_up (va_up (va_up f 24 (f 24)) 26 (f 26)) 27 (f 27)) g H := ⟨hP.1, (gF_up (V := rwV) (F := rwF) (gF_up (V := rwV) (F := rwF) (gF_up (V := rwV) (F := rwF) (gR_up (V := rwV) (F := rwF) (gR_up (V := rwV) (F := rwF) ⟨hok.1, hok.2⟩ 25 (hP.2.1 25)) 26 (hP.2.1 26)) 24 (hP.2.2 24)) 26 (hP.2.2 26)) 27 (hP.2.2 27))⟩
      exact g_zret hQ C hr hlocks (by decide) hP hS dX10_fall_33 ⟨0, (1 : Int), (v 26), (f 24), (f 26), (f 27), rfl, rfl, rfl, rfl, (by first | omega | (split <;> omega))⟩
  · refine lv_aload_n hx hb dX10_fall_11 rfl (lv_at hl 0 rfl) ?_
    refine lv_iload_n hx hb dX10_fall_12 rfl (lv_at hl 2 rfl) ?_
    refine g_cv (As := [.int (iI a2)]) (rest := []) (n := 1) C hml (c_X10_passTo l D k A ad hD (va_up (va_up v 25 (v 25)) 26 (v 26)) (va_up (va_up (va_up f 24 (f 24)) 26 (f 26)) 27 (f 27)) g a2 (by omega) (show shOk (v 1) (f 1) from hs)) mM_X10_183 mI_X10_passTo mE_X10_passTo mN_X10 mC_X10_passTo (by decide +kernel) 0 (ci := 10) rfl rfl hP hS (fun _ h => h) ⟨Nat.le_of_ble_eq_true rfl, Nat.le_of_ble_eq_true rfl⟩ ⟨Nat.zero_le _, Nat.zero_le _⟩ hl.1 rfl rfl (Nat.le_of_ble_eq_true rfl) dX10_fall_13 (fun r_8 v_8 f_8 g_8 H locs hq_8 hP _ hS => ?_)
    obtain ⟨z_8, w26_8, a24_8, a26_8, a27_8, rfl, rfl, rfl, rfl, p0_8⟩ := hq_8
    show W p l e (gRm 3 68) s m args below meth c _ _ 0 0 Q (F0 m 16 ls [.int (iI z_8)])
    have hP : gWd D (rwT k ad) (va_up (va_up v 25 (v 25)) 26 w26_8) (va_up (va_up (va_up f 24 a24_8) 26 a26_8) 27 a27_8) g H := ⟨hP.1, (gF_up (V := rwV) (F := rwF) (gF_up (V := rwV) (F := rwF) (gF_up (V := rwV) (F := rwF) (gR_up (V := rwV) (F := rwF) (gR_up (V := rwV) (F := rwF) ⟨hok.1, hok.2⟩ 25 (hP.2.1 25)) 26 (hP.2.1 26)) 24 (hP.2.2 24)) 26 (hP.2.2 26)) 27 (hP.2.2 27))⟩
    replace p0_8 : 0 ≤ z_8 ∧ z_8 ≤ 9 := p0_8
    have rw26_8 : 0 ≤ w26_8 ∧ w26_8 ≤ 1000000 := hP.2.1 26
    refine lv_goto (tgt := 20) hx hb dX10_fall_16 (by decide) ?_
    refine lv_istore (lv' := [(4, .int (iI z_8)), (0, .ref (ad 0)), (1, .int (iI a1)), (2, .int (iI a2)), (3, .int (iI a3))]) hx hb dX10_fall_20 hl (by decide) rfl (fun ls hl => ?_)
    refine lv_iload hx hb dX10_fall_22 (lv_at hl 0 rfl) ?_
    refine gi_zeq (tgt := 34) hx hb dX10_fall_24 (by decide) (by omega) (fun c_9 => ?_) (fun c_9 => ?_)
    · refine lv_aload_n hx hb dX10_fall_34 rfl (lv_at hl 1 rfl) ?_
      refine rwG_tries C hP mF_X10_44 dX10_fall_35 ?_
      refine lv_iload_n hx hb dX10_fall_38 rfl (lv_at hl 2 rfl) ?_
      refine g_cv (As := [.int (iI a1)]) (rest := []) (n := 1) C hml (c_X7_openOf l D k A ad hD (va_up (va_up v 25 (v 25)) 26 w26_8) (va_up (va_up (va_up f 24 a24_8) 26 a26_8) 27 a27_8) g a1 (by omega) (show 0 ≤ a1 ∧ a1 ≤ 15 from by omega)) mM_X10_197 mI_X7_openOf mE_X7_openOf mN_X7 mC_X7_openOf (by decide +kernel) 30 (ci := 7) rfl rfl hP hS (fun _ h => h) ⟨Nat.le_of_ble_eq_true rfl, Nat.le_of_ble_eq_true rfl⟩ ⟨Nat.zero_le _, Nat.zero_le _⟩ hl.1 rfl rfl (Nat.le_of_ble_eq_true rfl) dX10_fall_39 (fun r_10 v_10 f_10 g_10 H locs hq_10 hP _ hS => ?_)
      obtain ⟨z_10, rfl, rfl, rfl, rfl, p0_10, p1_10⟩ := hq_10
      show W p l e (gRm 3 68) s m args below meth c _ _ 0 0 Q (F0 m 42 ls [.int (iI z_10)])
      replace p0_10 : z_10 = (a27_8 a1 - 1) := p0_10
      replace p1_10 : (-1) ≤ z_10 ∧ z_10 ≤ 299 := p1_10
      have hz_10 : inR z_10 := (by first | omega | (rw [p0_10]; split <;> omega))
      refine lv_istore (lv' := [(5, .int (iI z_10)), (4, .int (iI z_8)), (0, .ref (ad 0)), (1, .int (iI a1)), (2, .int (iI a2)), (3, .int (iI a3))]) hx hb dX10_fall_42 hl (by decide) rfl (fun ls hl => ?_)
      refine lv_iload hx hb dX10_fall_44 (lv_at hl 0 rfl) ?_
      refine lv_iconst (v := iI (-1)) hx hb dX10_fall_46 rfl ?_
      refine gi_cne (tgt := 56) hx hb dX10_fall_47 (by decide) (by omega) (by decide) (fun c_11 => ?_) (fun c_11 => ?_)
      · refine lv_aload_n hx hb dX10_fall_56 rfl (lv_at hl 2 rfl) ?_
        refine rwG_tries C hP mF_X10_44 dX10_fall_57 ?_
        refine lv_iload hx hb dX10_fall_60 (lv_at hl 0 rfl) ?_
        refine lv_aload_n hx hb dX10_fall_62 rfl (lv_at hl 2 rfl) ?_
        refine rwG_time C hP mF_X10_114 dX10_fall_63 ?_
        show W p l e (gRm 3 68) s m args below meth c _ _ 0 0 Q (F0 m 66 ls [.int (iI w26_8), .int (iI z_10), .ref (ad 30)])
        have r_12 : 0 ≤ w26_8 ∧ w26_8 ≤ 1000000 := hP.2.1 26
        refine lv_iload_n hx hb dX10_fall_66 rfl (lv_at hl 5 rfl) ?_
        refine gi_zeq (tgt := 74) hx hb dX10_fall_67 (by decide) (by omega) (fun c_13 => ?_) (fun c_13 => ?_)
        · refine lv_iconst (v := iI 2) hx hb dX10_fall_74 rfl ?_
          refine g_cv (As := [.int (iI z_10), .int (iI w26_8), .int (iI 2)]) (rest := []) (n := 3) C hml (c_X7_finish l D k A ad hD (va_up (va_up v 25 (v 25)) 26 w26_8) (va_up (va_up (va_up f 24 a24_8) 26 a26_8) 27 a27_8) g z_10 w26_8 2 (by omega) (by omega) (by decide) (show 0 ≤ z_10 ∧ z_10 ≤ 299 from by omega) (show (-1) ≤ w26_8 ∧ w26_8 ≤ 1000999 from by omega) (show 0 ≤ (2 : Int) ∧ (2 : Int) ≤ 4 from by omega)) mM_X10_209 mI_X7_finish mE_X7_finish mN_X7 mC_X7_finish (by decide +kernel) 30 (ci := 7) rfl rfl hP hS (fun _ h => h) ⟨Nat.le_of_ble_eq_true rfl, Nat.le_of_ble_eq_true rfl⟩ ⟨Nat.zero_le _, Nat.zero_le _⟩ hl.1 rfl rfl (Nat.le_of_ble_eq_true rfl) dX10_fall_75 (fun r_14 v_14 f_14 g_14 H locs hq_14 hP _ hS => ?_)
          obtain ⟨rfl, rfl, rfl, rfl⟩ := hq_14
          show W p l e (gRm 3 68) s m args below meth c _ _ 0 0 Q (F0 m 78 ls [])
          have hP : gWd D (rwT k ad) (va_up (va_up v 25 (v 25)) 26 w26_8) (va_up (va_up (va_up f 24 (u1 a24_8 z_10 w26_8)) 26 (u1 a26_8 z_10 (2 : Int))) 27 (u1 a27_8 ((f 20) z_10) 0)) g H := ⟨hP.1, (gF_up (V := rwV) (F := rwF) (gF_up (V := rwV) (F := rwF) (gF_up (V := rwV) (F := rwF) (gR_up (V := rwV) (F := rwF) (gR_up (V := rwV) (F := rwF) ⟨hok.1, hok.2⟩ 25 (hP.2.1 25)) 26 (hP.2.1 26)) 24 (hP.2.2 24)) 26 (hP.2.2 26)) 27 (hP.2.2 27))⟩
          refine lv_aload_n hx hb dX10_fall_78 rfl (lv_at hl 2 rfl) ?_
          refine g_cv (As := []) (rest := []) (n := 0) C hml (c_X10_grant l D k A ad hD (va_up (va_up v 25 (v 25)) 26 w26_8) (va_up (va_up (va_up f 24 (u1 a24_8 z_10 w26_8)) 26 (u1 a26_8 z_10 (2 : Int))) 27 (u1 a27_8 ((f 20) z_10) 0)) g) mM_X10_160 mI_X10_grant mE_X10_grant mN_X10 mC_X10_grant (by decide +kernel) 0 (ci := 10) rfl rfl hP hS (fun _ h => h) ⟨Nat.le_of_ble_eq_true rfl, Nat.le_of_ble_eq_true rfl⟩ ⟨Nat.zero_le _, Nat.zero_le _⟩ hl.1 rfl rfl (Nat.le_of_ble_eq_true rfl) dX10_fall_79 (fun r_15 v_15 f_15 g_15 H locs hq_15 hP _ hS => ?_)
          obtain ⟨rfl, rfl, rfl, rfl⟩ := hq_15
          show W p l e (gRm 3 68) s m args below meth c _ _ 0 0 Q (F0 m 82 ls [.int (iI 1)])
          have hP : gWd D (rwT k ad) (va_up (va_up v 25 0) 26 w26_8) (va_up (va_up (va_up f 24 (u1 a24_8 z_10 w26_8)) 26 (u1 a26_8 z_10 (2 : Int))) 27 (u1 a27_8 ((f 20) z_10) 0)) g H := ⟨hP.1, (gF_up (V := rwV) (F := rwF) (gF_up (V := rwV) (F := rwF) (gF_up (V := rwV) (F := rwF) (gR_up (V := rwV) (F := rwF) (gR_up (V := rwV) (F := rwF) ⟨hok.1, hok.2⟩ 25 (hP.2.1 25)) 26 (hP.2.1 26)) 24 (hP.2.2 24)) 26 (hP.2.2 26)) 27 (hP.2.2 27))⟩
          exact g_zret hQ C hr hlocks (by decide) hP hS dX10_fall_82 ⟨1, 0, w26_8, (u1 a24_8 z_10 w26_8), (u1 a26_8 z_10 (2 : Int)), (u1 a27_8 ((f 20) z_10) 0), rfl, rfl, rfl, rfl, (by first | omega | (split <;> omega))⟩
        · refine lv_iconst (v := iI 4) hx hb dX10_fall_70 rfl ?_
          refine lv_goto (tgt := 75) hx hb dX10_fall_71 (by decide) ?_
          refine g_cv (As := [.int (iI z_10), .int (iI w26_8), .int (iI 4)]) (rest := []) (n := 3) C hml (c_X7_finish l D k A ad hD (va_up (va_up v 25 (v 25)) 26 w26_8) (va_up (va_up (va_up f 24 a24_8) 26 a26_8) 27 a27_8) g z_10 w26_8 4 (by omega) (by omega) (by decide) (show 0 ≤ z_10 ∧ z_10 ≤ 299 from by omega) (show (-1) ≤ w26_8 ∧ w26_8 ≤ 1000999 from by omega) (show 0 ≤ (4 : Int) ∧ (4 : Int) ≤ 4 from by omega)) mM_X10_209 mI_X7_finish mE_X7_finish mN_X7 mC_X7_finish (by decide +kernel) 30 (ci := 7) rfl rfl hP hS (fun _ h => h) ⟨Nat.le_of_ble_eq_true rfl, Nat.le_of_ble_eq_true rfl⟩ ⟨Nat.zero_le _, Nat.zero_le _⟩ hl.1 rfl rfl (Nat.le_of_ble_eq_true rfl) dX10_fall_75 (fun r_16 v_16 f_16 g_16 H locs hq_16 hP _ hS => ?_)
          obtain ⟨rfl, rfl, rfl, rfl⟩ := hq_16
          show W p l e (gRm 3 68) s m args below meth c _ _ 0 0 Q (F0 m 78 ls [])
          have hP : gWd D (rwT k ad) (va_up (va_up v 25 (v 25)) 26 w26_8) (va_up (va_up (va_up f 24 (u1 a24_8 z_10 w26_8)) 26 (u1 a26_8 z_10 (4 : Int))) 27 (u1 a27_8 ((f 20) z_10) 0)) g H := ⟨hP.1, (gF_up (V := rwV) (F := rwF) (gF_up (V := rwV) (F := rwF) (gF_up (V := rwV) (F := rwF) (gR_up (V := rwV) (F := rwF) (gR_up (V := rwV) (F := rwF) ⟨hok.1, hok.2⟩ 25 (hP.2.1 25)) 26 (hP.2.1 26)) 24 (hP.2.2 24)) 26 (hP.2.2 26)) 27 (hP.2.2 27))⟩
          refine lv_aload_n hx hb dX10_fall_78 rfl (lv_at hl 2 rfl) ?_
          refine g_cv (As := []) (rest := []) (n := 0) C hml (c_X10_grant l D k A ad hD (va_up (va_up v 25 (v 25)) 26 w26_8) (va_up (va_up (va_up f 24 (u1 a24_8 z_10 w26_8)) 26 (u1 a26_8 z_10 (4 : Int))) 27 (u1 a27_8 ((f 20) z_10) 0)) g) mM_X10_160 mI_X10_grant mE_X10_grant mN_X10 mC_X10_grant (by decide +kernel) 0 (ci := 10) rfl rfl hP hS (fun _ h => h) ⟨Nat.le_of_ble_eq_true rfl, Nat.le_of_ble_eq_true rfl⟩ ⟨Nat.zero_le _, Nat.zero_le _⟩ hl.1 rfl rfl (Nat.le_of_ble_eq_true rfl) dX10_fall_79 (fun r_17 v_17 f_17 g_17 H locs hq_17 hP _ hS => ?_)
          obtain ⟨rfl, rfl, rfl, rfl⟩ := hq_17
          show W p l e (gRm 3 68) s m args below meth c _ _ 0 0 Q (F0 m 82 ls [.int (iI 1)])
          have hP : gWd D (rwT k ad) (va_up (va_up v 25 0) 26 w26_8) (va_up (va_up (va_up f 24 (u1 a24_8 z_10 w26_8)) 26 (u1 a26_8 z_10 (4 : Int))) 27 (u1 a27_8 ((f 20) z_10) 0)) g H := ⟨hP.1, (gF_up (V := rwV) (F := rwF) (gF_up (V := rwV) (F := rwF) (gF_up (V := rwV) (F := rwF) (gR_up (V := rwV) (F := rwF) (gR_up (V := rwV) (F := rwF) ⟨hok.1, hok.2⟩ 25 (hP.2.1 25)) 26 (hP.2.1 26)) 24 (hP.2.2 24)) 26 (hP.2.2 26)) 27 (hP.2.2 27))⟩
          exact g_zret hQ C hr hlocks (by decide) hP hS dX10_fall_82 ⟨1, 0, w26_8, (u1 a24_8 z_10 w26_8), (u1 a26_8 z_10 (4 : Int)), (u1 a27_8 ((f 20) z_10) 0), rfl, rfl, rfl, rfl, (by first | omega | (split <;> omega))⟩
      · refine lv_aload_n hx hb dX10_fall_50 rfl (lv_at hl 2 rfl) ?_
        refine lv_iconst (v := iI 5) hx hb dX10_fall_51 rfl ?_
        refine g_cv (As := [.int (iI 5)]) (rest := []) (n := 1) C hml (c_X10_deny l D k A ad hD (va_up (va_up v 25 (v 25)) 26 w26_8) (va_up (va_up (va_up f 24 a24_8) 26 a26_8) 27 a27_8) g 5 (by decide) (show 0 ≤ (5 : Int) ∧ (5 : Int) ≤ 10 from by omega)) mM_X10_140 mI_X10_deny mE_X10_deny mN_X10 mC_X10_deny (by decide +kernel) 0 (ci := 10) rfl rfl hP hS (fun _ h => h) ⟨Nat.le_of_ble_eq_true rfl, Nat.le_of_ble_eq_true rfl⟩ ⟨Nat.zero_le _, Nat.zero_le _⟩ hl.1 rfl rfl (Nat.le_of_ble_eq_true rfl) dX10_fall_52 (fun r_18 v_18 f_18 g_18 H locs hq_18 hP _ hS => ?_)
        obtain ⟨rfl, rfl, rfl, rfl⟩ := hq_18
        show W p l e (gRm 3 68) s m args below meth c _ _ 0 0 Q (F0 m 55 ls [.int (iI 0)])
        have hP : gWd D (rwT k ad) (va_up (va_up v 25 (5 : Int)) 26 w26_8) (va_up (va_up (va_up f 24 a24_8) 26 a26_8) 27 a27_8) g H := ⟨hP.1, (gF_up (V := rwV) (F := rwF) (gF_up (V := rwV) (F := rwF) (gF_up (V := rwV) (F := rwF) (gR_up (V := rwV) (F := rwF) (gR_up (V := rwV) (F := rwF) ⟨hok.1, hok.2⟩ 25 (hP.2.1 25)) 26 (hP.2.1 26)) 24 (hP.2.2 24)) 26 (hP.2.2 26)) 27 (hP.2.2 27))⟩
        exact g_zret hQ C hr hlocks (by decide) hP hS dX10_fall_55 ⟨0, (5 : Int), w26_8, a24_8, a26_8, a27_8, rfl, rfl, rfl, rfl, (by first | omega | (split <;> omega))⟩
    · refine lv_aload_n hx hb dX10_fall_27 rfl (lv_at hl 1 rfl) ?_
      refine lv_iload hx hb dX10_fall_28 (lv_at hl 0 rfl) ?_
      refine g_cv (As := [.int (iI z_8)]) (rest := []) (n := 1) C hml (c_X10_deny l D k A ad hD (va_up (va_up v 25 (v 25)) 26 w26_8) (va_up (va_up (va_up f 24 a24_8) 26 a26_8) 27 a27_8) g z_8 (by omega) (show 0 ≤ z_8 ∧ z_8 ≤ 10 from by omega)) mM_X10_140 mI_X10_deny mE_X10_deny mN_X10 mC_X10_deny (by decide +kernel) 0 (ci := 10) rfl rfl hP hS (fun _ h => h) ⟨Nat.le_of_ble_eq_true rfl, Nat.le_of_ble_eq_true rfl⟩ ⟨Nat.zero_le _, Nat.zero_le _⟩ hl.1 rfl rfl (Nat.le_of_ble_eq_true rfl) dX10_fall_30 (fun r_19 v_19 f_19 g_19 H locs hq_19 hP _ hS => ?_)
      obtain ⟨rfl, rfl, rfl, rfl⟩ := hq_19
      show W p l e (gRm 3 68) s m args below meth c _ _ 0 0 Q (F0 m 33 ls [.int (iI 0)])
      have hP : gWd D (rwT k ad) (va_up (va_up v 25 z_8) 26 w26_8) (va_up (va_up (va_up f 24 a24_8) 26 a26_8) 27 a27_8) g H := ⟨hP.1, (gF_up (V := rwV) (F := rwF) (gF_up (V := rwV) (F := rwF) (gF_up (V := rwV) (F := rwF) (gR_up (V := rwV) (F := rwF) (gR_up (V := rwV) (F := rwF) ⟨hok.1, hok.2⟩ 25 (hP.2.1 25)) 26 (hP.2.1 26)) 24 (hP.2.2 24)) 26 (hP.2.2 26)) 27 (hP.2.2 27))⟩
      exact g_zret hQ C hr hlocks (by decide) hP hS dX10_fall_33 ⟨0, z_8, w26_8, a24_8, a26_8, a27_8, rfl, rfl, rfl, rfl, (by first | omega | (split <;> omega))⟩

set_option maxHeartbeats 4000000 in
set_option maxRecDepth 100000 in
theorem c_X10_out (l : Launch) (D : va_G) (k : Nat → ClassId) (A : Nat → Prop) (ad : Nat → Nat) (hD : rwD A k ad) (v : gV) (f g : gF) (a1 : Int) (a2 : Int) (a3 : Int) (h_a1 : inR a1) (h_a2 : inR a2) (h_a3 : inR a3) (hs : shOk (v 1) (f 1)) : GM l D k A (rwT k ad) yX10_out cX10_out 5 (some .boolean) 3 68 [.ref (ad 0), .int (iI a1), .int (iI a2), .int (iI a3)] v f g (fun r v1 f1 g1 => ∃ (z : Int) (w25 : Int) (w26 : Int) (a24_ : Int → Int) (a26_ : Int → Int) (a27_ : Int → Int) (a31_ : Int → Int) (a32_ : Int → Int) (a33_ : Int → Int), r = some (.int (iI z)) ∧ (va_up (va_up v 25 w25) 26 w26) = v1 ∧ (va_up (va_up (va_up (va_up (va_up (va_up f 24 a24_) 26 a26_) 27 a27_) 31 a31_) 32 a32_) 33 a33_) = f1 ∧ g = g1 ∧ (0 ≤ z ∧ z ≤ 1)) := by
  refine GM.of (by decide) (Nat.le_of_ble_eq_true rfl) ?_
  intro p e s m args below meth c Q ls hQ C hml hr hlocks hP hl
  have hx := C.1
  have hb := C.2.1
  have hok := hP.2
  have hS : va_S A s.heap s.heap [] := va_S.rf
  have hl : lv_has ls 5 [(0, .ref (ad 0)), (1, .int (iI a1)), (2, .int (iI a2)), (3, .int (iI a3))] := hl
  have hP : gWd D (rwT k ad) (va_up (va_up v 25 (v 25)) 26 (v 26)) (va_up (va_up (va_up (va_up (va_up (va_up f 24 (f 24)) 26 (f 26)) 27 (f 27)) 31 (f 31)) 32 (f 32)) 33 (f 33)) g s.heap := by rw [va_id, va_id, va_id, va_id, va_id, va_id, va_id, va_id]; exact hP
  have r_1 : 0 ≤ (v 1) ∧ (v 1) ≤ 4 := hok.1 1
  have r_2 : 0 ≤ (v 21) ∧ (v 21) ≤ 16 := hok.1 21
  have r_3 : 0 ≤ (v 22) ∧ (v 22) ≤ 3 := hok.1 22
  refine lv_aload_n hx hb dX10_out_0 rfl (lv_at hl 0 rfl) ?_
  refine rwG_field C hP mF_X10_37 dX10_out_1 ?_
  refine lv_iload_n hx hb dX10_out_4 rfl (lv_at hl 1 rfl) ?_
  refine g_cv (As := [.int (iI a1)]) (rest := []) (n := 1) C hml (c_X2_knows l D k A ad hD (va_up (va_up v 25 (v 25)) 26 (v 26)) (va_up (va_up (va_up (va_up (va_up (va_up f 24 (f 24)) 26 (f 26)) 27 (f 27)) 31 (f 31)) 32 (f 32)) 33 (f 33)) g a1 (by omega)) mM_X10_180 mI_X2_knows mE_X2_knows mN_X2 mC_X2_knows (by decide +kernel) 27 (ci := 2) rfl rfl hP hS (fun _ h => h) ⟨Nat.le_of_ble_eq_true rfl, Nat.le_of_ble_eq_true rfl⟩ ⟨Nat.zero_le _, Nat.zero_le _⟩ hl.1 rfl rfl (Nat.le_of_ble_eq_true rfl) dX10_out_5 (fun r_4 v_4 f_4 g_4 H locs hq_4 hP _ hS => ?_)
  obtain ⟨z_4, rfl, rfl, rfl, rfl, p0_4⟩ := hq_4
  show W p l e (gRm 3 68) s m args below meth c _ _ 0 0 Q (F0 m 8 ls [.int (iI z_4)])
  replace p0_4 : z_4 = (if 0 ≤ a1 ∧ a1 < (v 21) then 1 else 0) := p0_4
  have w_4 := gif (P := 0 ≤ a1 ∧ a1 < (v 21)) p0_4
  have hz_4 : inR z_4 := (by first | omega | (rw [p0_4]; split <;> omega))
  refine gi_zeq (tgt := 19) hx hb dX10_out_8 (by decide) (by omega) (fun c_5 => ?_) (fun c_5 => ?_)
  · refine lv_iconst (v := iI 1) hx hb dX10_out_19 rfl ?_
    refine lv_istore (lv' := [(4, .int (iI 1)), (0, .ref (ad 0)), (1, .int (iI a1)), (2, .int (iI a2)), (3, .int (iI a3))]) hx hb dX10_out_20 hl (by decide) rfl (fun ls hl => ?_)
    refine lv_iload hx hb dX10_out_22 (lv_at hl 0 rfl) ?_
    refine gi_zeq (tgt := 34) hx hb dX10_out_24 (by decide) (by decide) (fun c_6 => ?_) (fun c_6 => ?_)
    · exfalso; omega
    · refine lv_aload_n hx hb dX10_out_27 rfl (lv_at hl 1 rfl) ?_
      refine lv_iload hx hb dX10_out_28 (lv_at hl 0 rfl) ?_
      refine g_cv (As := [.int (iI 1)]) (rest := []) (n := 1) C hml (c_X10_deny l D k A ad hD (va_up (va_up v 25 (v 25)) 26 (v 26)) (va_up (va_up (va_up (va_up (va_up (va_up f 24 (f 24)) 26 (f 26)) 27 (f 27)) 31 (f 31)) 32 (f 32)) 33 (f 33)) g 1 (by decide) (show 0 ≤ (1 : Int) ∧ (1 : Int) ≤ 10 from by omega)) mM_X10_140 mI_X10_deny mE_X10_deny mN_X10 mC_X10_deny (by decide +kernel) 0 (ci := 10) rfl rfl hP hS (fun _ h => h) ⟨Nat.le_of_ble_eq_true rfl, Nat.le_of_ble_eq_true rfl⟩ ⟨Nat.zero_le _, Nat.zero_le _⟩ hl.1 rfl rfl (Nat.le_of_ble_eq_true rfl) dX10_out_30 (fun r_7 v_7 f_7 g_7 H locs hq_7 hP _ hS => ?_)
      obtain ⟨rfl, rfl, rfl, rfl⟩ := hq_7
      show W p l e (gRm 3 68) s m args below meth c _ _ 0 0 Q (F0 m 33 ls [.int (iI 0)])
      have hP : gWd D (rwT k ad) (va_up (va_up v 25 (1 : Int)) 26 (v 26)) (va_up (va_up (va_up (va_up (va_up (va_up f 24 (f 24)) 26 (f 26)) 27 (f 27)) 31 (f 31)) 32 (f 32)) 33 (f 33)) g H := ⟨hP.1, (gF_up (V := rwV) (F := rwF) (gF_up (V := rwV) (F := rwF) (gF_up (V := rwV) (F := rwF) (gF_up (V := rwV) (F := rwF) (gF_up (V := rwV) (F := rwF) (gF_up (V := rwV) (F := rwF) (gR_up (V := rwV) (F := rwF) (gR_up (V := rwV) (F := rwF) ⟨hok.1, hok.2⟩ 25 (hP.2.1 25)) 26 (hP.2.1 26)) 24 (hP.2.2 24)) 26 (hP.2.2 26)) 27 (hP.2.2 27)) 31 (hP.2.2 31)) 32 (hP.2.2 32)) 33 (hP.2.2 33))⟩
      exact g_zret hQ C hr hlocks (by decide) hP hS dX10_out_33 ⟨0, (1 : Int), (v 26), (f 24), (f 26), (f 27), (f 31), (f 32), (f 33), rfl, rfl, rfl, rfl, (by first | omega | (split <;> omega))⟩
  · refine lv_aload_n hx hb dX10_out_11 rfl (lv_at hl 0 rfl) ?_
    refine lv_iload_n hx hb dX10_out_12 rfl (lv_at hl 2 rfl) ?_
    refine g_cv (As := [.int (iI a2)]) (rest := []) (n := 1) C hml (c_X10_passTo l D k A ad hD (va_up (va_up v 25 (v 25)) 26 (v 26)) (va_up (va_up (va_up (va_up (va_up (va_up f 24 (f 24)) 26 (f 26)) 27 (f 27)) 31 (f 31)) 32 (f 32)) 33 (f 33)) g a2 (by omega) (show shOk (v 1) (f 1) from hs)) mM_X10_183 mI_X10_passTo mE_X10_passTo mN_X10 mC_X10_passTo (by decide +kernel) 0 (ci := 10) rfl rfl hP hS (fun _ h => h) ⟨Nat.le_of_ble_eq_true rfl, Nat.le_of_ble_eq_true rfl⟩ ⟨Nat.zero_le _, Nat.zero_le _⟩ hl.1 rfl rfl (Nat.le_of_ble_eq_true rfl) dX10_out_13 (fun r_8 v_8 f_8 g_8 H locs hq_8 hP _ hS => ?_)
    obtain ⟨z_8, w26_8, a24_8, a26_8, a27_8, rfl, rfl, rfl, rfl, p0_8⟩ := hq_8
    show W p l e (gRm 3 68) s m args below meth c _ _ 0 0 Q (F0 m 16 ls [.int (iI z_8)])
    have hP : gWd D (rwT k ad) (va_up (va_up v 25 (v 25)) 26 w26_8) (va_up (va_up (va_up (va_up (va_up (va_up f 24 a24_8) 26 a26_8) 27 a27_8) 31 (f 31)) 32 (f 32)) 33 (f 33)) g H := ⟨hP.1, (gF_up (V := rwV) (F := rwF) (gF_up (V := rwV) (F := rwF) (gF_up (V := rwV) (F := rwF) (gF_up (V := rwV) (F := rwF) (gF_up (V := rwV) (F := rwF) (gF_up (V := rwV) (F := rwF) (gR_up (V := rwV) (F := rwF) (gR_up (V := rwV) (F := rwF) ⟨hok.1, hok.2⟩ 25 (hP.2.1 25)) 26 (hP.2.1 26)) 24 (hP.2.2 24)) 26 (hP.2.2 26)) 27 (hP.2.2 27)) 31 (hP.2.2 31)) 32 (hP.2.2 32)) 33 (hP.2.2 33))⟩
    replace p0_8 : 0 ≤ z_8 ∧ z_8 ≤ 9 := p0_8
    have rw26_8 : 0 ≤ w26_8 ∧ w26_8 ≤ 1000000 := hP.2.1 26
    refine lv_goto (tgt := 20) hx hb dX10_out_16 (by decide) ?_
    refine lv_istore (lv' := [(4, .int (iI z_8)), (0, .ref (ad 0)), (1, .int (iI a1)), (2, .int (iI a2)), (3, .int (iI a3))]) hx hb dX10_out_20 hl (by decide) rfl (fun ls hl => ?_)
    refine lv_iload hx hb dX10_out_22 (lv_at hl 0 rfl) ?_
    refine gi_zeq (tgt := 34) hx hb dX10_out_24 (by decide) (by omega) (fun c_9 => ?_) (fun c_9 => ?_)
    · refine lv_aload_n hx hb dX10_out_34 rfl (lv_at hl 1 rfl) ?_
      refine rwG_watch C hP mF_X10_58 dX10_out_35 ?_
      refine lv_iload_n hx hb dX10_out_38 rfl (lv_at hl 2 rfl) ?_
      refine g_cv (As := [.int (iI a1)]) (rest := []) (n := 1) C hml (c_X9_isOut l D k A ad hD (va_up (va_up v 25 (v 25)) 26 w26_8) (va_up (va_up (va_up (va_up (va_up (va_up f 24 a24_8) 26 a26_8) 27 a27_8) 31 (f 31)) 32 (f 32)) 33 (f 33)) g a1 (by omega) (show 0 ≤ a1 ∧ a1 ≤ 15 from by omega)) mM_X10_212 mI_X9_isOut mE_X9_isOut mN_X9 mC_X9_isOut (by decide +kernel) 43 (ci := 9) rfl rfl hP hS (fun _ h => h) ⟨Nat.le_of_ble_eq_true rfl, Nat.le_of_ble_eq_true rfl⟩ ⟨Nat.zero_le _, Nat.zero_le _⟩ hl.1 rfl rfl (Nat.le_of_ble_eq_true rfl) dX10_out_39 (fun r_10 v_10 f_10 g_10 H locs hq_10 hP _ hS => ?_)
      obtain ⟨z_10, rfl, rfl, rfl, rfl, p0_10, p1_10⟩ := hq_10
      show W p l e (gRm 3 68) s m args below meth c _ _ 0 0 Q (F0 m 42 ls [.int (iI z_10)])
      replace p0_10 : 0 ≤ z_10 ∧ z_10 ≤ 1 := p0_10
      replace p1_10 : z_10 = 1 → 0 < (f 31) a1 := p1_10
      refine lv_iload_n hx hb dX10_out_42 rfl (lv_at hl 4 rfl) ?_
      refine gi_cne (tgt := 53) hx hb dX10_out_43 (by decide) (by omega) (by omega) (fun c_11 => ?_) (fun c_11 => ?_)
      · refine lv_iload_n hx hb dX10_out_53 rfl (lv_at hl 4 rfl) ?_
        refine gi_zne (tgt := 74) hx hb dX10_out_54 (by decide) (by omega) (fun c_12 => ?_) (fun c_12 => ?_)
        · refine lv_aload_n hx hb dX10_out_74 rfl (lv_at hl 1 rfl) ?_
          refine rwG_watch C hP mF_X10_58 dX10_out_75 ?_
          refine rwG_watch_times C hP mF_X10_218 dX10_out_78 ?_
          refine lv_iload_n hx hb dX10_out_81 rfl (lv_at hl 2 rfl) ?_
          refine rwL_watch_times C hP (by omega) (by omega) dX10_out_82 ?_
          show W p l e (gRm 3 68) s m args below meth c _ _ 0 0 Q (F0 m 83 ls [.int (iI (f 31 a1))])
          have r_13 : 0 ≤ (f 31 a1) ∧ (f 31 a1) ≤ 20 := hP.2.2 31 a1
          refine lv_bipush (v := iI 20) hx hb dX10_out_83 (by decide) ?_
          refine gi_clt (tgt := 94) hx hb dX10_out_85 (by decide) (by omega) (by decide) (fun c_14 => ?_) (fun c_14 => ?_)
          · refine lv_aload_n hx hb dX10_out_94 rfl (lv_at hl 1 rfl) ?_
            refine rwG_watch C hP mF_X10_58 dX10_out_95 ?_
            refine lv_iload_n hx hb dX10_out_98 rfl (lv_at hl 2 rfl) ?_
            refine lv_aload_n hx hb dX10_out_99 rfl (lv_at hl 1 rfl) ?_
            refine rwG_time C hP mF_X10_114 dX10_out_100 ?_
            show W p l e (gRm 3 68) s m args below meth c _ _ 0 0 Q (F0 m 103 ls [.int (iI w26_8), .int (iI a1), .ref (ad 43)])
            have r_15 : 0 ≤ w26_8 ∧ w26_8 ≤ 1000000 := hP.2.1 26
            refine g_cv (As := [.int (iI a1), .int (iI w26_8)]) (rest := []) (n := 2) C hml (c_X9_goOut l D k A ad hD (va_up (va_up v 25 (v 25)) 26 w26_8) (va_up (va_up (va_up (va_up (va_up (va_up f 24 a24_8) 26 a26_8) 27 a27_8) 31 (f 31)) 32 (f 32)) 33 (f 33)) g a1 w26_8 (by omega) (by omega) (show 0 ≤ a1 ∧ a1 ≤ 15 from by omega) (show (f 31) a1 < 20 from by omega) (show 0 ≤ w26_8 ∧ w26_8 ≤ 1000000 from by omega)) mM_X10_221 mI_X9_goOut mE_X9_goOut mN_X9 mC_X9_goOut (by decide +kernel) 43 (ci := 9) rfl rfl hP hS (fun _ h => h) ⟨Nat.le_of_ble_eq_true rfl, Nat.le_of_ble_eq_true rfl⟩ ⟨Nat.zero_le _, Nat.zero_le _⟩ hl.1 rfl rfl (Nat.le_of_ble_eq_true rfl) dX10_out_103 (fun r_16 v_16 f_16 g_16 H locs hq_16 hP _ hS => ?_)
            obtain ⟨a31_16, a32_16, a33_16, rfl, rfl, rfl, rfl⟩ := hq_16
            show W p l e (gRm 3 68) s m args below meth c _ _ 0 0 Q (F0 m 106 ls [])
            have hP : gWd D (rwT k ad) (va_up (va_up v 25 (v 25)) 26 w26_8) (va_up (va_up (va_up (va_up (va_up (va_up f 24 a24_8) 26 a26_8) 27 a27_8) 31 a31_16) 32 a32_16) 33 a33_16) g H := ⟨hP.1, (gF_up (V := rwV) (F := rwF) (gF_up (V := rwV) (F := rwF) (gF_up (V := rwV) (F := rwF) (gF_up (V := rwV) (F := rwF) (gF_up (V := rwV) (F := rwF) (gF_up (V := rwV) (F := rwF) (gR_up (V := rwV) (F := rwF) (gR_up (V := rwV) (F := rwF) ⟨hok.1, hok.2⟩ 25 (hP.2.1 25)) 26 (hP.2.1 26)) 24 (hP.2.2 24)) 26 (hP.2.2 26)) 27 (hP.2.2 27)) 31 (hP.2.2 31)) 32 (hP.2.2 32)) 33 (hP.2.2 33))⟩
            refine lv_aload_n hx hb dX10_out_106 rfl (lv_at hl 1 rfl) ?_
            refine g_cv (As := []) (rest := []) (n := 0) C hml (c_X10_grant l D k A ad hD (va_up (va_up v 25 (v 25)) 26 w26_8) (va_up (va_up (va_up (va_up (va_up (va_up f 24 a24_8) 26 a26_8) 27 a27_8) 31 a31_16) 32 a32_16) 33 a33_16) g) mM_X10_160 mI_X10_grant mE_X10_grant mN_X10 mC_X10_grant (by decide +kernel) 0 (ci := 10) rfl rfl hP hS (fun _ h => h) ⟨Nat.le_of_ble_eq_true rfl, Nat.le_of_ble_eq_true rfl⟩ ⟨Nat.zero_le _, Nat.zero_le _⟩ hl.1 rfl rfl (Nat.le_of_ble_eq_true rfl) dX10_out_107 (fun r_17 v_17 f_17 g_17 H locs hq_17 hP _ hS => ?_)
            obtain ⟨rfl, rfl, rfl, rfl⟩ := hq_17
            show W p l e (gRm 3 68) s m args below meth c _ _ 0 0 Q (F0 m 110 ls [.int (iI 1)])
            have hP : gWd D (rwT k ad) (va_up (va_up v 25 0) 26 w26_8) (va_up (va_up (va_up (va_up (va_up (va_up f 24 a24_8) 26 a26_8) 27 a27_8) 31 a31_16) 32 a32_16) 33 a33_16) g H := ⟨hP.1, (gF_up (V := rwV) (F := rwF) (gF_up (V := rwV) (F := rwF) (gF_up (V := rwV) (F := rwF) (gF_up (V := rwV) (F := rwF) (gF_up (V := rwV) (F := rwF) (gF_up (V := rwV) (F := rwF) (gR_up (V := rwV) (F := rwF) (gR_up (V := rwV) (F := rwF) ⟨hok.1, hok.2⟩ 25 (hP.2.1 25)) 26 (hP.2.1 26)) 24 (hP.2.2 24)) 26 (hP.2.2 26)) 27 (hP.2.2 27)) 31 (hP.2.2 31)) 32 (hP.2.2 32)) 33 (hP.2.2 33))⟩
            exact g_zret hQ C hr hlocks (by decide) hP hS dX10_out_110 ⟨1, 0, w26_8, a24_8, a26_8, a27_8, a31_16, a32_16, a33_16, rfl, rfl, rfl, rfl, (by first | omega | (split <;> omega))⟩
          · refine lv_aload_n hx hb dX10_out_88 rfl (lv_at hl 1 rfl) ?_
            refine lv_iconst (v := iI 3) hx hb dX10_out_89 rfl ?_
            refine g_cv (As := [.int (iI 3)]) (rest := []) (n := 1) C hml (c_X10_deny l D k A ad hD (va_up (va_up v 25 (v 25)) 26 w26_8) (va_up (va_up (va_up (va_up (va_up (va_up f 24 a24_8) 26 a26_8) 27 a27_8) 31 (f 31)) 32 (f 32)) 33 (f 33)) g 3 (by decide) (show 0 ≤ (3 : Int) ∧ (3 : Int) ≤ 10 from by omega)) mM_X10_140 mI_X10_deny mE_X10_deny mN_X10 mC_X10_deny (by decide +kernel) 0 (ci := 10) rfl rfl hP hS (fun _ h => h) ⟨Nat.le_of_ble_eq_true rfl, Nat.le_of_ble_eq_true rfl⟩ ⟨Nat.zero_le _, Nat.zero_le _⟩ hl.1 rfl rfl (Nat.le_of_ble_eq_true rfl) dX10_out_90 (fun r_18 v_18 f_18 g_18 H locs hq_18 hP _ hS => ?_)
            obtain ⟨rfl, rfl, rfl, rfl⟩ := hq_18
            show W p l e (gRm 3 68) s m args below meth c _ _ 0 0 Q (F0 m 93 ls [.int (iI 0)])
            have hP : gWd D (rwT k ad) (va_up (va_up v 25 (3 : Int)) 26 w26_8) (va_up (va_up (va_up (va_up (va_up (va_up f 24 a24_8) 26 a26_8) 27 a27_8) 31 (f 31)) 32 (f 32)) 33 (f 33)) g H := ⟨hP.1, (gF_up (V := rwV) (F := rwF) (gF_up (V := rwV) (F := rwF) (gF_up (V := rwV) (F := rwF) (gF_up (V := rwV) (F := rwF) (gF_up (V := rwV) (F := rwF) (gF_up (V := rwV) (F := rwF) (gR_up (V := rwV) (F := rwF) (gR_up (V := rwV) (F := rwF) ⟨hok.1, hok.2⟩ 25 (hP.2.1 25)) 26 (hP.2.1 26)) 24 (hP.2.2 24)) 26 (hP.2.2 26)) 27 (hP.2.2 27)) 31 (hP.2.2 31)) 32 (hP.2.2 32)) 33 (hP.2.2 33))⟩
            exact g_zret hQ C hr hlocks (by decide) hP hS dX10_out_93 ⟨0, (3 : Int), w26_8, a24_8, a26_8, a27_8, (f 31), (f 32), (f 33), rfl, rfl, rfl, rfl, (by first | omega | (split <;> omega))⟩
        · refine lv_aload_n hx hb dX10_out_57 rfl (lv_at hl 1 rfl) ?_
          refine rwG_watch C hP mF_X10_58 dX10_out_58 ?_
          refine lv_iload_n hx hb dX10_out_61 rfl (lv_at hl 2 rfl) ?_
          refine lv_aload_n hx hb dX10_out_62 rfl (lv_at hl 1 rfl) ?_
          refine rwG_time C hP mF_X10_114 dX10_out_63 ?_
          show W p l e (gRm 3 68) s m args below meth c _ _ 0 0 Q (F0 m 66 ls [.int (iI w26_8), .int (iI a1), .ref (ad 43)])
          have r_19 : 0 ≤ w26_8 ∧ w26_8 ≤ 1000000 := hP.2.1 26
          refine g_cv (As := [.int (iI a1), .int (iI w26_8)]) (rest := []) (n := 2) C hml (c_X9_comeIn l D k A ad hD (va_up (va_up v 25 (v 25)) 26 w26_8) (va_up (va_up (va_up (va_up (va_up (va_up f 24 a24_8) 26 a26_8) 27 a27_8) 31 (f 31)) 32 (f 32)) 33 (f 33)) g a1 w26_8 (by omega) (by omega) (show 0 ≤ a1 ∧ a1 ≤ 15 from by omega) (show 0 < (f 31) a1 from by omega) (show 0 ≤ w26_8 ∧ w26_8 ≤ 1000000 from by omega)) mM_X10_215 mI_X9_comeIn mE_X9_comeIn mN_X9 mC_X9_comeIn (by decide +kernel) 43 (ci := 9) rfl rfl hP hS (fun _ h => h) ⟨Nat.le_of_ble_eq_true rfl, Nat.le_of_ble_eq_true rfl⟩ ⟨Nat.zero_le _, Nat.zero_le _⟩ hl.1 rfl rfl (Nat.le_of_ble_eq_true rfl) dX10_out_66 (fun r_20 v_20 f_20 g_20 H locs hq_20 hP _ hS => ?_)
          obtain ⟨a33_20, rfl, rfl, rfl, rfl⟩ := hq_20
          show W p l e (gRm 3 68) s m args below meth c _ _ 0 0 Q (F0 m 69 ls [])
          have hP : gWd D (rwT k ad) (va_up (va_up v 25 (v 25)) 26 w26_8) (va_up (va_up (va_up (va_up (va_up (va_up f 24 a24_8) 26 a26_8) 27 a27_8) 31 (f 31)) 32 (f 32)) 33 a33_20) g H := ⟨hP.1, (gF_up (V := rwV) (F := rwF) (gF_up (V := rwV) (F := rwF) (gF_up (V := rwV) (F := rwF) (gF_up (V := rwV) (F := rwF) (gF_up (V := rwV) (F := rwF) (gF_up (V := rwV) (F := rwF) (gR_up (V := rwV) (F := rwF) (gR_up (V := rwV) (F := rwF) ⟨hok.1, hok.2⟩ 25 (hP.2.1 25)) 26 (hP.2.1 26)) 24 (hP.2.2 24)) 26 (hP.2.2 26)) 27 (hP.2.2 27)) 31 (hP.2.2 31)) 32 (hP.2.2 32)) 33 (hP.2.2 33))⟩
          refine lv_aload_n hx hb dX10_out_69 rfl (lv_at hl 1 rfl) ?_
          refine g_cv (As := []) (rest := []) (n := 0) C hml (c_X10_grant l D k A ad hD (va_up (va_up v 25 (v 25)) 26 w26_8) (va_up (va_up (va_up (va_up (va_up (va_up f 24 a24_8) 26 a26_8) 27 a27_8) 31 (f 31)) 32 (f 32)) 33 a33_20) g) mM_X10_160 mI_X10_grant mE_X10_grant mN_X10 mC_X10_grant (by decide +kernel) 0 (ci := 10) rfl rfl hP hS (fun _ h => h) ⟨Nat.le_of_ble_eq_true rfl, Nat.le_of_ble_eq_true rfl⟩ ⟨Nat.zero_le _, Nat.zero_le _⟩ hl.1 rfl rfl (Nat.le_of_ble_eq_true rfl) dX10_out_70 (fun r_21 v_21 f_21 g_21 H locs hq_21 hP _ hS => ?_)
          obtain ⟨rfl, rfl, rfl, rfl⟩ := hq_21
          show W p l e (gRm 3 68) s m args below meth c _ _ 0 0 Q (F0 m 73 ls [.int (iI 1)])
          have hP : gWd D (rwT k ad) (va_up (va_up v 25 0) 26 w26_8) (va_up (va_up (va_up (va_up (va_up (va_up f 24 a24_8) 26 a26_8) 27 a27_8) 31 (f 31)) 32 (f 32)) 33 a33_20) g H := ⟨hP.1, (gF_up (V := rwV) (F := rwF) (gF_up (V := rwV) (F := rwF) (gF_up (V := rwV) (F := rwF) (gF_up (V := rwV) (F := rwF) (gF_up (V := rwV) (F := rwF) (gF_up (V := rwV) (F := rwF) (gR_up (V := rwV) (F := rwF) (gR_up (V := rwV) (F := rwF) ⟨hok.1, hok.2⟩ 25 (hP.2.1 25)) 26 (hP.2.1 26)) 24 (hP.2.2 24)) 26 (hP.2.2 26)) 27 (hP.2.2 27)) 31 (hP.2.2 31)) 32 (hP.2.2 32)) 33 (hP.2.2 33))⟩
          exact g_zret hQ C hr hlocks (by decide) hP hS dX10_out_73 ⟨1, 0, w26_8, a24_8, a26_8, a27_8, (f 31), (f 32), a33_20, rfl, rfl, rfl, rfl, (by first | omega | (split <;> omega))⟩
      · refine lv_aload_n hx hb dX10_out_46 rfl (lv_at hl 1 rfl) ?_
        refine lv_bipush (v := iI 10) hx hb dX10_out_47 (by decide) ?_
        refine g_cv (As := [.int (iI 10)]) (rest := []) (n := 1) C hml (c_X10_deny l D k A ad hD (va_up (va_up v 25 (v 25)) 26 w26_8) (va_up (va_up (va_up (va_up (va_up (va_up f 24 a24_8) 26 a26_8) 27 a27_8) 31 (f 31)) 32 (f 32)) 33 (f 33)) g 10 (by decide) (show 0 ≤ (10 : Int) ∧ (10 : Int) ≤ 10 from by omega)) mM_X10_140 mI_X10_deny mE_X10_deny mN_X10 mC_X10_deny (by decide +kernel) 0 (ci := 10) rfl rfl hP hS (fun _ h => h) ⟨Nat.le_of_ble_eq_true rfl, Nat.le_of_ble_eq_true rfl⟩ ⟨Nat.zero_le _, Nat.zero_le _⟩ hl.1 rfl rfl (Nat.le_of_ble_eq_true rfl) dX10_out_49 (fun r_22 v_22 f_22 g_22 H locs hq_22 hP _ hS => ?_)
        obtain ⟨rfl, rfl, rfl, rfl⟩ := hq_22
        show W p l e (gRm 3 68) s m args below meth c _ _ 0 0 Q (F0 m 52 ls [.int (iI 0)])
        have hP : gWd D (rwT k ad) (va_up (va_up v 25 (10 : Int)) 26 w26_8) (va_up (va_up (va_up (va_up (va_up (va_up f 24 a24_8) 26 a26_8) 27 a27_8) 31 (f 31)) 32 (f 32)) 33 (f 33)) g H := ⟨hP.1, (gF_up (V := rwV) (F := rwF) (gF_up (V := rwV) (F := rwF) (gF_up (V := rwV) (F := rwF) (gF_up (V := rwV) (F := rwF) (gF_up (V := rwV) (F := rwF) (gF_up (V := rwV) (F := rwF) (gR_up (V := rwV) (F := rwF) (gR_up (V := rwV) (F := rwF) ⟨hok.1, hok.2⟩ 25 (hP.2.1 25)) 26 (hP.2.1 26)) 24 (hP.2.2 24)) 26 (hP.2.2 26)) 27 (hP.2.2 27)) 31 (hP.2.2 31)) 32 (hP.2.2 32)) 33 (hP.2.2 33))⟩
        exact g_zret hQ C hr hlocks (by decide) hP hS dX10_out_52 ⟨0, (10 : Int), w26_8, a24_8, a26_8, a27_8, (f 31), (f 32), (f 33), rfl, rfl, rfl, rfl, (by first | omega | (split <;> omega))⟩
    · refine lv_aload_n hx hb dX10_out_27 rfl (lv_at hl 1 rfl) ?_
      refine lv_iload hx hb dX10_out_28 (lv_at hl 0 rfl) ?_
      refine g_cv (As := [.int (iI z_8)]) (rest := []) (n := 1) C hml (c_X10_deny l D k A ad hD (va_up (va_up v 25 (v 25)) 26 w26_8) (va_up (va_up (va_up (va_up (va_up (va_up f 24 a24_8) 26 a26_8) 27 a27_8) 31 (f 31)) 32 (f 32)) 33 (f 33)) g z_8 (by omega) (show 0 ≤ z_8 ∧ z_8 ≤ 10 from by omega)) mM_X10_140 mI_X10_deny mE_X10_deny mN_X10 mC_X10_deny (by decide +kernel) 0 (ci := 10) rfl rfl hP hS (fun _ h => h) ⟨Nat.le_of_ble_eq_true rfl, Nat.le_of_ble_eq_true rfl⟩ ⟨Nat.zero_le _, Nat.zero_le _⟩ hl.1 rfl rfl (Nat.le_of_ble_eq_true rfl) dX10_out_30 (fun r_23 v_23 f_23 g_23 H locs hq_23 hP _ hS => ?_)
      obtain ⟨rfl, rfl, rfl, rfl⟩ := hq_23
      show W p l e (gRm 3 68) s m args below meth c _ _ 0 0 Q (F0 m 33 ls [.int (iI 0)])
      have hP : gWd D (rwT k ad) (va_up (va_up v 25 z_8) 26 w26_8) (va_up (va_up (va_up (va_up (va_up (va_up f 24 a24_8) 26 a26_8) 27 a27_8) 31 (f 31)) 32 (f 32)) 33 (f 33)) g H := ⟨hP.1, (gF_up (V := rwV) (F := rwF) (gF_up (V := rwV) (F := rwF) (gF_up (V := rwV) (F := rwF) (gF_up (V := rwV) (F := rwF) (gF_up (V := rwV) (F := rwF) (gF_up (V := rwV) (F := rwF) (gR_up (V := rwV) (F := rwF) (gR_up (V := rwV) (F := rwF) ⟨hok.1, hok.2⟩ 25 (hP.2.1 25)) 26 (hP.2.1 26)) 24 (hP.2.2 24)) 26 (hP.2.2 26)) 27 (hP.2.2 27)) 31 (hP.2.2 31)) 32 (hP.2.2 32)) 33 (hP.2.2 33))⟩
      exact g_zret hQ C hr hlocks (by decide) hP hS dX10_out_33 ⟨0, z_8, w26_8, a24_8, a26_8, a27_8, (f 31), (f 32), (f 33), rfl, rfl, rfl, rfl, (by first | omega | (split <;> omega))⟩

set_option maxHeartbeats 4000000 in
set_option maxRecDepth 100000 in
theorem c_X10_clock (l : Launch) (D : va_G) (k : Nat → ClassId) (A : Nat → Prop) (ad : Nat → Nat) (hD : rwD A k ad) (v : gV) (f g : gF) (a1 : Int) (h_a1 : inR a1) (hs : shOk (v 1) (f 1)) : GM l D k A (rwT k ad) yX10_clock cX10_clock 3 (some .boolean) 3 68 [.ref (ad 0), .int (iI a1)] v f g (fun r v1 f1 g1 => ∃ (z : Int) (w25 : Int) (w26 : Int) (a24_ : Int → Int) (a26_ : Int → Int) (a27_ : Int → Int), r = some (.int (iI z)) ∧ (va_up (va_up v 25 w25) 26 w26) = v1 ∧ (va_up (va_up (va_up f 24 a24_) 26 a26_) 27 a27_) = f1 ∧ g = g1 ∧ (0 ≤ z ∧ z ≤ 1)) := by
  refine GM.of (by decide) (Nat.le_of_ble_eq_true rfl) ?_
  intro p e s m args below meth c Q ls hQ C hml hr hlocks hP hl
  have hx := C.1
  have hb := C.2.1
  have hok := hP.2
  have hS : va_S A s.heap s.heap [] := va_S.rf
  have hl : lv_has ls 3 [(0, .ref (ad 0)), (1, .int (iI a1))] := hl
  have hP : gWd D (rwT k ad) (va_up (va_up v 25 (v 25)) 26 (v 26)) (va_up (va_up (va_up f 24 (f 24)) 26 (f 26)) 27 (f 27)) g s.heap := by rw [va_id, va_id, va_id, va_id, va_id]; exact hP
  have r_1 : 0 ≤ (v 1) ∧ (v 1) ≤ 4 := hok.1 1
  have r_2 : 0 ≤ (v 21) ∧ (v 21) ≤ 16 := hok.1 21
  have r_3 : 0 ≤ (v 22) ∧ (v 22) ≤ 3 := hok.1 22
  refine lv_aload_n hx hb dX10_clock_0 rfl (lv_at hl 0 rfl) ?_
  refine lv_iload_n hx hb dX10_clock_1 rfl (lv_at hl 1 rfl) ?_
  refine g_cv (As := [.int (iI a1)]) (rest := []) (n := 1) C hml (c_X10_passTo l D k A ad hD (va_up (va_up v 25 (v 25)) 26 (v 26)) (va_up (va_up (va_up f 24 (f 24)) 26 (f 26)) 27 (f 27)) g a1 (by omega) (show shOk (v 1) (f 1) from hs)) mM_X10_183 mI_X10_passTo mE_X10_passTo mN_X10 mC_X10_passTo (by decide +kernel) 0 (ci := 10) rfl rfl hP hS (fun _ h => h) ⟨Nat.le_of_ble_eq_true rfl, Nat.le_of_ble_eq_true rfl⟩ ⟨Nat.zero_le _, Nat.zero_le _⟩ hl.1 rfl rfl (Nat.le_of_ble_eq_true rfl) dX10_clock_2 (fun r_4 v_4 f_4 g_4 H locs hq_4 hP _ hS => ?_)
  obtain ⟨z_4, w26_4, a24_4, a26_4, a27_4, rfl, rfl, rfl, rfl, p0_4⟩ := hq_4
  show W p l e (gRm 3 68) s m args below meth c _ _ 0 0 Q (F0 m 5 ls [.int (iI z_4)])
  have hP : gWd D (rwT k ad) (va_up (va_up v 25 (v 25)) 26 w26_4) (va_up (va_up (va_up f 24 a24_4) 26 a26_4) 27 a27_4) g H := ⟨hP.1, (gF_up (V := rwV) (F := rwF) (gF_up (V := rwV) (F := rwF) (gF_up (V := rwV) (F := rwF) (gR_up (V := rwV) (F := rwF) (gR_up (V := rwV) (F := rwF) ⟨hok.1, hok.2⟩ 25 (hP.2.1 25)) 26 (hP.2.1 26)) 24 (hP.2.2 24)) 26 (hP.2.2 26)) 27 (hP.2.2 27))⟩
  replace p0_4 : 0 ≤ z_4 ∧ z_4 ≤ 9 := p0_4
  have rw26_4 : 0 ≤ w26_4 ∧ w26_4 ≤ 1000000 := hP.2.1 26
  refine lv_istore_n (lv' := [(2, .int (iI z_4)), (0, .ref (ad 0)), (1, .int (iI a1))]) hx hb dX10_clock_5 rfl hl (by decide) rfl (fun ls hl => ?_)
  refine lv_iload_n hx hb dX10_clock_6 rfl (lv_at hl 0 rfl) ?_
  refine gi_zne (tgt := 17) hx hb dX10_clock_7 (by decide) (by omega) (fun c_5 => ?_) (fun c_5 => ?_)
  · refine lv_aload_n hx hb dX10_clock_17 rfl (lv_at hl 1 rfl) ?_
    refine lv_iload_n hx hb dX10_clock_18 rfl (lv_at hl 0 rfl) ?_
    refine g_cv (As := [.int (iI z_4)]) (rest := []) (n := 1) C hml (c_X10_deny l D k A ad hD (va_up (va_up v 25 (v 25)) 26 w26_4) (va_up (va_up (va_up f 24 a24_4) 26 a26_4) 27 a27_4) g z_4 (by omega) (show 0 ≤ z_4 ∧ z_4 ≤ 10 from by omega)) mM_X10_140 mI_X10_deny mE_X10_deny mN_X10 mC_X10_deny (by decide +kernel) 0 (ci := 10) rfl rfl hP hS (fun _ h => h) ⟨Nat.le_of_ble_eq_true rfl, Nat.le_of_ble_eq_true rfl⟩ ⟨Nat.zero_le _, Nat.zero_le _⟩ hl.1 rfl rfl (Nat.le_of_ble_eq_true rfl) dX10_clock_19 (fun r_6 v_6 f_6 g_6 H locs hq_6 hP _ hS => ?_)
    obtain ⟨rfl, rfl, rfl, rfl⟩ := hq_6
    show W p l e (gRm 3 68) s m args below meth c _ _ 0 0 Q (F0 m 22 ls [.int (iI 0)])
    have hP : gWd D (rwT k ad) (va_up (va_up v 25 z_4) 26 w26_4) (va_up (va_up (va_up f 24 a24_4) 26 a26_4) 27 a27_4) g H := ⟨hP.1, (gF_up (V := rwV) (F := rwF) (gF_up (V := rwV) (F := rwF) (gF_up (V := rwV) (F := rwF) (gR_up (V := rwV) (F := rwF) (gR_up (V := rwV) (F := rwF) ⟨hok.1, hok.2⟩ 25 (hP.2.1 25)) 26 (hP.2.1 26)) 24 (hP.2.2 24)) 26 (hP.2.2 26)) 27 (hP.2.2 27))⟩
    exact g_zret hQ C hr hlocks (by decide) hP hS dX10_clock_22 ⟨0, z_4, w26_4, a24_4, a26_4, a27_4, rfl, rfl, rfl, rfl, (by first | omega | (split <;> omega))⟩
  · refine lv_aload_n hx hb dX10_clock_10 rfl (lv_at hl 1 rfl) ?_
    refine g_cv (As := []) (rest := []) (n := 0) C hml (c_X10_grant l D k A ad hD (va_up (va_up v 25 (v 25)) 26 w26_4) (va_up (va_up (va_up f 24 a24_4) 26 a26_4) 27 a27_4) g) mM_X10_160 mI_X10_grant mE_X10_grant mN_X10 mC_X10_grant (by decide +kernel) 0 (ci := 10) rfl rfl hP hS (fun _ h => h) ⟨Nat.le_of_ble_eq_true rfl, Nat.le_of_ble_eq_true rfl⟩ ⟨Nat.zero_le _, Nat.zero_le _⟩ hl.1 rfl rfl (Nat.le_of_ble_eq_true rfl) dX10_clock_11 (fun r_7 v_7 f_7 g_7 H locs hq_7 hP _ hS => ?_)
    obtain ⟨rfl, rfl, rfl, rfl⟩ := hq_7
    show W p l e (gRm 3 68) s m args below meth c _ _ 0 0 Q (F0 m 14 ls [.int (iI 1)])
    have hP : gWd D (rwT k ad) (va_up (va_up v 25 0) 26 w26_4) (va_up (va_up (va_up f 24 a24_4) 26 a26_4) 27 a27_4) g H := ⟨hP.1, (gF_up (V := rwV) (F := rwF) (gF_up (V := rwV) (F := rwF) (gF_up (V := rwV) (F := rwF) (gR_up (V := rwV) (F := rwF) (gR_up (V := rwV) (F := rwF) ⟨hok.1, hok.2⟩ 25 (hP.2.1 25)) 26 (hP.2.1 26)) 24 (hP.2.2 24)) 26 (hP.2.2 26)) 27 (hP.2.2 27))⟩
    refine lv_goto (tgt := 22) hx hb dX10_clock_14 (by decide) ?_
    exact g_zret hQ C hr hlocks (by decide) hP hS dX10_clock_22 ⟨1, 0, w26_4, a24_4, a26_4, a27_4, rfl, rfl, rfl, rfl, (by first | omega | (split <;> omega))⟩

set_option maxHeartbeats 4000000 in
set_option maxRecDepth 100000 in
theorem c_X10_now (l : Launch) (D : va_G) (k : Nat → ClassId) (A : Nat → Prop) (ad : Nat → Nat) (hD : rwD A k ad) (v : gV) (f g : gF) : GM l D k A (rwT k ad) yX10_now cX10_now 1 (some .int) 1 21 [.ref (ad 0)] v f g (fun r v1 f1 g1 => ∃ (z : Int) (w25 : Int), r = some (.int (iI z)) ∧ (va_up v 25 w25) = v1 ∧ f = f1 ∧ g = g1 ∧ (0 ≤ z ∧ z ≤ 1000000)) := by
  refine GM.of (by decide) (Nat.le_of_ble_eq_true rfl) ?_
  intro p e s m args below meth c Q ls hQ C hml hr hlocks hP hl
  have hx := C.1
  have hb := C.2.1
  have hok := hP.2
  have hS : va_S A s.heap s.heap [] := va_S.rf
  have hl : lv_has ls 1 [(0, .ref (ad 0))] := hl
  have hP : gWd D (rwT k ad) (va_up v 25 (v 25)) f g s.heap := by rw [va_id]; exact hP
  refine lv_aload_n hx hb dX10_now_0 rfl (lv_at hl 0 rfl) ?_
  refine lv_aload_n hx hb dX10_now_1 rfl (lv_at hl 0 rfl) ?_
  refine rwG_time C hP mF_X10_114 dX10_now_2 ?_
  show W p l e (gRm 1 21) s m args below meth c _ _ 0 0 Q (F0 m 5 ls [.int (iI (v 26)), .ref (ad 0)])
  have r_1 : 0 ≤ (v 26) ∧ (v 26) ≤ 1000000 := hok.1 26
  refine g_cv (As := [.int (iI (v 26))]) (rest := []) (n := 1) C hml (c_X10_answer l D k A ad hD (va_up v 25 (v 25)) f g (v 26) (by omega)) mM_X10_120 mI_X10_answer mE_X10_answer mN_X10 mC_X10_answer (by decide +kernel) 0 (ci := 10) rfl rfl hP hS (fun _ h => h) ⟨Nat.le_of_ble_eq_true rfl, Nat.le_of_ble_eq_true rfl⟩ ⟨Nat.zero_le _, Nat.zero_le _⟩ hl.1 rfl rfl (Nat.le_of_ble_eq_true rfl) dX10_now_5 (fun r_2 v_2 f_2 g_2 H locs hq_2 hP _ hS => ?_)
  obtain ⟨z_2, rfl, rfl, rfl, rfl, p0_2⟩ := hq_2
  show W p l e (gRm 1 21) s m args below meth c _ _ 0 0 Q (F0 m 8 ls [.int (iI z_2)])
  have hP : gWd D (rwT k ad) (va_up v 25 0) f g H := ⟨hP.1, (gR_up (V := rwV) (F := rwF) ⟨hok.1, hok.2⟩ 25 (hP.2.1 25))⟩
  replace p0_2 : z_2 = (v 26) := p0_2
  have hz_2 : inR z_2 := (by first | omega | (rw [p0_2]; split <;> omega))
  exact g_iret hQ C hr hlocks hP hS dX10_now_8 ⟨z_2, 0, rfl, rfl, rfl, rfl, (by first | omega | (split <;> omega))⟩

set_option maxHeartbeats 4000000 in
set_option maxRecDepth 100000 in
theorem c_X10_tried (l : Launch) (D : va_G) (k : Nat → ClassId) (A : Nat → Prop) (ad : Nat → Nat) (hD : rwD A k ad) (v : gV) (f g : gF) (a1 : Int) (a2 : Int) (h_a1 : inR a1) (h_a2 : inR a2) : GM l D k A (rwT k ad) yX10_tried cX10_tried 3 (some .int) 1 21 [.ref (ad 0), .int (iI a1), .int (iI a2)] v f g (fun r v1 f1 g1 => ∃ (z : Int) (w25 : Int), r = some (.int (iI z)) ∧ (va_up v 25 w25) = v1 ∧ f = f1 ∧ g = g1 ∧ ((-1) ≤ z ∧ z ≤ 1000999)) := by
  refine GM.of (by decide) (Nat.le_of_ble_eq_true rfl) ?_
  intro p e s m args below meth c Q ls hQ C hml hr hlocks hP hl
  have hx := C.1
  have hb := C.2.1
  have hok := hP.2
  have hS : va_S A s.heap s.heap [] := va_S.rf
  have hl : lv_has ls 3 [(0, .ref (ad 0)), (1, .int (iI a1)), (2, .int (iI a2))] := hl
  have hP : gWd D (rwT k ad) (va_up v 25 (v 25)) f g s.heap := by rw [va_id]; exact hP
  have r_1 : 0 ≤ (v 23) ∧ (v 23) ≤ 300 := hok.1 23
  refine lv_aload_n hx hb dX10_tried_0 rfl (lv_at hl 0 rfl) ?_
  refine rwG_tries C hP mF_X10_44 dX10_tried_1 ?_
  refine lv_iload_n hx hb dX10_tried_4 rfl (lv_at hl 1 rfl) ?_
  refine g_cv (As := [.int (iI a1)]) (rest := []) (n := 1) C hml (c_X7_knows l D k A ad hD (va_up v 25 (v 25)) f g a1 (by omega)) mM_X10_224 mI_X7_knows mE_X7_knows mN_X7 mC_X7_knows (by decide +kernel) 30 (ci := 7) rfl rfl hP hS (fun _ h => h) ⟨Nat.le_of_ble_eq_true rfl, Nat.le_of_ble_eq_true rfl⟩ ⟨Nat.zero_le _, Nat.zero_le _⟩ hl.1 rfl rfl (Nat.le_of_ble_eq_true rfl) dX10_tried_5 (fun r_2 v_2 f_2 g_2 H locs hq_2 hP _ hS => ?_)
  obtain ⟨z_2, rfl, rfl, rfl, rfl, p0_2⟩ := hq_2
  show W p l e (gRm 1 21) s m args below meth c _ _ 0 0 Q (F0 m 8 ls [.int (iI z_2)])
  replace p0_2 : z_2 = (if 0 ≤ a1 ∧ a1 < (v 23) then 1 else 0) := p0_2
  have w_2 := gif (P := 0 ≤ a1 ∧ a1 < (v 23)) p0_2
  have hz_2 : inR z_2 := (by first | omega | (rw [p0_2]; split <;> omega))
  refine gi_zne (tgt := 17) hx hb dX10_tried_8 (by decide) (by omega) (fun c_3 => ?_) (fun c_3 => ?_)
  · refine lv_iload_n hx hb dX10_tried_17 rfl (lv_at hl 2 rfl) ?_
    by_cases c_4_0 : a2 = 0
    · refine lv_tableIn (off := 42) (tgt := 60) hx hb dX10_tried_18 (by rw [c_4_0]; decide) (by rw [c_4_0]; decide) (by rw [c_4_0]; rfl) (by decide) ?_
      refine lv_aload_n hx hb dX10_tried_60 rfl (lv_at hl 0 rfl) ?_
      refine lv_aload_n hx hb dX10_tried_61 rfl (lv_at hl 0 rfl) ?_
      refine rwG_tries C hP mF_X10_44 dX10_tried_62 ?_
      refine rwG_tries_climber C hP mF_X10_225 dX10_tried_65 ?_
      refine lv_iload_n hx hb dX10_tried_68 rfl (lv_at hl 1 rfl) ?_
      refine rwL_tries_climber C hP (by omega) (by omega) dX10_tried_69 ?_
      have r_5 : 0 ≤ (f 20 a1) ∧ (f 20 a1) ≤ 15 := hP.2.2 20 a1
      refine g_cv (As := [.int (iI (f 20 a1))]) (rest := []) (n := 1) C hml (c_X10_answer l D k A ad hD (va_up v 25 (v 25)) f g (f 20 a1) (by omega)) mM_X10_120 mI_X10_answer mE_X10_answer mN_X10 mC_X10_answer (by decide +kernel) 0 (ci := 10) rfl rfl hP hS (fun _ h => h) ⟨Nat.le_of_ble_eq_true rfl, Nat.le_of_ble_eq_true rfl⟩ ⟨Nat.zero_le _, Nat.zero_le _⟩ hl.1 rfl rfl (Nat.le_of_ble_eq_true rfl) dX10_tried_70 (fun r_6 v_6 f_6 g_6 H locs hq_6 hP _ hS => ?_)
      obtain ⟨z_6, rfl, rfl, rfl, rfl, p0_6⟩ := hq_6
      show W p l e (gRm 1 21) s m args below meth c _ _ 0 0 Q (F0 m 73 ls [.int (iI z_6)])
      have hP : gWd D (rwT k ad) (va_up v 25 0) f g H := ⟨hP.1, (gR_up (V := rwV) (F := rwF) ⟨hok.1, hok.2⟩ 25 (hP.2.1 25))⟩
      replace p0_6 : z_6 = (f 20 a1) := p0_6
      have hz_6 : inR z_6 := (by first | omega | (rw [p0_6]; split <;> omega))
      exact g_iret hQ C hr hlocks hP hS dX10_tried_73 ⟨z_6, 0, rfl, rfl, rfl, rfl, (by first | omega | (split <;> omega))⟩
    by_cases c_4_1 : a2 = 1
    · refine lv_tableIn (off := 56) (tgt := 74) hx hb dX10_tried_18 (by rw [c_4_1]; decide) (by rw [c_4_1]; decide) (by rw [c_4_1]; rfl) (by decide) ?_
      refine lv_aload_n hx hb dX10_tried_74 rfl (lv_at hl 0 rfl) ?_
      refine lv_aload_n hx hb dX10_tried_75 rfl (lv_at hl 0 rfl) ?_
      refine rwG_tries C hP mF_X10_44 dX10_tried_76 ?_
      refine rwG_tries_round C hP mF_X10_200 dX10_tried_79 ?_
      refine lv_iload_n hx hb dX10_tried_82 rfl (lv_at hl 1 rfl) ?_
      refine rwL_tries_round C hP (by omega) (by omega) dX10_tried_83 ?_
      have r_7 : 0 ≤ (f 21 a1) ∧ (f 21 a1) ≤ 3 := hP.2.2 21 a1
      refine g_cv (As := [.int (iI (f 21 a1))]) (rest := []) (n := 1) C hml (c_X10_answer l D k A ad hD (va_up v 25 (v 25)) f g (f 21 a1) (by omega)) mM_X10_120 mI_X10_answer mE_X10_answer mN_X10 mC_X10_answer (by decide +kernel) 0 (ci := 10) rfl rfl hP hS (fun _ h => h) ⟨Nat.le_of_ble_eq_true rfl, Nat.le_of_ble_eq_true rfl⟩ ⟨Nat.zero_le _, Nat.zero_le _⟩ hl.1 rfl rfl (Nat.le_of_ble_eq_true rfl) dX10_tried_84 (fun r_8 v_8 f_8 g_8 H locs hq_8 hP _ hS => ?_)
      obtain ⟨z_8, rfl, rfl, rfl, rfl, p0_8⟩ := hq_8
      show W p l e (gRm 1 21) s m args below meth c _ _ 0 0 Q (F0 m 87 ls [.int (iI z_8)])
      have hP : gWd D (rwT k ad) (va_up v 25 0) f g H := ⟨hP.1, (gR_up (V := rwV) (F := rwF) ⟨hok.1, hok.2⟩ 25 (hP.2.1 25))⟩
      replace p0_8 : z_8 = (f 21 a1) := p0_8
      have hz_8 : inR z_8 := (by first | omega | (rw [p0_8]; split <;> omega))
      exact g_iret hQ C hr hlocks hP hS dX10_tried_87 ⟨z_8, 0, rfl, rfl, rfl, rfl, (by first | omega | (split <;> omega))⟩
    by_cases c_4_2 : a2 = 2
    · refine lv_tableIn (off := 70) (tgt := 88) hx hb dX10_tried_18 (by rw [c_4_2]; decide) (by rw [c_4_2]; decide) (by rw [c_4_2]; rfl) (by decide) ?_
      refine lv_aload_n hx hb dX10_tried_88 rfl (lv_at hl 0 rfl) ?_
      refine lv_aload_n hx hb dX10_tried_89 rfl (lv_at hl 0 rfl) ?_
      refine rwG_tries C hP mF_X10_44 dX10_tried_90 ?_
      refine rwG_tries_route C hP mF_X10_203 dX10_tried_93 ?_
      refine lv_iload_n hx hb dX10_tried_96 rfl (lv_at hl 1 rfl) ?_
      refine rwL_tries_route C hP (by omega) (by omega) dX10_tried_97 ?_
      have r_9 : 0 ≤ (f 22 a1) ∧ (f 22 a1) ≤ 4 := hP.2.2 22 a1
      refine g_cv (As := [.int (iI (f 22 a1))]) (rest := []) (n := 1) C hml (c_X10_answer l D k A ad hD (va_up v 25 (v 25)) f g (f 22 a1) (by omega)) mM_X10_120 mI_X10_answer mE_X10_answer mN_X10 mC_X10_answer (by decide +kernel) 0 (ci := 10) rfl rfl hP hS (fun _ h => h) ⟨Nat.le_of_ble_eq_true rfl, Nat.le_of_ble_eq_true rfl⟩ ⟨Nat.zero_le _, Nat.zero_le _⟩ hl.1 rfl rfl (Nat.le_of_ble_eq_true rfl) dX10_tried_98 (fun r_10 v_10 f_10 g_10 H locs hq_10 hP _ hS => ?_)
      obtain ⟨z_10, rfl, rfl, rfl, rfl, p0_10⟩ := hq_10
      show W p l e (gRm 1 21) s m args below meth c _ _ 0 0 Q (F0 m 101 ls [.int (iI z_10)])
      have hP : gWd D (rwT k ad) (va_up v 25 0) f g H := ⟨hP.1, (gR_up (V := rwV) (F := rwF) ⟨hok.1, hok.2⟩ 25 (hP.2.1 25))⟩
      replace p0_10 : z_10 = (f 22 a1) := p0_10
      have hz_10 : inR z_10 := (by first | omega | (rw [p0_10]; split <;> omega))
      exact g_iret hQ C hr hlocks hP hS dX10_tried_101 ⟨z_10, 0, rfl, rfl, rfl, rfl, (by first | omega | (split <;> omega))⟩
    by_cases c_4_3 : a2 = 3
    · refine lv_tableIn (off := 84) (tgt := 102) hx hb dX10_tried_18 (by rw [c_4_3]; decide) (by rw [c_4_3]; decide) (by rw [c_4_3]; rfl) (by decide) ?_
      refine lv_aload_n hx hb dX10_tried_102 rfl (lv_at hl 0 rfl) ?_
      refine lv_aload_n hx hb dX10_tried_103 rfl (lv_at hl 0 rfl) ?_
      refine rwG_tries C hP mF_X10_44 dX10_tried_104 ?_
      refine rwG_tries_begun C hP mF_X10_228 dX10_tried_107 ?_
      refine lv_iload_n hx hb dX10_tried_110 rfl (lv_at hl 1 rfl) ?_
      refine rwL_tries_begun C hP (by omega) (by omega) dX10_tried_111 ?_
      have r_11 : 0 ≤ (f 23 a1) ∧ (f 23 a1) ≤ 1000000 := hP.2.2 23 a1
      refine g_cv (As := [.int (iI (f 23 a1))]) (rest := []) (n := 1) C hml (c_X10_answer l D k A ad hD (va_up v 25 (v 25)) f g (f 23 a1) (by omega)) mM_X10_120 mI_X10_answer mE_X10_answer mN_X10 mC_X10_answer (by decide +kernel) 0 (ci := 10) rfl rfl hP hS (fun _ h => h) ⟨Nat.le_of_ble_eq_true rfl, Nat.le_of_ble_eq_true rfl⟩ ⟨Nat.zero_le _, Nat.zero_le _⟩ hl.1 rfl rfl (Nat.le_of_ble_eq_true rfl) dX10_tried_112 (fun r_12 v_12 f_12 g_12 H locs hq_12 hP _ hS => ?_)
      obtain ⟨z_12, rfl, rfl, rfl, rfl, p0_12⟩ := hq_12
      show W p l e (gRm 1 21) s m args below meth c _ _ 0 0 Q (F0 m 115 ls [.int (iI z_12)])
      have hP : gWd D (rwT k ad) (va_up v 25 0) f g H := ⟨hP.1, (gR_up (V := rwV) (F := rwF) ⟨hok.1, hok.2⟩ 25 (hP.2.1 25))⟩
      replace p0_12 : z_12 = (f 23 a1) := p0_12
      have hz_12 : inR z_12 := (by first | omega | (rw [p0_12]; split <;> omega))
      exact g_iret hQ C hr hlocks hP hS dX10_tried_115 ⟨z_12, 0, rfl, rfl, rfl, rfl, (by first | omega | (split <;> omega))⟩
    by_cases c_4_4 : a2 = 4
    · refine lv_tableIn (off := 98) (tgt := 116) hx hb dX10_tried_18 (by rw [c_4_4]; decide) (by rw [c_4_4]; decide) (by rw [c_4_4]; rfl) (by decide) ?_
      refine lv_aload_n hx hb dX10_tried_116 rfl (lv_at hl 0 rfl) ?_
      refine lv_aload_n hx hb dX10_tried_117 rfl (lv_at hl 0 rfl) ?_
      refine rwG_tries C hP mF_X10_44 dX10_tried_118 ?_
      refine rwG_tries_ended C hP mF_X10_231 dX10_tried_121 ?_
      refine lv_iload_n hx hb dX10_tried_124 rfl (lv_at hl 1 rfl) ?_
      refine rwL_tries_ended C hP (by omega) (by omega) dX10_tried_125 ?_
      have r_13 : (-1) ≤ (f 24 a1) ∧ (f 24 a1) ≤ 1000999 := hP.2.2 24 a1
      refine g_cv (As := [.int (iI (f 24 a1))]) (rest := []) (n := 1) C hml (c_X10_answer l D k A ad hD (va_up v 25 (v 25)) f g (f 24 a1) (by omega)) mM_X10_120 mI_X10_answer mE_X10_answer mN_X10 mC_X10_answer (by decide +kernel) 0 (ci := 10) rfl rfl hP hS (fun _ h => h) ⟨Nat.le_of_ble_eq_true rfl, Nat.le_of_ble_eq_true rfl⟩ ⟨Nat.zero_le _, Nat.zero_le _⟩ hl.1 rfl rfl (Nat.le_of_ble_eq_true rfl) dX10_tried_126 (fun r_14 v_14 f_14 g_14 H locs hq_14 hP _ hS => ?_)
      obtain ⟨z_14, rfl, rfl, rfl, rfl, p0_14⟩ := hq_14
      show W p l e (gRm 1 21) s m args below meth c _ _ 0 0 Q (F0 m 129 ls [.int (iI z_14)])
      have hP : gWd D (rwT k ad) (va_up v 25 0) f g H := ⟨hP.1, (gR_up (V := rwV) (F := rwF) ⟨hok.1, hok.2⟩ 25 (hP.2.1 25))⟩
      replace p0_14 : z_14 = (f 24 a1) := p0_14
      have hz_14 : inR z_14 := (by first | omega | (rw [p0_14]; split <;> omega))
      exact g_iret hQ C hr hlocks hP hS dX10_tried_129 ⟨z_14, 0, rfl, rfl, rfl, rfl, (by first | omega | (split <;> omega))⟩
    by_cases c_4_5 : a2 = 5
    · refine lv_tableIn (off := 112) (tgt := 130) hx hb dX10_tried_18 (by rw [c_4_5]; decide) (by rw [c_4_5]; decide) (by rw [c_4_5]; rfl) (by decide) ?_
      refine lv_aload_n hx hb dX10_tried_130 rfl (lv_at hl 0 rfl) ?_
      refine lv_aload_n hx hb dX10_tried_131 rfl (lv_at hl 0 rfl) ?_
      refine rwG_tries C hP mF_X10_44 dX10_tried_132 ?_
      refine rwG_tries_hold C hP mF_X10_206 dX10_tried_135 ?_
      refine lv_iload_n hx hb dX10_tried_138 rfl (lv_at hl 1 rfl) ?_
      refine rwL_tries_hold C hP (by omega) (by omega) dX10_tried_139 ?_
      have r_15 : 0 ≤ (f 25 a1) ∧ (f 25 a1) ≤ 60 := hP.2.2 25 a1
      refine g_cv (As := [.int (iI (f 25 a1))]) (rest := []) (n := 1) C hml (c_X10_answer l D k A ad hD (va_up v 25 (v 25)) f g (f 25 a1) (by omega)) mM_X10_120 mI_X10_answer mE_X10_answer mN_X10 mC_X10_answer (by decide +kernel) 0 (ci := 10) rfl rfl hP hS (fun _ h => h) ⟨Nat.le_of_ble_eq_true rfl, Nat.le_of_ble_eq_true rfl⟩ ⟨Nat.zero_le _, Nat.zero_le _⟩ hl.1 rfl rfl (Nat.le_of_ble_eq_true rfl) dX10_tried_140 (fun r_16 v_16 f_16 g_16 H locs hq_16 hP _ hS => ?_)
      obtain ⟨z_16, rfl, rfl, rfl, rfl, p0_16⟩ := hq_16
      show W p l e (gRm 1 21) s m args below meth c _ _ 0 0 Q (F0 m 143 ls [.int (iI z_16)])
      have hP : gWd D (rwT k ad) (va_up v 25 0) f g H := ⟨hP.1, (gR_up (V := rwV) (F := rwF) ⟨hok.1, hok.2⟩ 25 (hP.2.1 25))⟩
      replace p0_16 : z_16 = (f 25 a1) := p0_16
      have hz_16 : inR z_16 := (by first | omega | (rw [p0_16]; split <;> omega))
      exact g_iret hQ C hr hlocks hP hS dX10_tried_143 ⟨z_16, 0, rfl, rfl, rfl, rfl, (by first | omega | (split <;> omega))⟩
    by_cases c_4_6 : a2 = 6
    · refine lv_tableIn (off := 126) (tgt := 144) hx hb dX10_tried_18 (by rw [c_4_6]; decide) (by rw [c_4_6]; decide) (by rw [c_4_6]; rfl) (by decide) ?_
      refine lv_aload_n hx hb dX10_tried_144 rfl (lv_at hl 0 rfl) ?_
      refine lv_aload_n hx hb dX10_tried_145 rfl (lv_at hl 0 rfl) ?_
      refine rwG_tries C hP mF_X10_44 dX10_tried_146 ?_
      refine rwG_tries_how C hP mF_X10_234 dX10_tried_149 ?_
      refine lv_iload_n hx hb dX10_tried_152 rfl (lv_at hl 1 rfl) ?_
      refine rwL_tries_how C hP (by omega) (by omega) dX10_tried_153 ?_
      have r_17 : 0 ≤ (f 26 a1) ∧ (f 26 a1) ≤ 4 := hP.2.2 26 a1
      refine g_cv (As := [.int (iI (f 26 a1))]) (rest := []) (n := 1) C hml (c_X10_answer l D k A ad hD (va_up v 25 (v 25)) f g (f 26 a1) (by omega)) mM_X10_120 mI_X10_answer mE_X10_answer mN_X10 mC_X10_answer (by decide +kernel) 0 (ci := 10) rfl rfl hP hS (fun _ h => h) ⟨Nat.le_of_ble_eq_true rfl, Nat.le_of_ble_eq_true rfl⟩ ⟨Nat.zero_le _, Nat.zero_le _⟩ hl.1 rfl rfl (Nat.le_of_ble_eq_true rfl) dX10_tried_154 (fun r_18 v_18 f_18 g_18 H locs hq_18 hP _ hS => ?_)
      obtain ⟨z_18, rfl, rfl, rfl, rfl, p0_18⟩ := hq_18
      show W p l e (gRm 1 21) s m args below meth c _ _ 0 0 Q (F0 m 157 ls [.int (iI z_18)])
      have hP : gWd D (rwT k ad) (va_up v 25 0) f g H := ⟨hP.1, (gR_up (V := rwV) (F := rwF) ⟨hok.1, hok.2⟩ 25 (hP.2.1 25))⟩
      replace p0_18 : z_18 = (f 26 a1) := p0_18
      have hz_18 : inR z_18 := (by first | omega | (rw [p0_18]; split <;> omega))
      exact g_iret hQ C hr hlocks hP hS dX10_tried_157 ⟨z_18, 0, rfl, rfl, rfl, rfl, (by first | omega | (split <;> omega))⟩
    refine lv_tableOut (tgt := 158) hx hb dX10_tried_18 (by rw [iI_toInt (by omega)]; omega) (by decide) ?_
    refine lv_aload_n hx hb dX10_tried_158 rfl (lv_at hl 0 rfl) ?_
    refine lv_iconst (v := iI 2) hx hb dX10_tried_159 rfl ?_
    refine g_cv (As := [.int (iI 2)]) (rest := []) (n := 1) C hml (c_X10_refuse l D k A ad hD (va_up v 25 (v 25)) f g 2 (by decide) (show 0 ≤ (2 : Int) ∧ (2 : Int) ≤ 10 from by omega)) mM_X10_88 mI_X10_refuse mE_X10_refuse mN_X10 mC_X10_refuse (by decide +kernel) 0 (ci := 10) rfl rfl hP hS (fun _ h => h) ⟨Nat.le_of_ble_eq_true rfl, Nat.le_of_ble_eq_true rfl⟩ ⟨Nat.zero_le _, Nat.zero_le _⟩ hl.1 rfl rfl (Nat.le_of_ble_eq_true rfl) dX10_tried_160 (fun r_19 v_19 f_19 g_19 H locs hq_19 hP _ hS => ?_)
    obtain ⟨rfl, rfl, rfl, rfl⟩ := hq_19
    show W p l e (gRm 1 21) s m args below meth c _ _ 0 0 Q (F0 m 163 ls [.int (iI (-1))])
    have hP : gWd D (rwT k ad) (va_up v 25 (2 : Int)) f g H := ⟨hP.1, (gR_up (V := rwV) (F := rwF) ⟨hok.1, hok.2⟩ 25 (hP.2.1 25))⟩
    exact g_iret hQ C hr hlocks hP hS dX10_tried_163 ⟨(-1), (2 : Int), rfl, rfl, rfl, rfl, (by first | omega | (split <;> omega))⟩
  · refine lv_aload_n hx hb dX10_tried_11 rfl (lv_at hl 0 rfl) ?_
    refine lv_iconst (v := iI 1) hx hb dX10_tried_12 rfl ?_
    refine g_cv (As := [.int (iI 1)]) (rest := []) (n := 1) C hml (c_X10_refuse l D k A ad hD (va_up v 25 (v 25)) f g 1 (by decide) (show 0 ≤ (1 : Int) ∧ (1 : Int) ≤ 10 from by omega)) mM_X10_88 mI_X10_refuse mE_X10_refuse mN_X10 mC_X10_refuse (by decide +kernel) 0 (ci := 10) rfl rfl hP hS (fun _ h => h) ⟨Nat.le_of_ble_eq_true rfl, Nat.le_of_ble_eq_true rfl⟩ ⟨Nat.zero_le _, Nat.zero_le _⟩ hl.1 rfl rfl (Nat.le_of_ble_eq_true rfl) dX10_tried_13 (fun r_20 v_20 f_20 g_20 H locs hq_20 hP _ hS => ?_)
    obtain ⟨rfl, rfl, rfl, rfl⟩ := hq_20
    show W p l e (gRm 1 21) s m args below meth c _ _ 0 0 Q (F0 m 16 ls [.int (iI (-1))])
    have hP : gWd D (rwT k ad) (va_up v 25 (1 : Int)) f g H := ⟨hP.1, (gR_up (V := rwV) (F := rwF) ⟨hok.1, hok.2⟩ 25 (hP.2.1 25))⟩
    exact g_iret hQ C hr hlocks hP hS dX10_tried_16 ⟨(-1), (1 : Int), rfl, rfl, rfl, rfl, (by first | omega | (split <;> omega))⟩

set_option maxHeartbeats 4000000 in
set_option maxRecDepth 100000 in
theorem c_X10_seen (l : Launch) (D : va_G) (k : Nat → ClassId) (A : Nat → Prop) (ad : Nat → Nat) (hD : rwD A k ad) (v : gV) (f g : gF) (a1 : Int) (a2 : Int) (h_a1 : inR a1) (h_a2 : inR a2) (hs : shOk (v 1) (f 1)) : GM l D k A (rwT k ad) yX10_seen cX10_seen 3 (some .int) 4 95 [.ref (ad 0), .int (iI a1), .int (iI a2)] v f g (fun r v1 f1 g1 => ∃ (z : Int) (w25 : Int), r = some (.int (iI z)) ∧ (va_up v 25 w25) = v1 ∧ f = f1 ∧ g = g1 ∧ ((-1) ≤ z ∧ z ≤ 1)) := by
  refine GM.of (by decide) (Nat.le_of_ble_eq_true rfl) ?_
  intro p e s m args below meth c Q ls hQ C hml hr hlocks hP hl
  have hx := C.1
  have hb := C.2.1
  have hok := hP.2
  have hS : va_S A s.heap s.heap [] := va_S.rf
  have hl : lv_has ls 3 [(0, .ref (ad 0)), (1, .int (iI a1)), (2, .int (iI a2))] := hl
  have hP : gWd D (rwT k ad) (va_up v 25 (v 25)) f g s.heap := by rw [va_id]; exact hP
  have r_1 : 0 ≤ (v 1) ∧ (v 1) ≤ 4 := hok.1 1
  have r_2 : 0 ≤ (v 21) ∧ (v 21) ≤ 16 := hok.1 21
  have r_3 : 0 ≤ (v 22) ∧ (v 22) ≤ 3 := hok.1 22
  refine lv_aload_n hx hb dX10_seen_0 rfl (lv_at hl 0 rfl) ?_
  refine rwG_field C hP mF_X10_37 dX10_seen_1 ?_
  refine lv_iload_n hx hb dX10_seen_4 rfl (lv_at hl 1 rfl) ?_
  refine g_cv (As := [.int (iI a1)]) (rest := []) (n := 1) C hml (c_X2_knows l D k A ad hD (va_up v 25 (v 25)) f g a1 (by omega)) mM_X10_180 mI_X2_knows mE_X2_knows mN_X2 mC_X2_knows (by decide +kernel) 27 (ci := 2) rfl rfl hP hS (fun _ h => h) ⟨Nat.le_of_ble_eq_true rfl, Nat.le_of_ble_eq_true rfl⟩ ⟨Nat.zero_le _, Nat.zero_le _⟩ hl.1 rfl rfl (Nat.le_of_ble_eq_true rfl) dX10_seen_5 (fun r_4 v_4 f_4 g_4 H locs hq_4 hP _ hS => ?_)
  obtain ⟨z_4, rfl, rfl, rfl, rfl, p0_4⟩ := hq_4
  show W p l e (gRm 4 95) s m args below meth c _ _ 0 0 Q (F0 m 8 ls [.int (iI z_4)])
  replace p0_4 : z_4 = (if 0 ≤ a1 ∧ a1 < (v 21) then 1 else 0) := p0_4
  have w_4 := gif (P := 0 ≤ a1 ∧ a1 < (v 21)) p0_4
  have hz_4 : inR z_4 := (by first | omega | (rw [p0_4]; split <;> omega))
  refine gi_zeq (tgt := 29) hx hb dX10_seen_8 (by decide) (by omega) (fun c_5 => ?_) (fun c_5 => ?_)
  · refine lv_aload_n hx hb dX10_seen_29 rfl (lv_at hl 0 rfl) ?_
    refine lv_iconst (v := iI 1) hx hb dX10_seen_30 rfl ?_
    refine g_cv (As := [.int (iI 1)]) (rest := []) (n := 1) C hml (c_X10_refuse l D k A ad hD (va_up v 25 (v 25)) f g 1 (by decide) (show 0 ≤ (1 : Int) ∧ (1 : Int) ≤ 10 from by omega)) mM_X10_88 mI_X10_refuse mE_X10_refuse mN_X10 mC_X10_refuse (by decide +kernel) 0 (ci := 10) rfl rfl hP hS (fun _ h => h) ⟨Nat.le_of_ble_eq_true rfl, Nat.le_of_ble_eq_true rfl⟩ ⟨Nat.zero_le _, Nat.zero_le _⟩ hl.1 rfl rfl (Nat.le_of_ble_eq_true rfl) dX10_seen_31 (fun r_6 v_6 f_6 g_6 H locs hq_6 hP _ hS => ?_)
    obtain ⟨rfl, rfl, rfl, rfl⟩ := hq_6
    show W p l e (gRm 4 95) s m args below meth c _ _ 0 0 Q (F0 m 34 ls [.int (iI (-1))])
    have hP : gWd D (rwT k ad) (va_up v 25 (1 : Int)) f g H := ⟨hP.1, (gR_up (V := rwV) (F := rwF) ⟨hok.1, hok.2⟩ 25 (hP.2.1 25))⟩
    exact g_iret hQ C hr hlocks hP hS dX10_seen_34 ⟨(-1), (1 : Int), rfl, rfl, rfl, rfl, (by first | omega | (split <;> omega))⟩
  · refine lv_aload_n hx hb dX10_seen_11 rfl (lv_at hl 0 rfl) ?_
    refine rwG_laws C hP mF_X10_16 dX10_seen_12 ?_
    refine lv_aload_n hx hb dX10_seen_15 rfl (lv_at hl 0 rfl) ?_
    refine rwG_field C hP mF_X10_37 dX10_seen_16 ?_
    refine rwG_field_open C hP mF_X10_129 dX10_seen_19 ?_
    show W p l e (gRm 4 95) s m args below meth c _ _ 0 0 Q (F0 m 22 ls [.int (iI (v 22)), .ref (ad 2)])
    refine lv_iload_n hx hb dX10_seen_22 rfl (lv_at hl 2 rfl) ?_
    refine g_cv (As := [.int (iI (v 22)), .int (iI a2)]) (rest := []) (n := 2) C hml (c_X4_hasRoute l D k A ad hD (va_up v 25 (v 25)) f g (v 22) a2 (by omega) (by omega)) mM_X10_136 mI_X4_hasRoute mE_X4_hasRoute mN_X4 mC_X4_hasRoute (by decide +kernel) 2 (ci := 4) rfl rfl hP hS (fun _ h => h) ⟨Nat.le_of_ble_eq_true rfl, Nat.le_of_ble_eq_true rfl⟩ ⟨Nat.zero_le _, Nat.zero_le _⟩ hl.1 rfl rfl (Nat.le_of_ble_eq_true rfl) dX10_seen_23 (fun r_7 v_7 f_7 g_7 H locs hq_7 hP _ hS => ?_)
    obtain ⟨z_7, rfl, rfl, rfl, rfl, p0_7⟩ := hq_7
    show W p l e (gRm 4 95) s m args below meth c _ _ 0 0 Q (F0 m 26 ls [.int (iI z_7)])
    replace p0_7 : z_7 = (if (0 ≤ (v 22) ∧ (v 22) < (v 1)) ∧ 0 ≤ a2 ∧ a2 < (f 1) ((v 22) * 4) then 1 else 0) := p0_7
    have w_7 := gif (P := (0 ≤ (v 22) ∧ (v 22) < (v 1)) ∧ 0 ≤ a2 ∧ a2 < (f 1) ((v 22) * 4)) p0_7
    have hz_7 : inR z_7 := (by first | omega | (rw [p0_7]; split <;> omega))
    have q_7 : z_7 = 1 → a2 ≤ 4 := fun h => by rcases w_7 with w | w; exact shR hs w.2; omega
    refine gi_zne (tgt := 35) hx hb dX10_seen_26 (by decide) (by omega) (fun c_8 => ?_) (fun c_8 => ?_)
    · refine lv_aload_n hx hb dX10_seen_35 rfl (lv_at hl 0 rfl) ?_
      refine lv_aload_n hx hb dX10_seen_36 rfl (lv_at hl 0 rfl) ?_
      refine lv_iload_n hx hb dX10_seen_37 rfl (lv_at hl 1 rfl) ?_
      refine lv_iload_n hx hb dX10_seen_38 rfl (lv_at hl 2 rfl) ?_
      refine g_cv (As := [.int (iI a1), .int (iI a2)]) (rest := [.ref (ad 0)]) (n := 2) C hml (c_X10_hasSeen l D k A ad hD (va_up v 25 (v 25)) f g a1 a2 (by omega) (by omega) (show 0 ≤ a1 ∧ a1 ≤ 15 from by omega)) mM_X10_237 mI_X10_hasSeen mE_X10_hasSeen mN_X10 mC_X10_hasSeen (by decide +kernel) 0 (ci := 10) rfl rfl hP hS (fun _ h => h) ⟨Nat.le_of_ble_eq_true rfl, Nat.le_of_ble_eq_true rfl⟩ ⟨Nat.zero_le _, Nat.zero_le _⟩ hl.1 rfl rfl (Nat.le_of_ble_eq_true rfl) dX10_seen_39 (fun r_9 v_9 f_9 g_9 H locs hq_9 hP _ hS => ?_)
      obtain ⟨z_9, rfl, rfl, rfl, rfl, p0_9⟩ := hq_9
      show W p l e (gRm 4 95) s m args below meth c _ _ 0 0 Q (F0 m 42 ls [.int (iI z_9), .ref (ad 0)])
      replace p0_9 : 0 ≤ z_9 ∧ z_9 ≤ 1 := p0_9
      refine gi_zeq (tgt := 49) hx hb dX10_seen_42 (by decide) (by omega) (fun c_10 => ?_) (fun c_10 => ?_)
      · refine lv_iconst (v := iI 0) hx hb dX10_seen_49 rfl ?_
        refine g_cv (As := [.int (iI 0)]) (rest := []) (n := 1) C hml (c_X10_answer l D k A ad hD (va_up v 25 (v 25)) f g 0 (by decide)) mM_X10_120 mI_X10_answer mE_X10_answer mN_X10 mC_X10_answer (by decide +kernel) 0 (ci := 10) rfl rfl hP hS (fun _ h => h) ⟨Nat.le_of_ble_eq_true rfl, Nat.le_of_ble_eq_true rfl⟩ ⟨Nat.zero_le _, Nat.zero_le _⟩ hl.1 rfl rfl (Nat.le_of_ble_eq_true rfl) dX10_seen_50 (fun r_11 v_11 f_11 g_11 H locs hq_11 hP _ hS => ?_)
        obtain ⟨z_11, rfl, rfl, rfl, rfl, p0_11⟩ := hq_11
        show W p l e (gRm 4 95) s m args below meth c _ _ 0 0 Q (F0 m 53 ls [.int (iI z_11)])
        have hP : gWd D (rwT k ad) (va_up v 25 0) f g H := ⟨hP.1, (gR_up (V := rwV) (F := rwF) ⟨hok.1, hok.2⟩ 25 (hP.2.1 25))⟩
        replace p0_11 : z_11 = (0 : Int) := p0_11
        have hz_11 : inR z_11 := (by first | omega | (rw [p0_11]; split <;> omega))
        exact g_iret hQ C hr hlocks hP hS dX10_seen_53 ⟨z_11, 0, rfl, rfl, rfl, rfl, (by first | omega | (split <;> omega))⟩
      · refine lv_iconst (v := iI 1) hx hb dX10_seen_45 rfl ?_
        refine lv_goto (tgt := 50) hx hb dX10_seen_46 (by decide) ?_
        refine g_cv (As := [.int (iI 1)]) (rest := []) (n := 1) C hml (c_X10_answer l D k A ad hD (va_up v 25 (v 25)) f g 1 (by decide)) mM_X10_120 mI_X10_answer mE_X10_answer mN_X10 mC_X10_answer (by decide +kernel) 0 (ci := 10) rfl rfl hP hS (fun _ h => h) ⟨Nat.le_of_ble_eq_true rfl, Nat.le_of_ble_eq_true rfl⟩ ⟨Nat.zero_le _, Nat.zero_le _⟩ hl.1 rfl rfl (Nat.le_of_ble_eq_true rfl) dX10_seen_50 (fun r_12 v_12 f_12 g_12 H locs hq_12 hP _ hS => ?_)
        obtain ⟨z_12, rfl, rfl, rfl, rfl, p0_12⟩ := hq_12
        show W p l e (gRm 4 95) s m args below meth c _ _ 0 0 Q (F0 m 53 ls [.int (iI z_12)])
        have hP : gWd D (rwT k ad) (va_up v 25 0) f g H := ⟨hP.1, (gR_up (V := rwV) (F := rwF) ⟨hok.1, hok.2⟩ 25 (hP.2.1 25))⟩
        replace p0_12 : z_12 = (1 : Int) := p0_12
        have hz_12 : inR z_12 := (by first | omega | (rw [p0_12]; split <;> omega))
        exact g_iret hQ C hr hlocks hP hS dX10_seen_53 ⟨z_12, 0, rfl, rfl, rfl, rfl, (by first | omega | (split <;> omega))⟩
    · refine lv_aload_n hx hb dX10_seen_29 rfl (lv_at hl 0 rfl) ?_
      refine lv_iconst (v := iI 1) hx hb dX10_seen_30 rfl ?_
      refine g_cv (As := [.int (iI 1)]) (rest := []) (n := 1) C hml (c_X10_refuse l D k A ad hD (va_up v 25 (v 25)) f g 1 (by decide) (show 0 ≤ (1 : Int) ∧ (1 : Int) ≤ 10 from by omega)) mM_X10_88 mI_X10_refuse mE_X10_refuse mN_X10 mC_X10_refuse (by decide +kernel) 0 (ci := 10) rfl rfl hP hS (fun _ h => h) ⟨Nat.le_of_ble_eq_true rfl, Nat.le_of_ble_eq_true rfl⟩ ⟨Nat.zero_le _, Nat.zero_le _⟩ hl.1 rfl rfl (Nat.le_of_ble_eq_true rfl) dX10_seen_31 (fun r_13 v_13 f_13 g_13 H locs hq_13 hP _ hS => ?_)
      obtain ⟨rfl, rfl, rfl, rfl⟩ := hq_13
      show W p l e (gRm 4 95) s m args below meth c _ _ 0 0 Q (F0 m 34 ls [.int (iI (-1))])
      have hP : gWd D (rwT k ad) (va_up v 25 (1 : Int)) f g H := ⟨hP.1, (gR_up (V := rwV) (F := rwF) ⟨hok.1, hok.2⟩ 25 (hP.2.1 25))⟩
      exact g_iret hQ C hr hlocks hP hS dX10_seen_34 ⟨(-1), (1 : Int), rfl, rfl, rfl, rfl, (by first | omega | (split <;> omega))⟩

set_option maxHeartbeats 4000000 in
set_option maxRecDepth 100000 in
theorem c_X10_ready (l : Launch) (D : va_G) (k : Nat → ClassId) (A : Nat → Prop) (ad : Nat → Nat) (hD : rwD A k ad) (v : gV) (f g : gF) (a1 : Int) (h_a1 : inR a1) (hs : shOk (v 1) (f 1)) : GM l D k A (rwT k ad) yX10_ready cX10_ready 2 (some .int) 3 76 [.ref (ad 0), .int (iI a1)] v f g (fun r v1 f1 g1 => ∃ (z : Int) (w25 : Int), r = some (.int (iI z)) ∧ (va_up v 25 w25) = v1 ∧ f = f1 ∧ g = g1 ∧ ((-1) ≤ z ∧ z ≤ 1001998)) := by
  refine GM.of (by decide) (Nat.le_of_ble_eq_true rfl) ?_
  intro p e s m args below meth c Q ls hQ C hml hr hlocks hP hl
  have hx := C.1
  have hb := C.2.1
  have hok := hP.2
  have hS : va_S A s.heap s.heap [] := va_S.rf
  have hl : lv_has ls 2 [(0, .ref (ad 0)), (1, .int (iI a1))] := hl
  have hP : gWd D (rwT k ad) (va_up v 25 (v 25)) f g s.heap := by rw [va_id]; exact hP
  have r_1 : 0 ≤ (v 1) ∧ (v 1) ≤ 4 := hok.1 1
  have r_2 : 0 ≤ (v 21) ∧ (v 21) ≤ 16 := hok.1 21
  have r_3 : 0 ≤ (v 22) ∧ (v 22) ≤ 3 := hok.1 22
  refine lv_aload_n hx hb dX10_ready_0 rfl (lv_at hl 0 rfl) ?_
  refine rwG_field C hP mF_X10_37 dX10_ready_1 ?_
  refine lv_iload_n hx hb dX10_ready_4 rfl (lv_at hl 1 rfl) ?_
  refine g_cv (As := [.int (iI a1)]) (rest := []) (n := 1) C hml (c_X2_knows l D k A ad hD (va_up v 25 (v 25)) f g a1 (by omega)) mM_X10_180 mI_X2_knows mE_X2_knows mN_X2 mC_X2_knows (by decide +kernel) 27 (ci := 2) rfl rfl hP hS (fun _ h => h) ⟨Nat.le_of_ble_eq_true rfl, Nat.le_of_ble_eq_true rfl⟩ ⟨Nat.zero_le _, Nat.zero_le _⟩ hl.1 rfl rfl (Nat.le_of_ble_eq_true rfl) dX10_ready_5 (fun r_4 v_4 f_4 g_4 H locs hq_4 hP _ hS => ?_)
  obtain ⟨z_4, rfl, rfl, rfl, rfl, p0_4⟩ := hq_4
  show W p l e (gRm 3 76) s m args below meth c _ _ 0 0 Q (F0 m 8 ls [.int (iI z_4)])
  replace p0_4 : z_4 = (if 0 ≤ a1 ∧ a1 < (v 21) then 1 else 0) := p0_4
  have w_4 := gif (P := 0 ≤ a1 ∧ a1 < (v 21)) p0_4
  have hz_4 : inR z_4 := (by first | omega | (rw [p0_4]; split <;> omega))
  refine gi_zne (tgt := 17) hx hb dX10_ready_8 (by decide) (by omega) (fun c_5 => ?_) (fun c_5 => ?_)
  · refine lv_aload_n hx hb dX10_ready_17 rfl (lv_at hl 0 rfl) ?_
    refine rwG_tries C hP mF_X10_44 dX10_ready_18 ?_
    refine lv_iload_n hx hb dX10_ready_21 rfl (lv_at hl 1 rfl) ?_
    refine g_cv (As := [.int (iI a1)]) (rest := []) (n := 1) C hml (c_X7_openOf l D k A ad hD (va_up v 25 (v 25)) f g a1 (by omega) (show 0 ≤ a1 ∧ a1 ≤ 15 from by omega)) mM_X10_197 mI_X7_openOf mE_X7_openOf mN_X7 mC_X7_openOf (by decide +kernel) 30 (ci := 7) rfl rfl hP hS (fun _ h => h) ⟨Nat.le_of_ble_eq_true rfl, Nat.le_of_ble_eq_true rfl⟩ ⟨Nat.zero_le _, Nat.zero_le _⟩ hl.1 rfl rfl (Nat.le_of_ble_eq_true rfl) dX10_ready_22 (fun r_6 v_6 f_6 g_6 H locs hq_6 hP _ hS => ?_)
    obtain ⟨z_6, rfl, rfl, rfl, rfl, p0_6, p1_6⟩ := hq_6
    show W p l e (gRm 3 76) s m args below meth c _ _ 0 0 Q (F0 m 25 ls [.int (iI z_6)])
    replace p0_6 : z_6 = ((f 27) a1 - 1) := p0_6
    replace p1_6 : (-1) ≤ z_6 ∧ z_6 ≤ 299 := p1_6
    have hz_6 : inR z_6 := (by first | omega | (rw [p0_6]; split <;> omega))
    refine lv_iconst (v := iI (-1)) hx hb dX10_ready_25 rfl ?_
    refine gi_ceq (tgt := 35) hx hb dX10_ready_26 (by decide) (by omega) (by decide) (fun c_7 => ?_) (fun c_7 => ?_)
    · refine lv_aload_n hx hb dX10_ready_35 rfl (lv_at hl 0 rfl) ?_
      refine lv_aload_n hx hb dX10_ready_36 rfl (lv_at hl 0 rfl) ?_
      refine rwG_time C hP mF_X10_114 dX10_ready_37 ?_
      show W p l e (gRm 3 76) s m args below meth c _ _ 0 0 Q (F0 m 40 ls [.int (iI (v 26)), .ref (ad 0)])
      have r_8 : 0 ≤ (v 26) ∧ (v 26) ≤ 1000000 := hok.1 26
      refine lv_aload_n hx hb dX10_ready_40 rfl (lv_at hl 0 rfl) ?_
      refine lv_iload_n hx hb dX10_ready_41 rfl (lv_at hl 1 rfl) ?_
      refine g_cv (As := [.int (iI a1)]) (rest := [.int (iI (v 26)), .ref (ad 0)]) (n := 1) C hml (c_X10_restOver l D k A ad hD (va_up v 25 (v 25)) f g a1 (by omega) (show shOk (v 1) (f 1) from hs)) mM_X10_240 mI_X10_restOver mE_X10_restOver mN_X10 mC_X10_restOver (by decide +kernel) 0 (ci := 10) rfl rfl hP hS (fun _ h => h) ⟨Nat.le_of_ble_eq_true rfl, Nat.le_of_ble_eq_true rfl⟩ ⟨Nat.zero_le _, Nat.zero_le _⟩ hl.1 rfl rfl (Nat.le_of_ble_eq_true rfl) dX10_ready_42 (fun r_9 v_9 f_9 g_9 H locs hq_9 hP _ hS => ?_)
      obtain ⟨z_9, rfl, rfl, rfl, rfl, p0_9⟩ := hq_9
      show W p l e (gRm 3 76) s m args below meth c _ _ 0 0 Q (F0 m 45 ls [.int (iI z_9), .int (iI (v 26)), .ref (ad 0)])
      replace p0_9 : 0 ≤ z_9 ∧ z_9 ≤ 1001998 := p0_9
      refine gi_max C hml hl.1 mM_X10_243 (by omega) (by omega) (Nat.le_of_ble_eq_true rfl) (Nat.le_of_ble_eq_true rfl) dX10_ready_45 (fun x_10 hx_10 => ?_)
      refine g_cv (As := [.int (iI x_10)]) (rest := []) (n := 1) C hml (c_X10_answer l D k A ad hD (va_up v 25 (v 25)) f g x_10 (by omega)) mM_X10_120 mI_X10_answer mE_X10_answer mN_X10 mC_X10_answer (by decide +kernel) 0 (ci := 10) rfl rfl hP hS (fun _ h => h) ⟨Nat.le_of_ble_eq_true rfl, Nat.le_of_ble_eq_true rfl⟩ ⟨Nat.zero_le _, Nat.zero_le _⟩ hl.1 rfl rfl (Nat.le_of_ble_eq_true rfl) dX10_ready_48 (fun r_11 v_11 f_11 g_11 H locs hq_11 hP _ hS => ?_)
      obtain ⟨z_11, rfl, rfl, rfl, rfl, p0_11⟩ := hq_11
      show W p l e (gRm 3 76) s m args below meth c _ _ 0 0 Q (F0 m 51 ls [.int (iI z_11)])
      have hP : gWd D (rwT k ad) (va_up v 25 0) f g H := ⟨hP.1, (gR_up (V := rwV) (F := rwF) ⟨hok.1, hok.2⟩ 25 (hP.2.1 25))⟩
      replace p0_11 : z_11 = x_10 := p0_11
      have hz_11 : inR z_11 := (by first | omega | (rw [p0_11]; split <;> omega))
      exact g_iret hQ C hr hlocks hP hS dX10_ready_51 ⟨z_11, 0, rfl, rfl, rfl, rfl, (by first | omega | (split <;> omega))⟩
    · refine lv_aload_n hx hb dX10_ready_29 rfl (lv_at hl 0 rfl) ?_
      refine lv_iconst (v := iI 5) hx hb dX10_ready_30 rfl ?_
      refine g_cv (As := [.int (iI 5)]) (rest := []) (n := 1) C hml (c_X10_refuse l D k A ad hD (va_up v 25 (v 25)) f g 5 (by decide) (show 0 ≤ (5 : Int) ∧ (5 : Int) ≤ 10 from by omega)) mM_X10_88 mI_X10_refuse mE_X10_refuse mN_X10 mC_X10_refuse (by decide +kernel) 0 (ci := 10) rfl rfl hP hS (fun _ h => h) ⟨Nat.le_of_ble_eq_true rfl, Nat.le_of_ble_eq_true rfl⟩ ⟨Nat.zero_le _, Nat.zero_le _⟩ hl.1 rfl rfl (Nat.le_of_ble_eq_true rfl) dX10_ready_31 (fun r_12 v_12 f_12 g_12 H locs hq_12 hP _ hS => ?_)
      obtain ⟨rfl, rfl, rfl, rfl⟩ := hq_12
      show W p l e (gRm 3 76) s m args below meth c _ _ 0 0 Q (F0 m 34 ls [.int (iI (-1))])
      have hP : gWd D (rwT k ad) (va_up v 25 (5 : Int)) f g H := ⟨hP.1, (gR_up (V := rwV) (F := rwF) ⟨hok.1, hok.2⟩ 25 (hP.2.1 25))⟩
      exact g_iret hQ C hr hlocks hP hS dX10_ready_34 ⟨(-1), (5 : Int), rfl, rfl, rfl, rfl, (by first | omega | (split <;> omega))⟩
  · refine lv_aload_n hx hb dX10_ready_11 rfl (lv_at hl 0 rfl) ?_
    refine lv_iconst (v := iI 1) hx hb dX10_ready_12 rfl ?_
    refine g_cv (As := [.int (iI 1)]) (rest := []) (n := 1) C hml (c_X10_refuse l D k A ad hD (va_up v 25 (v 25)) f g 1 (by decide) (show 0 ≤ (1 : Int) ∧ (1 : Int) ≤ 10 from by omega)) mM_X10_88 mI_X10_refuse mE_X10_refuse mN_X10 mC_X10_refuse (by decide +kernel) 0 (ci := 10) rfl rfl hP hS (fun _ h => h) ⟨Nat.le_of_ble_eq_true rfl, Nat.le_of_ble_eq_true rfl⟩ ⟨Nat.zero_le _, Nat.zero_le _⟩ hl.1 rfl rfl (Nat.le_of_ble_eq_true rfl) dX10_ready_13 (fun r_13 v_13 f_13 g_13 H locs hq_13 hP _ hS => ?_)
    obtain ⟨rfl, rfl, rfl, rfl⟩ := hq_13
    show W p l e (gRm 3 76) s m args below meth c _ _ 0 0 Q (F0 m 16 ls [.int (iI (-1))])
    have hP : gWd D (rwT k ad) (va_up v 25 (1 : Int)) f g H := ⟨hP.1, (gR_up (V := rwV) (F := rwF) ⟨hok.1, hok.2⟩ 25 (hP.2.1 25))⟩
    exact g_iret hQ C hr hlocks hP hS dX10_ready_16 ⟨(-1), (1 : Int), rfl, rfl, rfl, rfl, (by first | omega | (split <;> omega))⟩

set_option maxHeartbeats 4000000 in
set_option maxRecDepth 100000 in
theorem c_X10_appeal (l : Launch) (D : va_G) (k : Nat → ClassId) (A : Nat → Prop) (ad : Nat → Nat) (hD : rwD A k ad) (v : gV) (f g : gF) (a1 : Int) (a2 : Int) (a3 : Int) (h_a1 : inR a1) (h_a2 : inR a2) (h_a3 : inR a3) : GM l D k A (rwT k ad) yX10_appeal cX10_appeal 5 (some .boolean) 1 23 [.ref (ad 0), .int (iI a1), .int (iI a2), .int (iI a3)] v f g (fun r v1 f1 g1 => ∃ (z : Int) (w24 : Int) (w25 : Int) (a28_ : Int → Int) (a29_ : Int → Int) (a30_ : Int → Int), r = some (.int (iI z)) ∧ (va_up (va_up v 24 w24) 25 w25) = v1 ∧ (va_up (va_up (va_up f 28 a28_) 29 a29_) 30 a30_) = f1 ∧ g = g1 ∧ (0 ≤ z ∧ z ≤ 1)) := by
  refine GM.of (by decide) (Nat.le_of_ble_eq_true rfl) ?_
  intro p e s m args below meth c Q ls hQ C hml hr hlocks hP hl
  have hx := C.1
  have hb := C.2.1
  have hok := hP.2
  have hS : va_S A s.heap s.heap [] := va_S.rf
  have hl : lv_has ls 5 [(0, .ref (ad 0)), (1, .int (iI a1)), (2, .int (iI a2)), (3, .int (iI a3))] := hl
  have hP : gWd D (rwT k ad) (va_up (va_up v 24 (v 24)) 25 (v 25)) (va_up (va_up (va_up f 28 (f 28)) 29 (f 29)) 30 (f 30)) g s.heap := by rw [va_id, va_id, va_id, va_id, va_id]; exact hP
  have r_1 : 0 ≤ (v 23) ∧ (v 23) ≤ 300 := hok.1 23
  refine lv_aload_n hx hb dX10_appeal_0 rfl (lv_at hl 0 rfl) ?_
  refine rwG_tries C hP mF_X10_44 dX10_appeal_1 ?_
  refine lv_iload_n hx hb dX10_appeal_4 rfl (lv_at hl 1 rfl) ?_
  refine g_cv (As := [.int (iI a1)]) (rest := []) (n := 1) C hml (c_X7_knows l D k A ad hD (va_up (va_up v 24 (v 24)) 25 (v 25)) (va_up (va_up (va_up f 28 (f 28)) 29 (f 29)) 30 (f 30)) g a1 (by omega)) mM_X10_224 mI_X7_knows mE_X7_knows mN_X7 mC_X7_knows (by decide +kernel) 30 (ci := 7) rfl rfl hP hS (fun _ h => h) ⟨Nat.le_of_ble_eq_true rfl, Nat.le_of_ble_eq_true rfl⟩ ⟨Nat.zero_le _, Nat.zero_le _⟩ hl.1 rfl rfl (Nat.le_of_ble_eq_true rfl) dX10_appeal_5 (fun r_2 v_2 f_2 g_2 H locs hq_2 hP _ hS => ?_)
  obtain ⟨z_2, rfl, rfl, rfl, rfl, p0_2⟩ := hq_2
  show W p l e (gRm 1 23) s m args below meth c _ _ 0 0 Q (F0 m 8 ls [.int (iI z_2)])
  replace p0_2 : z_2 = (if 0 ≤ a1 ∧ a1 < (v 23) then 1 else 0) := p0_2
  have w_2 := gif (P := 0 ≤ a1 ∧ a1 < (v 23)) p0_2
  have hz_2 : inR z_2 := (by first | omega | (rw [p0_2]; split <;> omega))
  refine gi_zne (tgt := 17) hx hb dX10_appeal_8 (by decide) (by omega) (fun c_3 => ?_) (fun c_3 => ?_)
  · refine lv_aload_n hx hb dX10_appeal_17 rfl (lv_at hl 0 rfl) ?_
    refine rwG_wall C hP mF_X10_30 dX10_appeal_18 ?_
    refine lv_aload_n hx hb dX10_appeal_21 rfl (lv_at hl 0 rfl) ?_
    refine rwG_tries C hP mF_X10_44 dX10_appeal_22 ?_
    refine rwG_tries_round C hP mF_X10_200 dX10_appeal_25 ?_
    refine lv_iload_n hx hb dX10_appeal_28 rfl (lv_at hl 1 rfl) ?_
    refine rwL_tries_round C hP (by omega) (by omega) dX10_appeal_29 ?_
    show W p l e (gRm 1 23) s m args below meth c _ _ 0 0 Q (F0 m 30 ls [.int (iI (f 21 a1)), .ref (ad 23)])
    have r_4 : 0 ≤ (f 21 a1) ∧ (f 21 a1) ≤ 3 := hP.2.2 21 a1
    refine lv_aload_n hx hb dX10_appeal_30 rfl (lv_at hl 0 rfl) ?_
    refine rwG_tries C hP mF_X10_44 dX10_appeal_31 ?_
    refine rwG_tries_route C hP mF_X10_203 dX10_appeal_34 ?_
    refine lv_iload_n hx hb dX10_appeal_37 rfl (lv_at hl 1 rfl) ?_
    refine rwL_tries_route C hP (by omega) (by omega) dX10_appeal_38 ?_
    show W p l e (gRm 1 23) s m args below meth c _ _ 0 0 Q (F0 m 39 ls [.int (iI (f 22 a1)), .int (iI (f 21 a1)), .ref (ad 23)])
    have r_5 : 0 ≤ (f 22 a1) ∧ (f 22 a1) ≤ 4 := hP.2.2 22 a1
    refine g_cv (As := [.int (iI (f 21 a1)), .int (iI (f 22 a1))]) (rest := []) (n := 2) C hml (c_X8_holdsOf l D k A ad hD (va_up (va_up v 24 (v 24)) 25 (v 25)) (va_up (va_up (va_up f 28 (f 28)) 29 (f 29)) 30 (f 30)) g (f 21 a1) (f 22 a1) (by omega) (by omega) (show 0 ≤ (f 21 a1) ∧ (f 21 a1) ≤ 3 from by omega) (show 0 ≤ (f 22 a1) ∧ (f 22 a1) ≤ 4 from by omega)) mM_X10_173 mI_X8_holdsOf mE_X8_holdsOf mN_X8 mC_X8_holdsOf (by decide +kernel) 23 (ci := 8) rfl rfl hP hS (fun _ h => h) ⟨Nat.le_of_ble_eq_true rfl, Nat.le_of_ble_eq_true rfl⟩ ⟨Nat.zero_le _, Nat.zero_le _⟩ hl.1 rfl rfl (Nat.le_of_ble_eq_true rfl) dX10_appeal_39 (fun r_6 v_6 f_6 g_6 H locs hq_6 hP _ hS => ?_)
    obtain ⟨z_6, rfl, rfl, rfl, rfl, p0_6, p1_6⟩ := hq_6
    show W p l e (gRm 1 23) s m args below meth c _ _ 0 0 Q (F0 m 42 ls [.int (iI z_6)])
    replace p0_6 : z_6 = ((f 15) ((f 21 a1) * 5 + (f 22 a1))) := p0_6
    replace p1_6 : 0 ≤ z_6 ∧ z_6 ≤ 60 := p1_6
    have hz_6 : inR z_6 := (by first | omega | (rw [p0_6]; split <;> omega))
    refine lv_istore (lv' := [(4, .int (iI z_6)), (0, .ref (ad 0)), (1, .int (iI a1)), (2, .int (iI a2)), (3, .int (iI a3))]) hx hb dX10_appeal_42 hl (by decide) rfl (fun ls hl => ?_)
    refine lv_iload_n hx hb dX10_appeal_44 rfl (lv_at hl 3 rfl) ?_
    refine gi_zlt (tgt := 61) hx hb dX10_appeal_45 (by decide) (by omega) (fun c_7 => ?_) (fun c_7 => ?_)
    · refine lv_aload_n hx hb dX10_appeal_61 rfl (lv_at hl 1 rfl) ?_
      refine lv_iconst (v := iI 2) hx hb dX10_appeal_62 rfl ?_
      refine g_cv (As := [.int (iI 2)]) (rest := []) (n := 1) C hml (c_X10_deny l D k A ad hD (va_up (va_up v 24 (v 24)) 25 (v 25)) (va_up (va_up (va_up f 28 (f 28)) 29 (f 29)) 30 (f 30)) g 2 (by decide) (show 0 ≤ (2 : Int) ∧ (2 : Int) ≤ 10 from by omega)) mM_X10_140 mI_X10_deny mE_X10_deny mN_X10 mC_X10_deny (by decide +kernel) 0 (ci := 10) rfl rfl hP hS (fun _ h => h) ⟨Nat.le_of_ble_eq_true rfl, Nat.le_of_ble_eq_true rfl⟩ ⟨Nat.zero_le _, Nat.zero_le _⟩ hl.1 rfl rfl (Nat.le_of_ble_eq_true rfl) dX10_appeal_63 (fun r_8 v_8 f_8 g_8 H locs hq_8 hP _ hS => ?_)
      obtain ⟨rfl, rfl, rfl, rfl⟩ := hq_8
      show W p l e (gRm 1 23) s m args below meth c _ _ 0 0 Q (F0 m 66 ls [.int (iI 0)])
      have hP : gWd D (rwT k ad) (va_up (va_up v 24 (v 24)) 25 (2 : Int)) (va_up (va_up (va_up f 28 (f 28)) 29 (f 29)) 30 (f 30)) g H := ⟨hP.1, (gF_up (V := rwV) (F := rwF) (gF_up (V := rwV) (F := rwF) (gF_up (V := rwV) (F := rwF) (gR_up (V := rwV) (F := rwF) (gR_up (V := rwV) (F := rwF) ⟨hok.1, hok.2⟩ 24 (hP.2.1 24)) 25 (hP.2.1 25)) 28 (hP.2.2 28)) 29 (hP.2.2 29)) 30 (hP.2.2 30))⟩
      exact g_zret hQ C hr hlocks (by decide) hP hS dX10_appeal_66 ⟨0, (v 24), (2 : Int), (f 28), (f 29), (f 30), rfl, rfl, rfl, rfl, (by first | omega | (split <;> omega))⟩
    · refine lv_iload_n hx hb dX10_appeal_48 rfl (lv_at hl 3 rfl) ?_
      refine lv_iload hx hb dX10_appeal_49 (lv_at hl 0 rfl) ?_
      refine gi_cgt (tgt := 61) hx hb dX10_appeal_51 (by decide) (by omega) (by omega) (fun c_9 => ?_) (fun c_9 => ?_)
      · refine lv_aload_n hx hb dX10_appeal_61 rfl (lv_at hl 1 rfl) ?_
        refine lv_iconst (v := iI 2) hx hb dX10_appeal_62 rfl ?_
        refine g_cv (As := [.int (iI 2)]) (rest := []) (n := 1) C hml (c_X10_deny l D k A ad hD (va_up (va_up v 24 (v 24)) 25 (v 25)) (va_up (va_up (va_up f 28 (f 28)) 29 (f 29)) 30 (f 30)) g 2 (by decide) (show 0 ≤ (2 : Int) ∧ (2 : Int) ≤ 10 from by omega)) mM_X10_140 mI_X10_deny mE_X10_deny mN_X10 mC_X10_deny (by decide +kernel) 0 (ci := 10) rfl rfl hP hS (fun _ h => h) ⟨Nat.le_of_ble_eq_true rfl, Nat.le_of_ble_eq_true rfl⟩ ⟨Nat.zero_le _, Nat.zero_le _⟩ hl.1 rfl rfl (Nat.le_of_ble_eq_true rfl) dX10_appeal_63 (fun r_10 v_10 f_10 g_10 H locs hq_10 hP _ hS => ?_)
        obtain ⟨rfl, rfl, rfl, rfl⟩ := hq_10
        show W p l e (gRm 1 23) s m args below meth c _ _ 0 0 Q (F0 m 66 ls [.int (iI 0)])
        have hP : gWd D (rwT k ad) (va_up (va_up v 24 (v 24)) 25 (2 : Int)) (va_up (va_up (va_up f 28 (f 28)) 29 (f 29)) 30 (f 30)) g H := ⟨hP.1, (gF_up (V := rwV) (F := rwF) (gF_up (V := rwV) (F := rwF) (gF_up (V := rwV) (F := rwF) (gR_up (V := rwV) (F := rwF) (gR_up (V := rwV) (F := rwF) ⟨hok.1, hok.2⟩ 24 (hP.2.1 24)) 25 (hP.2.1 25)) 28 (hP.2.2 28)) 29 (hP.2.2 29)) 30 (hP.2.2 30))⟩
        exact g_zret hQ C hr hlocks (by decide) hP hS dX10_appeal_66 ⟨0, (v 24), (2 : Int), (f 28), (f 29), (f 30), rfl, rfl, rfl, rfl, (by first | omega | (split <;> omega))⟩
      · refine lv_iload_n hx hb dX10_appeal_54 rfl (lv_at hl 4 rfl) ?_
        refine g_cs (As := [.int (iI a3)]) (rest := []) (n := 1) C hml (c_X10_isDay l D k A ad hD (va_up (va_up v 24 (v 24)) 25 (v 25)) (va_up (va_up (va_up f 28 (f 28)) 29 (f 29)) 30 (f 30)) g a3 (by omega)) mM_X10_248 mS_X10_isDay mN_X10 mC_X10_isDay (by decide +kernel) hP hS (fun _ h => h) ⟨Nat.le_of_ble_eq_true rfl, Nat.le_of_ble_eq_true rfl⟩ ⟨Nat.zero_le _, Nat.zero_le _⟩ hl.1 rfl rfl (Nat.le_of_ble_eq_true rfl) dX10_appeal_55 (fun r_11 v_11 f_11 g_11 H locs hq_11 hP _ hS => ?_)
        obtain ⟨z_11, rfl, rfl, rfl, rfl, p0_11⟩ := hq_11
        show W p l e (gRm 1 23) s m args below meth c _ _ 0 0 Q (F0 m 58 ls [.int (iI z_11)])
        replace p0_11 : z_11 = (if 0 ≤ a3 ∧ a3 ≤ 999 then 1 else 0) := p0_11
        have w_11 := gif (P := 0 ≤ a3 ∧ a3 ≤ 999) p0_11
        have hz_11 : inR z_11 := (by first | omega | (rw [p0_11]; split <;> omega))
        refine gi_zne (tgt := 67) hx hb dX10_appeal_58 (by decide) (by omega) (fun c_12 => ?_) (fun c_12 => ?_)
        · refine lv_aload_n hx hb dX10_appeal_67 rfl (lv_at hl 1 rfl) ?_
          refine rwG_tries C hP mF_X10_44 dX10_appeal_68 ?_
          refine rwG_tries_how C hP mF_X10_234 dX10_appeal_71 ?_
          refine lv_iload_n hx hb dX10_appeal_74 rfl (lv_at hl 2 rfl) ?_
          refine rwL_tries_how C hP (by omega) (by omega) dX10_appeal_75 ?_
          show W p l e (gRm 1 23) s m args below meth c _ _ 0 0 Q (F0 m 76 ls [.int (iI (f 26 a1))])
          have r_13 : 0 ≤ (f 26 a1) ∧ (f 26 a1) ≤ 4 := hP.2.2 26 a1
          refine gi_zeq (tgt := 92) hx hb dX10_appeal_76 (by decide) (by omega) (fun c_14 => ?_) (fun c_14 => ?_)
          · refine lv_aload_n hx hb dX10_appeal_92 rfl (lv_at hl 1 rfl) ?_
            refine lv_bipush (v := iI 10) hx hb dX10_appeal_93 (by decide) ?_
            refine g_cv (As := [.int (iI 10)]) (rest := []) (n := 1) C hml (c_X10_deny l D k A ad hD (va_up (va_up v 24 (v 24)) 25 (v 25)) (va_up (va_up (va_up f 28 (f 28)) 29 (f 29)) 30 (f 30)) g 10 (by decide) (show 0 ≤ (10 : Int) ∧ (10 : Int) ≤ 10 from by omega)) mM_X10_140 mI_X10_deny mE_X10_deny mN_X10 mC_X10_deny (by decide +kernel) 0 (ci := 10) rfl rfl hP hS (fun _ h => h) ⟨Nat.le_of_ble_eq_true rfl, Nat.le_of_ble_eq_true rfl⟩ ⟨Nat.zero_le _, Nat.zero_le _⟩ hl.1 rfl rfl (Nat.le_of_ble_eq_true rfl) dX10_appeal_95 (fun r_15 v_15 f_15 g_15 H locs hq_15 hP _ hS => ?_)
            obtain ⟨rfl, rfl, rfl, rfl⟩ := hq_15
            show W p l e (gRm 1 23) s m args below meth c _ _ 0 0 Q (F0 m 98 ls [.int (iI 0)])
            have hP : gWd D (rwT k ad) (va_up (va_up v 24 (v 24)) 25 (10 : Int)) (va_up (va_up (va_up f 28 (f 28)) 29 (f 29)) 30 (f 30)) g H := ⟨hP.1, (gF_up (V := rwV) (F := rwF) (gF_up (V := rwV) (F := rwF) (gF_up (V := rwV) (F := rwF) (gR_up (V := rwV) (F := rwF) (gR_up (V := rwV) (F := rwF) ⟨hok.1, hok.2⟩ 24 (hP.2.1 24)) 25 (hP.2.1 25)) 28 (hP.2.2 28)) 29 (hP.2.2 29)) 30 (hP.2.2 30))⟩
            exact g_zret hQ C hr hlocks (by decide) hP hS dX10_appeal_98 ⟨0, (v 24), (10 : Int), (f 28), (f 29), (f 30), rfl, rfl, rfl, rfl, (by first | omega | (split <;> omega))⟩
          · refine lv_aload_n hx hb dX10_appeal_79 rfl (lv_at hl 1 rfl) ?_
            refine rwG_tries C hP mF_X10_44 dX10_appeal_80 ?_
            refine rwG_tries_how C hP mF_X10_234 dX10_appeal_83 ?_
            refine lv_iload_n hx hb dX10_appeal_86 rfl (lv_at hl 2 rfl) ?_
            refine rwL_tries_how C hP (by omega) (by omega) dX10_appeal_87 ?_
            show W p l e (gRm 1 23) s m args below meth c _ _ 0 0 Q (F0 m 88 ls [.int (iI (f 26 a1))])
            refine lv_iconst (v := iI 4) hx hb dX10_appeal_88 rfl ?_
            refine gi_cne (tgt := 99) hx hb dX10_appeal_89 (by decide) (by omega) (by decide) (fun c_16 => ?_) (fun c_16 => ?_)
            · refine lv_aload_n hx hb dX10_appeal_99 rfl (lv_at hl 1 rfl) ?_
              refine rwG_appeals C hP mF_X10_51 dX10_appeal_100 ?_
              refine rwG_appeals_many C hP mF_X10_251 dX10_appeal_103 ?_
              show W p l e (gRm 1 23) s m args below meth c _ _ 0 0 Q (F0 m 106 ls [.int (iI (v 24))])
              have r_17 : 0 ≤ (v 24) ∧ (v 24) ≤ 40 := hok.1 24
              refine lv_bipush (v := iI 40) hx hb dX10_appeal_106 (by decide) ?_
              refine gi_clt (tgt := 117) hx hb dX10_appeal_108 (by decide) (by omega) (by decide) (fun c_18 => ?_) (fun c_18 => ?_)
              · refine lv_aload_n hx hb dX10_appeal_117 rfl (lv_at hl 1 rfl) ?_
                refine rwG_appeals C hP mF_X10_51 dX10_appeal_118 ?_
                refine lv_iload_n hx hb dX10_appeal_121 rfl (lv_at hl 2 rfl) ?_
                refine lv_iload_n hx hb dX10_appeal_122 rfl (lv_at hl 3 rfl) ?_
                refine lv_iload_n hx hb dX10_appeal_123 rfl (lv_at hl 4 rfl) ?_
                refine g_cv (As := [.int (iI a1), .int (iI a2), .int (iI a3)]) (rest := []) (n := 3) C hml (c_X0_put l D k A ad hD (va_up (va_up v 24 (v 24)) 25 (v 25)) (va_up (va_up (va_up f 28 (f 28)) 29 (f 29)) 30 (f 30)) g a1 a2 a3 (by omega) (by omega) (by omega) (show (v 24) < 40 from by omega) (show 0 ≤ a1 ∧ a1 ≤ 299 from by omega) (show 0 ≤ a2 ∧ a2 ≤ 60 from by omega) (show 0 ≤ a3 ∧ a3 ≤ 999 from by omega)) mM_X10_252 mI_X0_put mE_X0_put mN_X0 mC_X0_put (by decide +kernel) 39 (ci := 0) rfl rfl hP hS (fun _ h => h) ⟨Nat.le_of_ble_eq_true rfl, Nat.le_of_ble_eq_true rfl⟩ ⟨Nat.zero_le _, Nat.zero_le _⟩ hl.1 rfl rfl (Nat.le_of_ble_eq_true rfl) dX10_appeal_124 (fun r_19 v_19 f_19 g_19 H locs hq_19 hP _ hS => ?_)
                obtain ⟨rfl, rfl, rfl, rfl⟩ := hq_19
                show W p l e (gRm 1 23) s m args below meth c _ _ 0 0 Q (F0 m 127 ls [])
                have hP : gWd D (rwT k ad) (va_up (va_up v 24 ((v 24) + 1)) 25 (v 25)) (va_up (va_up (va_up f 28 (u1 (f 28) (v 24) a1)) 29 (u1 (f 29) (v 24) a2)) 30 (u1 (f 30) (v 24) a3)) g H := ⟨hP.1, (gF_up (V := rwV) (F := rwF) (gF_up (V := rwV) (F := rwF) (gF_up (V := rwV) (F := rwF) (gR_up (V := rwV) (F := rwF) (gR_up (V := rwV) (F := rwF) ⟨hok.1, hok.2⟩ 24 (hP.2.1 24)) 25 (hP.2.1 25)) 28 (hP.2.2 28)) 29 (hP.2.2 29)) 30 (hP.2.2 30))⟩
                refine lv_aload_n hx hb dX10_appeal_127 rfl (lv_at hl 1 rfl) ?_
                refine g_cv (As := []) (rest := []) (n := 0) C hml (c_X10_grant l D k A ad hD (va_up (va_up v 24 ((v 24) + 1)) 25 (v 25)) (va_up (va_up (va_up f 28 (u1 (f 28) (v 24) a1)) 29 (u1 (f 29) (v 24) a2)) 30 (u1 (f 30) (v 24) a3)) g) mM_X10_160 mI_X10_grant mE_X10_grant mN_X10 mC_X10_grant (by decide +kernel) 0 (ci := 10) rfl rfl hP hS (fun _ h => h) ⟨Nat.le_of_ble_eq_true rfl, Nat.le_of_ble_eq_true rfl⟩ ⟨Nat.zero_le _, Nat.zero_le _⟩ hl.1 rfl rfl (Nat.le_of_ble_eq_true rfl) dX10_appeal_128 (fun r_20 v_20 f_20 g_20 H locs hq_20 hP _ hS => ?_)
                obtain ⟨rfl, rfl, rfl, rfl⟩ := hq_20
                show W p l e (gRm 1 23) s m args below meth c _ _ 0 0 Q (F0 m 131 ls [.int (iI 1)])
                have hP : gWd D (rwT k ad) (va_up (va_up v 24 ((v 24) + 1)) 25 0) (va_up (va_up (va_up f 28 (u1 (f 28) (v 24) a1)) 29 (u1 (f 29) (v 24) a2)) 30 (u1 (f 30) (v 24) a3)) g H := ⟨hP.1, (gF_up (V := rwV) (F := rwF) (gF_up (V := rwV) (F := rwF) (gF_up (V := rwV) (F := rwF) (gR_up (V := rwV) (F := rwF) (gR_up (V := rwV) (F := rwF) ⟨hok.1, hok.2⟩ 24 (hP.2.1 24)) 25 (hP.2.1 25)) 28 (hP.2.2 28)) 29 (hP.2.2 29)) 30 (hP.2.2 30))⟩
                exact g_zret hQ C hr hlocks (by decide) hP hS dX10_appeal_131 ⟨1, ((v 24) + 1), 0, (u1 (f 28) (v 24) a1), (u1 (f 29) (v 24) a2), (u1 (f 30) (v 24) a3), rfl, rfl, rfl, rfl, (by first | omega | (split <;> omega))⟩
              · refine lv_aload_n hx hb dX10_appeal_111 rfl (lv_at hl 1 rfl) ?_
                refine lv_iconst (v := iI 3) hx hb dX10_appeal_112 rfl ?_
                refine g_cv (As := [.int (iI 3)]) (rest := []) (n := 1) C hml (c_X10_deny l D k A ad hD (va_up (va_up v 24 (v 24)) 25 (v 25)) (va_up (va_up (va_up f 28 (f 28)) 29 (f 29)) 30 (f 30)) g 3 (by decide) (show 0 ≤ (3 : Int) ∧ (3 : Int) ≤ 10 from by omega)) mM_X10_140 mI_X10_deny mE_X10_deny mN_X10 mC_X10_deny (by decide +kernel) 0 (ci := 10) rfl rfl hP hS (fun _ h => h) ⟨Nat.le_of_ble_eq_true rfl, Nat.le_of_ble_eq_true rfl⟩ ⟨Nat.zero_le _, Nat.zero_le _⟩ hl.1 rfl rfl (Nat.le_of_ble_eq_true rfl) dX10_appeal_113 (fun r_21 v_21 f_21 g_21 H locs hq_21 hP _ hS => ?_)
                obtain ⟨rfl, rfl, rfl, rfl⟩ := hq_21
                show W p l e (gRm 1 23) s m args below meth c _ _ 0 0 Q (F0 m 116 ls [.int (iI 0)])
                have hP : gWd D (rwT k ad) (va_up (va_up v 24 (v 24)) 25 (3 : Int)) (va_up (va_up (va_up f 28 (f 28)) 29 (f 29)) 30 (f 30)) g H := ⟨hP.1, (gF_up (V := rwV) (F := rwF) (gF_up (V := rwV) (F := rwF) (gF_up (V := rwV) (F := rwF) (gR_up (V := rwV) (F := rwF) (gR_up (V := rwV) (F := rwF) ⟨hok.1, hok.2⟩ 24 (hP.2.1 24)) 25 (hP.2.1 25)) 28 (hP.2.2 28)) 29 (hP.2.2 29)) 30 (hP.2.2 30))⟩
                exact g_zret hQ C hr hlocks (by decide) hP hS dX10_appeal_116 ⟨0, (v 24), (3 : Int), (f 28), (f 29), (f 30), rfl, rfl, rfl, rfl, (by first | omega | (split <;> omega))⟩
            · refine lv_aload_n hx hb dX10_appeal_92 rfl (lv_at hl 1 rfl) ?_
              refine lv_bipush (v := iI 10) hx hb dX10_appeal_93 (by decide) ?_
              refine g_cv (As := [.int (iI 10)]) (rest := []) (n := 1) C hml (c_X10_deny l D k A ad hD (va_up (va_up v 24 (v 24)) 25 (v 25)) (va_up (va_up (va_up f 28 (f 28)) 29 (f 29)) 30 (f 30)) g 10 (by decide) (show 0 ≤ (10 : Int) ∧ (10 : Int) ≤ 10 from by omega)) mM_X10_140 mI_X10_deny mE_X10_deny mN_X10 mC_X10_deny (by decide +kernel) 0 (ci := 10) rfl rfl hP hS (fun _ h => h) ⟨Nat.le_of_ble_eq_true rfl, Nat.le_of_ble_eq_true rfl⟩ ⟨Nat.zero_le _, Nat.zero_le _⟩ hl.1 rfl rfl (Nat.le_of_ble_eq_true rfl) dX10_appeal_95 (fun r_22 v_22 f_22 g_22 H locs hq_22 hP _ hS => ?_)
              obtain ⟨rfl, rfl, rfl, rfl⟩ := hq_22
              show W p l e (gRm 1 23) s m args below meth c _ _ 0 0 Q (F0 m 98 ls [.int (iI 0)])
              have hP : gWd D (rwT k ad) (va_up (va_up v 24 (v 24)) 25 (10 : Int)) (va_up (va_up (va_up f 28 (f 28)) 29 (f 29)) 30 (f 30)) g H := ⟨hP.1, (gF_up (V := rwV) (F := rwF) (gF_up (V := rwV) (F := rwF) (gF_up (V := rwV) (F := rwF) (gR_up (V := rwV) (F := rwF) (gR_up (V := rwV) (F := rwF) ⟨hok.1, hok.2⟩ 24 (hP.2.1 24)) 25 (hP.2.1 25)) 28 (hP.2.2 28)) 29 (hP.2.2 29)) 30 (hP.2.2 30))⟩
              exact g_zret hQ C hr hlocks (by decide) hP hS dX10_appeal_98 ⟨0, (v 24), (10 : Int), (f 28), (f 29), (f 30), rfl, rfl, rfl, rfl, (by first | omega | (split <;> omega))⟩
        · refine lv_aload_n hx hb dX10_appeal_61 rfl (lv_at hl 1 rfl) ?_
          refine lv_iconst (v := iI 2) hx hb dX10_appeal_62 rfl ?_
          refine g_cv (As := [.int (iI 2)]) (rest := []) (n := 1) C hml (c_X10_deny l D k A ad hD (va_up (va_up v 24 (v 24)) 25 (v 25)) (va_up (va_up (va_up f 28 (f 28)) 29 (f 29)) 30 (f 30)) g 2 (by decide) (show 0 ≤ (2 : Int) ∧ (2 : Int) ≤ 10 from by omega)) mM_X10_140 mI_X10_deny mE_X10_deny mN_X10 mC_X10_deny (by decide +kernel) 0 (ci := 10) rfl rfl hP hS (fun _ h => h) ⟨Nat.le_of_ble_eq_true rfl, Nat.le_of_ble_eq_true rfl⟩ ⟨Nat.zero_le _, Nat.zero_le _⟩ hl.1 rfl rfl (Nat.le_of_ble_eq_true rfl) dX10_appeal_63 (fun r_23 v_23 f_23 g_23 H locs hq_23 hP _ hS => ?_)
          obtain ⟨rfl, rfl, rfl, rfl⟩ := hq_23
          show W p l e (gRm 1 23) s m args below meth c _ _ 0 0 Q (F0 m 66 ls [.int (iI 0)])
          have hP : gWd D (rwT k ad) (va_up (va_up v 24 (v 24)) 25 (2 : Int)) (va_up (va_up (va_up f 28 (f 28)) 29 (f 29)) 30 (f 30)) g H := ⟨hP.1, (gF_up (V := rwV) (F := rwF) (gF_up (V := rwV) (F := rwF) (gF_up (V := rwV) (F := rwF) (gR_up (V := rwV) (F := rwF) (gR_up (V := rwV) (F := rwF) ⟨hok.1, hok.2⟩ 24 (hP.2.1 24)) 25 (hP.2.1 25)) 28 (hP.2.2 28)) 29 (hP.2.2 29)) 30 (hP.2.2 30))⟩
          exact g_zret hQ C hr hlocks (by decide) hP hS dX10_appeal_66 ⟨0, (v 24), (2 : Int), (f 28), (f 29), (f 30), rfl, rfl, rfl, rfl, (by first | omega | (split <;> omega))⟩
  · refine lv_aload_n hx hb dX10_appeal_11 rfl (lv_at hl 0 rfl) ?_
    refine lv_iconst (v := iI 1) hx hb dX10_appeal_12 rfl ?_
    refine g_cv (As := [.int (iI 1)]) (rest := []) (n := 1) C hml (c_X10_deny l D k A ad hD (va_up (va_up v 24 (v 24)) 25 (v 25)) (va_up (va_up (va_up f 28 (f 28)) 29 (f 29)) 30 (f 30)) g 1 (by decide) (show 0 ≤ (1 : Int) ∧ (1 : Int) ≤ 10 from by omega)) mM_X10_140 mI_X10_deny mE_X10_deny mN_X10 mC_X10_deny (by decide +kernel) 0 (ci := 10) rfl rfl hP hS (fun _ h => h) ⟨Nat.le_of_ble_eq_true rfl, Nat.le_of_ble_eq_true rfl⟩ ⟨Nat.zero_le _, Nat.zero_le _⟩ hl.1 rfl rfl (Nat.le_of_ble_eq_true rfl) dX10_appeal_13 (fun r_24 v_24 f_24 g_24 H locs hq_24 hP _ hS => ?_)
    obtain ⟨rfl, rfl, rfl, rfl⟩ := hq_24
    show W p l e (gRm 1 23) s m args below meth c _ _ 0 0 Q (F0 m 16 ls [.int (iI 0)])
    have hP : gWd D (rwT k ad) (va_up (va_up v 24 (v 24)) 25 (1 : Int)) (va_up (va_up (va_up f 28 (f 28)) 29 (f 29)) 30 (f 30)) g H := ⟨hP.1, (gF_up (V := rwV) (F := rwF) (gF_up (V := rwV) (F := rwF) (gF_up (V := rwV) (F := rwF) (gR_up (V := rwV) (F := rwF) (gR_up (V := rwV) (F := rwF) ⟨hok.1, hok.2⟩ 24 (hP.2.1 24)) 25 (hP.2.1 25)) 28 (hP.2.2 28)) 29 (hP.2.2 29)) 30 (hP.2.2 30))⟩
    exact g_zret hQ C hr hlocks (by decide) hP hS dX10_appeal_16 ⟨0, (v 24), (1 : Int), (f 28), (f 29), (f 30), rfl, rfl, rfl, rfl, (by first | omega | (split <;> omega))⟩

set_option maxHeartbeats 4000000 in
set_option maxRecDepth 100000 in
theorem c_X10_of (l : Launch) (D : va_G) (k : Nat → ClassId) (A : Nat → Prop) (ad : Nat → Nat) (hD : rwD A k ad) (v : gV) (f g : gF) (a1 : Int) (a2 : Int) (a3 : Int) (a4 : Int) (a5 : Int) (h_a1 : inR a1) (h_a2 : inR a2) (h_a3 : inR a3) (h_a4 : inR a4) (h_a5 : inR a5) (hs : shOk (v 1) (f 1)) : GM l D k A (rwT k ad) yX10_of cX10_of 6 (some .int) 3 85 [.ref (ad 0), .int (iI a1), .int (iI a2), .int (iI a3), .int (iI a4), .int (iI a5)] v f g (fun r v1 f1 g1 => ∃ (z : Int) (w25 : Int) (a34_ : Int → Int) (a35_ : Int → Int) (a36_ : Int → Int) (a37_ : Int → Int) (a38_ : Int → Int) (a39_ : Int → Int) (b0_ : Int → Int), r = some (.int (iI z)) ∧ (va_up v 25 w25) = v1 ∧ (va_up (va_up (va_up (va_up (va_up (va_up f 34 a34_) 35 a35_) 36 a36_) 37 a37_) 38 a38_) 39 a39_) = f1 ∧ (va_up g 0 b0_) = g1 ∧ ((-2147483648) ≤ z ∧ z ≤ 2147483647)) := by
  refine GM.of (by decide) (Nat.le_of_ble_eq_true rfl) ?_
  intro p e s m args below meth c Q ls hQ C hml hr hlocks hP hl
  have hx := C.1
  have hb := C.2.1
  have hok := hP.2
  have hS : va_S A s.heap s.heap [] := va_S.rf
  have hl : lv_has ls 6 [(0, .ref (ad 0)), (1, .int (iI a1)), (2, .int (iI a2)), (3, .int (iI a3)), (4, .int (iI a4)), (5, .int (iI a5))] := hl
  have hP : gWd D (rwT k ad) (va_up v 25 (v 25)) (va_up (va_up (va_up (va_up (va_up (va_up f 34 (f 34)) 35 (f 35)) 36 (f 36)) 37 (f 37)) 38 (f 38)) 39 (f 39)) (va_up g 0 (g 0)) s.heap := by rw [va_id, va_id, va_id, va_id, va_id, va_id, va_id, va_id]; exact hP
  have r_1 : 0 ≤ (v 1) ∧ (v 1) ≤ 4 := hok.1 1
  have r_2 : 0 ≤ (v 21) ∧ (v 21) ≤ 16 := hok.1 21
  have r_3 : 0 ≤ (v 22) ∧ (v 22) ≤ 3 := hok.1 22
  refine lv_aload_n hx hb dX10_of_0 rfl (lv_at hl 0 rfl) ?_
  refine rwG_laws C hP mF_X10_16 dX10_of_1 ?_
  refine lv_iload_n hx hb dX10_of_4 rfl (lv_at hl 1 rfl) ?_
  refine lv_iload_n hx hb dX10_of_5 rfl (lv_at hl 2 rfl) ?_
  refine g_cv (As := [.int (iI a1), .int (iI a2)]) (rest := []) (n := 2) C hml (c_X4_hasRoute l D k A ad hD (va_up v 25 (v 25)) (va_up (va_up (va_up (va_up (va_up (va_up f 34 (f 34)) 35 (f 35)) 36 (f 36)) 37 (f 37)) 38 (f 38)) 39 (f 39)) (va_up g 0 (g 0)) a1 a2 (by omega) (by omega)) mM_X10_136 mI_X4_hasRoute mE_X4_hasRoute mN_X4 mC_X4_hasRoute (by decide +kernel) 2 (ci := 4) rfl rfl hP hS (fun _ h => h) ⟨Nat.le_of_ble_eq_true rfl, Nat.le_of_ble_eq_true rfl⟩ ⟨Nat.zero_le _, Nat.zero_le _⟩ hl.1 rfl rfl (Nat.le_of_ble_eq_true rfl) dX10_of_6 (fun r_4 v_4 f_4 g_4 H locs hq_4 hP _ hS => ?_)
  obtain ⟨z_4, rfl, rfl, rfl, rfl, p0_4⟩ := hq_4
  show W p l e (gRm 3 85) s m args below meth c _ _ 0 0 Q (F0 m 9 ls [.int (iI z_4)])
  replace p0_4 : z_4 = (if (0 ≤ a1 ∧ a1 < (v 1)) ∧ 0 ≤ a2 ∧ a2 < (f 1) (a1 * 4) then 1 else 0) := p0_4
  have w_4 := gif (P := (0 ≤ a1 ∧ a1 < (v 1)) ∧ 0 ≤ a2 ∧ a2 < (f 1) (a1 * 4)) p0_4
  have hz_4 : inR z_4 := (by first | omega | (rw [p0_4]; split <;> omega))
  have q_4 : z_4 = 1 → a2 ≤ 4 := fun h => by rcases w_4 with w | w; exact shR hs w.2; omega
  refine gi_zeq (tgt := 23) hx hb dX10_of_9 (by decide) (by omega) (fun c_5 => ?_) (fun c_5 => ?_)
  · refine lv_aload_n hx hb dX10_of_23 rfl (lv_at hl 0 rfl) ?_
    refine lv_iconst (v := iI 1) hx hb dX10_of_24 rfl ?_
    refine g_cv (As := [.int (iI 1)]) (rest := []) (n := 1) C hml (c_X10_refuse l D k A ad hD (va_up v 25 (v 25)) (va_up (va_up (va_up (va_up (va_up (va_up f 34 (f 34)) 35 (f 35)) 36 (f 36)) 37 (f 37)) 38 (f 38)) 39 (f 39)) (va_up g 0 (g 0)) 1 (by decide) (show 0 ≤ (1 : Int) ∧ (1 : Int) ≤ 10 from by omega)) mM_X10_88 mI_X10_refuse mE_X10_refuse mN_X10 mC_X10_refuse (by decide +kernel) 0 (ci := 10) rfl rfl hP hS (fun _ h => h) ⟨Nat.le_of_ble_eq_true rfl, Nat.le_of_ble_eq_true rfl⟩ ⟨Nat.zero_le _, Nat.zero_le _⟩ hl.1 rfl rfl (Nat.le_of_ble_eq_true rfl) dX10_of_25 (fun r_6 v_6 f_6 g_6 H locs hq_6 hP _ hS => ?_)
    obtain ⟨rfl, rfl, rfl, rfl⟩ := hq_6
    show W p l e (gRm 3 85) s m args below meth c _ _ 0 0 Q (F0 m 28 ls [.int (iI (-1))])
    have hP : gWd D (rwT k ad) (va_up v 25 (1 : Int)) (va_up (va_up (va_up (va_up (va_up (va_up f 34 (f 34)) 35 (f 35)) 36 (f 36)) 37 (f 37)) 38 (f 38)) 39 (f 39)) (va_up g 0 (g 0)) H := ⟨hP.1, (gF_up (V := rwV) (F := rwF) (gF_up (V := rwV) (F := rwF) (gF_up (V := rwV) (F := rwF) (gF_up (V := rwV) (F := rwF) (gF_up (V := rwV) (F := rwF) (gF_up (V := rwV) (F := rwF) (gR_up (V := rwV) (F := rwF) ⟨hok.1, hok.2⟩ 25 (hP.2.1 25)) 34 (hP.2.2 34)) 35 (hP.2.2 35)) 36 (hP.2.2 36)) 37 (hP.2.2 37)) 38 (hP.2.2 38)) 39 (hP.2.2 39))⟩
    exact g_iret hQ C hr hlocks hP hS dX10_of_28 ⟨(-1), (1 : Int), (f 34), (f 35), (f 36), (f 37), (f 38), (f 39), (g 0), rfl, rfl, rfl, rfl, (by first | omega | (split <;> omega))⟩
  · refine lv_aload_n hx hb dX10_of_12 rfl (lv_at hl 0 rfl) ?_
    refine rwG_field C hP mF_X10_37 dX10_of_13 ?_
    refine lv_iload_n hx hb dX10_of_16 rfl (lv_at hl 3 rfl) ?_
    refine g_cv (As := [.int (iI a3)]) (rest := []) (n := 1) C hml (c_X2_knows l D k A ad hD (va_up v 25 (v 25)) (va_up (va_up (va_up (va_up (va_up (va_up f 34 (f 34)) 35 (f 35)) 36 (f 36)) 37 (f 37)) 38 (f 38)) 39 (f 39)) (va_up g 0 (g 0)) a3 (by omega)) mM_X10_180 mI_X2_knows mE_X2_knows mN_X2 mC_X2_knows (by decide +kernel) 27 (ci := 2) rfl rfl hP hS (fun _ h => h) ⟨Nat.le_of_ble_eq_true rfl, Nat.le_of_ble_eq_true rfl⟩ ⟨Nat.zero_le _, Nat.zero_le _⟩ hl.1 rfl rfl (Nat.le_of_ble_eq_true rfl) dX10_of_17 (fun r_7 v_7 f_7 g_7 H locs hq_7 hP _ hS => ?_)
    obtain ⟨z_7, rfl, rfl, rfl, rfl, p0_7⟩ := hq_7
    show W p l e (gRm 3 85) s m args below meth c _ _ 0 0 Q (F0 m 20 ls [.int (iI z_7)])
    replace p0_7 : z_7 = (if 0 ≤ a3 ∧ a3 < (v 21) then 1 else 0) := p0_7
    have w_7 := gif (P := 0 ≤ a3 ∧ a3 < (v 21)) p0_7
    have hz_7 : inR z_7 := (by first | omega | (rw [p0_7]; split <;> omega))
    refine gi_zne (tgt := 29) hx hb dX10_of_20 (by decide) (by omega) (fun c_8 => ?_) (fun c_8 => ?_)
    · refine lv_iload hx hb dX10_of_29 (lv_at hl 4 rfl) ?_
      refine g_cs (As := [.int (iI a4)]) (rest := []) (n := 1) C hml (c_X10_isDay l D k A ad hD (va_up v 25 (v 25)) (va_up (va_up (va_up (va_up (va_up (va_up f 34 (f 34)) 35 (f 35)) 36 (f 36)) 37 (f 37)) 38 (f 38)) 39 (f 39)) (va_up g 0 (g 0)) a4 (by omega)) mM_X10_248 mS_X10_isDay mN_X10 mC_X10_isDay (by decide +kernel) hP hS (fun _ h => h) ⟨Nat.le_of_ble_eq_true rfl, Nat.le_of_ble_eq_true rfl⟩ ⟨Nat.zero_le _, Nat.zero_le _⟩ hl.1 rfl rfl (Nat.le_of_ble_eq_true rfl) dX10_of_31 (fun r_9 v_9 f_9 g_9 H locs hq_9 hP _ hS => ?_)
      obtain ⟨z_9, rfl, rfl, rfl, rfl, p0_9⟩ := hq_9
      show W p l e (gRm 3 85) s m args below meth c _ _ 0 0 Q (F0 m 34 ls [.int (iI z_9)])
      replace p0_9 : z_9 = (if 0 ≤ a4 ∧ a4 ≤ 999 then 1 else 0) := p0_9
      have w_9 := gif (P := 0 ≤ a4 ∧ a4 ≤ 999) p0_9
      have hz_9 : inR z_9 := (by first | omega | (rw [p0_9]; split <;> omega))
      refine gi_zeq (tgt := 49) hx hb dX10_of_34 (by decide) (by omega) (fun c_10 => ?_) (fun c_10 => ?_)
      · refine lv_aload_n hx hb dX10_of_49 rfl (lv_at hl 0 rfl) ?_
        refine lv_iconst (v := iI 2) hx hb dX10_of_50 rfl ?_
        refine g_cv (As := [.int (iI 2)]) (rest := []) (n := 1) C hml (c_X10_refuse l D k A ad hD (va_up v 25 (v 25)) (va_up (va_up (va_up (va_up (va_up (va_up f 34 (f 34)) 35 (f 35)) 36 (f 36)) 37 (f 37)) 38 (f 38)) 39 (f 39)) (va_up g 0 (g 0)) 2 (by decide) (show 0 ≤ (2 : Int) ∧ (2 : Int) ≤ 10 from by omega)) mM_X10_88 mI_X10_refuse mE_X10_refuse mN_X10 mC_X10_refuse (by decide +kernel) 0 (ci := 10) rfl rfl hP hS (fun _ h => h) ⟨Nat.le_of_ble_eq_true rfl, Nat.le_of_ble_eq_true rfl⟩ ⟨Nat.zero_le _, Nat.zero_le _⟩ hl.1 rfl rfl (Nat.le_of_ble_eq_true rfl) dX10_of_51 (fun r_11 v_11 f_11 g_11 H locs hq_11 hP _ hS => ?_)
        obtain ⟨rfl, rfl, rfl, rfl⟩ := hq_11
        show W p l e (gRm 3 85) s m args below meth c _ _ 0 0 Q (F0 m 54 ls [.int (iI (-1))])
        have hP : gWd D (rwT k ad) (va_up v 25 (2 : Int)) (va_up (va_up (va_up (va_up (va_up (va_up f 34 (f 34)) 35 (f 35)) 36 (f 36)) 37 (f 37)) 38 (f 38)) 39 (f 39)) (va_up g 0 (g 0)) H := ⟨hP.1, (gF_up (V := rwV) (F := rwF) (gF_up (V := rwV) (F := rwF) (gF_up (V := rwV) (F := rwF) (gF_up (V := rwV) (F := rwF) (gF_up (V := rwV) (F := rwF) (gF_up (V := rwV) (F := rwF) (gR_up (V := rwV) (F := rwF) ⟨hok.1, hok.2⟩ 25 (hP.2.1 25)) 34 (hP.2.2 34)) 35 (hP.2.2 35)) 36 (hP.2.2 36)) 37 (hP.2.2 37)) 38 (hP.2.2 38)) 39 (hP.2.2 39))⟩
        exact g_iret hQ C hr hlocks hP hS dX10_of_54 ⟨(-1), (2 : Int), (f 34), (f 35), (f 36), (f 37), (f 38), (f 39), (g 0), rfl, rfl, rfl, rfl, (by first | omega | (split <;> omega))⟩
      · refine lv_iload hx hb dX10_of_37 (lv_at hl 5 rfl) ?_
        refine gi_zlt (tgt := 49) hx hb dX10_of_39 (by decide) (by omega) (fun c_12 => ?_) (fun c_12 => ?_)
        · refine lv_aload_n hx hb dX10_of_49 rfl (lv_at hl 0 rfl) ?_
          refine lv_iconst (v := iI 2) hx hb dX10_of_50 rfl ?_
          refine g_cv (As := [.int (iI 2)]) (rest := []) (n := 1) C hml (c_X10_refuse l D k A ad hD (va_up v 25 (v 25)) (va_up (va_up (va_up (va_up (va_up (va_up f 34 (f 34)) 35 (f 35)) 36 (f 36)) 37 (f 37)) 38 (f 38)) 39 (f 39)) (va_up g 0 (g 0)) 2 (by decide) (show 0 ≤ (2 : Int) ∧ (2 : Int) ≤ 10 from by omega)) mM_X10_88 mI_X10_refuse mE_X10_refuse mN_X10 mC_X10_refuse (by decide +kernel) 0 (ci := 10) rfl rfl hP hS (fun _ h => h) ⟨Nat.le_of_ble_eq_true rfl, Nat.le_of_ble_eq_true rfl⟩ ⟨Nat.zero_le _, Nat.zero_le _⟩ hl.1 rfl rfl (Nat.le_of_ble_eq_true rfl) dX10_of_51 (fun r_13 v_13 f_13 g_13 H locs hq_13 hP _ hS => ?_)
          obtain ⟨rfl, rfl, rfl, rfl⟩ := hq_13
          show W p l e (gRm 3 85) s m args below meth c _ _ 0 0 Q (F0 m 54 ls [.int (iI (-1))])
          have hP : gWd D (rwT k ad) (va_up v 25 (2 : Int)) (va_up (va_up (va_up (va_up (va_up (va_up f 34 (f 34)) 35 (f 35)) 36 (f 36)) 37 (f 37)) 38 (f 38)) 39 (f 39)) (va_up g 0 (g 0)) H := ⟨hP.1, (gF_up (V := rwV) (F := rwF) (gF_up (V := rwV) (F := rwF) (gF_up (V := rwV) (F := rwF) (gF_up (V := rwV) (F := rwF) (gF_up (V := rwV) (F := rwF) (gF_up (V := rwV) (F := rwF) (gR_up (V := rwV) (F := rwF) ⟨hok.1, hok.2⟩ 25 (hP.2.1 25)) 34 (hP.2.2 34)) 35 (hP.2.2 35)) 36 (hP.2.2 36)) 37 (hP.2.2 37)) 38 (hP.2.2 38)) 39 (hP.2.2 39))⟩
          exact g_iret hQ C hr hlocks hP hS dX10_of_54 ⟨(-1), (2 : Int), (f 34), (f 35), (f 36), (f 37), (f 38), (f 39), (g 0), rfl, rfl, rfl, rfl, (by first | omega | (split <;> omega))⟩
        · refine lv_iload hx hb dX10_of_42 (lv_at hl 5 rfl) ?_
          refine lv_bipush (v := iI 6) hx hb dX10_of_44 (by decide) ?_
          refine gi_cle (tgt := 55) hx hb dX10_of_46 (by decide) (by omega) (by decide) (fun c_14 => ?_) (fun c_14 => ?_)
          · refine lv_aload_n hx hb dX10_of_55 rfl (lv_at hl 0 rfl) ?_
            refine rwG_results C hP mF_X10_67 dX10_of_56 ?_
            refine lv_iload hx hb dX10_of_59 (lv_at hl 4 rfl) ?_
            refine g_cv (As := [.int (iI a4)]) (rest := []) (n := 1) C hml (c_X5_survey l D k A ad hD (va_up v 25 (v 25)) (va_up (va_up (va_up (va_up (va_up (va_up f 34 (f 34)) 35 (f 35)) 36 (f 36)) 37 (f 37)) 38 (f 38)) 39 (f 39)) (va_up g 0 (g 0)) a4 (by omega)) mM_X10_255 mI_X5_survey mE_X5_survey mN_X5 mC_X5_survey (by decide +kernel) 47 (ci := 5) rfl rfl hP hS (fun _ h => h) ⟨Nat.le_of_ble_eq_true rfl, Nat.le_of_ble_eq_true rfl⟩ ⟨Nat.zero_le _, Nat.zero_le _⟩ hl.1 rfl rfl (Nat.le_of_ble_eq_true rfl) dX10_of_61 (fun r_15 v_15 f_15 g_15 H locs hq_15 hP _ hS => ?_)
            obtain ⟨a34_15, a35_15, a36_15, a37_15, a38_15, rfl, rfl, rfl, rfl⟩ := hq_15
            show W p l e (gRm 3 85) s m args below meth c _ _ 0 0 Q (F0 m 64 ls [])
            have hP : gWd D (rwT k ad) (va_up v 25 (v 25)) (va_up (va_up (va_up (va_up (va_up (va_up f 34 a34_15) 35 a35_15) 36 a36_15) 37 a37_15) 38 a38_15) 39 (f 39)) (va_up g 0 (g 0)) H := ⟨hP.1, (gF_up (V := rwV) (F := rwF) (gF_up (V := rwV) (F := rwF) (gF_up (V := rwV) (F := rwF) (gF_up (V := rwV) (F := rwF) (gF_up (V := rwV) (F := rwF) (gF_up (V := rwV) (F := rwF) (gR_up (V := rwV) (F := rwF) ⟨hok.1, hok.2⟩ 25 (hP.2.1 25)) 34 (hP.2.2 34)) 35 (hP.2.2 35)) 36 (hP.2.2 36)) 37 (hP.2.2 37)) 38 (hP.2.2 38)) 39 (hP.2.2 39))⟩
            refine lv_aload_n hx hb dX10_of_64 rfl (lv_at hl 0 rfl) ?_
            refine rwG_results C hP mF_X10_67 dX10_of_65 ?_
            refine lv_iload_n hx hb dX10_of_68 rfl (lv_at hl 1 rfl) ?_
            refine lv_iload_n hx hb dX10_of_69 rfl (lv_at hl 3 rfl) ?_
            refine lv_iload_n hx hb dX10_of_70 rfl (lv_at hl 2 rfl) ?_
            refine g_cv (As := [.int (iI a1), .int (iI a3), .int (iI a2)]) (rest := []) (n := 3) C hml (c_X5_workFacts l D k A ad hD (va_up v 25 (v 25)) (va_up (va_up (va_up (va_up (va_up (va_up f 34 a34_15) 35 a35_15) 36 a36_15) 37 a37_15) 38 a38_15) 39 (f 39)) (va_up g 0 (g 0)) a1 a3 a2 (by omega) (by omega) (by omega) (show 0 ≤ a1 ∧ a1 ≤ 3 from by omega) (show 0 ≤ a3 ∧ a3 ≤ 15 from by omega) (show 0 ≤ a2 ∧ a2 ≤ 4 from by omega)) mM_X10_258 mI_X5_workFacts mE_X5_workFacts mN_X5 mC_X5_workFacts (by decide +kernel) 47 (ci := 5) rfl rfl hP hS (fun _ h => h) ⟨Nat.le_of_ble_eq_true rfl, Nat.le_of_ble_eq_true rfl⟩ ⟨Nat.zero_le _, Nat.zero_le _⟩ hl.1 rfl rfl (Nat.le_of_ble_eq_true rfl) dX10_of_71 (fun r_16 v_16 f_16 g_16 H locs hq_16 hP _ hS => ?_)
            obtain ⟨a39_16, rfl, rfl, rfl, rfl⟩ := hq_16
            show W p l e (gRm 3 85) s m args below meth c _ _ 0 0 Q (F0 m 74 ls [])
            have hP : gWd D (rwT k ad) (va_up v 25 (v 25)) (va_up (va_up (va_up (va_up (va_up (va_up f 34 a34_15) 35 a35_15) 36 a36_15) 37 a37_15) 38 a38_15) 39 a39_16) (va_up g 0 (g 0)) H := ⟨hP.1, (gF_up (V := rwV) (F := rwF) (gF_up (V := rwV) (F := rwF) (gF_up (V := rwV) (F := rwF) (gF_up (V := rwV) (F := rwF) (gF_up (V := rwV) (F := rwF) (gF_up (V := rwV) (F := rwF) (gR_up (V := rwV) (F := rwF) ⟨hok.1, hok.2⟩ 25 (hP.2.1 25)) 34 (hP.2.2 34)) 35 (hP.2.2 35)) 36 (hP.2.2 36)) 37 (hP.2.2 37)) 38 (hP.2.2 38)) 39 (hP.2.2 39))⟩
            refine lv_aload_n hx hb dX10_of_74 rfl (lv_at hl 0 rfl) ?_
            refine lv_iload hx hb dX10_of_75 (lv_at hl 5 rfl) ?_
            refine lv_bipush (v := iI 6) hx hb dX10_of_77 (by decide) ?_
            refine gi_cne (tgt := 99) hx hb dX10_of_79 (by decide) (by omega) (by decide) (fun c_17 => ?_) (fun c_17 => ?_)
            · refine lv_aload_n hx hb dX10_of_99 rfl (lv_at hl 0 rfl) ?_
              refine rwG_results C hP mF_X10_67 dX10_of_100 ?_
              refine rwG_results_facts C hP mF_X10_261 dX10_of_103 ?_
              refine lv_iload hx hb dX10_of_106 (lv_at hl 5 rfl) ?_
              refine rwL_results_facts C hP (by omega) (by omega) dX10_of_108 ?_
              show W p l e (gRm 3 85) s m args below meth c _ _ 0 0 Q (F0 m 109 ls [.int (iI (a39_16 a5)), .ref (ad 0)])
              have r_18 : (-2000000) ≤ (a39_16 a5) ∧ (a39_16 a5) ≤ 2000000 := hP.2.2 39 a5
              refine g_cv (As := [.int (iI (a39_16 a5))]) (rest := []) (n := 1) C hml (c_X10_answer l D k A ad hD (va_up v 25 (v 25)) (va_up (va_up (va_up (va_up (va_up (va_up f 34 a34_15) 35 a35_15) 36 a36_15) 37 a37_15) 38 a38_15) 39 a39_16) (va_up g 0 (g 0)) (a39_16 a5) (by omega)) mM_X10_120 mI_X10_answer mE_X10_answer mN_X10 mC_X10_answer (by decide +kernel) 0 (ci := 10) rfl rfl hP hS (fun _ h => h) ⟨Nat.le_of_ble_eq_true rfl, Nat.le_of_ble_eq_true rfl⟩ ⟨Nat.zero_le _, Nat.zero_le _⟩ hl.1 rfl rfl (Nat.le_of_ble_eq_true rfl) dX10_of_109 (fun r_19 v_19 f_19 g_19 H locs hq_19 hP _ hS => ?_)
              obtain ⟨z_19, rfl, rfl, rfl, rfl, p0_19⟩ := hq_19
              show W p l e (gRm 3 85) s m args below meth c _ _ 0 0 Q (F0 m 112 ls [.int (iI z_19)])
              have hP : gWd D (rwT k ad) (va_up v 25 0) (va_up (va_up (va_up (va_up (va_up (va_up f 34 a34_15) 35 a35_15) 36 a36_15) 37 a37_15) 38 a38_15) 39 a39_16) (va_up g 0 (g 0)) H := ⟨hP.1, (gF_up (V := rwV) (F := rwF) (gF_up (V := rwV) (F := rwF) (gF_up (V := rwV) (F := rwF) (gF_up (V := rwV) (F := rwF) (gF_up (V := rwV) (F := rwF) (gF_up (V := rwV) (F := rwF) (gR_up (V := rwV) (F := rwF) ⟨hok.1, hok.2⟩ 25 (hP.2.1 25)) 34 (hP.2.2 34)) 35 (hP.2.2 35)) 36 (hP.2.2 36)) 37 (hP.2.2 37)) 38 (hP.2.2 38)) 39 (hP.2.2 39))⟩
              replace p0_19 : z_19 = (a39_16 a5) := p0_19
              have hz_19 : inR z_19 := (by first | omega | (rw [p0_19]; split <;> omega))
              exact g_iret hQ C hr hlocks hP hS dX10_of_112 ⟨z_19, 0, a34_15, a35_15, a36_15, a37_15, a38_15, a39_16, (g 0), rfl, rfl, rfl, rfl, (by first | omega | (split <;> omega))⟩
            · refine lv_aload_n hx hb dX10_of_82 rfl (lv_at hl 0 rfl) ?_
              refine rwG_laws C hP mF_X10_16 dX10_of_83 ?_
              refine lv_aload_n hx hb dX10_of_86 rfl (lv_at hl 0 rfl) ?_
              refine rwG_results C hP mF_X10_67 dX10_of_87 ?_
              refine rwG_results_facts C hP mF_X10_261 dX10_of_90 ?_
              refine g_cv (As := [.ref (ad 53)]) (rest := [.ref (ad 0)]) (n := 1) C hml (c_X4_pointsFor l D k A ad hD (va_up v 25 (v 25)) (va_up (va_up (va_up (va_up (va_up (va_up f 34 a34_15) 35 a35_15) 36 a36_15) 37 a37_15) 38 a38_15) 39 a39_16) (va_up g 0 (g 0))) mM_X10_264 mI_X4_pointsFor mE_X4_pointsFor mN_X4 mC_X4_pointsFor (by decide +kernel) 2 (ci := 4) rfl rfl hP hS (fun _ h => h) ⟨Nat.le_of_ble_eq_true rfl, Nat.le_of_ble_eq_true rfl⟩ ⟨Nat.zero_le _, Nat.zero_le _⟩ hl.1 rfl rfl (Nat.le_of_ble_eq_true rfl) dX10_of_93 (fun r_20 v_20 f_20 g_20 H locs hq_20 hP _ hS => ?_)
              obtain ⟨z_20, b0_20, rfl, rfl, rfl, rfl, p0_20⟩ := hq_20
              show W p l e (gRm 3 85) s m args below meth c _ _ 0 0 Q (F0 m 96 ls [.int (iI z_20), .ref (ad 0)])
              have hP : gWd D (rwT k ad) (va_up v 25 (v 25)) (va_up (va_up (va_up (va_up (va_up (va_up f 34 a34_15) 35 a35_15) 36 a36_15) 37 a37_15) 38 a38_15) 39 a39_16) (va_up g 0 b0_20) H := ⟨hP.1, (gF_up (V := rwV) (F := rwF) (gF_up (V := rwV) (F := rwF) (gF_up (V := rwV) (F := rwF) (gF_up (V := rwV) (F := rwF) (gF_up (V := rwV) (F := rwF) (gF_up (V := rwV) (F := rwF) (gR_up (V := rwV) (F := rwF) ⟨hok.1, hok.2⟩ 25 (hP.2.1 25)) 34 (hP.2.2 34)) 35 (hP.2.2 35)) 36 (hP.2.2 36)) 37 (hP.2.2 37)) 38 (hP.2.2 38)) 39 (hP.2.2 39))⟩
              replace p0_20 : (-2147483648) ≤ z_20 ∧ z_20 ≤ 2147483647 := p0_20
              refine lv_goto (tgt := 109) hx hb dX10_of_96 (by decide) ?_
              refine g_cv (As := [.int (iI z_20)]) (rest := []) (n := 1) C hml (c_X10_answer l D k A ad hD (va_up v 25 (v 25)) (va_up (va_up (va_up (va_up (va_up (va_up f 34 a34_15) 35 a35_15) 36 a36_15) 37 a37_15) 38 a38_15) 39 a39_16) (va_up g 0 b0_20) z_20 (by omega)) mM_X10_120 mI_X10_answer mE_X10_answer mN_X10 mC_X10_answer (by decide +kernel) 0 (ci := 10) rfl rfl hP hS (fun _ h => h) ⟨Nat.le_of_ble_eq_true rfl, Nat.le_of_ble_eq_true rfl⟩ ⟨Nat.zero_le _, Nat.zero_le _⟩ hl.1 rfl rfl (Nat.le_of_ble_eq_true rfl) dX10_of_109 (fun r_21 v_21 f_21 g_21 H locs hq_21 hP _ hS => ?_)
              obtain ⟨z_21, rfl, rfl, rfl, rfl, p0_21⟩ := hq_21
              show W p l e (gRm 3 85) s m args below meth c _ _ 0 0 Q (F0 m 112 ls [.int (iI z_21)])
              have hP : gWd D (rwT k ad) (va_up v 25 0) (va_up (va_up (va_up (va_up (va_up (va_up f 34 a34_15) 35 a35_15) 36 a36_15) 37 a37_15) 38 a38_15) 39 a39_16) (va_up g 0 b0_20) H := ⟨hP.1, (gF_up (V := rwV) (F := rwF) (gF_up (V := rwV) (F := rwF) (gF_up (V := rwV) (F := rwF) (gF_up (V := rwV) (F := rwF) (gF_up (V := rwV) (F := rwF) (gF_up (V := rwV) (F := rwF) (gR_up (V := rwV) (F := rwF) ⟨hok.1, hok.2⟩ 25 (hP.2.1 25)) 34 (hP.2.2 34)) 35 (hP.2.2 35)) 36 (hP.2.2 36)) 37 (hP.2.2 37)) 38 (hP.2.2 38)) 39 (hP.2.2 39))⟩
              replace p0_21 : z_21 = z_20 := p0_21
              have hz_21 : inR z_21 := (by first | omega | (rw [p0_21]; split <;> omega))
              exact g_iret hQ C hr hlocks hP hS dX10_of_112 ⟨z_21, 0, a34_15, a35_15, a36_15, a37_15, a38_15, a39_16, b0_20, rfl, rfl, rfl, rfl, (by first | omega | (split <;> omega))⟩
          · refine lv_aload_n hx hb dX10_of_49 rfl (lv_at hl 0 rfl) ?_
            refine lv_iconst (v := iI 2) hx hb dX10_of_50 rfl ?_
            refine g_cv (As := [.int (iI 2)]) (rest := []) (n := 1) C hml (c_X10_refuse l D k A ad hD (va_up v 25 (v 25)) (va_up (va_up (va_up (va_up (va_up (va_up f 34 (f 34)) 35 (f 35)) 36 (f 36)) 37 (f 37)) 38 (f 38)) 39 (f 39)) (va_up g 0 (g 0)) 2 (by decide) (show 0 ≤ (2 : Int) ∧ (2 : Int) ≤ 10 from by omega)) mM_X10_88 mI_X10_refuse mE_X10_refuse mN_X10 mC_X10_refuse (by decide +kernel) 0 (ci := 10) rfl rfl hP hS (fun _ h => h) ⟨Nat.le_of_ble_eq_true rfl, Nat.le_of_ble_eq_true rfl⟩ ⟨Nat.zero_le _, Nat.zero_le _⟩ hl.1 rfl rfl (Nat.le_of_ble_eq_true rfl) dX10_of_51 (fun r_22 v_22 f_22 g_22 H locs hq_22 hP _ hS => ?_)
            obtain ⟨rfl, rfl, rfl, rfl⟩ := hq_22
            show W p l e (gRm 3 85) s m args below meth c _ _ 0 0 Q (F0 m 54 ls [.int (iI (-1))])
            have hP : gWd D (rwT k ad) (va_up v 25 (2 : Int)) (va_up (va_up (va_up (va_up (va_up (va_up f 34 (f 34)) 35 (f 35)) 36 (f 36)) 37 (f 37)) 38 (f 38)) 39 (f 39)) (va_up g 0 (g 0)) H := ⟨hP.1, (gF_up (V := rwV) (F := rwF) (gF_up (V := rwV) (F := rwF) (gF_up (V := rwV) (F := rwF) (gF_up (V := rwV) (F := rwF) (gF_up (V := rwV) (F := rwF) (gF_up (V := rwV) (F := rwF) (gR_up (V := rwV) (F := rwF) ⟨hok.1, hok.2⟩ 25 (hP.2.1 25)) 34 (hP.2.2 34)) 35 (hP.2.2 35)) 36 (hP.2.2 36)) 37 (hP.2.2 37)) 38 (hP.2.2 38)) 39 (hP.2.2 39))⟩
            exact g_iret hQ C hr hlocks hP hS dX10_of_54 ⟨(-1), (2 : Int), (f 34), (f 35), (f 36), (f 37), (f 38), (f 39), (g 0), rfl, rfl, rfl, rfl, (by first | omega | (split <;> omega))⟩
    · refine lv_aload_n hx hb dX10_of_23 rfl (lv_at hl 0 rfl) ?_
      refine lv_iconst (v := iI 1) hx hb dX10_of_24 rfl ?_
      refine g_cv (As := [.int (iI 1)]) (rest := []) (n := 1) C hml (c_X10_refuse l D k A ad hD (va_up v 25 (v 25)) (va_up (va_up (va_up (va_up (va_up (va_up f 34 (f 34)) 35 (f 35)) 36 (f 36)) 37 (f 37)) 38 (f 38)) 39 (f 39)) (va_up g 0 (g 0)) 1 (by decide) (show 0 ≤ (1 : Int) ∧ (1 : Int) ≤ 10 from by omega)) mM_X10_88 mI_X10_refuse mE_X10_refuse mN_X10 mC_X10_refuse (by decide +kernel) 0 (ci := 10) rfl rfl hP hS (fun _ h => h) ⟨Nat.le_of_ble_eq_true rfl, Nat.le_of_ble_eq_true rfl⟩ ⟨Nat.zero_le _, Nat.zero_le _⟩ hl.1 rfl rfl (Nat.le_of_ble_eq_true rfl) dX10_of_25 (fun r_23 v_23 f_23 g_23 H locs hq_23 hP _ hS => ?_)
      obtain ⟨rfl, rfl, rfl, rfl⟩ := hq_23
      show W p l e (gRm 3 85) s m args below meth c _ _ 0 0 Q (F0 m 28 ls [.int (iI (-1))])
      have hP : gWd D (rwT k ad) (va_up v 25 (1 : Int)) (va_up (va_up (va_up (va_up (va_up (va_up f 34 (f 34)) 35 (f 35)) 36 (f 36)) 37 (f 37)) 38 (f 38)) 39 (f 39)) (va_up g 0 (g 0)) H := ⟨hP.1, (gF_up (V := rwV) (F := rwF) (gF_up (V := rwV) (F := rwF) (gF_up (V := rwV) (F := rwF) (gF_up (V := rwV) (F := rwF) (gF_up (V := rwV) (F := rwF) (gF_up (V := rwV) (F := rwF) (gR_up (V := rwV) (F := rwF) ⟨hok.1, hok.2⟩ 25 (hP.2.1 25)) 34 (hP.2.2 34)) 35 (hP.2.2 35)) 36 (hP.2.2 36)) 37 (hP.2.2 37)) 38 (hP.2.2 38)) 39 (hP.2.2 39))⟩
      exact g_iret hQ C hr hlocks hP hS dX10_of_28 ⟨(-1), (1 : Int), (f 34), (f 35), (f 36), (f 37), (f 38), (f 39), (g 0), rfl, rfl, rfl, rfl, (by first | omega | (split <;> omega))⟩

set_option maxHeartbeats 4000000 in
set_option maxRecDepth 100000 in
theorem c_X10_key (l : Launch) (D : va_G) (k : Nat → ClassId) (A : Nat → Prop) (ad : Nat → Nat) (hD : rwD A k ad) (v : gV) (f g : gF) (a1 : Int) (a2 : Int) (a3 : Int) (a4 : Int) (h_a1 : inR a1) (h_a2 : inR a2) (h_a3 : inR a3) (h_a4 : inR a4) (hs : shOk (v 1) (f 1)) : GM l D k A (rwT k ad) yX10_key cX10_key 5 (some .long) 4 109 [.ref (ad 0), .int (iI a1), .int (iI a2), .int (iI a3), .int (iI a4)] v f g (fun r v1 f1 g1 => ∃ (z : Int) (w25 : Int) (a34_ : Int → Int) (a35_ : Int → Int) (a36_ : Int → Int) (a37_ : Int → Int) (a38_ : Int → Int) (a39_ : Int → Int) (b0_ : Int → Int) (b2_ : Int → Int) (b3_ : Int → Int), r = some (.long (iL z)) ∧ (va_up v 25 w25) = v1 ∧ (va_up (va_up (va_up (va_up (va_up (va_up f 34 a34_) 35 a35_) 36 a36_) 37 a37_) 38 a38_) 39 a39_) = f1 ∧ (va_up (va_up (va_up g 0 b0_) 2 b2_) 3 b3_) = g1) := by
  refine GM.of (by decide) (Nat.le_of_ble_eq_true rfl) ?_
  intro p e s m args below meth c Q ls hQ C hml hr hlocks hP hl
  have hx := C.1
  have hb := C.2.1
  have hok := hP.2
  have hS : va_S A s.heap s.heap [] := va_S.rf
  have hl : lv_has ls 5 [(0, .ref (ad 0)), (1, .int (iI a1)), (2, .int (iI a2)), (3, .int (iI a3)), (4, .int (iI a4))] := hl
  have hP : gWd D (rwT k ad) (va_up v 25 (v 25)) (va_up (va_up (va_up (va_up (va_up (va_up f 34 (f 34)) 35 (f 35)) 36 (f 36)) 37 (f 37)) 38 (f 38)) 39 (f 39)) (va_up (va_up (va_up g 0 (g 0)) 2 (g 2)) 3 (g 3)) s.heap := by rw [va_id, va_id, va_id, va_id, va_id, va_id, va_id, va_id, va_id, va_id]; exact hP
  have r_1 : 0 ≤ (v 1) ∧ (v 1) ≤ 4 := hok.1 1
  have r_2 : 0 ≤ (v 21) ∧ (v 21) ≤ 16 := hok.1 21
  have r_3 : 0 ≤ (v 3) ∧ (v 3) ≤ 4 := hok.1 3
  refine lv_aload_n hx hb dX10_key_0 rfl (lv_at hl 0 rfl) ?_
  refine rwG_laws C hP mF_X10_16 dX10_key_1 ?_
  refine lv_iload_n hx hb dX10_key_4 rfl (lv_at hl 1 rfl) ?_
  refine g_cv (As := [.int (iI a1)]) (rest := []) (n := 1) C hml (c_X4_hasRound l D k A ad hD (va_up v 25 (v 25)) (va_up (va_up (va_up (va_up (va_up (va_up f 34 (f 34)) 35 (f 35)) 36 (f 36)) 37 (f 37)) 38 (f 38)) 39 (f 39)) (va_up (va_up (va_up g 0 (g 0)) 2 (g 2)) 3 (g 3)) a1 (by omega)) mM_X10_164 mI_X4_hasRound mE_X4_hasRound mN_X4 mC_X4_hasRound (by decide +kernel) 2 (ci := 4) rfl rfl hP hS (fun _ h => h) ⟨Nat.le_of_ble_eq_true rfl, Nat.le_of_ble_eq_true rfl⟩ ⟨Nat.zero_le _, Nat.zero_le _⟩ hl.1 rfl rfl (Nat.le_of_ble_eq_true rfl) dX10_key_5 (fun r_4 v_4 f_4 g_4 H locs hq_4 hP _ hS => ?_)
  obtain ⟨z_4, rfl, rfl, rfl, rfl, p0_4⟩ := hq_4
  show W p l e (gRm 4 109) s m args below meth c _ _ 0 0 Q (F0 m 8 ls [.int (iI z_4)])
  replace p0_4 : z_4 = (if 0 ≤ a1 ∧ a1 < (v 1) then 1 else 0) := p0_4
  have w_4 := gif (P := 0 ≤ a1 ∧ a1 < (v 1)) p0_4
  have hz_4 : inR z_4 := (by first | omega | (rw [p0_4]; split <;> omega))
  refine gi_zeq (tgt := 40) hx hb dX10_key_8 (by decide) (by omega) (fun c_5 => ?_) (fun c_5 => ?_)
  · refine lv_aload_n hx hb dX10_key_40 rfl (lv_at hl 0 rfl) ?_
    refine lv_iconst (v := iI 1) hx hb dX10_key_41 rfl ?_
    refine g_cv (As := [.int (iI 1)]) (rest := []) (n := 1) C hml (c_X10_refuse l D k A ad hD (va_up v 25 (v 25)) (va_up (va_up (va_up (va_up (va_up (va_up f 34 (f 34)) 35 (f 35)) 36 (f 36)) 37 (f 37)) 38 (f 38)) 39 (f 39)) (va_up (va_up (va_up g 0 (g 0)) 2 (g 2)) 3 (g 3)) 1 (by decide) (show 0 ≤ (1 : Int) ∧ (1 : Int) ≤ 10 from by omega)) mM_X10_88 mI_X10_refuse mE_X10_refuse mN_X10 mC_X10_refuse (by decide +kernel) 0 (ci := 10) rfl rfl hP hS (fun _ h => h) ⟨Nat.le_of_ble_eq_true rfl, Nat.le_of_ble_eq_true rfl⟩ ⟨Nat.zero_le _, Nat.zero_le _⟩ hl.1 rfl rfl (Nat.le_of_ble_eq_true rfl) dX10_key_42 (fun r_6 v_6 f_6 g_6 H locs hq_6 hP _ hS => ?_)
    obtain ⟨rfl, rfl, rfl, rfl⟩ := hq_6
    show W p l e (gRm 4 109) s m args below meth c _ _ 0 0 Q (F0 m 45 ls [.int (iI (-1))])
    have hP : gWd D (rwT k ad) (va_up v 25 (1 : Int)) (va_up (va_up (va_up (va_up (va_up (va_up f 34 (f 34)) 35 (f 35)) 36 (f 36)) 37 (f 37)) 38 (f 38)) 39 (f 39)) (va_up (va_up (va_up g 0 (g 0)) 2 (g 2)) 3 (g 3)) H := ⟨hP.1, (gF_up (V := rwV) (F := rwF) (gF_up (V := rwV) (F := rwF) (gF_up (V := rwV) (F := rwF) (gF_up (V := rwV) (F := rwF) (gF_up (V := rwV) (F := rwF) (gF_up (V := rwV) (F := rwF) (gR_up (V := rwV) (F := rwF) ⟨hok.1, hok.2⟩ 25 (hP.2.1 25)) 34 (hP.2.2 34)) 35 (hP.2.2 35)) 36 (hP.2.2 36)) 37 (hP.2.2 37)) 38 (hP.2.2 38)) 39 (hP.2.2 39))⟩
    refine gi_i2l hx hb (by decide) dX10_key_45 ?_
    exact g_lret hQ C hr hlocks hP hS dX10_key_46 ⟨(-1), (1 : Int), (f 34), (f 35), (f 36), (f 37), (f 38), (f 39), (g 0), (g 2), (g 3), rfl, rfl, rfl, rfl⟩
  · refine lv_aload_n hx hb dX10_key_11 rfl (lv_at hl 0 rfl) ?_
    refine rwG_field C hP mF_X10_37 dX10_key_12 ?_
    refine lv_iload_n hx hb dX10_key_15 rfl (lv_at hl 1 rfl) ?_
    refine lv_iload_n hx hb dX10_key_16 rfl (lv_at hl 2 rfl) ?_
    refine g_cv (As := [.int (iI a1), .int (iI a2)]) (rest := []) (n := 2) C hml (c_X2_isIn l D k A ad hD (va_up v 25 (v 25)) (va_up (va_up (va_up (va_up (va_up (va_up f 34 (f 34)) 35 (f 35)) 36 (f 36)) 37 (f 37)) 38 (f 38)) 39 (f 39)) (va_up (va_up (va_up g 0 (g 0)) 2 (g 2)) 3 (g 3)) a1 a2 (by omega) (by omega)) mM_X10_268 mI_X2_isIn mE_X2_isIn mN_X2 mC_X2_isIn (by decide +kernel) 27 (ci := 2) rfl rfl hP hS (fun _ h => h) ⟨Nat.le_of_ble_eq_true rfl, Nat.le_of_ble_eq_true rfl⟩ ⟨Nat.zero_le _, Nat.zero_le _⟩ hl.1 rfl rfl (Nat.le_of_ble_eq_true rfl) dX10_key_17 (fun r_7 v_7 f_7 g_7 H locs hq_7 hP _ hS => ?_)
    obtain ⟨z_7, rfl, rfl, rfl, rfl, p0_7⟩ := hq_7
    show W p l e (gRm 4 109) s m args below meth c _ _ 0 0 Q (F0 m 20 ls [.int (iI z_7)])
    replace p0_7 : z_7 = (if (0 ≤ a2 ∧ a2 < (v 21)) ∧ a1 ≤ (f 18) a2 then 1 else 0) := p0_7
    have w_7 := gif (P := (0 ≤ a2 ∧ a2 < (v 21)) ∧ a1 ≤ (f 18) a2) p0_7
    have hz_7 : inR z_7 := (by first | omega | (rw [p0_7]; split <;> omega))
    refine gi_zeq (tgt := 40) hx hb dX10_key_20 (by decide) (by omega) (fun c_8 => ?_) (fun c_8 => ?_)
    · refine lv_aload_n hx hb dX10_key_40 rfl (lv_at hl 0 rfl) ?_
      refine lv_iconst (v := iI 1) hx hb dX10_key_41 rfl ?_
      refine g_cv (As := [.int (iI 1)]) (rest := []) (n := 1) C hml (c_X10_refuse l D k A ad hD (va_up v 25 (v 25)) (va_up (va_up (va_up (va_up (va_up (va_up f 34 (f 34)) 35 (f 35)) 36 (f 36)) 37 (f 37)) 38 (f 38)) 39 (f 39)) (va_up (va_up (va_up g 0 (g 0)) 2 (g 2)) 3 (g 3)) 1 (by decide) (show 0 ≤ (1 : Int) ∧ (1 : Int) ≤ 10 from by omega)) mM_X10_88 mI_X10_refuse mE_X10_refuse mN_X10 mC_X10_refuse (by decide +kernel) 0 (ci := 10) rfl rfl hP hS (fun _ h => h) ⟨Nat.le_of_ble_eq_true rfl, Nat.le_of_ble_eq_true rfl⟩ ⟨Nat.zero_le _, Nat.zero_le _⟩ hl.1 rfl rfl (Nat.le_of_ble_eq_true rfl) dX10_key_42 (fun r_9 v_9 f_9 g_9 H locs hq_9 hP _ hS => ?_)
      obtain ⟨rfl, rfl, rfl, rfl⟩ := hq_9
      show W p l e (gRm 4 109) s m args below meth c _ _ 0 0 Q (F0 m 45 ls [.int (iI (-1))])
      have hP : gWd D (rwT k ad) (va_up v 25 (1 : Int)) (va_up (va_up (va_up (va_up (va_up (va_up f 34 (f 34)) 35 (f 35)) 36 (f 36)) 37 (f 37)) 38 (f 38)) 39 (f 39)) (va_up (va_up (va_up g 0 (g 0)) 2 (g 2)) 3 (g 3)) H := ⟨hP.1, (gF_up (V := rwV) (F := rwF) (gF_up (V := rwV) (F := rwF) (gF_up (V := rwV) (F := rwF) (gF_up (V := rwV) (F := rwF) (gF_up (V := rwV) (F := rwF) (gF_up (V := rwV) (F := rwF) (gR_up (V := rwV) (F := rwF) ⟨hok.1, hok.2⟩ 25 (hP.2.1 25)) 34 (hP.2.2 34)) 35 (hP.2.2 35)) 36 (hP.2.2 36)) 37 (hP.2.2 37)) 38 (hP.2.2 38)) 39 (hP.2.2 39))⟩
      refine gi_i2l hx hb (by decide) dX10_key_45 ?_
      exact g_lret hQ C hr hlocks hP hS dX10_key_46 ⟨(-1), (1 : Int), (f 34), (f 35), (f 36), (f 37), (f 38), (f 39), (g 0), (g 2), (g 3), rfl, rfl, rfl, rfl⟩
    · refine lv_iload hx hb dX10_key_23 (lv_at hl 4 rfl) ?_
      refine gi_zlt (tgt := 40) hx hb dX10_key_25 (by decide) (by omega) (fun c_10 => ?_) (fun c_10 => ?_)
      · refine lv_aload_n hx hb dX10_key_40 rfl (lv_at hl 0 rfl) ?_
        refine lv_iconst (v := iI 1) hx hb dX10_key_41 rfl ?_
        refine g_cv (As := [.int (iI 1)]) (rest := []) (n := 1) C hml (c_X10_refuse l D k A ad hD (va_up v 25 (v 25)) (va_up (va_up (va_up (va_up (va_up (va_up f 34 (f 34)) 35 (f 35)) 36 (f 36)) 37 (f 37)) 38 (f 38)) 39 (f 39)) (va_up (va_up (va_up g 0 (g 0)) 2 (g 2)) 3 (g 3)) 1 (by decide) (show 0 ≤ (1 : Int) ∧ (1 : Int) ≤ 10 from by omega)) mM_X10_88 mI_X10_refuse mE_X10_refuse mN_X10 mC_X10_refuse (by decide +kernel) 0 (ci := 10) rfl rfl hP hS (fun _ h => h) ⟨Nat.le_of_ble_eq_true rfl, Nat.le_of_ble_eq_true rfl⟩ ⟨Nat.zero_le _, Nat.zero_le _⟩ hl.1 rfl rfl (Nat.le_of_ble_eq_true rfl) dX10_key_42 (fun r_11 v_11 f_11 g_11 H locs hq_11 hP _ hS => ?_)
        obtain ⟨rfl, rfl, rfl, rfl⟩ := hq_11
        show W p l e (gRm 4 109) s m args below meth c _ _ 0 0 Q (F0 m 45 ls [.int (iI (-1))])
        have hP : gWd D (rwT k ad) (va_up v 25 (1 : Int)) (va_up (va_up (va_up (va_up (va_up (va_up f 34 (f 34)) 35 (f 35)) 36 (f 36)) 37 (f 37)) 38 (f 38)) 39 (f 39)) (va_up (va_up (va_up g 0 (g 0)) 2 (g 2)) 3 (g 3)) H := ⟨hP.1, (gF_up (V := rwV) (F := rwF) (gF_up (V := rwV) (F := rwF) (gF_up (V := rwV) (F := rwF) (gF_up (V := rwV) (F := rwF) (gF_up (V := rwV) (F := rwF) (gF_up (V := rwV) (F := rwF) (gR_up (V := rwV) (F := rwF) ⟨hok.1, hok.2⟩ 25 (hP.2.1 25)) 34 (hP.2.2 34)) 35 (hP.2.2 35)) 36 (hP.2.2 36)) 37 (hP.2.2 37)) 38 (hP.2.2 38)) 39 (hP.2.2 39))⟩
        refine gi_i2l hx hb (by decide) dX10_key_45 ?_
        exact g_lret hQ C hr hlocks hP hS dX10_key_46 ⟨(-1), (1 : Int), (f 34), (f 35), (f 36), (f 37), (f 38), (f 39), (g 0), (g 2), (g 3), rfl, rfl, rfl, rfl⟩
      · refine lv_iload hx hb dX10_key_28 (lv_at hl 4 rfl) ?_
        refine lv_aload_n hx hb dX10_key_30 rfl (lv_at hl 0 rfl) ?_
        refine rwG_laws C hP mF_X10_16 dX10_key_31 ?_
        refine rwG_laws_keys C hP mF_X10_271 dX10_key_34 ?_
        show W p l e (gRm 4 109) s m args below meth c _ _ 0 0 Q (F0 m 37 ls [.int (iI (v 3)), .int (iI a4)])
        refine gi_clt (tgt := 47) hx hb dX10_key_37 (by decide) (by omega) (by omega) (fun c_12 => ?_) (fun c_12 => ?_)
        · refine lv_iload_n hx hb dX10_key_47 rfl (lv_at hl 3 rfl) ?_
          refine g_cs (As := [.int (iI a3)]) (rest := []) (n := 1) C hml (c_X10_isDay l D k A ad hD (va_up v 25 (v 25)) (va_up (va_up (va_up (va_up (va_up (va_up f 34 (f 34)) 35 (f 35)) 36 (f 36)) 37 (f 37)) 38 (f 38)) 39 (f 39)) (va_up (va_up (va_up g 0 (g 0)) 2 (g 2)) 3 (g 3)) a3 (by omega)) mM_X10_248 mS_X10_isDay mN_X10 mC_X10_isDay (by decide +kernel) hP hS (fun _ h => h) ⟨Nat.le_of_ble_eq_true rfl, Nat.le_of_ble_eq_true rfl⟩ ⟨Nat.zero_le _, Nat.zero_le _⟩ hl.1 rfl rfl (Nat.le_of_ble_eq_true rfl) dX10_key_48 (fun r_13 v_13 f_13 g_13 H locs hq_13 hP _ hS => ?_)
          obtain ⟨z_13, rfl, rfl, rfl, rfl, p0_13⟩ := hq_13
          show W p l e (gRm 4 109) s m args below meth c _ _ 0 0 Q (F0 m 51 ls [.int (iI z_13)])
          replace p0_13 : z_13 = (if 0 ≤ a3 ∧ a3 ≤ 999 then 1 else 0) := p0_13
          have w_13 := gif (P := 0 ≤ a3 ∧ a3 ≤ 999) p0_13
          have hz_13 : inR z_13 := (by first | omega | (rw [p0_13]; split <;> omega))
          refine gi_zne (tgt := 61) hx hb dX10_key_51 (by decide) (by omega) (fun c_14 => ?_) (fun c_14 => ?_)
          · refine lv_aload_n hx hb dX10_key_61 rfl (lv_at hl 0 rfl) ?_
            refine rwG_results C hP mF_X10_67 dX10_key_62 ?_
            refine lv_iload_n hx hb dX10_key_65 rfl (lv_at hl 3 rfl) ?_
            refine g_cv (As := [.int (iI a3)]) (rest := []) (n := 1) C hml (c_X5_survey l D k A ad hD (va_up v 25 (v 25)) (va_up (va_up (va_up (va_up (va_up (va_up f 34 (f 34)) 35 (f 35)) 36 (f 36)) 37 (f 37)) 38 (f 38)) 39 (f 39)) (va_up (va_up (va_up g 0 (g 0)) 2 (g 2)) 3 (g 3)) a3 (by omega)) mM_X10_255 mI_X5_survey mE_X5_survey mN_X5 mC_X5_survey (by decide +kernel) 47 (ci := 5) rfl rfl hP hS (fun _ h => h) ⟨Nat.le_of_ble_eq_true rfl, Nat.le_of_ble_eq_true rfl⟩ ⟨Nat.zero_le _, Nat.zero_le _⟩ hl.1 rfl rfl (Nat.le_of_ble_eq_true rfl) dX10_key_66 (fun r_15 v_15 f_15 g_15 H locs hq_15 hP _ hS => ?_)
            obtain ⟨a34_15, a35_15, a36_15, a37_15, a38_15, rfl, rfl, rfl, rfl⟩ := hq_15
            show W p l e (gRm 4 109) s m args below meth c _ _ 0 0 Q (F0 m 69 ls [])
            have hP : gWd D (rwT k ad) (va_up v 25 (v 25)) (va_up (va_up (va_up (va_up (va_up (va_up f 34 a34_15) 35 a35_15) 36 a36_15) 37 a37_15) 38 a38_15) 39 (f 39)) (va_up (va_up (va_up g 0 (g 0)) 2 (g 2)) 3 (g 3)) H := ⟨hP.1, (gF_up (V := rwV) (F := rwF) (gF_up (V := rwV) (F := rwF) (gF_up (V := rwV) (F := rwF) (gF_up (V := rwV) (F := rwF) (gF_up (V := rwV) (F := rwF) (gF_up (V := rwV) (F := rwF) (gR_up (V := rwV) (F := rwF) ⟨hok.1, hok.2⟩ 25 (hP.2.1 25)) 34 (hP.2.2 34)) 35 (hP.2.2 35)) 36 (hP.2.2 36)) 37 (hP.2.2 37)) 38 (hP.2.2 38)) 39 (hP.2.2 39))⟩
            refine lv_aload_n hx hb dX10_key_69 rfl (lv_at hl 0 rfl) ?_
            refine rwG_results C hP mF_X10_67 dX10_key_70 ?_
            refine lv_iload_n hx hb dX10_key_73 rfl (lv_at hl 1 rfl) ?_
            refine lv_iload_n hx hb dX10_key_74 rfl (lv_at hl 2 rfl) ?_
            refine g_cv (As := [.int (iI a1), .int (iI a2)]) (rest := []) (n := 2) C hml (c_X5_workKeys l D k A ad hD (va_up v 25 (v 25)) (va_up (va_up (va_up (va_up (va_up (va_up f 34 a34_15) 35 a35_15) 36 a36_15) 37 a37_15) 38 a38_15) 39 (f 39)) (va_up (va_up (va_up g 0 (g 0)) 2 (g 2)) 3 (g 3)) a1 a2 (by omega) (by omega) (show shOk (v 1) (f 1) from hs) (show 0 ≤ a1 ∧ a1 ≤ 3 from by omega) (show 0 ≤ a2 ∧ a2 ≤ 15 from by omega)) mM_X10_274 mI_X5_workKeys mE_X5_workKeys mN_X5 mC_X5_workKeys (by decide +kernel) 47 (ci := 5) rfl rfl hP hS (fun _ h => h) ⟨Nat.le_of_ble_eq_true rfl, Nat.le_of_ble_eq_true rfl⟩ ⟨Nat.zero_le _, Nat.zero_le _⟩ hl.1 rfl rfl (Nat.le_of_ble_eq_true rfl) dX10_key_75 (fun r_16 v_16 f_16 g_16 H locs hq_16 hP _ hS => ?_)
            obtain ⟨a39_16, b0_16, b2_16, b3_16, rfl, rfl, rfl, rfl⟩ := hq_16
            show W p l e (gRm 4 109) s m args below meth c _ _ 0 0 Q (F0 m 78 ls [])
            have hP : gWd D (rwT k ad) (va_up v 25 (v 25)) (va_up (va_up (va_up (va_up (va_up (va_up f 34 a34_15) 35 a35_15) 36 a36_15) 37 a37_15) 38 a38_15) 39 a39_16) (va_up (va_up (va_up g 0 b0_16) 2 b2_16) 3 b3_16) H := ⟨hP.1, (gF_up (V := rwV) (F := rwF) (gF_up (V := rwV) (F := rwF) (gF_up (V := rwV) (F := rwF) (gF_up (V := rwV) (F := rwF) (gF_up (V := rwV) (F := rwF) (gF_up (V := rwV) (F := rwF) (gR_up (V := rwV) (F := rwF) ⟨hok.1, hok.2⟩ 25 (hP.2.1 25)) 34 (hP.2.2 34)) 35 (hP.2.2 35)) 36 (hP.2.2 36)) 37 (hP.2.2 37)) 38 (hP.2.2 38)) 39 (hP.2.2 39))⟩
            refine lv_aload_n hx hb dX10_key_78 rfl (lv_at hl 0 rfl) ?_
            refine lv_iconst (v := iI 0) hx hb dX10_key_79 rfl ?_
            refine rwP_state (v1 := (va_up v 25 0)) C hP hD hS mF_X10_71 (by decide) rfl (Or.inr (gF_up (V := rwV) (F := rwF) (gF_up (V := rwV) (F := rwF) (gF_up (V := rwV) (F := rwF) (gF_up (V := rwV) (F := rwF) (gF_up (V := rwV) (F := rwF) (gF_up (V := rwV) (F := rwF) (gR_up (V := rwV) (F := rwF) ⟨hok.1, hok.2⟩ 25 (show 0 ≤ 0 ∧ 0 ≤ 10 from by decide)) 34 (hP.2.2 34)) 35 (hP.2.2 35)) 36 (hP.2.2 36)) 37 (hP.2.2 37)) 38 (hP.2.2 38)) 39 (hP.2.2 39))) dX10_key_80 (fun H locs hP hS => ?_)
            refine lv_aload_n hx hb dX10_key_83 rfl (lv_at hl 0 rfl) ?_
            refine rwG_results C hP mF_X10_67 dX10_key_84 ?_
            refine lv_iload_n hx hb dX10_key_87 rfl (lv_at hl 1 rfl) ?_
            refine lv_iload_n hx hb dX10_key_88 rfl (lv_at hl 2 rfl) ?_
            refine lv_iload hx hb dX10_key_89 (lv_at hl 4 rfl) ?_
            refine g_cv (As := [.int (iI a1), .int (iI a2), .int (iI a4)]) (rest := []) (n := 3) C hml (c_X5_keyOf l D k A ad hD (va_up v 25 0) (va_up (va_up (va_up (va_up (va_up (va_up f 34 a34_15) 35 a35_15) 36 a36_15) 37 a37_15) 38 a38_15) 39 a39_16) (va_up (va_up (va_up g 0 b0_16) 2 b2_16) 3 b3_16) a1 a2 a4 (by omega) (by omega) (by omega) (show 0 ≤ a1 ∧ a1 ≤ 3 from by omega) (show 0 ≤ a2 ∧ a2 ≤ 15 from by omega) (show 0 ≤ a4 ∧ a4 < 4 from by omega)) mM_X10_277 mI_X5_keyOf mE_X5_keyOf mN_X5 mC_X5_keyOf (by decide +kernel) 47 (ci := 5) rfl rfl hP hS (fun _ h => h) ⟨Nat.le_of_ble_eq_true rfl, Nat.le_of_ble_eq_true rfl⟩ ⟨Nat.zero_le _, Nat.zero_le _⟩ hl.1 rfl rfl (Nat.le_of_ble_eq_true rfl) dX10_key_91 (fun r_17 v_17 f_17 g_17 H locs hq_17 hP _ hS => ?_)
            obtain ⟨z_17, rfl, rfl, rfl, rfl⟩ := hq_17
            show W p l e (gRm 4 109) s m args below meth c _ _ 0 0 Q (F0 m 94 ls [.long (iL z_17)])
            exact g_lret hQ C hr hlocks hP hS dX10_key_94 ⟨z_17, 0, a34_15, a35_15, a36_15, a37_15, a38_15, a39_16, b0_16, b2_16, b3_16, rfl, rfl, rfl, rfl⟩
          · refine lv_aload_n hx hb dX10_key_54 rfl (lv_at hl 0 rfl) ?_
            refine lv_iconst (v := iI 2) hx hb dX10_key_55 rfl ?_
            refine g_cv (As := [.int (iI 2)]) (rest := []) (n := 1) C hml (c_X10_refuse l D k A ad hD (va_up v 25 (v 25)) (va_up (va_up (va_up (va_up (va_up (va_up f 34 (f 34)) 35 (f 35)) 36 (f 36)) 37 (f 37)) 38 (f 38)) 39 (f 39)) (va_up (va_up (va_up g 0 (g 0)) 2 (g 2)) 3 (g 3)) 2 (by decide) (show 0 ≤ (2 : Int) ∧ (2 : Int) ≤ 10 from by omega)) mM_X10_88 mI_X10_refuse mE_X10_refuse mN_X10 mC_X10_refuse (by decide +kernel) 0 (ci := 10) rfl rfl hP hS (fun _ h => h) ⟨Nat.le_of_ble_eq_true rfl, Nat.le_of_ble_eq_true rfl⟩ ⟨Nat.zero_le _, Nat.zero_le _⟩ hl.1 rfl rfl (Nat.le_of_ble_eq_true rfl) dX10_key_56 (fun r_18 v_18 f_18 g_18 H locs hq_18 hP _ hS => ?_)
            obtain ⟨rfl, rfl, rfl, rfl⟩ := hq_18
            show W p l e (gRm 4 109) s m args below meth c _ _ 0 0 Q (F0 m 59 ls [.int (iI (-1))])
            have hP : gWd D (rwT k ad) (va_up v 25 (2 : Int)) (va_up (va_up (va_up (va_up (va_up (va_up f 34 (f 34)) 35 (f 35)) 36 (f 36)) 37 (f 37)) 38 (f 38)) 39 (f 39)) (va_up (va_up (va_up g 0 (g 0)) 2 (g 2)) 3 (g 3)) H := ⟨hP.1, (gF_up (V := rwV) (F := rwF) (gF_up (V := rwV) (F := rwF) (gF_up (V := rwV) (F := rwF) (gF_up (V := rwV) (F := rwF) (gF_up (V := rwV) (F := rwF) (gF_up (V := rwV) (F := rwF) (gR_up (V := rwV) (F := rwF) ⟨hok.1, hok.2⟩ 25 (hP.2.1 25)) 34 (hP.2.2 34)) 35 (hP.2.2 35)) 36 (hP.2.2 36)) 37 (hP.2.2 37)) 38 (hP.2.2 38)) 39 (hP.2.2 39))⟩
            refine gi_i2l hx hb (by decide) dX10_key_59 ?_
            exact g_lret hQ C hr hlocks hP hS dX10_key_60 ⟨(-1), (2 : Int), (f 34), (f 35), (f 36), (f 37), (f 38), (f 39), (g 0), (g 2), (g 3), rfl, rfl, rfl, rfl⟩
        · refine lv_aload_n hx hb dX10_key_40 rfl (lv_at hl 0 rfl) ?_
          refine lv_iconst (v := iI 1) hx hb dX10_key_41 rfl ?_
          refine g_cv (As := [.int (iI 1)]) (rest := []) (n := 1) C hml (c_X10_refuse l D k A ad hD (va_up v 25 (v 25)) (va_up (va_up (va_up (va_up (va_up (va_up f 34 (f 34)) 35 (f 35)) 36 (f 36)) 37 (f 37)) 38 (f 38)) 39 (f 39)) (va_up (va_up (va_up g 0 (g 0)) 2 (g 2)) 3 (g 3)) 1 (by decide) (show 0 ≤ (1 : Int) ∧ (1 : Int) ≤ 10 from by omega)) mM_X10_88 mI_X10_refuse mE_X10_refuse mN_X10 mC_X10_refuse (by decide +kernel) 0 (ci := 10) rfl rfl hP hS (fun _ h => h) ⟨Nat.le_of_ble_eq_true rfl, Nat.le_of_ble_eq_true rfl⟩ ⟨Nat.zero_le _, Nat.zero_le _⟩ hl.1 rfl rfl (Nat.le_of_ble_eq_true rfl) dX10_key_42 (fun r_19 v_19 f_19 g_19 H locs hq_19 hP _ hS => ?_)
          obtain ⟨rfl, rfl, rfl, rfl⟩ := hq_19
          show W p l e (gRm 4 109) s m args below meth c _ _ 0 0 Q (F0 m 45 ls [.int (iI (-1))])
          have hP : gWd D (rwT k ad) (va_up v 25 (1 : Int)) (va_up (va_up (va_up (va_up (va_up (va_up f 34 (f 34)) 35 (f 35)) 36 (f 36)) 37 (f 37)) 38 (f 38)) 39 (f 39)) (va_up (va_up (va_up g 0 (g 0)) 2 (g 2)) 3 (g 3)) H := ⟨hP.1, (gF_up (V := rwV) (F := rwF) (gF_up (V := rwV) (F := rwF) (gF_up (V := rwV) (F := rwF) (gF_up (V := rwV) (F := rwF) (gF_up (V := rwV) (F := rwF) (gF_up (V := rwV) (F := rwF) (gR_up (V := rwV) (F := rwF) ⟨hok.1, hok.2⟩ 25 (hP.2.1 25)) 34 (hP.2.2 34)) 35 (hP.2.2 35)) 36 (hP.2.2 36)) 37 (hP.2.2 37)) 38 (hP.2.2 38)) 39 (hP.2.2 39))⟩
          refine gi_i2l hx hb (by decide) dX10_key_45 ?_
          exact g_lret hQ C hr hlocks hP hS dX10_key_46 ⟨(-1), (1 : Int), (f 34), (f 35), (f 36), (f 37), (f 38), (f 39), (g 0), (g 2), (g 3), rfl, rfl, rfl, rfl⟩

set_option maxHeartbeats 4000000 in
set_option maxRecDepth 100000 in
theorem c_X10_rank (l : Launch) (D : va_G) (k : Nat → ClassId) (A : Nat → Prop) (ad : Nat → Nat) (hD : rwD A k ad) (v : gV) (f g : gF) (a1 : Int) (a2 : Int) (a3 : Int) (h_a1 : inR a1) (h_a2 : inR a2) (h_a3 : inR a3) (hs : shOk (v 1) (f 1)) : GM l D k A (rwT k ad) yX10_rank cX10_rank 4 (some .int) 5 133 [.ref (ad 0), .int (iI a1), .int (iI a2), .int (iI a3)] v f g (fun r v1 f1 g1 => ∃ (z : Int) (w25 : Int) (a34_ : Int → Int) (a35_ : Int → Int) (a36_ : Int → Int) (a37_ : Int → Int) (a38_ : Int → Int) (a39_ : Int → Int) (a41_ : Int → Int) (b0_ : Int → Int) (b2_ : Int → Int) (b3_ : Int → Int), r = some (.int (iI z)) ∧ (va_up v 25 w25) = v1 ∧ (va_up (va_up (va_up (va_up (va_up (va_up (va_up f 34 a34_) 35 a35_) 36 a36_) 37 a37_) 38 a38_) 39 a39_) 41 a41_) = f1 ∧ (va_up (va_up (va_up g 0 b0_) 2 b2_) 3 b3_) = g1 ∧ ((-1) ≤ z ∧ z ≤ 17)) := by
  refine GM.of (by decide) (Nat.le_of_ble_eq_true rfl) ?_
  intro p e s m args below meth c Q ls hQ C hml hr hlocks hP hl
  have hx := C.1
  have hb := C.2.1
  have hok := hP.2
  have hS : va_S A s.heap s.heap [] := va_S.rf
  have hl : lv_has ls 4 [(0, .ref (ad 0)), (1, .int (iI a1)), (2, .int (iI a2)), (3, .int (iI a3))] := hl
  have hP : gWd D (rwT k ad) (va_up v 25 (v 25)) (va_up (va_up (va_up (va_up (va_up (va_up (va_up f 34 (f 34)) 35 (f 35)) 36 (f 36)) 37 (f 37)) 38 (f 38)) 39 (f 39)) 41 (f 41)) (va_up (va_up (va_up g 0 (g 0)) 2 (g 2)) 3 (g 3)) s.heap := by rw [va_id, va_id, va_id, va_id, va_id, va_id, va_id, va_id, va_id, va_id, va_id]; exact hP
  have r_1 : 0 ≤ (v 1) ∧ (v 1) ≤ 4 := hok.1 1
  have r_2 : 0 ≤ (v 21) ∧ (v 21) ≤ 16 := hok.1 21
  have r_3 : 0 ≤ (v 22) ∧ (v 22) ≤ 3 := hok.1 22
  refine lv_aload_n hx hb dX10_rank_0 rfl (lv_at hl 0 rfl) ?_
  refine rwG_laws C hP mF_X10_16 dX10_rank_1 ?_
  refine lv_iload_n hx hb dX10_rank_4 rfl (lv_at hl 1 rfl) ?_
  refine g_cv (As := [.int (iI a1)]) (rest := []) (n := 1) C hml (c_X4_hasRound l D k A ad hD (va_up v 25 (v 25)) (va_up (va_up (va_up (va_up (va_up (va_up (va_up f 34 (f 34)) 35 (f 35)) 36 (f 36)) 37 (f 37)) 38 (f 38)) 39 (f 39)) 41 (f 41)) (va_up (va_up (va_up g 0 (g 0)) 2 (g 2)) 3 (g 3)) a1 (by omega)) mM_X10_164 mI_X4_hasRound mE_X4_hasRound mN_X4 mC_X4_hasRound (by decide +kernel) 2 (ci := 4) rfl rfl hP hS (fun _ h => h) ⟨Nat.le_of_ble_eq_true rfl, Nat.le_of_ble_eq_true rfl⟩ ⟨Nat.zero_le _, Nat.zero_le _⟩ hl.1 rfl rfl (Nat.le_of_ble_eq_true rfl) dX10_rank_5 (fun r_4 v_4 f_4 g_4 H locs hq_4 hP _ hS => ?_)
  obtain ⟨z_4, rfl, rfl, rfl, rfl, p0_4⟩ := hq_4
  show W p l e (gRm 5 133) s m args below meth c _ _ 0 0 Q (F0 m 8 ls [.int (iI z_4)])
  replace p0_4 : z_4 = (if 0 ≤ a1 ∧ a1 < (v 1) then 1 else 0) := p0_4
  have w_4 := gif (P := 0 ≤ a1 ∧ a1 < (v 1)) p0_4
  have hz_4 : inR z_4 := (by first | omega | (rw [p0_4]; split <;> omega))
  refine gi_zeq (tgt := 23) hx hb dX10_rank_8 (by decide) (by omega) (fun c_5 => ?_) (fun c_5 => ?_)
  · refine lv_aload_n hx hb dX10_rank_23 rfl (lv_at hl 0 rfl) ?_
    refine lv_iconst (v := iI 1) hx hb dX10_rank_24 rfl ?_
    refine g_cv (As := [.int (iI 1)]) (rest := []) (n := 1) C hml (c_X10_refuse l D k A ad hD (va_up v 25 (v 25)) (va_up (va_up (va_up (va_up (va_up (va_up (va_up f 34 (f 34)) 35 (f 35)) 36 (f 36)) 37 (f 37)) 38 (f 38)) 39 (f 39)) 41 (f 41)) (va_up (va_up (va_up g 0 (g 0)) 2 (g 2)) 3 (g 3)) 1 (by decide) (show 0 ≤ (1 : Int) ∧ (1 : Int) ≤ 10 from by omega)) mM_X10_88 mI_X10_refuse mE_X10_refuse mN_X10 mC_X10_refuse (by decide +kernel) 0 (ci := 10) rfl rfl hP hS (fun _ h => h) ⟨Nat.le_of_ble_eq_true rfl, Nat.le_of_ble_eq_true rfl⟩ ⟨Nat.zero_le _, Nat.zero_le _⟩ hl.1 rfl rfl (Nat.le_of_ble_eq_true rfl) dX10_rank_25 (fun r_6 v_6 f_6 g_6 H locs hq_6 hP _ hS => ?_)
    obtain ⟨rfl, rfl, rfl, rfl⟩ := hq_6
    show W p l e (gRm 5 133) s m args below meth c _ _ 0 0 Q (F0 m 28 ls [.int (iI (-1))])
    have hP : gWd D (rwT k ad) (va_up v 25 (1 : Int)) (va_up (va_up (va_up (va_up (va_up (va_up (va_up f 34 (f 34)) 35 (f 35)) 36 (f 36)) 37 (f 37)) 38 (f 38)) 39 (f 39)) 41 (f 41)) (va_up (va_up (va_up g 0 (g 0)) 2 (g 2)) 3 (g 3)) H := ⟨hP.1, (gF_up (V := rwV) (F := rwF) (gF_up (V := rwV) (F := rwF) (gF_up (V := rwV) (F := rwF) (gF_up (V := rwV) (F := rwF) (gF_up (V := rwV) (F := rwF) (gF_up (V := rwV) (F := rwF) (gF_up (V := rwV) (F := rwF) (gR_up (V := rwV) (F := rwF) ⟨hok.1, hok.2⟩ 25 (hP.2.1 25)) 34 (hP.2.2 34)) 35 (hP.2.2 35)) 36 (hP.2.2 36)) 37 (hP.2.2 37)) 38 (hP.2.2 38)) 39 (hP.2.2 39)) 41 (hP.2.2 41))⟩
    exact g_iret hQ C hr hlocks hP hS dX10_rank_28 ⟨(-1), (1 : Int), (f 34), (f 35), (f 36), (f 37), (f 38), (f 39), (f 41), (g 0), (g 2), (g 3), rfl, rfl, rfl, rfl, (by first | omega | (split <;> omega))⟩
  · refine lv_aload_n hx hb dX10_rank_11 rfl (lv_at hl 0 rfl) ?_
    refine rwG_field C hP mF_X10_37 dX10_rank_12 ?_
    refine lv_iload_n hx hb dX10_rank_15 rfl (lv_at hl 1 rfl) ?_
    refine lv_iload_n hx hb dX10_rank_16 rfl (lv_at hl 2 rfl) ?_
    refine g_cv (As := [.int (iI a1), .int (iI a2)]) (rest := []) (n := 2) C hml (c_X2_isIn l D k A ad hD (va_up v 25 (v 25)) (va_up (va_up (va_up (va_up (va_up (va_up (va_up f 34 (f 34)) 35 (f 35)) 36 (f 36)) 37 (f 37)) 38 (f 38)) 39 (f 39)) 41 (f 41)) (va_up (va_up (va_up g 0 (g 0)) 2 (g 2)) 3 (g 3)) a1 a2 (by omega) (by omega)) mM_X10_268 mI_X2_isIn mE_X2_isIn mN_X2 mC_X2_isIn (by decide +kernel) 27 (ci := 2) rfl rfl hP hS (fun _ h => h) ⟨Nat.le_of_ble_eq_true rfl, Nat.le_of_ble_eq_true rfl⟩ ⟨Nat.zero_le _, Nat.zero_le _⟩ hl.1 rfl rfl (Nat.le_of_ble_eq_true rfl) dX10_rank_17 (fun r_7 v_7 f_7 g_7 H locs hq_7 hP _ hS => ?_)
    obtain ⟨z_7, rfl, rfl, rfl, rfl, p0_7⟩ := hq_7
    show W p l e (gRm 5 133) s m args below meth c _ _ 0 0 Q (F0 m 20 ls [.int (iI z_7)])
    replace p0_7 : z_7 = (if (0 ≤ a2 ∧ a2 < (v 21)) ∧ a1 ≤ (f 18) a2 then 1 else 0) := p0_7
    have w_7 := gif (P := (0 ≤ a2 ∧ a2 < (v 21)) ∧ a1 ≤ (f 18) a2) p0_7
    have hz_7 : inR z_7 := (by first | omega | (rw [p0_7]; split <;> omega))
    refine gi_zne (tgt := 29) hx hb dX10_rank_20 (by decide) (by omega) (fun c_8 => ?_) (fun c_8 => ?_)
    · refine lv_iload_n hx hb dX10_rank_29 rfl (lv_at hl 3 rfl) ?_
      refine g_cs (As := [.int (iI a3)]) (rest := []) (n := 1) C hml (c_X10_isDay l D k A ad hD (va_up v 25 (v 25)) (va_up (va_up (va_up (va_up (va_up (va_up (va_up f 34 (f 34)) 35 (f 35)) 36 (f 36)) 37 (f 37)) 38 (f 38)) 39 (f 39)) 41 (f 41)) (va_up (va_up (va_up g 0 (g 0)) 2 (g 2)) 3 (g 3)) a3 (by omega)) mM_X10_248 mS_X10_isDay mN_X10 mC_X10_isDay (by decide +kernel) hP hS (fun _ h => h) ⟨Nat.le_of_ble_eq_true rfl, Nat.le_of_ble_eq_true rfl⟩ ⟨Nat.zero_le _, Nat.zero_le _⟩ hl.1 rfl rfl (Nat.le_of_ble_eq_true rfl) dX10_rank_30 (fun r_9 v_9 f_9 g_9 H locs hq_9 hP _ hS => ?_)
      obtain ⟨z_9, rfl, rfl, rfl, rfl, p0_9⟩ := hq_9
      show W p l e (gRm 5 133) s m args below meth c _ _ 0 0 Q (F0 m 33 ls [.int (iI z_9)])
      replace p0_9 : z_9 = (if 0 ≤ a3 ∧ a3 ≤ 999 then 1 else 0) := p0_9
      have w_9 := gif (P := 0 ≤ a3 ∧ a3 ≤ 999) p0_9
      have hz_9 : inR z_9 := (by first | omega | (rw [p0_9]; split <;> omega))
      refine gi_zne (tgt := 42) hx hb dX10_rank_33 (by decide) (by omega) (fun c_10 => ?_) (fun c_10 => ?_)
      · refine lv_aload_n hx hb dX10_rank_42 rfl (lv_at hl 0 rfl) ?_
        refine rwG_results C hP mF_X10_67 dX10_rank_43 ?_
        refine lv_iload_n hx hb dX10_rank_46 rfl (lv_at hl 1 rfl) ?_
        refine lv_iload_n hx hb dX10_rank_47 rfl (lv_at hl 3 rfl) ?_
        refine g_cv (As := [.int (iI a1), .int (iI a3)]) (rest := []) (n := 2) C hml (c_X5_workRanks l D k A ad hD (va_up v 25 (v 25)) (va_up (va_up (va_up (va_up (va_up (va_up (va_up f 34 (f 34)) 35 (f 35)) 36 (f 36)) 37 (f 37)) 38 (f 38)) 39 (f 39)) 41 (f 41)) (va_up (va_up (va_up g 0 (g 0)) 2 (g 2)) 3 (g 3)) a1 a3 (by omega) (by omega) (show shOk (v 1) (f 1) from hs) (show 0 ≤ a1 ∧ a1 ≤ 3 from by omega)) mM_X10_281 mI_X5_workRanks mE_X5_workRanks mN_X5 mC_X5_workRanks (by decide +kernel) 47 (ci := 5) rfl rfl hP hS (fun _ h => h) ⟨Nat.le_of_ble_eq_true rfl, Nat.le_of_ble_eq_true rfl⟩ ⟨Nat.zero_le _, Nat.zero_le _⟩ hl.1 rfl rfl (Nat.le_of_ble_eq_true rfl) dX10_rank_48 (fun r_11 v_11 f_11 g_11 H locs hq_11 hP _ hS => ?_)
        obtain ⟨a34_11, a35_11, a36_11, a37_11, a38_11, a39_11, a41_11, b0_11, b2_11, b3_11, rfl, rfl, rfl, rfl⟩ := hq_11
        show W p l e (gRm 5 133) s m args below meth c _ _ 0 0 Q (F0 m 51 ls [])
        have hP : gWd D (rwT k ad) (va_up v 25 (v 25)) (va_up (va_up (va_up (va_up (va_up (va_up (va_up f 34 a34_11) 35 a35_11) 36 a36_11) 37 a37_11) 38 a38_11) 39 a39_11) 41 a41_11) (va_up (va_up (va_up g 0 b0_11) 2 b2_11) 3 b3_11) H := ⟨hP.1, (gF_up (V := rwV) (F := rwF) (gF_up (V := rwV) (F := rwF) (gF_up (V := rwV) (F := rwF) (gF_up (V := rwV) (F := rwF) (gF_up (V := rwV) (F := rwF) (gF_up (V := rwV) (F := rwF) (gF_up (V := rwV) (F := rwF) (gR_up (V := rwV) (F := rwF) ⟨hok.1, hok.2⟩ 25 (hP.2.1 25)) 34 (hP.2.2 34)) 35 (hP.2.2 35)) 36 (hP.2.2 36)) 37 (hP.2.2 37)) 38 (hP.2.2 38)) 39 (hP.2.2 39)) 41 (hP.2.2 41))⟩
        refine lv_aload_n hx hb dX10_rank_51 rfl (lv_at hl 0 rfl) ?_
        refine lv_aload_n hx hb dX10_rank_52 rfl (lv_at hl 0 rfl) ?_
        refine rwG_results C hP mF_X10_67 dX10_rank_53 ?_
        refine rwG_results_ranks C hP mF_X10_284 dX10_rank_56 ?_
        refine lv_iload_n hx hb dX10_rank_59 rfl (lv_at hl 2 rfl) ?_
        refine rwL_results_ranks C hP (by omega) (by omega) dX10_rank_60 ?_
        show W p l e (gRm 5 133) s m args below meth c _ _ 0 0 Q (F0 m 61 ls [.int (iI (a41_11 a2)), .ref (ad 0)])
        have r_12 : (-1) ≤ (a41_11 a2) ∧ (a41_11 a2) ≤ 17 := hP.2.2 41 a2
        refine g_cv (As := [.int (iI (a41_11 a2))]) (rest := []) (n := 1) C hml (c_X10_answer l D k A ad hD (va_up v 25 (v 25)) (va_up (va_up (va_up (va_up (va_up (va_up (va_up f 34 a34_11) 35 a35_11) 36 a36_11) 37 a37_11) 38 a38_11) 39 a39_11) 41 a41_11) (va_up (va_up (va_up g 0 b0_11) 2 b2_11) 3 b3_11) (a41_11 a2) (by omega)) mM_X10_120 mI_X10_answer mE_X10_answer mN_X10 mC_X10_answer (by decide +kernel) 0 (ci := 10) rfl rfl hP hS (fun _ h => h) ⟨Nat.le_of_ble_eq_true rfl, Nat.le_of_ble_eq_true rfl⟩ ⟨Nat.zero_le _, Nat.zero_le _⟩ hl.1 rfl rfl (Nat.le_of_ble_eq_true rfl) dX10_rank_61 (fun r_13 v_13 f_13 g_13 H locs hq_13 hP _ hS => ?_)
        obtain ⟨z_13, rfl, rfl, rfl, rfl, p0_13⟩ := hq_13
        show W p l e (gRm 5 133) s m args below meth c _ _ 0 0 Q (F0 m 64 ls [.int (iI z_13)])
        have hP : gWd D (rwT k ad) (va_up v 25 0) (va_up (va_up (va_up (va_up (va_up (va_up (va_up f 34 a34_11) 35 a35_11) 36 a36_11) 37 a37_11) 38 a38_11) 39 a39_11) 41 a41_11) (va_up (va_up (va_up g 0 b0_11) 2 b2_11) 3 b3_11) H := ⟨hP.1, (gF_up (V := rwV) (F := rwF) (gF_up (V := rwV) (F := rwF) (gF_up (V := rwV) (F := rwF) (gF_up (V := rwV) (F := rwF) (gF_up (V := rwV) (F := rwF) (gF_up (V := rwV) (F := rwF) (gF_up (V := rwV) (F := rwF) (gR_up (V := rwV) (F := rwF) ⟨hok.1, hok.2⟩ 25 (hP.2.1 25)) 34 (hP.2.2 34)) 35 (hP.2.2 35)) 36 (hP.2.2 36)) 37 (hP.2.2 37)) 38 (hP.2.2 38)) 39 (hP.2.2 39)) 41 (hP.2.2 41))⟩
        replace p0_13 : z_13 = (a41_11 a2) := p0_13
        have hz_13 : inR z_13 := (by first | omega | (rw [p0_13]; split <;> omega))
        exact g_iret hQ C hr hlocks hP hS dX10_rank_64 ⟨z_13, 0, a34_11, a35_11, a36_11, a37_11, a38_11, a39_11, a41_11, b0_11, b2_11, b3_11, rfl, rfl, rfl, rfl, (by first | omega | (split <;> omega))⟩
      · refine lv_aload_n hx hb dX10_rank_36 rfl (lv_at hl 0 rfl) ?_
        refine lv_iconst (v := iI 2) hx hb dX10_rank_37 rfl ?_
        refine g_cv (As := [.int (iI 2)]) (rest := []) (n := 1) C hml (c_X10_refuse l D k A ad hD (va_up v 25 (v 25)) (va_up (va_up (va_up (va_up (va_up (va_up (va_up f 34 (f 34)) 35 (f 35)) 36 (f 36)) 37 (f 37)) 38 (f 38)) 39 (f 39)) 41 (f 41)) (va_up (va_up (va_up g 0 (g 0)) 2 (g 2)) 3 (g 3)) 2 (by decide) (show 0 ≤ (2 : Int) ∧ (2 : Int) ≤ 10 from by omega)) mM_X10_88 mI_X10_refuse mE_X10_refuse mN_X10 mC_X10_refuse (by decide +kernel) 0 (ci := 10) rfl rfl hP hS (fun _ h => h) ⟨Nat.le_of_ble_eq_true rfl, Nat.le_of_ble_eq_true rfl⟩ ⟨Nat.zero_le _, Nat.zero_le _⟩ hl.1 rfl rfl (Nat.le_of_ble_eq_true rfl) dX10_rank_38 (fun r_14 v_14 f_14 g_14 H locs hq_14 hP _ hS => ?_)
        obtain ⟨rfl, rfl, rfl, rfl⟩ := hq_14
        show W p l e (gRm 5 133) s m args below meth c _ _ 0 0 Q (F0 m 41 ls [.int (iI (-1))])
        have hP : gWd D (rwT k ad) (va_up v 25 (2 : Int)) (va_up (va_up (va_up (va_up (va_up (va_up (va_up f 34 (f 34)) 35 (f 35)) 36 (f 36)) 37 (f 37)) 38 (f 38)) 39 (f 39)) 41 (f 41)) (va_up (va_up (va_up g 0 (g 0)) 2 (g 2)) 3 (g 3)) H := ⟨hP.1, (gF_up (V := rwV) (F := rwF) (gF_up (V := rwV) (F := rwF) (gF_up (V := rwV) (F := rwF) (gF_up (V := rwV) (F := rwF) (gF_up (V := rwV) (F := rwF) (gF_up (V := rwV) (F := rwF) (gF_up (V := rwV) (F := rwF) (gR_up (V := rwV) (F := rwF) ⟨hok.1, hok.2⟩ 25 (hP.2.1 25)) 34 (hP.2.2 34)) 35 (hP.2.2 35)) 36 (hP.2.2 36)) 37 (hP.2.2 37)) 38 (hP.2.2 38)) 39 (hP.2.2 39)) 41 (hP.2.2 41))⟩
        exact g_iret hQ C hr hlocks hP hS dX10_rank_41 ⟨(-1), (2 : Int), (f 34), (f 35), (f 36), (f 37), (f 38), (f 39), (f 41), (g 0), (g 2), (g 3), rfl, rfl, rfl, rfl, (by first | omega | (split <;> omega))⟩
    · refine lv_aload_n hx hb dX10_rank_23 rfl (lv_at hl 0 rfl) ?_
      refine lv_iconst (v := iI 1) hx hb dX10_rank_24 rfl ?_
      refine g_cv (As := [.int (iI 1)]) (rest := []) (n := 1) C hml (c_X10_refuse l D k A ad hD (va_up v 25 (v 25)) (va_up (va_up (va_up (va_up (va_up (va_up (va_up f 34 (f 34)) 35 (f 35)) 36 (f 36)) 37 (f 37)) 38 (f 38)) 39 (f 39)) 41 (f 41)) (va_up (va_up (va_up g 0 (g 0)) 2 (g 2)) 3 (g 3)) 1 (by decide) (show 0 ≤ (1 : Int) ∧ (1 : Int) ≤ 10 from by omega)) mM_X10_88 mI_X10_refuse mE_X10_refuse mN_X10 mC_X10_refuse (by decide +kernel) 0 (ci := 10) rfl rfl hP hS (fun _ h => h) ⟨Nat.le_of_ble_eq_true rfl, Nat.le_of_ble_eq_true rfl⟩ ⟨Nat.zero_le _, Nat.zero_le _⟩ hl.1 rfl rfl (Nat.le_of_ble_eq_true rfl) dX10_rank_25 (fun r_15 v_15 f_15 g_15 H locs hq_15 hP _ hS => ?_)
      obtain ⟨rfl, rfl, rfl, rfl⟩ := hq_15
      show W p l e (gRm 5 133) s m args below meth c _ _ 0 0 Q (F0 m 28 ls [.int (iI (-1))])
      have hP : gWd D (rwT k ad) (va_up v 25 (1 : Int)) (va_up (va_up (va_up (va_up (va_up (va_up (va_up f 34 (f 34)) 35 (f 35)) 36 (f 36)) 37 (f 37)) 38 (f 38)) 39 (f 39)) 41 (f 41)) (va_up (va_up (va_up g 0 (g 0)) 2 (g 2)) 3 (g 3)) H := ⟨hP.1, (gF_up (V := rwV) (F := rwF) (gF_up (V := rwV) (F := rwF) (gF_up (V := rwV) (F := rwF) (gF_up (V := rwV) (F := rwF) (gF_up (V := rwV) (F := rwF) (gF_up (V := rwV) (F := rwF) (gF_up (V := rwV) (F := rwF) (gR_up (V := rwV) (F := rwF) ⟨hok.1, hok.2⟩ 25 (hP.2.1 25)) 34 (hP.2.2 34)) 35 (hP.2.2 35)) 36 (hP.2.2 36)) 37 (hP.2.2 37)) 38 (hP.2.2 38)) 39 (hP.2.2 39)) 41 (hP.2.2 41))⟩
      exact g_iret hQ C hr hlocks hP hS dX10_rank_28 ⟨(-1), (1 : Int), (f 34), (f 35), (f 36), (f 37), (f 38), (f 39), (f 41), (g 0), (g 2), (g 3), rfl, rfl, rfl, rfl, (by first | omega | (split <;> omega))⟩

set_option maxHeartbeats 4000000 in
set_option maxRecDepth 100000 in
theorem c_X10_advance (l : Launch) (D : va_G) (k : Nat → ClassId) (A : Nat → Prop) (ad : Nat → Nat) (hD : rwD A k ad) (v : gV) (f g : gF) (a1 : Int) (a2 : Int) (h_a1 : inR a1) (h_a2 : inR a2) (hs : shOk (v 1) (f 1)) : GM l D k A (rwT k ad) yX10_advance cX10_advance 4 (some .int) 5 133 [.ref (ad 0), .int (iI a1), .int (iI a2)] v f g (fun r v1 f1 g1 => ∃ (z : Int) (w22 : Int) (w25 : Int) (a18_ : Int → Int) (a19_ : Int → Int) (a31_ : Int → Int) (a34_ : Int → Int) (a35_ : Int → Int) (a36_ : Int → Int) (a37_ : Int → Int) (a38_ : Int → Int) (a39_ : Int → Int) (a41_ : Int → Int) (b0_ : Int → Int) (b2_ : Int → Int) (b3_ : Int → Int), r = some (.int (iI z)) ∧ (va_up (va_up v 22 w22) 25 w25) = v1 ∧ (va_up (va_up (va_up (va_up (va_up (va_up (va_up (va_up (va_up (va_up f 18 a18_) 19 a19_) 31 a31_) 34 a34_) 35 a35_) 36 a36_) 37 a37_) 38 a38_) 39 a39_) 41 a41_) = f1 ∧ (va_up (va_up (va_up g 0 b0_) 2 b2_) 3 b3_) = g1 ∧ ((-1) ≤ z ∧ z ≤ 16)) := by
  refine GM.of (by decide) (Nat.le_of_ble_eq_true rfl) ?_
  intro p e s m args below meth c Q ls hQ C hml hr hlocks hP hl
  have hx := C.1
  have hb := C.2.1
  have hok := hP.2
  have hS : va_S A s.heap s.heap [] := va_S.rf
  have hl : lv_has ls 4 [(0, .ref (ad 0)), (1, .int (iI a1)), (2, .int (iI a2))] := hl
  have hP : gWd D (rwT k ad) (va_up (va_up v 22 (v 22)) 25 (v 25)) (va_up (va_up (va_up (va_up (va_up (va_up (va_up (va_up (va_up (va_up f 18 (f 18)) 19 (f 19)) 31 (f 31)) 34 (f 34)) 35 (f 35)) 36 (f 36)) 37 (f 37)) 38 (f 38)) 39 (f 39)) 41 (f 41)) (va_up (va_up (va_up g 0 (g 0)) 2 (g 2)) 3 (g 3)) s.heap := by rw [va_id, va_id, va_id, va_id, va_id, va_id, va_id, va_id, va_id, va_id, va_id, va_id, va_id, va_id, va_id]; exact hP
  have r_1 : 0 ≤ (v 1) ∧ (v 1) ≤ 4 := hok.1 1
  have r_2 : 0 ≤ (v 21) ∧ (v 21) ≤ 16 := hok.1 21
  have r_3 : 0 ≤ (v 22) ∧ (v 22) ≤ 3 := hok.1 22
  refine lv_iload_n hx hb dX10_advance_0 rfl (lv_at hl 1 rfl) ?_
  refine lv_iconst (v := iI 1) hx hb dX10_advance_1 rfl ?_
  refine gi_clt (tgt := 18) hx hb dX10_advance_2 (by decide) (by omega) (by decide) (fun c_4 => ?_) (fun c_4 => ?_)
  · refine lv_aload_n hx hb dX10_advance_18 rfl (lv_at hl 0 rfl) ?_
    refine lv_iconst (v := iI 2) hx hb dX10_advance_19 rfl ?_
    refine g_cv (As := [.int (iI 2)]) (rest := []) (n := 1) C hml (c_X10_refuse l D k A ad hD (va_up (va_up v 22 (v 22)) 25 (v 25)) (va_up (va_up (va_up (va_up (va_up (va_up (va_up (va_up (va_up (va_up f 18 (f 18)) 19 (f 19)) 31 (f 31)) 34 (f 34)) 35 (f 35)) 36 (f 36)) 37 (f 37)) 38 (f 38)) 39 (f 39)) 41 (f 41)) (va_up (va_up (va_up g 0 (g 0)) 2 (g 2)) 3 (g 3)) 2 (by decide) (show 0 ≤ (2 : Int) ∧ (2 : Int) ≤ 10 from by omega)) mM_X10_88 mI_X10_refuse mE_X10_refuse mN_X10 mC_X10_refuse (by decide +kernel) 0 (ci := 10) rfl rfl hP hS (fun _ h => h) ⟨Nat.le_of_ble_eq_true rfl, Nat.le_of_ble_eq_true rfl⟩ ⟨Nat.zero_le _, Nat.zero_le _⟩ hl.1 rfl rfl (Nat.le_of_ble_eq_true rfl) dX10_advance_20 (fun r_5 v_5 f_5 g_5 H locs hq_5 hP _ hS => ?_)
    obtain ⟨rfl, rfl, rfl, rfl⟩ := hq_5
    show W p l e (gRm 5 133) s m args below meth c _ _ 0 0 Q (F0 m 23 ls [.int (iI (-1))])
    have hP : gWd D (rwT k ad) (va_up (va_up v 22 (v 22)) 25 (2 : Int)) (va_up (va_up (va_up (va_up (va_up (va_up (va_up (va_up (va_up (va_up f 18 (f 18)) 19 (f 19)) 31 (f 31)) 34 (f 34)) 35 (f 35)) 36 (f 36)) 37 (f 37)) 38 (f 38)) 39 (f 39)) 41 (f 41)) (va_up (va_up (va_up g 0 (g 0)) 2 (g 2)) 3 (g 3)) H := ⟨hP.1, (gF_up (V := rwV) (F := rwF) (gF_up (V := rwV) (F := rwF) (gF_up (V := rwV) (F := rwF) (gF_up (V := rwV) (F := rwF) (gF_up (V := rwV) (F := rwF) (gF_up (V := rwV) (F := rwF) (gF_up (V := rwV) (F := rwF) (gF_up (V := rwV) (F := rwF) (gF_up (V := rwV) (F := rwF) (gF_up (V := rwV) (F := rwF) (gR_up (V := rwV) (F := rwF) (gR_up (V := rwV) (F := rwF) ⟨hok.1, hok.2⟩ 22 (hP.2.1 22)) 25 (hP.2.1 25)) 18 (hP.2.2 18)) 19 (hP.2.2 19)) 31 (hP.2.2 31)) 34 (hP.2.2 34)) 35 (hP.2.2 35)) 36 (hP.2.2 36)) 37 (hP.2.2 37)) 38 (hP.2.2 38)) 39 (hP.2.2 39)) 41 (hP.2.2 41))⟩
    exact g_iret hQ C hr hlocks hP hS dX10_advance_23 ⟨(-1), (v 22), (2 : Int), (f 18), (f 19), (f 31), (f 34), (f 35), (f 36), (f 37), (f 38), (f 39), (f 41), (g 0), (g 2), (g 3), rfl, rfl, rfl, rfl, (by first | omega | (split <;> omega))⟩
  · refine lv_iload_n hx hb dX10_advance_5 rfl (lv_at hl 1 rfl) ?_
    refine lv_bipush (v := iI 16) hx hb dX10_advance_6 (by decide) ?_
    refine gi_cgt (tgt := 18) hx hb dX10_advance_8 (by decide) (by omega) (by decide) (fun c_6 => ?_) (fun c_6 => ?_)
    · refine lv_aload_n hx hb dX10_advance_18 rfl (lv_at hl 0 rfl) ?_
      refine lv_iconst (v := iI 2) hx hb dX10_advance_19 rfl ?_
      refine g_cv (As := [.int (iI 2)]) (rest := []) (n := 1) C hml (c_X10_refuse l D k A ad hD (va_up (va_up v 22 (v 22)) 25 (v 25)) (va_up (va_up (va_up (va_up (va_up (va_up (va_up (va_up (va_up (va_up f 18 (f 18)) 19 (f 19)) 31 (f 31)) 34 (f 34)) 35 (f 35)) 36 (f 36)) 37 (f 37)) 38 (f 38)) 39 (f 39)) 41 (f 41)) (va_up (va_up (va_up g 0 (g 0)) 2 (g 2)) 3 (g 3)) 2 (by decide) (show 0 ≤ (2 : Int) ∧ (2 : Int) ≤ 10 from by omega)) mM_X10_88 mI_X10_refuse mE_X10_refuse mN_X10 mC_X10_refuse (by decide +kernel) 0 (ci := 10) rfl rfl hP hS (fun _ h => h) ⟨Nat.le_of_ble_eq_true rfl, Nat.le_of_ble_eq_true rfl⟩ ⟨Nat.zero_le _, Nat.zero_le _⟩ hl.1 rfl rfl (Nat.le_of_ble_eq_true rfl) dX10_advance_20 (fun r_7 v_7 f_7 g_7 H locs hq_7 hP _ hS => ?_)
      obtain ⟨rfl, rfl, rfl, rfl⟩ := hq_7
      show W p l e (gRm 5 133) s m args below meth c _ _ 0 0 Q (F0 m 23 ls [.int (iI (-1))])
      have hP : gWd D (rwT k ad) (va_up (va_up v 22 (v 22)) 25 (2 : Int)) (va_up (va_up (va_up (va_up (va_up (va_up (va_up (va_up (va_up (va_up f 18 (f 18)) 19 (f 19)) 31 (f 31)) 34 (f 34)) 35 (f 35)) 36 (f 36)) 37 (f 37)) 38 (f 38)) 39 (f 39)) 41 (f 41)) (va_up (va_up (va_up g 0 (g 0)) 2 (g 2)) 3 (g 3)) H := ⟨hP.1, (gF_up (V := rwV) (F := rwF) (gF_up (V := rwV) (F := rwF) (gF_up (V := rwV) (F := rwF) (gF_up (V := rwV) (F := rwF) (gF_up (V := rwV) (F := rwF) (gF_up (V := rwV) (F := rwF) (gF_up (V := rwV) (F := rwF) (gF_up (V := rwV) (F := rwF) (gF_up (V := rwV) (F := rwF) (gF_up (V := rwV) (F := rwF) (gR_up (V := rwV) (F := rwF) (gR_up (V := rwV) (F := rwF) ⟨hok.1, hok.2⟩ 22 (hP.2.1 22)) 25 (hP.2.1 25)) 18 (hP.2.2 18)) 19 (hP.2.2 19)) 31 (hP.2.2 31)) 34 (hP.2.2 34)) 35 (hP.2.2 35)) 36 (hP.2.2 36)) 37 (hP.2.2 37)) 38 (hP.2.2 38)) 39 (hP.2.2 39)) 41 (hP.2.2 41))⟩
      exact g_iret hQ C hr hlocks hP hS dX10_advance_23 ⟨(-1), (v 22), (2 : Int), (f 18), (f 19), (f 31), (f 34), (f 35), (f 36), (f 37), (f 38), (f 39), (f 41), (g 0), (g 2), (g 3), rfl, rfl, rfl, rfl, (by first | omega | (split <;> omega))⟩
    · refine lv_iload_n hx hb dX10_advance_11 rfl (lv_at hl 2 rfl) ?_
      refine g_cs (As := [.int (iI a2)]) (rest := []) (n := 1) C hml (c_X10_isDay l D k A ad hD (va_up (va_up v 22 (v 22)) 25 (v 25)) (va_up (va_up (va_up (va_up (va_up (va_up (va_up (va_up (va_up (va_up f 18 (f 18)) 19 (f 19)) 31 (f 31)) 34 (f 34)) 35 (f 35)) 36 (f 36)) 37 (f 37)) 38 (f 38)) 39 (f 39)) 41 (f 41)) (va_up (va_up (va_up g 0 (g 0)) 2 (g 2)) 3 (g 3)) a2 (by omega)) mM_X10_248 mS_X10_isDay mN_X10 mC_X10_isDay (by decide +kernel) hP hS (fun _ h => h) ⟨Nat.le_of_ble_eq_true rfl, Nat.le_of_ble_eq_true rfl⟩ ⟨Nat.zero_le _, Nat.zero_le _⟩ hl.1 rfl rfl (Nat.le_of_ble_eq_true rfl) dX10_advance_12 (fun r_8 v_8 f_8 g_8 H locs hq_8 hP _ hS => ?_)
      obtain ⟨z_8, rfl, rfl, rfl, rfl, p0_8⟩ := hq_8
      show W p l e (gRm 5 133) s m args below meth c _ _ 0 0 Q (F0 m 15 ls [.int (iI z_8)])
      replace p0_8 : z_8 = (if 0 ≤ a2 ∧ a2 ≤ 999 then 1 else 0) := p0_8
      have w_8 := gif (P := 0 ≤ a2 ∧ a2 ≤ 999) p0_8
      have hz_8 : inR z_8 := (by first | omega | (rw [p0_8]; split <;> omega))
      refine gi_zne (tgt := 24) hx hb dX10_advance_15 (by decide) (by omega) (fun c_9 => ?_) (fun c_9 => ?_)
      · refine lv_aload_n hx hb dX10_advance_24 rfl (lv_at hl 0 rfl) ?_
        refine rwG_tries C hP mF_X10_44 dX10_advance_25 ?_
        refine g_cv (As := []) (rest := []) (n := 0) C hml (c_X7_anyOpen l D k A ad hD (va_up (va_up v 22 (v 22)) 25 (v 25)) (va_up (va_up (va_up (va_up (va_up (va_up (va_up (va_up (va_up (va_up f 18 (f 18)) 19 (f 19)) 31 (f 31)) 34 (f 34)) 35 (f 35)) 36 (f 36)) 37 (f 37)) 38 (f 38)) 39 (f 39)) 41 (f 41)) (va_up (va_up (va_up g 0 (g 0)) 2 (g 2)) 3 (g 3))) mM_X10_287 mI_X7_anyOpen mE_X7_anyOpen mN_X7 mC_X7_anyOpen (by decide +kernel) 30 (ci := 7) rfl rfl hP hS (fun _ h => h) ⟨Nat.le_of_ble_eq_true rfl, Nat.le_of_ble_eq_true rfl⟩ ⟨Nat.zero_le _, Nat.zero_le _⟩ hl.1 rfl rfl (Nat.le_of_ble_eq_true rfl) dX10_advance_28 (fun r_10 v_10 f_10 g_10 H locs hq_10 hP _ hS => ?_)
        obtain ⟨z_10, rfl, rfl, rfl, rfl, p0_10⟩ := hq_10
        show W p l e (gRm 5 133) s m args below meth c _ _ 0 0 Q (F0 m 31 ls [.int (iI z_10)])
        replace p0_10 : 0 ≤ z_10 ∧ z_10 ≤ 1 := p0_10
        refine gi_zeq (tgt := 40) hx hb dX10_advance_31 (by decide) (by omega) (fun c_11 => ?_) (fun c_11 => ?_)
        · refine lv_aload_n hx hb dX10_advance_40 rfl (lv_at hl 0 rfl) ?_
          refine rwG_field C hP mF_X10_37 dX10_advance_41 ?_
          refine rwG_field_climbers C hP mF_X10_123 dX10_advance_44 ?_
          show W p l e (gRm 5 133) s m args below meth c _ _ 0 0 Q (F0 m 47 ls [.int (iI (v 21))])
          refine gi_zeq (tgt := 69) hx hb dX10_advance_47 (by decide) (by omega) (fun c_12 => ?_) (fun c_12 => ?_)
          · refine lv_aload_n hx hb dX10_advance_69 rfl (lv_at hl 0 rfl) ?_
            refine lv_bipush (v := iI 10) hx hb dX10_advance_70 (by decide) ?_
            refine g_cv (As := [.int (iI 10)]) (rest := []) (n := 1) C hml (c_X10_refuse l D k A ad hD (va_up (va_up v 22 (v 22)) 25 (v 25)) (va_up (va_up (va_up (va_up (va_up (va_up (va_up (va_up (va_up (va_up f 18 (f 18)) 19 (f 19)) 31 (f 31)) 34 (f 34)) 35 (f 35)) 36 (f 36)) 37 (f 37)) 38 (f 38)) 39 (f 39)) 41 (f 41)) (va_up (va_up (va_up g 0 (g 0)) 2 (g 2)) 3 (g 3)) 10 (by decide) (show 0 ≤ (10 : Int) ∧ (10 : Int) ≤ 10 from by omega)) mM_X10_88 mI_X10_refuse mE_X10_refuse mN_X10 mC_X10_refuse (by decide +kernel) 0 (ci := 10) rfl rfl hP hS (fun _ h => h) ⟨Nat.le_of_ble_eq_true rfl, Nat.le_of_ble_eq_true rfl⟩ ⟨Nat.zero_le _, Nat.zero_le _⟩ hl.1 rfl rfl (Nat.le_of_ble_eq_true rfl) dX10_advance_72 (fun r_13 v_13 f_13 g_13 H locs hq_13 hP _ hS => ?_)
            obtain ⟨rfl, rfl, rfl, rfl⟩ := hq_13
            show W p l e (gRm 5 133) s m args below meth c _ _ 0 0 Q (F0 m 75 ls [.int (iI (-1))])
            have hP : gWd D (rwT k ad) (va_up (va_up v 22 (v 22)) 25 (10 : Int)) (va_up (va_up (va_up (va_up (va_up (va_up (va_up (va_up (va_up (va_up f 18 (f 18)) 19 (f 19)) 31 (f 31)) 34 (f 34)) 35 (f 35)) 36 (f 36)) 37 (f 37)) 38 (f 38)) 39 (f 39)) 41 (f 41)) (va_up (va_up (va_up g 0 (g 0)) 2 (g 2)) 3 (g 3)) H := ⟨hP.1, (gF_up (V := rwV) (F := rwF) (gF_up (V := rwV) (F := rwF) (gF_up (V := rwV) (F := rwF) (gF_up (V := rwV) (F := rwF) (gF_up (V := rwV) (F := rwF) (gF_up (V := rwV) (F := rwF) (gF_up (V := rwV) (F := rwF) (gF_up (V := rwV) (F := rwF) (gF_up (V := rwV) (F := rwF) (gF_up (V := rwV) (F := rwF) (gR_up (V := rwV) (F := rwF) (gR_up (V := rwV) (F := rwF) ⟨hok.1, hok.2⟩ 22 (hP.2.1 22)) 25 (hP.2.1 25)) 18 (hP.2.2 18)) 19 (hP.2.2 19)) 31 (hP.2.2 31)) 34 (hP.2.2 34)) 35 (hP.2.2 35)) 36 (hP.2.2 36)) 37 (hP.2.2 37)) 38 (hP.2.2 38)) 39 (hP.2.2 39)) 41 (hP.2.2 41))⟩
            exact g_iret hQ C hr hlocks hP hS dX10_advance_75 ⟨(-1), (v 22), (10 : Int), (f 18), (f 19), (f 31), (f 34), (f 35), (f 36), (f 37), (f 38), (f 39), (f 41), (g 0), (g 2), (g 3), rfl, rfl, rfl, rfl, (by first | omega | (split <;> omega))⟩
          · refine lv_aload_n hx hb dX10_advance_50 rfl (lv_at hl 0 rfl) ?_
            refine rwG_field C hP mF_X10_37 dX10_advance_51 ?_
            refine rwG_field_open C hP mF_X10_129 dX10_advance_54 ?_
            show W p l e (gRm 5 133) s m args below meth c _ _ 0 0 Q (F0 m 57 ls [.int (iI (v 22))])
            refine lv_iconst (v := iI 1) hx hb dX10_advance_57 rfl ?_
            refine gi_add (z := ((v 22) + 1)) hx hb dX10_advance_58 rfl ?_
            refine lv_aload_n hx hb dX10_advance_59 rfl (lv_at hl 0 rfl) ?_
            refine rwG_laws C hP mF_X10_16 dX10_advance_60 ?_
            refine rwG_laws_rounds C hP mF_X10_117 dX10_advance_63 ?_
            show W p l e (gRm 5 133) s m args below meth c _ _ 0 0 Q (F0 m 66 ls [.int (iI (v 1)), .int (iI ((v 22) + 1))])
            refine gi_clt (tgt := 76) hx hb dX10_advance_66 (by decide) (by omega) (by omega) (fun c_14 => ?_) (fun c_14 => ?_)
            · refine lv_aload_n hx hb dX10_advance_76 rfl (lv_at hl 0 rfl) ?_
              refine rwG_results C hP mF_X10_67 dX10_advance_77 ?_
              refine lv_aload_n hx hb dX10_advance_80 rfl (lv_at hl 0 rfl) ?_
              refine rwG_field C hP mF_X10_37 dX10_advance_81 ?_
              refine rwG_field_open C hP mF_X10_129 dX10_advance_84 ?_
              show W p l e (gRm 5 133) s m args below meth c _ _ 0 0 Q (F0 m 87 ls [.int (iI (v 22)), .ref (ad 47)])
              refine lv_iload_n hx hb dX10_advance_87 rfl (lv_at hl 2 rfl) ?_
              refine g_cv (As := [.int (iI (v 22)), .int (iI a2)]) (rest := []) (n := 2) C hml (c_X5_workRanks l D k A ad hD (va_up (va_up v 22 (v 22)) 25 (v 25)) (va_up (va_up (va_up (va_up (va_up (va_up (va_up (va_up (va_up (va_up f 18 (f 18)) 19 (f 19)) 31 (f 31)) 34 (f 34)) 35 (f 35)) 36 (f 36)) 37 (f 37)) 38 (f 38)) 39 (f 39)) 41 (f 41)) (va_up (va_up (va_up g 0 (g 0)) 2 (g 2)) 3 (g 3)) (v 22) a2 (by omega) (by omega) (show shOk (v 1) (f 1) from hs) (show 0 ≤ (v 22) ∧ (v 22) ≤ 3 from by omega)) mM_X10_281 mI_X5_workRanks mE_X5_workRanks mN_X5 mC_X5_workRanks (by decide +kernel) 47 (ci := 5) rfl rfl hP hS (fun _ h => h) ⟨Nat.le_of_ble_eq_true rfl, Nat.le_of_ble_eq_true rfl⟩ ⟨Nat.zero_le _, Nat.zero_le _⟩ hl.1 rfl rfl (Nat.le_of_ble_eq_true rfl) dX10_advance_88 (fun r_15 v_15 f_15 g_15 H locs hq_15 hP _ hS => ?_)
              obtain ⟨a34_15, a35_15, a36_15, a37_15, a38_15, a39_15, a41_15, b0_15, b2_15, b3_15, rfl, rfl, rfl, rfl⟩ := hq_15
              show W p l e (gRm 5 133) s m args below meth c _ _ 0 0 Q (F0 m 91 ls [])
              have hP : gWd D (rwT k ad) (va_up (va_up v 22 (v 22)) 25 (v 25)) (va_up (va_up (va_up (va_up (va_up (va_up (va_up (va_up (va_up (va_up f 18 (f 18)) 19 (f 19)) 31 (f 31)) 34 a34_15) 35 a35_15) 36 a36_15) 37 a37_15) 38 a38_15) 39 a39_15) 41 a41_15) (va_up (va_up (va_up g 0 b0_15) 2 b2_15) 3 b3_15) H := ⟨hP.1, (gF_up (V := rwV) (F := rwF) (gF_up (V := rwV) (F := rwF) (gF_up (V := rwV) (F := rwF) (gF_up (V := rwV) (F := rwF) (gF_up (V := rwV) (F := rwF) (gF_up (V := rwV) (F := rwF) (gF_up (V := rwV) (F := rwF) (gF_up (V := rwV) (F := rwF) (gF_up (V := rwV) (F := rwF) (gF_up (V := rwV) (F := rwF) (gR_up (V := rwV) (F := rwF) (gR_up (V := rwV) (F := rwF) ⟨hok.1, hok.2⟩ 22 (hP.2.1 22)) 25 (hP.2.1 25)) 18 (hP.2.2 18)) 19 (hP.2.2 19)) 31 (hP.2.2 31)) 34 (hP.2.2 34)) 35 (hP.2.2 35)) 36 (hP.2.2 36)) 37 (hP.2.2 37)) 38 (hP.2.2 38)) 39 (hP.2.2 39)) 41 (hP.2.2 41))⟩
              refine lv_aload_n hx hb dX10_advance_91 rfl (lv_at hl 0 rfl) ?_
              refine rwG_field C hP mF_X10_37 dX10_advance_92 ?_
              refine lv_aload_n hx hb dX10_advance_95 rfl (lv_at hl 0 rfl) ?_
              refine rwG_results C hP mF_X10_67 dX10_advance_96 ?_
              refine rwG_results_ranks C hP mF_X10_284 dX10_advance_99 ?_
              refine lv_iload_n hx hb dX10_advance_102 rfl (lv_at hl 1 rfl) ?_
              refine lv_iload_n hx hb dX10_advance_103 rfl (lv_at hl 2 rfl) ?_
              refine g_cv (As := [.ref (ad 57), .int (iI a1), .int (iI a2)]) (rest := []) (n := 3) C hml (c_X2_letCome l D k A ad hD (va_up (va_up v 22 (v 22)) 25 (v 25)) (va_up (va_up (va_up (va_up (va_up (va_up (va_up (va_up (va_up (va_up f 18 (f 18)) 19 (f 19)) 31 (f 31)) 34 a34_15) 35 a35_15) 36 a36_15) 37 a37_15) 38 a38_15) 39 a39_15) 41 a41_15) (va_up (va_up (va_up g 0 b0_15) 2 b2_15) 3 b3_15) a1 a2 (by omega) (by omega) (show (v 22) < 3 from by omega) (show 0 ≤ a2 ∧ a2 ≤ 999 from by omega)) mM_X10_290 mI_X2_letCome mE_X2_letCome mN_X2 mC_X2_letCome (by decide +kernel) 27 (ci := 2) rfl rfl hP hS (fun _ h => h) ⟨Nat.le_of_ble_eq_true rfl, Nat.le_of_ble_eq_true rfl⟩ ⟨Nat.zero_le _, Nat.zero_le _⟩ hl.1 rfl rfl (Nat.le_of_ble_eq_true rfl) dX10_advance_104 (fun r_16 v_16 f_16 g_16 H locs hq_16 hP _ hS => ?_)
              obtain ⟨z_16, a18_16, a19_16, rfl, rfl, rfl, rfl, p0_16⟩ := hq_16
              show W p l e (gRm 5 133) s m args below meth c _ _ 0 0 Q (F0 m 107 ls [.int (iI z_16)])
              have hP : gWd D (rwT k ad) (va_up (va_up v 22 ((v 22) + 1)) 25 (v 25)) (va_up (va_up (va_up (va_up (va_up (va_up (va_up (va_up (va_up (va_up f 18 a18_16) 19 a19_16) 31 (f 31)) 34 a34_15) 35 a35_15) 36 a36_15) 37 a37_15) 38 a38_15) 39 a39_15) 41 a41_15) (va_up (va_up (va_up g 0 b0_15) 2 b2_15) 3 b3_15) H := ⟨hP.1, (gF_up (V := rwV) (F := rwF) (gF_up (V := rwV) (F := rwF) (gF_up (V := rwV) (F := rwF) (gF_up (V := rwV) (F := rwF) (gF_up (V := rwV) (F := rwF) (gF_up (V := rwV) (F := rwF) (gF_up (V := rwV) (F := rwF) (gF_up (V := rwV) (F := rwF) (gF_up (V := rwV) (F := rwF) (gF_up (V := rwV) (F := rwF) (gR_up (V := rwV) (F := rwF) (gR_up (V := rwV) (F := rwF) ⟨hok.1, hok.2⟩ 22 (hP.2.1 22)) 25 (hP.2.1 25)) 18 (hP.2.2 18)) 19 (hP.2.2 19)) 31 (hP.2.2 31)) 34 (hP.2.2 34)) 35 (hP.2.2 35)) 36 (hP.2.2 36)) 37 (hP.2.2 37)) 38 (hP.2.2 38)) 39 (hP.2.2 39)) 41 (hP.2.2 41))⟩
              replace p0_16 : 0 ≤ z_16 ∧ z_16 ≤ 16 := p0_16
              refine lv_istore_n (lv' := [(3, .int (iI z_16)), (0, .ref (ad 0)), (1, .int (iI a1)), (2, .int (iI a2))]) hx hb dX10_advance_107 rfl hl (by decide) rfl (fun ls hl => ?_)
              refine lv_aload_n hx hb dX10_advance_108 rfl (lv_at hl 1 rfl) ?_
              refine rwG_watch C hP mF_X10_58 dX10_advance_109 ?_
              refine g_cv (As := []) (rest := []) (n := 0) C hml (c_X9_clear l D k A ad hD (va_up (va_up v 22 ((v 22) + 1)) 25 (v 25)) (va_up (va_up (va_up (va_up (va_up (va_up (va_up (va_up (va_up (va_up f 18 a18_16) 19 a19_16) 31 (f 31)) 34 a34_15) 35 a35_15) 36 a36_15) 37 a37_15) 38 a38_15) 39 a39_15) 41 a41_15) (va_up (va_up (va_up g 0 b0_15) 2 b2_15) 3 b3_15)) mM_X10_113 mI_X9_clear mE_X9_clear mN_X9 mC_X9_clear (by decide +kernel) 43 (ci := 9) rfl rfl hP hS (fun _ h => h) ⟨Nat.le_of_ble_eq_true rfl, Nat.le_of_ble_eq_true rfl⟩ ⟨Nat.zero_le _, Nat.zero_le _⟩ hl.1 rfl rfl (Nat.le_of_ble_eq_true rfl) dX10_advance_112 (fun r_17 v_17 f_17 g_17 H locs hq_17 hP _ hS => ?_)
              obtain ⟨rfl, rfl, rfl, rfl⟩ := hq_17
              show W p l e (gRm 5 133) s m args below meth c _ _ 0 0 Q (F0 m 115 ls [])
              have hP : gWd D (rwT k ad) (va_up (va_up v 22 ((v 22) + 1)) 25 (v 25)) (va_up (va_up (va_up (va_up (va_up (va_up (va_up (va_up (va_up (va_up f 18 a18_16) 19 a19_16) 31 (gfill (f 31) 16 0)) 34 a34_15) 35 a35_15) 36 a36_15) 37 a37_15) 38 a38_15) 39 a39_15) 41 a41_15) (va_up (va_up (va_up g 0 b0_15) 2 b2_15) 3 b3_15) H := ⟨hP.1, (gF_up (V := rwV) (F := rwF) (gF_up (V := rwV) (F := rwF) (gF_up (V := rwV) (F := rwF) (gF_up (V := rwV) (F := rwF) (gF_up (V := rwV) (F := rwF) (gF_up (V := rwV) (F := rwF) (gF_up (V := rwV) (F := rwF) (gF_up (V := rwV) (F := rwF) (gF_up (V := rwV) (F := rwF) (gF_up (V := rwV) (F := rwF) (gR_up (V := rwV) (F := rwF) (gR_up (V := rwV) (F := rwF) ⟨hok.1, hok.2⟩ 22 (hP.2.1 22)) 25 (hP.2.1 25)) 18 (hP.2.2 18)) 19 (hP.2.2 19)) 31 (hP.2.2 31)) 34 (hP.2.2 34)) 35 (hP.2.2 35)) 36 (hP.2.2 36)) 37 (hP.2.2 37)) 38 (hP.2.2 38)) 39 (hP.2.2 39)) 41 (hP.2.2 41))⟩
              refine lv_aload_n hx hb dX10_advance_115 rfl (lv_at hl 1 rfl) ?_
              refine lv_iload_n hx hb dX10_advance_116 rfl (lv_at hl 0 rfl) ?_
              refine g_cv (As := [.int (iI z_16)]) (rest := []) (n := 1) C hml (c_X10_answer l D k A ad hD (va_up (va_up v 22 ((v 22) + 1)) 25 (v 25)) (va_up (va_up (va_up (va_up (va_up (va_up (va_up (va_up (va_up (va_up f 18 a18_16) 19 a19_16) 31 (gfill (f 31) 16 0)) 34 a34_15) 35 a35_15) 36 a36_15) 37 a37_15) 38 a38_15) 39 a39_15) 41 a41_15) (va_up (va_up (va_up g 0 b0_15) 2 b2_15) 3 b3_15) z_16 (by omega)) mM_X10_120 mI_X10_answer mE_X10_answer mN_X10 mC_X10_answer (by decide +kernel) 0 (ci := 10) rfl rfl hP hS (fun _ h => h) ⟨Nat.le_of_ble_eq_true rfl, Nat.le_of_ble_eq_true rfl⟩ ⟨Nat.zero_le _, Nat.zero_le _⟩ hl.1 rfl rfl (Nat.le_of_ble_eq_true rfl) dX10_advance_117 (fun r_18 v_18 f_18 g_18 H locs hq_18 hP _ hS => ?_)
              obtain ⟨z_18, rfl, rfl, rfl, rfl, p0_18⟩ := hq_18
              show W p l e (gRm 5 133) s m args below meth c _ _ 0 0 Q (F0 m 120 ls [.int (iI z_18)])
              have hP : gWd D (rwT k ad) (va_up (va_up v 22 ((v 22) + 1)) 25 0) (va_up (va_up (va_up (va_up (va_up (va_up (va_up (va_up (va_up (va_up f 18 a18_16) 19 a19_16) 31 (gfill (f 31) 16 0)) 34 a34_15) 35 a35_15) 36 a36_15) 37 a37_15) 38 a38_15) 39 a39_15) 41 a41_15) (va_up (va_up (va_up g 0 b0_15) 2 b2_15) 3 b3_15) H := ⟨hP.1, (gF_up (V := rwV) (F := rwF) (gF_up (V := rwV) (F := rwF) (gF_up (V := rwV) (F := rwF) (gF_up (V := rwV) (F := rwF) (gF_up (V := rwV) (F := rwF) (gF_up (V := rwV) (F := rwF) (gF_up (V := rwV) (F := rwF) (gF_up (V := rwV) (F := rwF) (gF_up (V := rwV) (F := rwF) (gF_up (V := rwV) (F := rwF) (gR_up (V := rwV) (F := rwF) (gR_up (V := rwV) (F := rwF) ⟨hok.1, hok.2⟩ 22 (hP.2.1 22)) 25 (hP.2.1 25)) 18 (hP.2.2 18)) 19 (hP.2.2 19)) 31 (hP.2.2 31)) 34 (hP.2.2 34)) 35 (hP.2.2 35)) 36 (hP.2.2 36)) 37 (hP.2.2 37)) 38 (hP.2.2 38)) 39 (hP.2.2 39)) 41 (hP.2.2 41))⟩
              replace p0_18 : z_18 = z_16 := p0_18
              have hz_18 : inR z_18 := (by first | omega | (rw [p0_18]; split <;> omega))
              exact g_iret hQ C hr hlocks hP hS dX10_advance_120 ⟨z_18, ((v 22) + 1), 0, a18_16, a19_16, (gfill (f 31) 16 0), a34_15, a35_15, a36_15, a37_15, a38_15, a39_15, a41_15, b0_15, b2_15, b3_15, rfl, rfl, rfl, rfl, (by first | omega | (split <;> omega))⟩
            · refine lv_aload_n hx hb dX10_advance_69 rfl (lv_at hl 0 rfl) ?_
              refine lv_bipush (v := iI 10) hx hb dX10_advance_70 (by decide) ?_
              refine g_cv (As := [.int (iI 10)]) (rest := []) (n := 1) C hml (c_X10_refuse l D k A ad hD (va_up (va_up v 22 (v 22)) 25 (v 25)) (va_up (va_up (va_up (va_up (va_up (va_up (va_up (va_up (va_up (va_up f 18 (f 18)) 19 (f 19)) 31 (f 31)) 34 (f 34)) 35 (f 35)) 36 (f 36)) 37 (f 37)) 38 (f 38)) 39 (f 39)) 41 (f 41)) (va_up (va_up (va_up g 0 (g 0)) 2 (g 2)) 3 (g 3)) 10 (by decide) (show 0 ≤ (10 : Int) ∧ (10 : Int) ≤ 10 from by omega)) mM_X10_88 mI_X10_refuse mE_X10_refuse mN_X10 mC_X10_refuse (by decide +kernel) 0 (ci := 10) rfl rfl hP hS (fun _ h => h) ⟨Nat.le_of_ble_eq_true rfl, Nat.le_of_ble_eq_true rfl⟩ ⟨Nat.zero_le _, Nat.zero_le _⟩ hl.1 rfl rfl (Nat.le_of_ble_eq_true rfl) dX10_advance_72 (fun r_19 v_19 f_19 g_19 H locs hq_19 hP _ hS => ?_)
              obtain ⟨rfl, rfl, rfl, rfl⟩ := hq_19
              show W p l e (gRm 5 133) s m args below meth c _ _ 0 0 Q (F0 m 75 ls [.int (iI (-1))])
              have hP : gWd D (rwT k ad) (va_up (va_up v 22 (v 22)) 25 (10 : Int)) (va_up (va_up (va_up (va_up (va_up (va_up (va_up (va_up (va_up (va_up f 18 (f 18)) 19 (f 19)) 31 (f 31)) 34 (f 34)) 35 (f 35)) 36 (f 36)) 37 (f 37)) 38 (f 38)) 39 (f 39)) 41 (f 41)) (va_up (va_up (va_up g 0 (g 0)) 2 (g 2)) 3 (g 3)) H := ⟨hP.1, (gF_up (V := rwV) (F := rwF) (gF_up (V := rwV) (F := rwF) (gF_up (V := rwV) (F := rwF) (gF_up (V := rwV) (F := rwF) (gF_up (V := rwV) (F := rwF) (gF_up (V := rwV) (F := rwF) (gF_up (V := rwV) (F := rwF) (gF_up (V := rwV) (F := rwF) (gF_up (V := rwV) (F := rwF) (gF_up (V := rwV) (F := rwF) (gR_up (V := rwV) (F := rwF) (gR_up (V := rwV) (F := rwF) ⟨hok.1, hok.2⟩ 22 (hP.2.1 22)) 25 (hP.2.1 25)) 18 (hP.2.2 18)) 19 (hP.2.2 19)) 31 (hP.2.2 31)) 34 (hP.2.2 34)) 35 (hP.2.2 35)) 36 (hP.2.2 36)) 37 (hP.2.2 37)) 38 (hP.2.2 38)) 39 (hP.2.2 39)) 41 (hP.2.2 41))⟩
              exact g_iret hQ C hr hlocks hP hS dX10_advance_75 ⟨(-1), (v 22), (10 : Int), (f 18), (f 19), (f 31), (f 34), (f 35), (f 36), (f 37), (f 38), (f 39), (f 41), (g 0), (g 2), (g 3), rfl, rfl, rfl, rfl, (by first | omega | (split <;> omega))⟩
        · refine lv_aload_n hx hb dX10_advance_34 rfl (lv_at hl 0 rfl) ?_
          refine lv_iconst (v := iI 5) hx hb dX10_advance_35 rfl ?_
          refine g_cv (As := [.int (iI 5)]) (rest := []) (n := 1) C hml (c_X10_refuse l D k A ad hD (va_up (va_up v 22 (v 22)) 25 (v 25)) (va_up (va_up (va_up (va_up (va_up (va_up (va_up (va_up (va_up (va_up f 18 (f 18)) 19 (f 19)) 31 (f 31)) 34 (f 34)) 35 (f 35)) 36 (f 36)) 37 (f 37)) 38 (f 38)) 39 (f 39)) 41 (f 41)) (va_up (va_up (va_up g 0 (g 0)) 2 (g 2)) 3 (g 3)) 5 (by decide) (show 0 ≤ (5 : Int) ∧ (5 : Int) ≤ 10 from by omega)) mM_X10_88 mI_X10_refuse mE_X10_refuse mN_X10 mC_X10_refuse (by decide +kernel) 0 (ci := 10) rfl rfl hP hS (fun _ h => h) ⟨Nat.le_of_ble_eq_true rfl, Nat.le_of_ble_eq_true rfl⟩ ⟨Nat.zero_le _, Nat.zero_le _⟩ hl.1 rfl rfl (Nat.le_of_ble_eq_true rfl) dX10_advance_36 (fun r_20 v_20 f_20 g_20 H locs hq_20 hP _ hS => ?_)
          obtain ⟨rfl, rfl, rfl, rfl⟩ := hq_20
          show W p l e (gRm 5 133) s m args below meth c _ _ 0 0 Q (F0 m 39 ls [.int (iI (-1))])
          have hP : gWd D (rwT k ad) (va_up (va_up v 22 (v 22)) 25 (5 : Int)) (va_up (va_up (va_up (va_up (va_up (va_up (va_up (va_up (va_up (va_up f 18 (f 18)) 19 (f 19)) 31 (f 31)) 34 (f 34)) 35 (f 35)) 36 (f 36)) 37 (f 37)) 38 (f 38)) 39 (f 39)) 41 (f 41)) (va_up (va_up (va_up g 0 (g 0)) 2 (g 2)) 3 (g 3)) H := ⟨hP.1, (gF_up (V := rwV) (F := rwF) (gF_up (V := rwV) (F := rwF) (gF_up (V := rwV) (F := rwF) (gF_up (V := rwV) (F := rwF) (gF_up (V := rwV) (F := rwF) (gF_up (V := rwV) (F := rwF) (gF_up (V := rwV) (F := rwF) (gF_up (V := rwV) (F := rwF) (gF_up (V := rwV) (F := rwF) (gF_up (V := rwV) (F := rwF) (gR_up (V := rwV) (F := rwF) (gR_up (V := rwV) (F := rwF) ⟨hok.1, hok.2⟩ 22 (hP.2.1 22)) 25 (hP.2.1 25)) 18 (hP.2.2 18)) 19 (hP.2.2 19)) 31 (hP.2.2 31)) 34 (hP.2.2 34)) 35 (hP.2.2 35)) 36 (hP.2.2 36)) 37 (hP.2.2 37)) 38 (hP.2.2 38)) 39 (hP.2.2 39)) 41 (hP.2.2 41))⟩
          exact g_iret hQ C hr hlocks hP hS dX10_advance_39 ⟨(-1), (v 22), (5 : Int), (f 18), (f 19), (f 31), (f 34), (f 35), (f 36), (f 37), (f 38), (f 39), (f 41), (g 0), (g 2), (g 3), rfl, rfl, rfl, rfl, (by first | omega | (split <;> omega))⟩
      · refine lv_aload_n hx hb dX10_advance_18 rfl (lv_at hl 0 rfl) ?_
        refine lv_iconst (v := iI 2) hx hb dX10_advance_19 rfl ?_
        refine g_cv (As := [.int (iI 2)]) (rest := []) (n := 1) C hml (c_X10_refuse l D k A ad hD (va_up (va_up v 22 (v 22)) 25 (v 25)) (va_up (va_up (va_up (va_up (va_up (va_up (va_up (va_up (va_up (va_up f 18 (f 18)) 19 (f 19)) 31 (f 31)) 34 (f 34)) 35 (f 35)) 36 (f 36)) 37 (f 37)) 38 (f 38)) 39 (f 39)) 41 (f 41)) (va_up (va_up (va_up g 0 (g 0)) 2 (g 2)) 3 (g 3)) 2 (by decide) (show 0 ≤ (2 : Int) ∧ (2 : Int) ≤ 10 from by omega)) mM_X10_88 mI_X10_refuse mE_X10_refuse mN_X10 mC_X10_refuse (by decide +kernel) 0 (ci := 10) rfl rfl hP hS (fun _ h => h) ⟨Nat.le_of_ble_eq_true rfl, Nat.le_of_ble_eq_true rfl⟩ ⟨Nat.zero_le _, Nat.zero_le _⟩ hl.1 rfl rfl (Nat.le_of_ble_eq_true rfl) dX10_advance_20 (fun r_21 v_21 f_21 g_21 H locs hq_21 hP _ hS => ?_)
        obtain ⟨rfl, rfl, rfl, rfl⟩ := hq_21
        show W p l e (gRm 5 133) s m args below meth c _ _ 0 0 Q (F0 m 23 ls [.int (iI (-1))])
        have hP : gWd D (rwT k ad) (va_up (va_up v 22 (v 22)) 25 (2 : Int)) (va_up (va_up (va_up (va_up (va_up (va_up (va_up (va_up (va_up (va_up f 18 (f 18)) 19 (f 19)) 31 (f 31)) 34 (f 34)) 35 (f 35)) 36 (f 36)) 37 (f 37)) 38 (f 38)) 39 (f 39)) 41 (f 41)) (va_up (va_up (va_up g 0 (g 0)) 2 (g 2)) 3 (g 3)) H := ⟨hP.1, (gF_up (V := rwV) (F := rwF) (gF_up (V := rwV) (F := rwF) (gF_up (V := rwV) (F := rwF) (gF_up (V := rwV) (F := rwF) (gF_up (V := rwV) (F := rwF) (gF_up (V := rwV) (F := rwF) (gF_up (V := rwV) (F := rwF) (gF_up (V := rwV) (F := rwF) (gF_up (V := rwV) (F := rwF) (gF_up (V := rwV) (F := rwF) (gR_up (V := rwV) (F := rwF) (gR_up (V := rwV) (F := rwF) ⟨hok.1, hok.2⟩ 22 (hP.2.1 22)) 25 (hP.2.1 25)) 18 (hP.2.2 18)) 19 (hP.2.2 19)) 31 (hP.2.2 31)) 34 (hP.2.2 34)) 35 (hP.2.2 35)) 36 (hP.2.2 36)) 37 (hP.2.2 37)) 38 (hP.2.2 38)) 39 (hP.2.2 39)) 41 (hP.2.2 41))⟩
        exact g_iret hQ C hr hlocks hP hS dX10_advance_23 ⟨(-1), (v 22), (2 : Int), (f 18), (f 19), (f 31), (f 34), (f 35), (f 36), (f 37), (f 38), (f 39), (f 41), (g 0), (g 2), (g 3), rfl, rfl, rfl, rfl, (by first | omega | (split <;> omega))⟩

set_option maxHeartbeats 4000000 in
set_option maxRecDepth 100000 in
theorem c_X10_order (l : Launch) (D : va_G) (k : Nat → ClassId) (A : Nat → Prop) (ad : Nat → Nat) (hD : rwD A k ad) (v : gV) (f g : gF) (a1 : Int) (a2 : Int) (h_a1 : inR a1) (h_a2 : inR a2) (hs : shOk (v 1) (f 1)) : GM l D k A (rwT k ad) yX10_order cX10_order 3 (some .int) 5 133 [.ref (ad 0), .int (iI a1), .int (iI a2)] v f g (fun r v1 f1 g1 => ∃ (z : Int) (w25 : Int) (a34_ : Int → Int) (a35_ : Int → Int) (a36_ : Int → Int) (a37_ : Int → Int) (a38_ : Int → Int) (a39_ : Int → Int) (a41_ : Int → Int) (b0_ : Int → Int) (b2_ : Int → Int) (b3_ : Int → Int), r = some (.int (iI z)) ∧ (va_up v 25 w25) = v1 ∧ (va_up (va_up (va_up (va_up (va_up (va_up (va_up f 34 a34_) 35 a35_) 36 a36_) 37 a37_) 38 a38_) 39 a39_) 41 a41_) = f1 ∧ (va_up (va_up (va_up g 0 b0_) 2 b2_) 3 b3_) = g1 ∧ ((-1) ≤ z ∧ z ≤ 16)) := by
  refine GM.of (by decide) (Nat.le_of_ble_eq_true rfl) ?_
  intro p e s m args below meth c Q ls hQ C hml hr hlocks hP hl
  have hx := C.1
  have hb := C.2.1
  have hok := hP.2
  have hS : va_S A s.heap s.heap [] := va_S.rf
  have hl : lv_has ls 3 [(0, .ref (ad 0)), (1, .int (iI a1)), (2, .int (iI a2))] := hl
  have hP : gWd D (rwT k ad) (va_up v 25 (v 25)) (va_up (va_up (va_up (va_up (va_up (va_up (va_up f 34 (f 34)) 35 (f 35)) 36 (f 36)) 37 (f 37)) 38 (f 38)) 39 (f 39)) 41 (f 41)) (va_up (va_up (va_up g 0 (g 0)) 2 (g 2)) 3 (g 3)) s.heap := by rw [va_id, va_id, va_id, va_id, va_id, va_id, va_id, va_id, va_id, va_id, va_id]; exact hP
  have r_1 : 0 ≤ (v 1) ∧ (v 1) ≤ 4 := hok.1 1
  have r_2 : 0 ≤ (v 21) ∧ (v 21) ≤ 16 := hok.1 21
  have r_3 : 0 ≤ (v 22) ∧ (v 22) ≤ 3 := hok.1 22
  refine lv_aload_n hx hb dX10_order_0 rfl (lv_at hl 0 rfl) ?_
  refine rwG_laws C hP mF_X10_16 dX10_order_1 ?_
  refine lv_iload_n hx hb dX10_order_4 rfl (lv_at hl 1 rfl) ?_
  refine g_cv (As := [.int (iI a1)]) (rest := []) (n := 1) C hml (c_X4_hasRound l D k A ad hD (va_up v 25 (v 25)) (va_up (va_up (va_up (va_up (va_up (va_up (va_up f 34 (f 34)) 35 (f 35)) 36 (f 36)) 37 (f 37)) 38 (f 38)) 39 (f 39)) 41 (f 41)) (va_up (va_up (va_up g 0 (g 0)) 2 (g 2)) 3 (g 3)) a1 (by omega)) mM_X10_164 mI_X4_hasRound mE_X4_hasRound mN_X4 mC_X4_hasRound (by decide +kernel) 2 (ci := 4) rfl rfl hP hS (fun _ h => h) ⟨Nat.le_of_ble_eq_true rfl, Nat.le_of_ble_eq_true rfl⟩ ⟨Nat.zero_le _, Nat.zero_le _⟩ hl.1 rfl rfl (Nat.le_of_ble_eq_true rfl) dX10_order_5 (fun r_4 v_4 f_4 g_4 H locs hq_4 hP _ hS => ?_)
  obtain ⟨z_4, rfl, rfl, rfl, rfl, p0_4⟩ := hq_4
  show W p l e (gRm 5 133) s m args below meth c _ _ 0 0 Q (F0 m 8 ls [.int (iI z_4)])
  replace p0_4 : z_4 = (if 0 ≤ a1 ∧ a1 < (v 1) then 1 else 0) := p0_4
  have w_4 := gif (P := 0 ≤ a1 ∧ a1 < (v 1)) p0_4
  have hz_4 : inR z_4 := (by first | omega | (rw [p0_4]; split <;> omega))
  refine gi_zeq (tgt := 27) hx hb dX10_order_8 (by decide) (by omega) (fun c_5 => ?_) (fun c_5 => ?_)
  · refine lv_aload_n hx hb dX10_order_27 rfl (lv_at hl 0 rfl) ?_
    refine lv_iconst (v := iI 1) hx hb dX10_order_28 rfl ?_
    refine g_cv (As := [.int (iI 1)]) (rest := []) (n := 1) C hml (c_X10_refuse l D k A ad hD (va_up v 25 (v 25)) (va_up (va_up (va_up (va_up (va_up (va_up (va_up f 34 (f 34)) 35 (f 35)) 36 (f 36)) 37 (f 37)) 38 (f 38)) 39 (f 39)) 41 (f 41)) (va_up (va_up (va_up g 0 (g 0)) 2 (g 2)) 3 (g 3)) 1 (by decide) (show 0 ≤ (1 : Int) ∧ (1 : Int) ≤ 10 from by omega)) mM_X10_88 mI_X10_refuse mE_X10_refuse mN_X10 mC_X10_refuse (by decide +kernel) 0 (ci := 10) rfl rfl hP hS (fun _ h => h) ⟨Nat.le_of_ble_eq_true rfl, Nat.le_of_ble_eq_true rfl⟩ ⟨Nat.zero_le _, Nat.zero_le _⟩ hl.1 rfl rfl (Nat.le_of_ble_eq_true rfl) dX10_order_29 (fun r_6 v_6 f_6 g_6 H locs hq_6 hP _ hS => ?_)
    obtain ⟨rfl, rfl, rfl, rfl⟩ := hq_6
    show W p l e (gRm 5 133) s m args below meth c _ _ 0 0 Q (F0 m 32 ls [.int (iI (-1))])
    have hP : gWd D (rwT k ad) (va_up v 25 (1 : Int)) (va_up (va_up (va_up (va_up (va_up (va_up (va_up f 34 (f 34)) 35 (f 35)) 36 (f 36)) 37 (f 37)) 38 (f 38)) 39 (f 39)) 41 (f 41)) (va_up (va_up (va_up g 0 (g 0)) 2 (g 2)) 3 (g 3)) H := ⟨hP.1, (gF_up (V := rwV) (F := rwF) (gF_up (V := rwV) (F := rwF) (gF_up (V := rwV) (F := rwF) (gF_up (V := rwV) (F := rwF) (gF_up (V := rwV) (F := rwF) (gF_up (V := rwV) (F := rwF) (gF_up (V := rwV) (F := rwF) (gR_up (V := rwV) (F := rwF) ⟨hok.1, hok.2⟩ 25 (hP.2.1 25)) 34 (hP.2.2 34)) 35 (hP.2.2 35)) 36 (hP.2.2 36)) 37 (hP.2.2 37)) 38 (hP.2.2 38)) 39 (hP.2.2 39)) 41 (hP.2.2 41))⟩
    exact g_iret hQ C hr hlocks hP hS dX10_order_32 ⟨(-1), (1 : Int), (f 34), (f 35), (f 36), (f 37), (f 38), (f 39), (f 41), (g 0), (g 2), (g 3), rfl, rfl, rfl, rfl, (by first | omega | (split <;> omega))⟩
  · refine lv_iload_n hx hb dX10_order_11 rfl (lv_at hl 2 rfl) ?_
    refine gi_zlt (tgt := 27) hx hb dX10_order_12 (by decide) (by omega) (fun c_7 => ?_) (fun c_7 => ?_)
    · refine lv_aload_n hx hb dX10_order_27 rfl (lv_at hl 0 rfl) ?_
      refine lv_iconst (v := iI 1) hx hb dX10_order_28 rfl ?_
      refine g_cv (As := [.int (iI 1)]) (rest := []) (n := 1) C hml (c_X10_refuse l D k A ad hD (va_up v 25 (v 25)) (va_up (va_up (va_up (va_up (va_up (va_up (va_up f 34 (f 34)) 35 (f 35)) 36 (f 36)) 37 (f 37)) 38 (f 38)) 39 (f 39)) 41 (f 41)) (va_up (va_up (va_up g 0 (g 0)) 2 (g 2)) 3 (g 3)) 1 (by decide) (show 0 ≤ (1 : Int) ∧ (1 : Int) ≤ 10 from by omega)) mM_X10_88 mI_X10_refuse mE_X10_refuse mN_X10 mC_X10_refuse (by decide +kernel) 0 (ci := 10) rfl rfl hP hS (fun _ h => h) ⟨Nat.le_of_ble_eq_true rfl, Nat.le_of_ble_eq_true rfl⟩ ⟨Nat.zero_le _, Nat.zero_le _⟩ hl.1 rfl rfl (Nat.le_of_ble_eq_true rfl) dX10_order_29 (fun r_8 v_8 f_8 g_8 H locs hq_8 hP _ hS => ?_)
      obtain ⟨rfl, rfl, rfl, rfl⟩ := hq_8
      show W p l e (gRm 5 133) s m args below meth c _ _ 0 0 Q (F0 m 32 ls [.int (iI (-1))])
      have hP : gWd D (rwT k ad) (va_up v 25 (1 : Int)) (va_up (va_up (va_up (va_up (va_up (va_up (va_up f 34 (f 34)) 35 (f 35)) 36 (f 36)) 37 (f 37)) 38 (f 38)) 39 (f 39)) 41 (f 41)) (va_up (va_up (va_up g 0 (g 0)) 2 (g 2)) 3 (g 3)) H := ⟨hP.1, (gF_up (V := rwV) (F := rwF) (gF_up (V := rwV) (F := rwF) (gF_up (V := rwV) (F := rwF) (gF_up (V := rwV) (F := rwF) (gF_up (V := rwV) (F := rwF) (gF_up (V := rwV) (F := rwF) (gF_up (V := rwV) (F := rwF) (gR_up (V := rwV) (F := rwF) ⟨hok.1, hok.2⟩ 25 (hP.2.1 25)) 34 (hP.2.2 34)) 35 (hP.2.2 35)) 36 (hP.2.2 36)) 37 (hP.2.2 37)) 38 (hP.2.2 38)) 39 (hP.2.2 39)) 41 (hP.2.2 41))⟩
      exact g_iret hQ C hr hlocks hP hS dX10_order_32 ⟨(-1), (1 : Int), (f 34), (f 35), (f 36), (f 37), (f 38), (f 39), (f 41), (g 0), (g 2), (g 3), rfl, rfl, rfl, rfl, (by first | omega | (split <;> omega))⟩
    · refine lv_iload_n hx hb dX10_order_15 rfl (lv_at hl 2 rfl) ?_
      refine lv_aload_n hx hb dX10_order_16 rfl (lv_at hl 0 rfl) ?_
      refine rwG_field C hP mF_X10_37 dX10_order_17 ?_
      refine lv_iload_n hx hb dX10_order_20 rfl (lv_at hl 1 rfl) ?_
      refine g_cv (As := [.int (iI a1)]) (rest := [.int (iI a2)]) (n := 1) C hml (c_X2_manyIn l D k A ad hD (va_up v 25 (v 25)) (va_up (va_up (va_up (va_up (va_up (va_up (va_up f 34 (f 34)) 35 (f 35)) 36 (f 36)) 37 (f 37)) 38 (f 38)) 39 (f 39)) 41 (f 41)) (va_up (va_up (va_up g 0 (g 0)) 2 (g 2)) 3 (g 3)) a1 (by omega)) mM_X10_167 mI_X2_manyIn mE_X2_manyIn mN_X2 mC_X2_manyIn (by decide +kernel) 27 (ci := 2) rfl rfl hP hS (fun _ h => h) ⟨Nat.le_of_ble_eq_true rfl, Nat.le_of_ble_eq_true rfl⟩ ⟨Nat.zero_le _, Nat.zero_le _⟩ hl.1 rfl rfl (Nat.le_of_ble_eq_true rfl) dX10_order_21 (fun r_9 v_9 f_9 g_9 H locs hq_9 hP _ hS => ?_)
      obtain ⟨z_9, rfl, rfl, rfl, rfl, p0_9⟩ := hq_9
      show W p l e (gRm 5 133) s m args below meth c _ _ 0 0 Q (F0 m 24 ls [.int (iI z_9), .int (iI a2)])
      replace p0_9 : 0 ≤ z_9 ∧ z_9 ≤ 16 := p0_9
      refine gi_clt (tgt := 33) hx hb dX10_order_24 (by decide) (by omega) (by omega) (fun c_10 => ?_) (fun c_10 => ?_)
      · refine lv_iload_n hx hb dX10_order_33 rfl (lv_at hl 1 rfl) ?_
        refine gi_zne (tgt := 43) hx hb dX10_order_34 (by decide) (by omega) (fun c_11 => ?_) (fun c_11 => ?_)
        · refine lv_aload_n hx hb dX10_order_43 rfl (lv_at hl 0 rfl) ?_
          refine rwG_results C hP mF_X10_67 dX10_order_44 ?_
          refine lv_iload_n hx hb dX10_order_47 rfl (lv_at hl 1 rfl) ?_
          refine lv_iconst (v := iI 1) hx hb dX10_order_48 rfl ?_
          refine gi_sub (z := (a1 - 1)) hx hb dX10_order_49 rfl ?_
          refine lv_aload_n hx hb dX10_order_50 rfl (lv_at hl 0 rfl) ?_
          refine rwG_field C hP mF_X10_37 dX10_order_51 ?_
          refine lv_iload_n hx hb dX10_order_54 rfl (lv_at hl 1 rfl) ?_
          refine g_cv (As := [.int (iI a1)]) (rest := [.int (iI (a1 - 1)), .ref (ad 47)]) (n := 1) C hml (c_X2_dayOf l D k A ad hD (va_up v 25 (v 25)) (va_up (va_up (va_up (va_up (va_up (va_up (va_up f 34 (f 34)) 35 (f 35)) 36 (f 36)) 37 (f 37)) 38 (f 38)) 39 (f 39)) 41 (f 41)) (va_up (va_up (va_up g 0 (g 0)) 2 (g 2)) 3 (g 3)) a1 (by omega) (show 0 ≤ a1 ∧ a1 ≤ 3 from by omega)) mM_X10_294 mI_X2_dayOf mE_X2_dayOf mN_X2 mC_X2_dayOf (by decide +kernel) 27 (ci := 2) rfl rfl hP hS (fun _ h => h) ⟨Nat.le_of_ble_eq_true rfl, Nat.le_of_ble_eq_true rfl⟩ ⟨Nat.zero_le _, Nat.zero_le _⟩ hl.1 rfl rfl (Nat.le_of_ble_eq_true rfl) dX10_order_55 (fun r_12 v_12 f_12 g_12 H locs hq_12 hP _ hS => ?_)
          obtain ⟨z_12, rfl, rfl, rfl, rfl, p0_12, p1_12⟩ := hq_12
          show W p l e (gRm 5 133) s m args below meth c _ _ 0 0 Q (F0 m 58 ls [.int (iI z_12), .int (iI (a1 - 1)), .ref (ad 47)])
          replace p0_12 : z_12 = ((f 19) a1) := p0_12
          replace p1_12 : 0 ≤ z_12 ∧ z_12 ≤ 999 := p1_12
          have hz_12 : inR z_12 := (by first | omega | (rw [p0_12]; split <;> omega))
          refine g_cv (As := [.int (iI (a1 - 1)), .int (iI z_12)]) (rest := []) (n := 2) C hml (c_X5_workRanks l D k A ad hD (va_up v 25 (v 25)) (va_up (va_up (va_up (va_up (va_up (va_up (va_up f 34 (f 34)) 35 (f 35)) 36 (f 36)) 37 (f 37)) 38 (f 38)) 39 (f 39)) 41 (f 41)) (va_up (va_up (va_up g 0 (g 0)) 2 (g 2)) 3 (g 3)) (a1 - 1) z_12 (by omega) (by omega) (show shOk (v 1) (f 1) from hs) (show 0 ≤ (a1 - 1) ∧ (a1 - 1) ≤ 3 from by omega)) mM_X10_281 mI_X5_workRanks mE_X5_workRanks mN_X5 mC_X5_workRanks (by decide +kernel) 47 (ci := 5) rfl rfl hP hS (fun _ h => h) ⟨Nat.le_of_ble_eq_true rfl, Nat.le_of_ble_eq_true rfl⟩ ⟨Nat.zero_le _, Nat.zero_le _⟩ hl.1 rfl rfl (Nat.le_of_ble_eq_true rfl) dX10_order_58 (fun r_13 v_13 f_13 g_13 H locs hq_13 hP _ hS => ?_)
          obtain ⟨a34_13, a35_13, a36_13, a37_13, a38_13, a39_13, a41_13, b0_13, b2_13, b3_13, rfl, rfl, rfl, rfl⟩ := hq_13
          show W p l e (gRm 5 133) s m args below meth c _ _ 0 0 Q (F0 m 61 ls [])
          have hP : gWd D (rwT k ad) (va_up v 25 (v 25)) (va_up (va_up (va_up (va_up (va_up (va_up (va_up f 34 a34_13) 35 a35_13) 36 a36_13) 37 a37_13) 38 a38_13) 39 a39_13) 41 a41_13) (va_up (va_up (va_up g 0 b0_13) 2 b2_13) 3 b3_13) H := ⟨hP.1, (gF_up (V := rwV) (F := rwF) (gF_up (V := rwV) (F := rwF) (gF_up (V := rwV) (F := rwF) (gF_up (V := rwV) (F := rwF) (gF_up (V := rwV) (F := rwF) (gF_up (V := rwV) (F := rwF) (gF_up (V := rwV) (F := rwF) (gR_up (V := rwV) (F := rwF) ⟨hok.1, hok.2⟩ 25 (hP.2.1 25)) 34 (hP.2.2 34)) 35 (hP.2.2 35)) 36 (hP.2.2 36)) 37 (hP.2.2 37)) 38 (hP.2.2 38)) 39 (hP.2.2 39)) 41 (hP.2.2 41))⟩
          refine lv_aload_n hx hb dX10_order_61 rfl (lv_at hl 0 rfl) ?_
          refine lv_aload_n hx hb dX10_order_62 rfl (lv_at hl 0 rfl) ?_
          refine rwG_results C hP mF_X10_67 dX10_order_63 ?_
          refine lv_iload_n hx hb dX10_order_66 rfl (lv_at hl 1 rfl) ?_
          refine lv_iload_n hx hb dX10_order_67 rfl (lv_at hl 2 rfl) ?_
          refine g_cv (As := [.int (iI a1), .int (iI a2)]) (rest := [.ref (ad 0)]) (n := 2) C hml (c_X5_starter l D k A ad hD (va_up v 25 (v 25)) (va_up (va_up (va_up (va_up (va_up (va_up (va_up f 34 a34_13) 35 a35_13) 36 a36_13) 37 a37_13) 38 a38_13) 39 a39_13) 41 a41_13) (va_up (va_up (va_up g 0 b0_13) 2 b2_13) 3 b3_13) a1 a2 (by omega) (by omega) (show 0 ≤ a1 ∧ a1 ≤ 3 from by omega)) mM_X10_297 mI_X5_starter mE_X5_starter mN_X5 mC_X5_starter (by decide +kernel) 47 (ci := 5) rfl rfl hP hS (fun _ h => h) ⟨Nat.le_of_ble_eq_true rfl, Nat.le_of_ble_eq_true rfl⟩ ⟨Nat.zero_le _, Nat.zero_le _⟩ hl.1 rfl rfl (Nat.le_of_ble_eq_true rfl) dX10_order_68 (fun r_14 v_14 f_14 g_14 H locs hq_14 hP _ hS => ?_)
          obtain ⟨z_14, rfl, rfl, rfl, rfl, p0_14⟩ := hq_14
          show W p l e (gRm 5 133) s m args below meth c _ _ 0 0 Q (F0 m 71 ls [.int (iI z_14), .ref (ad 0)])
          replace p0_14 : (-1) ≤ z_14 ∧ z_14 ≤ 15 := p0_14
          refine g_cv (As := [.int (iI z_14)]) (rest := []) (n := 1) C hml (c_X10_answer l D k A ad hD (va_up v 25 (v 25)) (va_up (va_up (va_up (va_up (va_up (va_up (va_up f 34 a34_13) 35 a35_13) 36 a36_13) 37 a37_13) 38 a38_13) 39 a39_13) 41 a41_13) (va_up (va_up (va_up g 0 b0_13) 2 b2_13) 3 b3_13) z_14 (by omega)) mM_X10_120 mI_X10_answer mE_X10_answer mN_X10 mC_X10_answer (by decide +kernel) 0 (ci := 10) rfl rfl hP hS (fun _ h => h) ⟨Nat.le_of_ble_eq_true rfl, Nat.le_of_ble_eq_true rfl⟩ ⟨Nat.zero_le _, Nat.zero_le _⟩ hl.1 rfl rfl (Nat.le_of_ble_eq_true rfl) dX10_order_71 (fun r_15 v_15 f_15 g_15 H locs hq_15 hP _ hS => ?_)
          obtain ⟨z_15, rfl, rfl, rfl, rfl, p0_15⟩ := hq_15
          show W p l e (gRm 5 133) s m args below meth c _ _ 0 0 Q (F0 m 74 ls [.int (iI z_15)])
          have hP : gWd D (rwT k ad) (va_up v 25 0) (va_up (va_up (va_up (va_up (va_up (va_up (va_up f 34 a34_13) 35 a35_13) 36 a36_13) 37 a37_13) 38 a38_13) 39 a39_13) 41 a41_13) (va_up (va_up (va_up g 0 b0_13) 2 b2_13) 3 b3_13) H := ⟨hP.1, (gF_up (V := rwV) (F := rwF) (gF_up (V := rwV) (F := rwF) (gF_up (V := rwV) (F := rwF) (gF_up (V := rwV) (F := rwF) (gF_up (V := rwV) (F := rwF) (gF_up (V := rwV) (F := rwF) (gF_up (V := rwV) (F := rwF) (gR_up (V := rwV) (F := rwF) ⟨hok.1, hok.2⟩ 25 (hP.2.1 25)) 34 (hP.2.2 34)) 35 (hP.2.2 35)) 36 (hP.2.2 36)) 37 (hP.2.2 37)) 38 (hP.2.2 38)) 39 (hP.2.2 39)) 41 (hP.2.2 41))⟩
          replace p0_15 : z_15 = z_14 := p0_15
          have hz_15 : inR z_15 := (by first | omega | (rw [p0_15]; split <;> omega))
          exact g_iret hQ C hr hlocks hP hS dX10_order_74 ⟨z_15, 0, a34_13, a35_13, a36_13, a37_13, a38_13, a39_13, a41_13, b0_13, b2_13, b3_13, rfl, rfl, rfl, rfl, (by first | omega | (split <;> omega))⟩
        · refine lv_aload_n hx hb dX10_order_37 rfl (lv_at hl 0 rfl) ?_
          refine lv_iload_n hx hb dX10_order_38 rfl (lv_at hl 2 rfl) ?_
          refine g_cv (As := [.int (iI a2)]) (rest := []) (n := 1) C hml (c_X10_answer l D k A ad hD (va_up v 25 (v 25)) (va_up (va_up (va_up (va_up (va_up (va_up (va_up f 34 (f 34)) 35 (f 35)) 36 (f 36)) 37 (f 37)) 38 (f 38)) 39 (f 39)) 41 (f 41)) (va_up (va_up (va_up g 0 (g 0)) 2 (g 2)) 3 (g 3)) a2 (by omega)) mM_X10_120 mI_X10_answer mE_X10_answer mN_X10 mC_X10_answer (by decide +kernel) 0 (ci := 10) rfl rfl hP hS (fun _ h => h) ⟨Nat.le_of_ble_eq_true rfl, Nat.le_of_ble_eq_true rfl⟩ ⟨Nat.zero_le _, Nat.zero_le _⟩ hl.1 rfl rfl (Nat.le_of_ble_eq_true rfl) dX10_order_39 (fun r_16 v_16 f_16 g_16 H locs hq_16 hP _ hS => ?_)
          obtain ⟨z_16, rfl, rfl, rfl, rfl, p0_16⟩ := hq_16
          show W p l e (gRm 5 133) s m args below meth c _ _ 0 0 Q (F0 m 42 ls [.int (iI z_16)])
          have hP : gWd D (rwT k ad) (va_up v 25 0) (va_up (va_up (va_up (va_up (va_up (va_up (va_up f 34 (f 34)) 35 (f 35)) 36 (f 36)) 37 (f 37)) 38 (f 38)) 39 (f 39)) 41 (f 41)) (va_up (va_up (va_up g 0 (g 0)) 2 (g 2)) 3 (g 3)) H := ⟨hP.1, (gF_up (V := rwV) (F := rwF) (gF_up (V := rwV) (F := rwF) (gF_up (V := rwV) (F := rwF) (gF_up (V := rwV) (F := rwF) (gF_up (V := rwV) (F := rwF) (gF_up (V := rwV) (F := rwF) (gF_up (V := rwV) (F := rwF) (gR_up (V := rwV) (F := rwF) ⟨hok.1, hok.2⟩ 25 (hP.2.1 25)) 34 (hP.2.2 34)) 35 (hP.2.2 35)) 36 (hP.2.2 36)) 37 (hP.2.2 37)) 38 (hP.2.2 38)) 39 (hP.2.2 39)) 41 (hP.2.2 41))⟩
          replace p0_16 : z_16 = a2 := p0_16
          have hz_16 : inR z_16 := (by first | omega | (rw [p0_16]; split <;> omega))
          exact g_iret hQ C hr hlocks hP hS dX10_order_42 ⟨z_16, 0, (f 34), (f 35), (f 36), (f 37), (f 38), (f 39), (f 41), (g 0), (g 2), (g 3), rfl, rfl, rfl, rfl, (by first | omega | (split <;> omega))⟩
      · refine lv_aload_n hx hb dX10_order_27 rfl (lv_at hl 0 rfl) ?_
        refine lv_iconst (v := iI 1) hx hb dX10_order_28 rfl ?_
        refine g_cv (As := [.int (iI 1)]) (rest := []) (n := 1) C hml (c_X10_refuse l D k A ad hD (va_up v 25 (v 25)) (va_up (va_up (va_up (va_up (va_up (va_up (va_up f 34 (f 34)) 35 (f 35)) 36 (f 36)) 37 (f 37)) 38 (f 38)) 39 (f 39)) 41 (f 41)) (va_up (va_up (va_up g 0 (g 0)) 2 (g 2)) 3 (g 3)) 1 (by decide) (show 0 ≤ (1 : Int) ∧ (1 : Int) ≤ 10 from by omega)) mM_X10_88 mI_X10_refuse mE_X10_refuse mN_X10 mC_X10_refuse (by decide +kernel) 0 (ci := 10) rfl rfl hP hS (fun _ h => h) ⟨Nat.le_of_ble_eq_true rfl, Nat.le_of_ble_eq_true rfl⟩ ⟨Nat.zero_le _, Nat.zero_le _⟩ hl.1 rfl rfl (Nat.le_of_ble_eq_true rfl) dX10_order_29 (fun r_17 v_17 f_17 g_17 H locs hq_17 hP _ hS => ?_)
        obtain ⟨rfl, rfl, rfl, rfl⟩ := hq_17
        show W p l e (gRm 5 133) s m args below meth c _ _ 0 0 Q (F0 m 32 ls [.int (iI (-1))])
        have hP : gWd D (rwT k ad) (va_up v 25 (1 : Int)) (va_up (va_up (va_up (va_up (va_up (va_up (va_up f 34 (f 34)) 35 (f 35)) 36 (f 36)) 37 (f 37)) 38 (f 38)) 39 (f 39)) 41 (f 41)) (va_up (va_up (va_up g 0 (g 0)) 2 (g 2)) 3 (g 3)) H := ⟨hP.1, (gF_up (V := rwV) (F := rwF) (gF_up (V := rwV) (F := rwF) (gF_up (V := rwV) (F := rwF) (gF_up (V := rwV) (F := rwF) (gF_up (V := rwV) (F := rwF) (gF_up (V := rwV) (F := rwF) (gF_up (V := rwV) (F := rwF) (gR_up (V := rwV) (F := rwF) ⟨hok.1, hok.2⟩ 25 (hP.2.1 25)) 34 (hP.2.2 34)) 35 (hP.2.2 35)) 36 (hP.2.2 36)) 37 (hP.2.2 37)) 38 (hP.2.2 38)) 39 (hP.2.2 39)) 41 (hP.2.2 41))⟩
        exact g_iret hQ C hr hlocks hP hS dX10_order_32 ⟨(-1), (1 : Int), (f 34), (f 35), (f 36), (f 37), (f 38), (f 39), (f 41), (g 0), (g 2), (g 3), rfl, rfl, rfl, rfl, (by first | omega | (split <;> omega))⟩

set_option maxHeartbeats 4000000 in
set_option maxRecDepth 100000 in
theorem c_X10_parts (l : Launch) (D : va_G) (k : Nat → ClassId) (A : Nat → Prop) (ad : Nat → Nat) (hD : rwD A k ad) (v : gV) (f g : gF) (a1 : Int) (a2 : Int) (a3 : Int) (h_a1 : inR a1) (h_a2 : inR a2) (h_a3 : inR a3) (hs : shOk (v 1) (f 1)) : GM l D k A (rwT k ad) yX10_parts cX10_parts 4 (some .int) 4 109 [.ref (ad 0), .int (iI a1), .int (iI a2), .int (iI a3)] v f g (fun r v1 f1 g1 => ∃ (z : Int) (w25 : Int) (a34_ : Int → Int) (a35_ : Int → Int) (a36_ : Int → Int) (a37_ : Int → Int) (a38_ : Int → Int) (a39_ : Int → Int) (a40_ : Int → Int) (b0_ : Int → Int), r = some (.int (iI z)) ∧ (va_up v 25 w25) = v1 ∧ (va_up (va_up (va_up (va_up (va_up (va_up (va_up f 34 a34_) 35 a35_) 36 a36_) 37 a37_) 38 a38_) 39 a39_) 40 a40_) = f1 ∧ (va_up g 0 b0_) = g1 ∧ ((-1) ≤ z ∧ z ≤ 256)) := by
  refine GM.of (by decide) (Nat.le_of_ble_eq_true rfl) ?_
  intro p e s m args below meth c Q ls hQ C hml hr hlocks hP hl
  have hx := C.1
  have hb := C.2.1
  have hok := hP.2
  have hS : va_S A s.heap s.heap [] := va_S.rf
  have hl : lv_has ls 4 [(0, .ref (ad 0)), (1, .int (iI a1)), (2, .int (iI a2)), (3, .int (iI a3))] := hl
  have hP : gWd D (rwT k ad) (va_up v 25 (v 25)) (va_up (va_up (va_up (va_up (va_up (va_up (va_up f 34 (f 34)) 35 (f 35)) 36 (f 36)) 37 (f 37)) 38 (f 38)) 39 (f 39)) 40 (f 40)) (va_up g 0 (g 0)) s.heap := by rw [va_id, va_id, va_id, va_id, va_id, va_id, va_id, va_id, va_id]; exact hP
  have r_1 : 0 ≤ (v 1) ∧ (v 1) ≤ 4 := hok.1 1
  have r_2 : 0 ≤ (v 21) ∧ (v 21) ≤ 16 := hok.1 21
  have r_3 : 0 ≤ (v 22) ∧ (v 22) ≤ 3 := hok.1 22
  refine lv_aload_n hx hb dX10_parts_0 rfl (lv_at hl 0 rfl) ?_
  refine rwG_laws C hP mF_X10_16 dX10_parts_1 ?_
  refine lv_iload_n hx hb dX10_parts_4 rfl (lv_at hl 1 rfl) ?_
  refine g_cv (As := [.int (iI a1)]) (rest := []) (n := 1) C hml (c_X4_hasRound l D k A ad hD (va_up v 25 (v 25)) (va_up (va_up (va_up (va_up (va_up (va_up (va_up f 34 (f 34)) 35 (f 35)) 36 (f 36)) 37 (f 37)) 38 (f 38)) 39 (f 39)) 40 (f 40)) (va_up g 0 (g 0)) a1 (by omega)) mM_X10_164 mI_X4_hasRound mE_X4_hasRound mN_X4 mC_X4_hasRound (by decide +kernel) 2 (ci := 4) rfl rfl hP hS (fun _ h => h) ⟨Nat.le_of_ble_eq_true rfl, Nat.le_of_ble_eq_true rfl⟩ ⟨Nat.zero_le _, Nat.zero_le _⟩ hl.1 rfl rfl (Nat.le_of_ble_eq_true rfl) dX10_parts_5 (fun r_4 v_4 f_4 g_4 H locs hq_4 hP _ hS => ?_)
  obtain ⟨z_4, rfl, rfl, rfl, rfl, p0_4⟩ := hq_4
  show W p l e (gRm 4 109) s m args below meth c _ _ 0 0 Q (F0 m 8 ls [.int (iI z_4)])
  replace p0_4 : z_4 = (if 0 ≤ a1 ∧ a1 < (v 1) then 1 else 0) := p0_4
  have w_4 := gif (P := 0 ≤ a1 ∧ a1 < (v 1)) p0_4
  have hz_4 : inR z_4 := (by first | omega | (rw [p0_4]; split <;> omega))
  refine gi_zne (tgt := 17) hx hb dX10_parts_8 (by decide) (by omega) (fun c_5 => ?_) (fun c_5 => ?_)
  · refine lv_iload_n hx hb dX10_parts_17 rfl (lv_at hl 2 rfl) ?_
    refine gi_zlt (tgt := 43) hx hb dX10_parts_18 (by decide) (by omega) (fun c_6 => ?_) (fun c_6 => ?_)
    · refine lv_aload_n hx hb dX10_parts_43 rfl (lv_at hl 0 rfl) ?_
      refine lv_iconst (v := iI 2) hx hb dX10_parts_44 rfl ?_
      refine g_cv (As := [.int (iI 2)]) (rest := []) (n := 1) C hml (c_X10_refuse l D k A ad hD (va_up v 25 (v 25)) (va_up (va_up (va_up (va_up (va_up (va_up (va_up f 34 (f 34)) 35 (f 35)) 36 (f 36)) 37 (f 37)) 38 (f 38)) 39 (f 39)) 40 (f 40)) (va_up g 0 (g 0)) 2 (by decide) (show 0 ≤ (2 : Int) ∧ (2 : Int) ≤ 10 from by omega)) mM_X10_88 mI_X10_refuse mE_X10_refuse mN_X10 mC_X10_refuse (by decide +kernel) 0 (ci := 10) rfl rfl hP hS (fun _ h => h) ⟨Nat.le_of_ble_eq_true rfl, Nat.le_of_ble_eq_true rfl⟩ ⟨Nat.zero_le _, Nat.zero_le _⟩ hl.1 rfl rfl (Nat.le_of_ble_eq_true rfl) dX10_parts_45 (fun r_7 v_7 f_7 g_7 H locs hq_7 hP _ hS => ?_)
      obtain ⟨rfl, rfl, rfl, rfl⟩ := hq_7
      show W p l e (gRm 4 109) s m args below meth c _ _ 0 0 Q (F0 m 48 ls [.int (iI (-1))])
      have hP : gWd D (rwT k ad) (va_up v 25 (2 : Int)) (va_up (va_up (va_up (va_up (va_up (va_up (va_up f 34 (f 34)) 35 (f 35)) 36 (f 36)) 37 (f 37)) 38 (f 38)) 39 (f 39)) 40 (f 40)) (va_up g 0 (g 0)) H := ⟨hP.1, (gF_up (V := rwV) (F := rwF) (gF_up (V := rwV) (F := rwF) (gF_up (V := rwV) (F := rwF) (gF_up (V := rwV) (F := rwF) (gF_up (V := rwV) (F := rwF) (gF_up (V := rwV) (F := rwF) (gF_up (V := rwV) (F := rwF) (gR_up (V := rwV) (F := rwF) ⟨hok.1, hok.2⟩ 25 (hP.2.1 25)) 34 (hP.2.2 34)) 35 (hP.2.2 35)) 36 (hP.2.2 36)) 37 (hP.2.2 37)) 38 (hP.2.2 38)) 39 (hP.2.2 39)) 40 (hP.2.2 40))⟩
      exact g_iret hQ C hr hlocks hP hS dX10_parts_48 ⟨(-1), (2 : Int), (f 34), (f 35), (f 36), (f 37), (f 38), (f 39), (f 40), (g 0), rfl, rfl, rfl, rfl, (by first | omega | (split <;> omega))⟩
    · refine lv_iload_n hx hb dX10_parts_21 rfl (lv_at hl 2 rfl) ?_
      refine lv_iconst (v := iI 1) hx hb dX10_parts_22 rfl ?_
      refine lv_aload_n hx hb dX10_parts_23 rfl (lv_at hl 0 rfl) ?_
      refine rwG_laws C hP mF_X10_16 dX10_parts_24 ?_
      refine lv_iload_n hx hb dX10_parts_27 rfl (lv_at hl 1 rfl) ?_
      refine lv_iconst (v := iI 0) hx hb dX10_parts_28 rfl ?_
      refine g_cv (As := [.int (iI a1), .int (iI 0)]) (rest := [.int (iI 1), .int (iI a2)]) (n := 2) C hml (c_X4_shapeOf l D k A ad hD (va_up v 25 (v 25)) (va_up (va_up (va_up (va_up (va_up (va_up (va_up f 34 (f 34)) 35 (f 35)) 36 (f 36)) 37 (f 37)) 38 (f 38)) 39 (f 39)) 40 (f 40)) (va_up g 0 (g 0)) a1 0 (by omega) (by decide)) mM_X10_170 mI_X4_shapeOf mE_X4_shapeOf mN_X4 mC_X4_shapeOf (by decide +kernel) 2 (ci := 4) rfl rfl hP hS (fun _ h => h) ⟨Nat.le_of_ble_eq_true rfl, Nat.le_of_ble_eq_true rfl⟩ ⟨Nat.zero_le _, Nat.zero_le _⟩ hl.1 rfl rfl (Nat.le_of_ble_eq_true rfl) dX10_parts_29 (fun r_8 v_8 f_8 g_8 H locs hq_8 hP _ hS => ?_)
      obtain ⟨z_8, rfl, rfl, rfl, rfl, p0_8, p1_8⟩ := hq_8
      show W p l e (gRm 4 109) s m args below meth c _ _ 0 0 Q (F0 m 32 ls [.int (iI z_8), .int (iI 1), .int (iI a2)])
      replace p0_8 : z_8 = (if (0 ≤ a1 ∧ a1 < (v 1)) ∧ 0 ≤ (0 : Int) ∧ (0 : Int) < 4 then (f 1) (a1 * 4 + (0 : Int)) else 0) := p0_8
      replace p1_8 : 0 ≤ z_8 ∧ z_8 ≤ 999999 := p1_8
      have hz_8 : inR z_8 := (by first | omega | (rw [p0_8]; split <;> omega))
      have q_8 := by first | exact sh0 hs p0_8 | exact sh2 hs p0_8 | exact sh3 hs p0_8 | exact trivial
      obtain ⟨x_9, ex_9, hx_9⟩ := gShl1 z_8 (by omega)
      refine gi_shl (z := x_9) hx hb dX10_parts_32 ex_9 ?_
      refine gi_cge (tgt := 43) hx hb dX10_parts_33 (by decide) (by omega) (by omega) (fun c_10 => ?_) (fun c_10 => ?_)
      · refine lv_aload_n hx hb dX10_parts_43 rfl (lv_at hl 0 rfl) ?_
        refine lv_iconst (v := iI 2) hx hb dX10_parts_44 rfl ?_
        refine g_cv (As := [.int (iI 2)]) (rest := []) (n := 1) C hml (c_X10_refuse l D k A ad hD (va_up v 25 (v 25)) (va_up (va_up (va_up (va_up (va_up (va_up (va_up f 34 (f 34)) 35 (f 35)) 36 (f 36)) 37 (f 37)) 38 (f 38)) 39 (f 39)) 40 (f 40)) (va_up g 0 (g 0)) 2 (by decide) (show 0 ≤ (2 : Int) ∧ (2 : Int) ≤ 10 from by omega)) mM_X10_88 mI_X10_refuse mE_X10_refuse mN_X10 mC_X10_refuse (by decide +kernel) 0 (ci := 10) rfl rfl hP hS (fun _ h => h) ⟨Nat.le_of_ble_eq_true rfl, Nat.le_of_ble_eq_true rfl⟩ ⟨Nat.zero_le _, Nat.zero_le _⟩ hl.1 rfl rfl (Nat.le_of_ble_eq_true rfl) dX10_parts_45 (fun r_11 v_11 f_11 g_11 H locs hq_11 hP _ hS => ?_)
        obtain ⟨rfl, rfl, rfl, rfl⟩ := hq_11
        show W p l e (gRm 4 109) s m args below meth c _ _ 0 0 Q (F0 m 48 ls [.int (iI (-1))])
        have hP : gWd D (rwT k ad) (va_up v 25 (2 : Int)) (va_up (va_up (va_up (va_up (va_up (va_up (va_up f 34 (f 34)) 35 (f 35)) 36 (f 36)) 37 (f 37)) 38 (f 38)) 39 (f 39)) 40 (f 40)) (va_up g 0 (g 0)) H := ⟨hP.1, (gF_up (V := rwV) (F := rwF) (gF_up (V := rwV) (F := rwF) (gF_up (V := rwV) (F := rwF) (gF_up (V := rwV) (F := rwF) (gF_up (V := rwV) (F := rwF) (gF_up (V := rwV) (F := rwF) (gF_up (V := rwV) (F := rwF) (gR_up (V := rwV) (F := rwF) ⟨hok.1, hok.2⟩ 25 (hP.2.1 25)) 34 (hP.2.2 34)) 35 (hP.2.2 35)) 36 (hP.2.2 36)) 37 (hP.2.2 37)) 38 (hP.2.2 38)) 39 (hP.2.2 39)) 40 (hP.2.2 40))⟩
        exact g_iret hQ C hr hlocks hP hS dX10_parts_48 ⟨(-1), (2 : Int), (f 34), (f 35), (f 36), (f 37), (f 38), (f 39), (f 40), (g 0), rfl, rfl, rfl, rfl, (by first | omega | (split <;> omega))⟩
      · refine lv_iload_n hx hb dX10_parts_36 rfl (lv_at hl 3 rfl) ?_
        refine g_cs (As := [.int (iI a3)]) (rest := []) (n := 1) C hml (c_X10_isDay l D k A ad hD (va_up v 25 (v 25)) (va_up (va_up (va_up (va_up (va_up (va_up (va_up f 34 (f 34)) 35 (f 35)) 36 (f 36)) 37 (f 37)) 38 (f 38)) 39 (f 39)) 40 (f 40)) (va_up g 0 (g 0)) a3 (by omega)) mM_X10_248 mS_X10_isDay mN_X10 mC_X10_isDay (by decide +kernel) hP hS (fun _ h => h) ⟨Nat.le_of_ble_eq_true rfl, Nat.le_of_ble_eq_true rfl⟩ ⟨Nat.zero_le _, Nat.zero_le _⟩ hl.1 rfl rfl (Nat.le_of_ble_eq_true rfl) dX10_parts_37 (fun r_12 v_12 f_12 g_12 H locs hq_12 hP _ hS => ?_)
        obtain ⟨z_12, rfl, rfl, rfl, rfl, p0_12⟩ := hq_12
        show W p l e (gRm 4 109) s m args below meth c _ _ 0 0 Q (F0 m 40 ls [.int (iI z_12)])
        replace p0_12 : z_12 = (if 0 ≤ a3 ∧ a3 ≤ 999 then 1 else 0) := p0_12
        have w_12 := gif (P := 0 ≤ a3 ∧ a3 ≤ 999) p0_12
        have hz_12 : inR z_12 := (by first | omega | (rw [p0_12]; split <;> omega))
        refine gi_zne (tgt := 49) hx hb dX10_parts_40 (by decide) (by omega) (fun c_13 => ?_) (fun c_13 => ?_)
        · refine lv_aload_n hx hb dX10_parts_49 rfl (lv_at hl 0 rfl) ?_
          refine rwG_results C hP mF_X10_67 dX10_parts_50 ?_
          refine lv_iload_n hx hb dX10_parts_53 rfl (lv_at hl 1 rfl) ?_
          refine lv_iload_n hx hb dX10_parts_54 rfl (lv_at hl 3 rfl) ?_
          refine g_cv (As := [.int (iI a1), .int (iI a3)]) (rest := []) (n := 2) C hml (c_X5_workPoints l D k A ad hD (va_up v 25 (v 25)) (va_up (va_up (va_up (va_up (va_up (va_up (va_up f 34 (f 34)) 35 (f 35)) 36 (f 36)) 37 (f 37)) 38 (f 38)) 39 (f 39)) 40 (f 40)) (va_up g 0 (g 0)) a1 a3 (by omega) (by omega) (show shOk (v 1) (f 1) from hs) (show 0 ≤ a1 ∧ a1 ≤ 3 from by omega)) mM_X10_300 mI_X5_workPoints mE_X5_workPoints mN_X5 mC_X5_workPoints (by decide +kernel) 47 (ci := 5) rfl rfl hP hS (fun _ h => h) ⟨Nat.le_of_ble_eq_true rfl, Nat.le_of_ble_eq_true rfl⟩ ⟨Nat.zero_le _, Nat.zero_le _⟩ hl.1 rfl rfl (Nat.le_of_ble_eq_true rfl) dX10_parts_55 (fun r_14 v_14 f_14 g_14 H locs hq_14 hP _ hS => ?_)
          obtain ⟨a34_14, a35_14, a36_14, a37_14, a38_14, a39_14, a40_14, b0_14, rfl, rfl, rfl, rfl⟩ := hq_14
          show W p l e (gRm 4 109) s m args below meth c _ _ 0 0 Q (F0 m 58 ls [])
          have hP : gWd D (rwT k ad) (va_up v 25 (v 25)) (va_up (va_up (va_up (va_up (va_up (va_up (va_up f 34 a34_14) 35 a35_14) 36 a36_14) 37 a37_14) 38 a38_14) 39 a39_14) 40 a40_14) (va_up g 0 b0_14) H := ⟨hP.1, (gF_up (V := rwV) (F := rwF) (gF_up (V := rwV) (F := rwF) (gF_up (V := rwV) (F := rwF) (gF_up (V := rwV) (F := rwF) (gF_up (V := rwV) (F := rwF) (gF_up (V := rwV) (F := rwF) (gF_up (V := rwV) (F := rwF) (gR_up (V := rwV) (F := rwF) ⟨hok.1, hok.2⟩ 25 (hP.2.1 25)) 34 (hP.2.2 34)) 35 (hP.2.2 35)) 36 (hP.2.2 36)) 37 (hP.2.2 37)) 38 (hP.2.2 38)) 39 (hP.2.2 39)) 40 (hP.2.2 40))⟩
          refine lv_aload_n hx hb dX10_parts_58 rfl (lv_at hl 0 rfl) ?_
          refine lv_aload_n hx hb dX10_parts_59 rfl (lv_at hl 0 rfl) ?_
          refine rwG_results C hP mF_X10_67 dX10_parts_60 ?_
          refine lv_iload_n hx hb dX10_parts_63 rfl (lv_at hl 1 rfl) ?_
          refine lv_iload_n hx hb dX10_parts_64 rfl (lv_at hl 2 rfl) ?_
          refine g_cv (As := [.int (iI a1), .int (iI a2)]) (rest := [.ref (ad 0)]) (n := 2) C hml (c_X5_pairsParted l D k A ad hD (va_up v 25 (v 25)) (va_up (va_up (va_up (va_up (va_up (va_up (va_up f 34 a34_14) 35 a35_14) 36 a36_14) 37 a37_14) 38 a38_14) 39 a39_14) 40 a40_14) (va_up g 0 b0_14) a1 a2 (by omega) (by omega) (show 0 ≤ a1 ∧ a1 ≤ 3 from by omega)) mM_X10_303 mI_X5_pairsParted mE_X5_pairsParted mN_X5 mC_X5_pairsParted (by decide +kernel) 47 (ci := 5) rfl rfl hP hS (fun _ h => h) ⟨Nat.le_of_ble_eq_true rfl, Nat.le_of_ble_eq_true rfl⟩ ⟨Nat.zero_le _, Nat.zero_le _⟩ hl.1 rfl rfl (Nat.le_of_ble_eq_true rfl) dX10_parts_65 (fun r_15 v_15 f_15 g_15 H locs hq_15 hP _ hS => ?_)
          obtain ⟨z_15, rfl, rfl, rfl, rfl, p0_15⟩ := hq_15
          show W p l e (gRm 4 109) s m args below meth c _ _ 0 0 Q (F0 m 68 ls [.int (iI z_15), .ref (ad 0)])
          replace p0_15 : 0 ≤ z_15 ∧ z_15 ≤ 256 := p0_15
          refine g_cv (As := [.int (iI z_15)]) (rest := []) (n := 1) C hml (c_X10_answer l D k A ad hD (va_up v 25 (v 25)) (va_up (va_up (va_up (va_up (va_up (va_up (va_up f 34 a34_14) 35 a35_14) 36 a36_14) 37 a37_14) 38 a38_14) 39 a39_14) 40 a40_14) (va_up g 0 b0_14) z_15 (by omega)) mM_X10_120 mI_X10_answer mE_X10_answer mN_X10 mC_X10_answer (by decide +kernel) 0 (ci := 10) rfl rfl hP hS (fun _ h => h) ⟨Nat.le_of_ble_eq_true rfl, Nat.le_of_ble_eq_true rfl⟩ ⟨Nat.zero_le _, Nat.zero_le _⟩ hl.1 rfl rfl (Nat.le_of_ble_eq_true rfl) dX10_parts_68 (fun r_16 v_16 f_16 g_16 H locs hq_16 hP _ hS => ?_)
          obtain ⟨z_16, rfl, rfl, rfl, rfl, p0_16⟩ := hq_16
          show W p l e (gRm 4 109) s m args below meth c _ _ 0 0 Q (F0 m 71 ls [.int (iI z_16)])
          have hP : gWd D (rwT k ad) (va_up v 25 0) (va_up (va_up (va_up (va_up (va_up (va_up (va_up f 34 a34_14) 35 a35_14) 36 a36_14) 37 a37_14) 38 a38_14) 39 a39_14) 40 a40_14) (va_up g 0 b0_14) H := ⟨hP.1, (gF_up (V := rwV) (F := rwF) (gF_up (V := rwV) (F := rwF) (gF_up (V := rwV) (F := rwF) (gF_up (V := rwV) (F := rwF) (gF_up (V := rwV) (F := rwF) (gF_up (V := rwV) (F := rwF) (gF_up (V := rwV) (F := rwF) (gR_up (V := rwV) (F := rwF) ⟨hok.1, hok.2⟩ 25 (hP.2.1 25)) 34 (hP.2.2 34)) 35 (hP.2.2 35)) 36 (hP.2.2 36)) 37 (hP.2.2 37)) 38 (hP.2.2 38)) 39 (hP.2.2 39)) 40 (hP.2.2 40))⟩
          replace p0_16 : z_16 = z_15 := p0_16
          have hz_16 : inR z_16 := (by first | omega | (rw [p0_16]; split <;> omega))
          exact g_iret hQ C hr hlocks hP hS dX10_parts_71 ⟨z_16, 0, a34_14, a35_14, a36_14, a37_14, a38_14, a39_14, a40_14, b0_14, rfl, rfl, rfl, rfl, (by first | omega | (split <;> omega))⟩
        · refine lv_aload_n hx hb dX10_parts_43 rfl (lv_at hl 0 rfl) ?_
          refine lv_iconst (v := iI 2) hx hb dX10_parts_44 rfl ?_
          refine g_cv (As := [.int (iI 2)]) (rest := []) (n := 1) C hml (c_X10_refuse l D k A ad hD (va_up v 25 (v 25)) (va_up (va_up (va_up (va_up (va_up (va_up (va_up f 34 (f 34)) 35 (f 35)) 36 (f 36)) 37 (f 37)) 38 (f 38)) 39 (f 39)) 40 (f 40)) (va_up g 0 (g 0)) 2 (by decide) (show 0 ≤ (2 : Int) ∧ (2 : Int) ≤ 10 from by omega)) mM_X10_88 mI_X10_refuse mE_X10_refuse mN_X10 mC_X10_refuse (by decide +kernel) 0 (ci := 10) rfl rfl hP hS (fun _ h => h) ⟨Nat.le_of_ble_eq_true rfl, Nat.le_of_ble_eq_true rfl⟩ ⟨Nat.zero_le _, Nat.zero_le _⟩ hl.1 rfl rfl (Nat.le_of_ble_eq_true rfl) dX10_parts_45 (fun r_17 v_17 f_17 g_17 H locs hq_17 hP _ hS => ?_)
          obtain ⟨rfl, rfl, rfl, rfl⟩ := hq_17
          show W p l e (gRm 4 109) s m args below meth c _ _ 0 0 Q (F0 m 48 ls [.int (iI (-1))])
          have hP : gWd D (rwT k ad) (va_up v 25 (2 : Int)) (va_up (va_up (va_up (va_up (va_up (va_up (va_up f 34 (f 34)) 35 (f 35)) 36 (f 36)) 37 (f 37)) 38 (f 38)) 39 (f 39)) 40 (f 40)) (va_up g 0 (g 0)) H := ⟨hP.1, (gF_up (V := rwV) (F := rwF) (gF_up (V := rwV) (F := rwF) (gF_up (V := rwV) (F := rwF) (gF_up (V := rwV) (F := rwF) (gF_up (V := rwV) (F := rwF) (gF_up (V := rwV) (F := rwF) (gF_up (V := rwV) (F := rwF) (gR_up (V := rwV) (F := rwF) ⟨hok.1, hok.2⟩ 25 (hP.2.1 25)) 34 (hP.2.2 34)) 35 (hP.2.2 35)) 36 (hP.2.2 36)) 37 (hP.2.2 37)) 38 (hP.2.2 38)) 39 (hP.2.2 39)) 40 (hP.2.2 40))⟩
          exact g_iret hQ C hr hlocks hP hS dX10_parts_48 ⟨(-1), (2 : Int), (f 34), (f 35), (f 36), (f 37), (f 38), (f 39), (f 40), (g 0), rfl, rfl, rfl, rfl, (by first | omega | (split <;> omega))⟩
  · refine lv_aload_n hx hb dX10_parts_11 rfl (lv_at hl 0 rfl) ?_
    refine lv_iconst (v := iI 1) hx hb dX10_parts_12 rfl ?_
    refine g_cv (As := [.int (iI 1)]) (rest := []) (n := 1) C hml (c_X10_refuse l D k A ad hD (va_up v 25 (v 25)) (va_up (va_up (va_up (va_up (va_up (va_up (va_up f 34 (f 34)) 35 (f 35)) 36 (f 36)) 37 (f 37)) 38 (f 38)) 39 (f 39)) 40 (f 40)) (va_up g 0 (g 0)) 1 (by decide) (show 0 ≤ (1 : Int) ∧ (1 : Int) ≤ 10 from by omega)) mM_X10_88 mI_X10_refuse mE_X10_refuse mN_X10 mC_X10_refuse (by decide +kernel) 0 (ci := 10) rfl rfl hP hS (fun _ h => h) ⟨Nat.le_of_ble_eq_true rfl, Nat.le_of_ble_eq_true rfl⟩ ⟨Nat.zero_le _, Nat.zero_le _⟩ hl.1 rfl rfl (Nat.le_of_ble_eq_true rfl) dX10_parts_13 (fun r_18 v_18 f_18 g_18 H locs hq_18 hP _ hS => ?_)
    obtain ⟨rfl, rfl, rfl, rfl⟩ := hq_18
    show W p l e (gRm 4 109) s m args below meth c _ _ 0 0 Q (F0 m 16 ls [.int (iI (-1))])
    have hP : gWd D (rwT k ad) (va_up v 25 (1 : Int)) (va_up (va_up (va_up (va_up (va_up (va_up (va_up f 34 (f 34)) 35 (f 35)) 36 (f 36)) 37 (f 37)) 38 (f 38)) 39 (f 39)) 40 (f 40)) (va_up g 0 (g 0)) H := ⟨hP.1, (gF_up (V := rwV) (F := rwF) (gF_up (V := rwV) (F := rwF) (gF_up (V := rwV) (F := rwF) (gF_up (V := rwV) (F := rwF) (gF_up (V := rwV) (F := rwF) (gF_up (V := rwV) (F := rwF) (gF_up (V := rwV) (F := rwF) (gR_up (V := rwV) (F := rwF) ⟨hok.1, hok.2⟩ 25 (hP.2.1 25)) 34 (hP.2.2 34)) 35 (hP.2.2 35)) 36 (hP.2.2 36)) 37 (hP.2.2 37)) 38 (hP.2.2 38)) 39 (hP.2.2 39)) 40 (hP.2.2 40))⟩
    exact g_iret hQ C hr hlocks hP hS dX10_parts_16 ⟨(-1), (1 : Int), (f 34), (f 35), (f 36), (f 37), (f 38), (f 39), (f 40), (g 0), rfl, rfl, rfl, rfl, (by first | omega | (split <;> omega))⟩

set_option maxHeartbeats 4000000 in
set_option maxRecDepth 100000 in
theorem c_X10_choose (l : Launch) (D : va_G) (k : Nat → ClassId) (A : Nat → Prop) (ad : Nat → Nat) (hD : rwD A k ad) (v : gV) (f g : gF) (a1 : Int) (a2 : Int) (a3 : Int) (h_a1 : inR a1) (h_a2 : inR a2) (h_a3 : inR a3) (hs : shOk (v 1) (f 1)) : GM l D k A (rwT k ad) yX10_choose cX10_choose 5 (some .int) 4 109 [.ref (ad 0), .int (iI a1), .int (iI a2), .int (iI a3)] v f g (fun r v1 f1 g1 => ∃ (z : Int) (w25 : Int) (a34_ : Int → Int) (a35_ : Int → Int) (a36_ : Int → Int) (a37_ : Int → Int) (a38_ : Int → Int) (a39_ : Int → Int) (a40_ : Int → Int) (b0_ : Int → Int), r = some (.int (iI z)) ∧ (va_up v 25 w25) = v1 ∧ (va_up (va_up (va_up (va_up (va_up (va_up (va_up f 34 a34_) 35 a35_) 36 a36_) 37 a37_) 38 a38_) 39 a39_) 40 a40_) = f1 ∧ (va_up g 0 b0_) = g1 ∧ ((-1) ≤ z ∧ z ≤ 31)) := by
  refine GM.of (by decide) (Nat.le_of_ble_eq_true rfl) ?_
  intro p e s m args below meth c Q ls hQ C hml hr hlocks hP hl
  have hx := C.1
  have hb := C.2.1
  have hok := hP.2
  have hS : va_S A s.heap s.heap [] := va_S.rf
  have hl : lv_has ls 5 [(0, .ref (ad 0)), (1, .int (iI a1)), (2, .int (iI a2)), (3, .int (iI a3))] := hl
  have hP : gWd D (rwT k ad) (va_up v 25 (v 25)) (va_up (va_up (va_up (va_up (va_up (va_up (va_up f 34 (f 34)) 35 (f 35)) 36 (f 36)) 37 (f 37)) 38 (f 38)) 39 (f 39)) 40 (f 40)) (va_up g 0 (g 0)) s.heap := by rw [va_id, va_id, va_id, va_id, va_id, va_id, va_id, va_id, va_id]; exact hP
  have r_1 : 0 ≤ (v 1) ∧ (v 1) ≤ 4 := hok.1 1
  have r_2 : 0 ≤ (v 21) ∧ (v 21) ≤ 16 := hok.1 21
  have r_3 : 0 ≤ (v 22) ∧ (v 22) ≤ 3 := hok.1 22
  refine lv_aload_n hx hb dX10_choose_0 rfl (lv_at hl 0 rfl) ?_
  refine rwG_laws C hP mF_X10_16 dX10_choose_1 ?_
  refine lv_iload_n hx hb dX10_choose_4 rfl (lv_at hl 1 rfl) ?_
  refine g_cv (As := [.int (iI a1)]) (rest := []) (n := 1) C hml (c_X4_hasRound l D k A ad hD (va_up v 25 (v 25)) (va_up (va_up (va_up (va_up (va_up (va_up (va_up f 34 (f 34)) 35 (f 35)) 36 (f 36)) 37 (f 37)) 38 (f 38)) 39 (f 39)) 40 (f 40)) (va_up g 0 (g 0)) a1 (by omega)) mM_X10_164 mI_X4_hasRound mE_X4_hasRound mN_X4 mC_X4_hasRound (by decide +kernel) 2 (ci := 4) rfl rfl hP hS (fun _ h => h) ⟨Nat.le_of_ble_eq_true rfl, Nat.le_of_ble_eq_true rfl⟩ ⟨Nat.zero_le _, Nat.zero_le _⟩ hl.1 rfl rfl (Nat.le_of_ble_eq_true rfl) dX10_choose_5 (fun r_4 v_4 f_4 g_4 H locs hq_4 hP _ hS => ?_)
  obtain ⟨z_4, rfl, rfl, rfl, rfl, p0_4⟩ := hq_4
  show W p l e (gRm 4 109) s m args below meth c _ _ 0 0 Q (F0 m 8 ls [.int (iI z_4)])
  replace p0_4 : z_4 = (if 0 ≤ a1 ∧ a1 < (v 1) then 1 else 0) := p0_4
  have w_4 := gif (P := 0 ≤ a1 ∧ a1 < (v 1)) p0_4
  have hz_4 : inR z_4 := (by first | omega | (rw [p0_4]; split <;> omega))
  refine gi_zne (tgt := 17) hx hb dX10_choose_8 (by decide) (by omega) (fun c_5 => ?_) (fun c_5 => ?_)
  · refine lv_aload_n hx hb dX10_choose_17 rfl (lv_at hl 0 rfl) ?_
    refine rwG_laws C hP mF_X10_16 dX10_choose_18 ?_
    refine lv_iload_n hx hb dX10_choose_21 rfl (lv_at hl 1 rfl) ?_
    refine lv_iconst (v := iI 0) hx hb dX10_choose_22 rfl ?_
    refine g_cv (As := [.int (iI a1), .int (iI 0)]) (rest := []) (n := 2) C hml (c_X4_shapeOf l D k A ad hD (va_up v 25 (v 25)) (va_up (va_up (va_up (va_up (va_up (va_up (va_up f 34 (f 34)) 35 (f 35)) 36 (f 36)) 37 (f 37)) 38 (f 38)) 39 (f 39)) 40 (f 40)) (va_up g 0 (g 0)) a1 0 (by omega) (by decide)) mM_X10_170 mI_X4_shapeOf mE_X4_shapeOf mN_X4 mC_X4_shapeOf (by decide +kernel) 2 (ci := 4) rfl rfl hP hS (fun _ h => h) ⟨Nat.le_of_ble_eq_true rfl, Nat.le_of_ble_eq_true rfl⟩ ⟨Nat.zero_le _, Nat.zero_le _⟩ hl.1 rfl rfl (Nat.le_of_ble_eq_true rfl) dX10_choose_23 (fun r_6 v_6 f_6 g_6 H locs hq_6 hP _ hS => ?_)
    obtain ⟨z_6, rfl, rfl, rfl, rfl, p0_6, p1_6⟩ := hq_6
    show W p l e (gRm 4 109) s m args below meth c _ _ 0 0 Q (F0 m 26 ls [.int (iI z_6)])
    replace p0_6 : z_6 = (if (0 ≤ a1 ∧ a1 < (v 1)) ∧ 0 ≤ (0 : Int) ∧ (0 : Int) < 4 then (f 1) (a1 * 4 + (0 : Int)) else 0) := p0_6
    replace p1_6 : 0 ≤ z_6 ∧ z_6 ≤ 999999 := p1_6
    have hz_6 : inR z_6 := (by first | omega | (rw [p0_6]; split <;> omega))
    have q_6 := by first | exact sh0 hs p0_6 | exact sh2 hs p0_6 | exact sh3 hs p0_6 | exact trivial
    refine lv_istore (lv' := [(4, .int (iI z_6)), (0, .ref (ad 0)), (1, .int (iI a1)), (2, .int (iI a2)), (3, .int (iI a3))]) hx hb dX10_choose_26 hl (by decide) rfl (fun ls hl => ?_)
    refine lv_iload_n hx hb dX10_choose_28 rfl (lv_at hl 3 rfl) ?_
    refine lv_iconst (v := iI 1) hx hb dX10_choose_29 rfl ?_
    refine gi_clt (tgt := 46) hx hb dX10_choose_30 (by decide) (by omega) (by decide) (fun c_7 => ?_) (fun c_7 => ?_)
    · refine lv_aload_n hx hb dX10_choose_46 rfl (lv_at hl 1 rfl) ?_
      refine lv_iconst (v := iI 2) hx hb dX10_choose_47 rfl ?_
      refine g_cv (As := [.int (iI 2)]) (rest := []) (n := 1) C hml (c_X10_refuse l D k A ad hD (va_up v 25 (v 25)) (va_up (va_up (va_up (va_up (va_up (va_up (va_up f 34 (f 34)) 35 (f 35)) 36 (f 36)) 37 (f 37)) 38 (f 38)) 39 (f 39)) 40 (f 40)) (va_up g 0 (g 0)) 2 (by decide) (show 0 ≤ (2 : Int) ∧ (2 : Int) ≤ 10 from by omega)) mM_X10_88 mI_X10_refuse mE_X10_refuse mN_X10 mC_X10_refuse (by decide +kernel) 0 (ci := 10) rfl rfl hP hS (fun _ h => h) ⟨Nat.le_of_ble_eq_true rfl, Nat.le_of_ble_eq_true rfl⟩ ⟨Nat.zero_le _, Nat.zero_le _⟩ hl.1 rfl rfl (Nat.le_of_ble_eq_true rfl) dX10_choose_48 (fun r_8 v_8 f_8 g_8 H locs hq_8 hP _ hS => ?_)
      obtain ⟨rfl, rfl, rfl, rfl⟩ := hq_8
      show W p l e (gRm 4 109) s m args below meth c _ _ 0 0 Q (F0 m 51 ls [.int (iI (-1))])
      have hP : gWd D (rwT k ad) (va_up v 25 (2 : Int)) (va_up (va_up (va_up (va_up (va_up (va_up (va_up f 34 (f 34)) 35 (f 35)) 36 (f 36)) 37 (f 37)) 38 (f 38)) 39 (f 39)) 40 (f 40)) (va_up g 0 (g 0)) H := ⟨hP.1, (gF_up (V := rwV) (F := rwF) (gF_up (V := rwV) (F := rwF) (gF_up (V := rwV) (F := rwF) (gF_up (V := rwV) (F := rwF) (gF_up (V := rwV) (F := rwF) (gF_up (V := rwV) (F := rwF) (gF_up (V := rwV) (F := rwF) (gR_up (V := rwV) (F := rwF) ⟨hok.1, hok.2⟩ 25 (hP.2.1 25)) 34 (hP.2.2 34)) 35 (hP.2.2 35)) 36 (hP.2.2 36)) 37 (hP.2.2 37)) 38 (hP.2.2 38)) 39 (hP.2.2 39)) 40 (hP.2.2 40))⟩
      exact g_iret hQ C hr hlocks hP hS dX10_choose_51 ⟨(-1), (2 : Int), (f 34), (f 35), (f 36), (f 37), (f 38), (f 39), (f 40), (g 0), rfl, rfl, rfl, rfl, (by first | omega | (split <;> omega))⟩
    · refine lv_iload_n hx hb dX10_choose_33 rfl (lv_at hl 3 rfl) ?_
      refine lv_iload hx hb dX10_choose_34 (lv_at hl 0 rfl) ?_
      refine gi_cgt (tgt := 46) hx hb dX10_choose_36 (by decide) (by omega) (by omega) (fun c_9 => ?_) (fun c_9 => ?_)
      · refine lv_aload_n hx hb dX10_choose_46 rfl (lv_at hl 1 rfl) ?_
        refine lv_iconst (v := iI 2) hx hb dX10_choose_47 rfl ?_
        refine g_cv (As := [.int (iI 2)]) (rest := []) (n := 1) C hml (c_X10_refuse l D k A ad hD (va_up v 25 (v 25)) (va_up (va_up (va_up (va_up (va_up (va_up (va_up f 34 (f 34)) 35 (f 35)) 36 (f 36)) 37 (f 37)) 38 (f 38)) 39 (f 39)) 40 (f 40)) (va_up g 0 (g 0)) 2 (by decide) (show 0 ≤ (2 : Int) ∧ (2 : Int) ≤ 10 from by omega)) mM_X10_88 mI_X10_refuse mE_X10_refuse mN_X10 mC_X10_refuse (by decide +kernel) 0 (ci := 10) rfl rfl hP hS (fun _ h => h) ⟨Nat.le_of_ble_eq_true rfl, Nat.le_of_ble_eq_true rfl⟩ ⟨Nat.zero_le _, Nat.zero_le _⟩ hl.1 rfl rfl (Nat.le_of_ble_eq_true rfl) dX10_choose_48 (fun r_10 v_10 f_10 g_10 H locs hq_10 hP _ hS => ?_)
        obtain ⟨rfl, rfl, rfl, rfl⟩ := hq_10
        show W p l e (gRm 4 109) s m args below meth c _ _ 0 0 Q (F0 m 51 ls [.int (iI (-1))])
        have hP : gWd D (rwT k ad) (va_up v 25 (2 : Int)) (va_up (va_up (va_up (va_up (va_up (va_up (va_up f 34 (f 34)) 35 (f 35)) 36 (f 36)) 37 (f 37)) 38 (f 38)) 39 (f 39)) 40 (f 40)) (va_up g 0 (g 0)) H := ⟨hP.1, (gF_up (V := rwV) (F := rwF) (gF_up (V := rwV) (F := rwF) (gF_up (V := rwV) (F := rwF) (gF_up (V := rwV) (F := rwF) (gF_up (V := rwV) (F := rwF) (gF_up (V := rwV) (F := rwF) (gF_up (V := rwV) (F := rwF) (gR_up (V := rwV) (F := rwF) ⟨hok.1, hok.2⟩ 25 (hP.2.1 25)) 34 (hP.2.2 34)) 35 (hP.2.2 35)) 36 (hP.2.2 36)) 37 (hP.2.2 37)) 38 (hP.2.2 38)) 39 (hP.2.2 39)) 40 (hP.2.2 40))⟩
        exact g_iret hQ C hr hlocks hP hS dX10_choose_51 ⟨(-1), (2 : Int), (f 34), (f 35), (f 36), (f 37), (f 38), (f 39), (f 40), (g 0), rfl, rfl, rfl, rfl, (by first | omega | (split <;> omega))⟩
      · refine lv_iload_n hx hb dX10_choose_39 rfl (lv_at hl 4 rfl) ?_
        refine g_cs (As := [.int (iI a3)]) (rest := []) (n := 1) C hml (c_X10_isDay l D k A ad hD (va_up v 25 (v 25)) (va_up (va_up (va_up (va_up (va_up (va_up (va_up f 34 (f 34)) 35 (f 35)) 36 (f 36)) 37 (f 37)) 38 (f 38)) 39 (f 39)) 40 (f 40)) (va_up g 0 (g 0)) a3 (by omega)) mM_X10_248 mS_X10_isDay mN_X10 mC_X10_isDay (by decide +kernel) hP hS (fun _ h => h) ⟨Nat.le_of_ble_eq_true rfl, Nat.le_of_ble_eq_true rfl⟩ ⟨Nat.zero_le _, Nat.zero_le _⟩ hl.1 rfl rfl (Nat.le_of_ble_eq_true rfl) dX10_choose_40 (fun r_11 v_11 f_11 g_11 H locs hq_11 hP _ hS => ?_)
        obtain ⟨z_11, rfl, rfl, rfl, rfl, p0_11⟩ := hq_11
        show W p l e (gRm 4 109) s m args below meth c _ _ 0 0 Q (F0 m 43 ls [.int (iI z_11)])
        replace p0_11 : z_11 = (if 0 ≤ a3 ∧ a3 ≤ 999 then 1 else 0) := p0_11
        have w_11 := gif (P := 0 ≤ a3 ∧ a3 ≤ 999) p0_11
        have hz_11 : inR z_11 := (by first | omega | (rw [p0_11]; split <;> omega))
        refine gi_zne (tgt := 52) hx hb dX10_choose_43 (by decide) (by omega) (fun c_12 => ?_) (fun c_12 => ?_)
        · refine lv_aload_n hx hb dX10_choose_52 rfl (lv_at hl 1 rfl) ?_
          refine rwG_results C hP mF_X10_67 dX10_choose_53 ?_
          refine lv_iload_n hx hb dX10_choose_56 rfl (lv_at hl 2 rfl) ?_
          refine lv_iload_n hx hb dX10_choose_57 rfl (lv_at hl 4 rfl) ?_
          refine g_cv (As := [.int (iI a1), .int (iI a3)]) (rest := []) (n := 2) C hml (c_X5_workPoints l D k A ad hD (va_up v 25 (v 25)) (va_up (va_up (va_up (va_up (va_up (va_up (va_up f 34 (f 34)) 35 (f 35)) 36 (f 36)) 37 (f 37)) 38 (f 38)) 39 (f 39)) 40 (f 40)) (va_up g 0 (g 0)) a1 a3 (by omega) (by omega) (show shOk (v 1) (f 1) from hs) (show 0 ≤ a1 ∧ a1 ≤ 3 from by omega)) mM_X10_300 mI_X5_workPoints mE_X5_workPoints mN_X5 mC_X5_workPoints (by decide +kernel) 47 (ci := 5) rfl rfl hP hS (fun _ h => h) ⟨Nat.le_of_ble_eq_true rfl, Nat.le_of_ble_eq_true rfl⟩ ⟨Nat.zero_le _, Nat.zero_le _⟩ hl.1 rfl rfl (Nat.le_of_ble_eq_true rfl) dX10_choose_58 (fun r_13 v_13 f_13 g_13 H locs hq_13 hP _ hS => ?_)
          obtain ⟨a34_13, a35_13, a36_13, a37_13, a38_13, a39_13, a40_13, b0_13, rfl, rfl, rfl, rfl⟩ := hq_13
          show W p l e (gRm 4 109) s m args below meth c _ _ 0 0 Q (F0 m 61 ls [])
          have hP : gWd D (rwT k ad) (va_up v 25 (v 25)) (va_up (va_up (va_up (va_up (va_up (va_up (va_up f 34 a34_13) 35 a35_13) 36 a36_13) 37 a37_13) 38 a38_13) 39 a39_13) 40 a40_13) (va_up g 0 b0_13) H := ⟨hP.1, (gF_up (V := rwV) (F := rwF) (gF_up (V := rwV) (F := rwF) (gF_up (V := rwV) (F := rwF) (gF_up (V := rwV) (F := rwF) (gF_up (V := rwV) (F := rwF) (gF_up (V := rwV) (F := rwF) (gF_up (V := rwV) (F := rwF) (gR_up (V := rwV) (F := rwF) ⟨hok.1, hok.2⟩ 25 (hP.2.1 25)) 34 (hP.2.2 34)) 35 (hP.2.2 35)) 36 (hP.2.2 36)) 37 (hP.2.2 37)) 38 (hP.2.2 38)) 39 (hP.2.2 39)) 40 (hP.2.2 40))⟩
          refine lv_aload_n hx hb dX10_choose_61 rfl (lv_at hl 1 rfl) ?_
          refine lv_aload_n hx hb dX10_choose_62 rfl (lv_at hl 1 rfl) ?_
          refine rwG_results C hP mF_X10_67 dX10_choose_63 ?_
          refine lv_iload_n hx hb dX10_choose_66 rfl (lv_at hl 2 rfl) ?_
          refine lv_iload hx hb dX10_choose_67 (lv_at hl 0 rfl) ?_
          refine lv_iload_n hx hb dX10_choose_69 rfl (lv_at hl 3 rfl) ?_
          refine g_cv (As := [.int (iI a1), .int (iI z_6), .int (iI a2)]) (rest := [.ref (ad 0)]) (n := 3) C hml (c_X5_bestSet l D k A ad hD (va_up v 25 (v 25)) (va_up (va_up (va_up (va_up (va_up (va_up (va_up f 34 a34_13) 35 a35_13) 36 a36_13) 37 a37_13) 38 a38_13) 39 a39_13) 40 a40_13) (va_up g 0 b0_13) a1 z_6 a2 (by omega) (by omega) (by omega) (show 0 ≤ a1 ∧ a1 ≤ 3 from by omega) (show 1 ≤ z_6 ∧ z_6 ≤ 5 from by omega)) mM_X10_306 mI_X5_bestSet mE_X5_bestSet mN_X5 mC_X5_bestSet (by decide +kernel) 47 (ci := 5) rfl rfl hP hS (fun _ h => h) ⟨Nat.le_of_ble_eq_true rfl, Nat.le_of_ble_eq_true rfl⟩ ⟨Nat.zero_le _, Nat.zero_le _⟩ hl.1 rfl rfl (Nat.le_of_ble_eq_true rfl) dX10_choose_70 (fun r_14 v_14 f_14 g_14 H locs hq_14 hP _ hS => ?_)
          obtain ⟨z_14, rfl, rfl, rfl, rfl, p0_14⟩ := hq_14
          show W p l e (gRm 4 109) s m args below meth c _ _ 0 0 Q (F0 m 73 ls [.int (iI z_14), .ref (ad 0)])
          replace p0_14 : (-1) ≤ z_14 ∧ z_14 ≤ 31 := p0_14
          refine g_cv (As := [.int (iI z_14)]) (rest := []) (n := 1) C hml (c_X10_answer l D k A ad hD (va_up v 25 (v 25)) (va_up (va_up (va_up (va_up (va_up (va_up (va_up f 34 a34_13) 35 a35_13) 36 a36_13) 37 a37_13) 38 a38_13) 39 a39_13) 40 a40_13) (va_up g 0 b0_13) z_14 (by omega)) mM_X10_120 mI_X10_answer mE_X10_answer mN_X10 mC_X10_answer (by decide +kernel) 0 (ci := 10) rfl rfl hP hS (fun _ h => h) ⟨Nat.le_of_ble_eq_true rfl, Nat.le_of_ble_eq_true rfl⟩ ⟨Nat.zero_le _, Nat.zero_le _⟩ hl.1 rfl rfl (Nat.le_of_ble_eq_true rfl) dX10_choose_73 (fun r_15 v_15 f_15 g_15 H locs hq_15 hP _ hS => ?_)
          obtain ⟨z_15, rfl, rfl, rfl, rfl, p0_15⟩ := hq_15
          show W p l e (gRm 4 109) s m args below meth c _ _ 0 0 Q (F0 m 76 ls [.int (iI z_15)])
          have hP : gWd D (rwT k ad) (va_up v 25 0) (va_up (va_up (va_up (va_up (va_up (va_up (va_up f 34 a34_13) 35 a35_13) 36 a36_13) 37 a37_13) 38 a38_13) 39 a39_13) 40 a40_13) (va_up g 0 b0_13) H := ⟨hP.1, (gF_up (V := rwV) (F := rwF) (gF_up (V := rwV) (F := rwF) (gF_up (V := rwV) (F := rwF) (gF_up (V := rwV) (F := rwF) (gF_up (V := rwV) (F := rwF) (gF_up (V := rwV) (F := rwF) (gF_up (V := rwV) (F := rwF) (gR_up (V := rwV) (F := rwF) ⟨hok.1, hok.2⟩ 25 (hP.2.1 25)) 34 (hP.2.2 34)) 35 (hP.2.2 35)) 36 (hP.2.2 36)) 37 (hP.2.2 37)) 38 (hP.2.2 38)) 39 (hP.2.2 39)) 40 (hP.2.2 40))⟩
          replace p0_15 : z_15 = z_14 := p0_15
          have hz_15 : inR z_15 := (by first | omega | (rw [p0_15]; split <;> omega))
          exact g_iret hQ C hr hlocks hP hS dX10_choose_76 ⟨z_15, 0, a34_13, a35_13, a36_13, a37_13, a38_13, a39_13, a40_13, b0_13, rfl, rfl, rfl, rfl, (by first | omega | (split <;> omega))⟩
        · refine lv_aload_n hx hb dX10_choose_46 rfl (lv_at hl 1 rfl) ?_
          refine lv_iconst (v := iI 2) hx hb dX10_choose_47 rfl ?_
          refine g_cv (As := [.int (iI 2)]) (rest := []) (n := 1) C hml (c_X10_refuse l D k A ad hD (va_up v 25 (v 25)) (va_up (va_up (va_up (va_up (va_up (va_up (va_up f 34 (f 34)) 35 (f 35)) 36 (f 36)) 37 (f 37)) 38 (f 38)) 39 (f 39)) 40 (f 40)) (va_up g 0 (g 0)) 2 (by decide) (show 0 ≤ (2 : Int) ∧ (2 : Int) ≤ 10 from by omega)) mM_X10_88 mI_X10_refuse mE_X10_refuse mN_X10 mC_X10_refuse (by decide +kernel) 0 (ci := 10) rfl rfl hP hS (fun _ h => h) ⟨Nat.le_of_ble_eq_true rfl, Nat.le_of_ble_eq_true rfl⟩ ⟨Nat.zero_le _, Nat.zero_le _⟩ hl.1 rfl rfl (Nat.le_of_ble_eq_true rfl) dX10_choose_48 (fun r_16 v_16 f_16 g_16 H locs hq_16 hP _ hS => ?_)
          obtain ⟨rfl, rfl, rfl, rfl⟩ := hq_16
          show W p l e (gRm 4 109) s m args below meth c _ _ 0 0 Q (F0 m 51 ls [.int (iI (-1))])
          have hP : gWd D (rwT k ad) (va_up v 25 (2 : Int)) (va_up (va_up (va_up (va_up (va_up (va_up (va_up f 34 (f 34)) 35 (f 35)) 36 (f 36)) 37 (f 37)) 38 (f 38)) 39 (f 39)) 40 (f 40)) (va_up g 0 (g 0)) H := ⟨hP.1, (gF_up (V := rwV) (F := rwF) (gF_up (V := rwV) (F := rwF) (gF_up (V := rwV) (F := rwF) (gF_up (V := rwV) (F := rwF) (gF_up (V := rwV) (F := rwF) (gF_up (V := rwV) (F := rwF) (gF_up (V := rwV) (F := rwF) (gR_up (V := rwV) (F := rwF) ⟨hok.1, hok.2⟩ 25 (hP.2.1 25)) 34 (hP.2.2 34)) 35 (hP.2.2 35)) 36 (hP.2.2 36)) 37 (hP.2.2 37)) 38 (hP.2.2 38)) 39 (hP.2.2 39)) 40 (hP.2.2 40))⟩
          exact g_iret hQ C hr hlocks hP hS dX10_choose_51 ⟨(-1), (2 : Int), (f 34), (f 35), (f 36), (f 37), (f 38), (f 39), (f 40), (g 0), rfl, rfl, rfl, rfl, (by first | omega | (split <;> omega))⟩
  · refine lv_aload_n hx hb dX10_choose_11 rfl (lv_at hl 0 rfl) ?_
    refine lv_iconst (v := iI 1) hx hb dX10_choose_12 rfl ?_
    refine g_cv (As := [.int (iI 1)]) (rest := []) (n := 1) C hml (c_X10_refuse l D k A ad hD (va_up v 25 (v 25)) (va_up (va_up (va_up (va_up (va_up (va_up (va_up f 34 (f 34)) 35 (f 35)) 36 (f 36)) 37 (f 37)) 38 (f 38)) 39 (f 39)) 40 (f 40)) (va_up g 0 (g 0)) 1 (by decide) (show 0 ≤ (1 : Int) ∧ (1 : Int) ≤ 10 from by omega)) mM_X10_88 mI_X10_refuse mE_X10_refuse mN_X10 mC_X10_refuse (by decide +kernel) 0 (ci := 10) rfl rfl hP hS (fun _ h => h) ⟨Nat.le_of_ble_eq_true rfl, Nat.le_of_ble_eq_true rfl⟩ ⟨Nat.zero_le _, Nat.zero_le _⟩ hl.1 rfl rfl (Nat.le_of_ble_eq_true rfl) dX10_choose_13 (fun r_17 v_17 f_17 g_17 H locs hq_17 hP _ hS => ?_)
    obtain ⟨rfl, rfl, rfl, rfl⟩ := hq_17
    show W p l e (gRm 4 109) s m args below meth c _ _ 0 0 Q (F0 m 16 ls [.int (iI (-1))])
    have hP : gWd D (rwT k ad) (va_up v 25 (1 : Int)) (va_up (va_up (va_up (va_up (va_up (va_up (va_up f 34 (f 34)) 35 (f 35)) 36 (f 36)) 37 (f 37)) 38 (f 38)) 39 (f 39)) 40 (f 40)) (va_up g 0 (g 0)) H := ⟨hP.1, (gF_up (V := rwV) (F := rwF) (gF_up (V := rwV) (F := rwF) (gF_up (V := rwV) (F := rwF) (gF_up (V := rwV) (F := rwF) (gF_up (V := rwV) (F := rwF) (gF_up (V := rwV) (F := rwF) (gF_up (V := rwV) (F := rwF) (gR_up (V := rwV) (F := rwF) ⟨hok.1, hok.2⟩ 25 (hP.2.1 25)) 34 (hP.2.2 34)) 35 (hP.2.2 35)) 36 (hP.2.2 36)) 37 (hP.2.2 37)) 38 (hP.2.2 38)) 39 (hP.2.2 39)) 40 (hP.2.2 40))⟩
    exact g_iret hQ C hr hlocks hP hS dX10_choose_16 ⟨(-1), (1 : Int), (f 34), (f 35), (f 36), (f 37), (f 38), (f 39), (f 40), (g 0), rfl, rfl, rfl, rfl, (by first | omega | (split <;> omega))⟩
