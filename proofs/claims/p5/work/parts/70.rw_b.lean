set_option maxHeartbeats 4000000 in
set_option maxRecDepth 100000 in
theorem c_J6_bitCount_0f7a4 (l : Launch) (D : va_G) (k : Nat → ClassId) (A : Nat → Prop) (ad : Nat → Nat) (hD : rwD A k ad) (v : gV) (f g : gF) (a1 : Int) (h_a1 : inR a1) : GM l D k A (rwT k ad) yJ6_bitCount_0f7a4 cJ6_bitCount_0f7a4 1 (some .int) 0 0 [.int (iI a1)] v f g (fun r v1 f1 g1 => ∃ (z : Int), r = some (.int (iI z)) ∧ v = v1 ∧ f = f1 ∧ g = g1 ∧ ((-2147483648) ≤ z ∧ z ≤ 2147483647)) := by
  refine GM.of (by decide) (Nat.le_of_ble_eq_true rfl) ?_
  intro p e s m args below meth c Q ls hQ C hml hr hlocks hP hl
  have hx := C.1
  have hb := C.2.1
  have hok := hP.2
  have hS : va_S A s.heap s.heap [] := va_S.rf
  have hl : lv_has ls 1 [(0, .int (iI a1))] := hl
  refine lv_iload_n hx hb dJ6_bitCount_0f7a4_0 rfl (lv_at hl 0 rfl) ?_
  refine lv_iload_n hx hb dJ6_bitCount_0f7a4_1 rfl (lv_at hl 0 rfl) ?_
  refine lv_iconst (v := iI 1) hx hb dJ6_bitCount_0f7a4_2 rfl ?_
  obtain ⟨x_1, ex_1, hx_1⟩ : ∃ z : Int, ((iI a1).toUInt32 >>> ((iI 1).toUInt32 &&& Int32.toUInt32 31)).toInt32 = iI z ∧ inR z := ⟨(((iI a1).toUInt32 >>> ((iI 1).toUInt32 &&& Int32.toUInt32 31)).toInt32).toInt, (iI_of _).symm, iI_rng _⟩
  refine gi_ushr (z := x_1) hx hb dJ6_bitCount_0f7a4_3 ex_1 ?_
  refine lv_ldcw (v := iI 1431655765) hx hb C.2.2.2.1 (C.2.2.1 _ (show Cond.constant RJ6 265 (iI 1431655765) ∈ gWs from mD_J6_265)) dJ6_bitCount_0f7a4_4 ?_
  obtain ⟨x_2, ex_2, hx_2⟩ : ∃ z : Int, iI x_1 &&& iI 1431655765 = iI z ∧ inR z := ⟨(iI x_1 &&& iI 1431655765).toInt, (iI_of _).symm, iI_rng _⟩
  refine gi_and (z := x_2) hx hb dJ6_bitCount_0f7a4_7 ex_2 ?_
  refine gi_sub (z := (a1 - x_2)) hx hb dJ6_bitCount_0f7a4_8 rfl ?_
  obtain ⟨x_3, ex_3, hx_3⟩ : ∃ z : Int, iI (a1 - x_2) = iI z ∧ inR z := ⟨(iI (a1 - x_2)).toInt, (iI_of _).symm, iI_rng _⟩
  refine gi_norm ex_3 ?_
  refine lv_istore_n (lv' := [(0, .int (iI x_3))]) hx hb dJ6_bitCount_0f7a4_9 rfl hl (by decide) rfl (fun ls hl => ?_)
  refine lv_iload_n hx hb dJ6_bitCount_0f7a4_10 rfl (lv_at hl 0 rfl) ?_
  refine lv_ldcw (v := iI 858993459) hx hb C.2.2.2.1 (C.2.2.1 _ (show Cond.constant RJ6 266 (iI 858993459) ∈ gWs from mD_J6_266)) dJ6_bitCount_0f7a4_11 ?_
  obtain ⟨x_4, ex_4, hx_4⟩ : ∃ z : Int, iI x_3 &&& iI 858993459 = iI z ∧ inR z := ⟨(iI x_3 &&& iI 858993459).toInt, (iI_of _).symm, iI_rng _⟩
  refine gi_and (z := x_4) hx hb dJ6_bitCount_0f7a4_14 ex_4 ?_
  refine lv_iload_n hx hb dJ6_bitCount_0f7a4_15 rfl (lv_at hl 0 rfl) ?_
  refine lv_iconst (v := iI 2) hx hb dJ6_bitCount_0f7a4_16 rfl ?_
  obtain ⟨x_5, ex_5, hx_5⟩ : ∃ z : Int, ((iI x_3).toUInt32 >>> ((iI 2).toUInt32 &&& Int32.toUInt32 31)).toInt32 = iI z ∧ inR z := ⟨(((iI x_3).toUInt32 >>> ((iI 2).toUInt32 &&& Int32.toUInt32 31)).toInt32).toInt, (iI_of _).symm, iI_rng _⟩
  refine gi_ushr (z := x_5) hx hb dJ6_bitCount_0f7a4_17 ex_5 ?_
  refine lv_ldcw (v := iI 858993459) hx hb C.2.2.2.1 (C.2.2.1 _ (show Cond.constant RJ6 266 (iI 858993459) ∈ gWs from mD_J6_266)) dJ6_bitCount_0f7a4_18 ?_
  obtain ⟨x_6, ex_6, hx_6⟩ : ∃ z : Int, iI x_5 &&& iI 858993459 = iI z ∧ inR z := ⟨(iI x_5 &&& iI 858993459).toInt, (iI_of _).symm, iI_rng _⟩
  refine gi_and (z := x_6) hx hb dJ6_bitCount_0f7a4_21 ex_6 ?_
  refine gi_add (z := (x_4 + x_6)) hx hb dJ6_bitCount_0f7a4_22 rfl ?_
  obtain ⟨x_7, ex_7, hx_7⟩ : ∃ z : Int, iI (x_4 + x_6) = iI z ∧ inR z := ⟨(iI (x_4 + x_6)).toInt, (iI_of _).symm, iI_rng _⟩
  refine gi_norm ex_7 ?_
  refine lv_istore_n (lv' := [(0, .int (iI x_7))]) hx hb dJ6_bitCount_0f7a4_23 rfl hl (by decide) rfl (fun ls hl => ?_)
  refine lv_iload_n hx hb dJ6_bitCount_0f7a4_24 rfl (lv_at hl 0 rfl) ?_
  refine lv_iload_n hx hb dJ6_bitCount_0f7a4_25 rfl (lv_at hl 0 rfl) ?_
  refine lv_iconst (v := iI 4) hx hb dJ6_bitCount_0f7a4_26 rfl ?_
  obtain ⟨x_8, ex_8, hx_8⟩ : ∃ z : Int, ((iI x_7).toUInt32 >>> ((iI 4).toUInt32 &&& Int32.toUInt32 31)).toInt32 = iI z ∧ inR z := ⟨(((iI x_7).toUInt32 >>> ((iI 4).toUInt32 &&& Int32.toUInt32 31)).toInt32).toInt, (iI_of _).symm, iI_rng _⟩
  refine gi_ushr (z := x_8) hx hb dJ6_bitCount_0f7a4_27 ex_8 ?_
  refine gi_add (z := (x_7 + x_8)) hx hb dJ6_bitCount_0f7a4_28 rfl ?_
  obtain ⟨x_9, ex_9, hx_9⟩ : ∃ z : Int, iI (x_7 + x_8) = iI z ∧ inR z := ⟨(iI (x_7 + x_8)).toInt, (iI_of _).symm, iI_rng _⟩
  refine gi_norm ex_9 ?_
  refine lv_ldcw (v := iI 252645135) hx hb C.2.2.2.1 (C.2.2.1 _ (show Cond.constant RJ6 267 (iI 252645135) ∈ gWs from mD_J6_267)) dJ6_bitCount_0f7a4_29 ?_
  obtain ⟨x_10, ex_10, hx_10⟩ : ∃ z : Int, iI x_9 &&& iI 252645135 = iI z ∧ inR z := ⟨(iI x_9 &&& iI 252645135).toInt, (iI_of _).symm, iI_rng _⟩
  refine gi_and (z := x_10) hx hb dJ6_bitCount_0f7a4_32 ex_10 ?_
  refine lv_istore_n (lv' := [(0, .int (iI x_10))]) hx hb dJ6_bitCount_0f7a4_33 rfl hl (by decide) rfl (fun ls hl => ?_)
  refine lv_iload_n hx hb dJ6_bitCount_0f7a4_34 rfl (lv_at hl 0 rfl) ?_
  refine lv_iload_n hx hb dJ6_bitCount_0f7a4_35 rfl (lv_at hl 0 rfl) ?_
  refine lv_bipush (v := iI 8) hx hb dJ6_bitCount_0f7a4_36 (by decide) ?_
  obtain ⟨x_11, ex_11, hx_11⟩ : ∃ z : Int, ((iI x_10).toUInt32 >>> ((iI 8).toUInt32 &&& Int32.toUInt32 31)).toInt32 = iI z ∧ inR z := ⟨(((iI x_10).toUInt32 >>> ((iI 8).toUInt32 &&& Int32.toUInt32 31)).toInt32).toInt, (iI_of _).symm, iI_rng _⟩
  refine gi_ushr (z := x_11) hx hb dJ6_bitCount_0f7a4_38 ex_11 ?_
  refine gi_add (z := (x_10 + x_11)) hx hb dJ6_bitCount_0f7a4_39 rfl ?_
  obtain ⟨x_12, ex_12, hx_12⟩ : ∃ z : Int, iI (x_10 + x_11) = iI z ∧ inR z := ⟨(iI (x_10 + x_11)).toInt, (iI_of _).symm, iI_rng _⟩
  refine gi_norm ex_12 ?_
  refine lv_istore_n (lv' := [(0, .int (iI x_12))]) hx hb dJ6_bitCount_0f7a4_40 rfl hl (by decide) rfl (fun ls hl => ?_)
  refine lv_iload_n hx hb dJ6_bitCount_0f7a4_41 rfl (lv_at hl 0 rfl) ?_
  refine lv_iload_n hx hb dJ6_bitCount_0f7a4_42 rfl (lv_at hl 0 rfl) ?_
  refine lv_bipush (v := iI 16) hx hb dJ6_bitCount_0f7a4_43 (by decide) ?_
  obtain ⟨x_13, ex_13, hx_13⟩ : ∃ z : Int, ((iI x_12).toUInt32 >>> ((iI 16).toUInt32 &&& Int32.toUInt32 31)).toInt32 = iI z ∧ inR z := ⟨(((iI x_12).toUInt32 >>> ((iI 16).toUInt32 &&& Int32.toUInt32 31)).toInt32).toInt, (iI_of _).symm, iI_rng _⟩
  refine gi_ushr (z := x_13) hx hb dJ6_bitCount_0f7a4_45 ex_13 ?_
  refine gi_add (z := (x_12 + x_13)) hx hb dJ6_bitCount_0f7a4_46 rfl ?_
  obtain ⟨x_14, ex_14, hx_14⟩ : ∃ z : Int, iI (x_12 + x_13) = iI z ∧ inR z := ⟨(iI (x_12 + x_13)).toInt, (iI_of _).symm, iI_rng _⟩
  refine gi_norm ex_14 ?_
  refine lv_istore_n (lv' := [(0, .int (iI x_14))]) hx hb dJ6_bitCount_0f7a4_47 rfl hl (by decide) rfl (fun ls hl => ?_)
  refine lv_iload_n hx hb dJ6_bitCount_0f7a4_48 rfl (lv_at hl 0 rfl) ?_
  refine lv_bipush (v := iI 63) hx hb dJ6_bitCount_0f7a4_49 (by decide) ?_
  obtain ⟨x_15, ex_15, hx_15⟩ : ∃ z : Int, iI x_14 &&& iI 63 = iI z ∧ inR z := ⟨(iI x_14 &&& iI 63).toInt, (iI_of _).symm, iI_rng _⟩
  refine gi_and (z := x_15) hx hb dJ6_bitCount_0f7a4_51 ex_15 ?_
  exact g_iret hQ C hr hlocks hP hS dJ6_bitCount_0f7a4_52 ⟨x_15, rfl, rfl, rfl, rfl, (by first | omega | (split <;> omega))⟩

set_option maxHeartbeats 4000000 in
set_option maxRecDepth 100000 in
theorem c_X9_wasOut (l : Launch) (D : va_G) (k : Nat → ClassId) (A : Nat → Prop) (ad : Nat → Nat) (hD : rwD A k ad) (v : gV) (f g : gF) (a1 : Int) (a2 : Int) (a3 : Int) (a4 : Int) (h_a1 : inR a1) (h_a2 : inR a2) (h_a3 : inR a3) (h_a4 : inR a4) (hc : 0 ≤ a1 ∧ a1 ≤ 15) : GM l D k A (rwT k ad) yX9_wasOut cX9_wasOut 7 (some .boolean) 1 21 [.ref (ad 43), .int (iI a1), .int (iI a2), .int (iI a3), .int (iI a4)] v f g (fun r v1 f1 g1 => ∃ (z : Int), r = some (.int (iI z)) ∧ v = v1 ∧ f = f1 ∧ g = g1 ∧ (0 ≤ z ∧ z ≤ 1)) := by
  refine GM.of (by decide) (Nat.le_of_ble_eq_true rfl) ?_
  intro p e s m args below meth c Q ls hQ C hml hr hlocks hP hl
  have hx := C.1
  have hb := C.2.1
  have hok := hP.2
  have hS : va_S A s.heap s.heap [] := va_S.rf
  have hl : lv_has ls 7 [(0, .ref (ad 43)), (1, .int (iI a1)), (2, .int (iI a2)), (3, .int (iI a3)), (4, .int (iI a4))] := hl
  refine lv_iload_n hx hb dX9_wasOut_0 rfl (lv_at hl 1 rfl) ?_
  refine lv_bipush (v := iI 20) hx hb dX9_wasOut_1 (by decide) ?_
  refine gi_mul (z := (a1 * 20)) hx hb dX9_wasOut_3 rfl ?_
  refine lv_istore (lv' := [(5, .int (iI (a1 * 20))), (0, .ref (ad 43)), (1, .int (iI a1)), (2, .int (iI a2)), (3, .int (iI a3)), (4, .int (iI a4))]) hx hb dX9_wasOut_4 hl (by decide) rfl (fun ls hl => ?_)
  have L_1 : ∀ (n : Nat) (x5 : Int) (H : Heap) (locs : List Loc) (ls : Array Slot), a1 * 20 + 20 - x5 < (n : Int) → (a1 * 20 ≤ x5 ∧ x5 ≤ a1 * 20 + 20) → gWd D (rwT k ad) v f g H → va_S A s.heap H locs → lv_has ls 7 [(0, .ref (ad 43)), (1, .int (iI a1)), (2, .int (iI a2)), (3, .int (iI a3)), (4, .int (iI a4)), (5, .int (iI x5))] → W p l e (gRm 1 21) s m args below meth c H locs 0 0 Q (F0 m 6 ls []) := by
    intro n
    induction n with
    | zero =>
      intro x5 H locs ls hn_1 i1_0 hP hS hl
      exfalso; omega
    | succ n ih_6 =>
      intro x5 H locs ls hn_1 i1_0 hP hS hl
      refine lv_iload hx hb dX9_wasOut_6 (lv_at hl 5 rfl) ?_
      refine lv_aload_n hx hb dX9_wasOut_8 rfl (lv_at hl 0 rfl) ?_
      refine lv_iload_n hx hb dX9_wasOut_9 rfl (lv_at hl 1 rfl) ?_
      refine g_cv (As := [.int (iI a1)]) (rest := [.int (iI x5)]) (n := 1) C hml (c_X9_latest l D k A ad hD v f g a1 (by omega) (show 0 ≤ a1 ∧ a1 ≤ 15 from by omega)) mM_X9_27 mI_X9_latest mE_X9_latest mN_X9 mC_X9_latest (by decide +kernel) 43 (ci := 9) rfl rfl hP hS (fun _ h => h) ⟨Nat.le_of_ble_eq_true rfl, Nat.le_of_ble_eq_true rfl⟩ ⟨Nat.zero_le _, Nat.zero_le _⟩ hl.1 rfl rfl (Nat.le_of_ble_eq_true rfl) dX9_wasOut_10 (fun r_2 v_2 f_2 g_2 H locs hq_2 hP _ hS => ?_)
      obtain ⟨z_2, rfl, rfl, rfl, rfl, p0_2, p1_2⟩ := hq_2
      show W p l e (gRm 1 21) s m args below meth c _ _ 0 0 Q (F0 m 13 ls [.int (iI z_2), .int (iI x5)])
      replace p0_2 : z_2 = (a1 * 20 + (f 31) a1 - 1) := p0_2
      replace p1_2 : z_2 = a1 * 20 + (f 31) a1 - 1 ∧ 0 ≤ (f 31) a1 ∧ (f 31) a1 ≤ 20 := p1_2
      have hz_2 : inR z_2 := (by first | omega | (rw [p0_2]; split <;> omega))
      refine gi_cgt (tgt := 66) hx hb dX9_wasOut_13 (by decide) (by omega) (by omega) (fun c_3 => ?_) (fun c_3 => ?_)
      · refine lv_iconst (v := iI 0) hx hb dX9_wasOut_66 rfl ?_
        exact g_zret hQ C hr hlocks (by decide) hP hS dX9_wasOut_67 ⟨0, rfl, rfl, rfl, rfl, (by first | omega | (split <;> omega))⟩
      · refine lv_aload_n hx hb dX9_wasOut_16 rfl (lv_at hl 0 rfl) ?_
        refine rwG_watch_cameIn C hP mF_X9_18 dX9_wasOut_17 ?_
        refine lv_iload hx hb dX9_wasOut_20 (lv_at hl 5 rfl) ?_
        refine rwL_watch_cameIn C hP (by omega) (by omega) dX9_wasOut_22 ?_
        have r_4 : (-1) ≤ (f 33 x5) ∧ (f 33 x5) ≤ 1000000 := hP.2.2 33 x5
        refine lv_iconst (v := iI (-1)) hx hb dX9_wasOut_23 rfl ?_
        refine gi_cne (tgt := 32) hx hb dX9_wasOut_24 (by decide) (by omega) (by decide) (fun c_5 => ?_) (fun c_5 => ?_)
        · refine lv_aload_n hx hb dX9_wasOut_32 rfl (lv_at hl 0 rfl) ?_
          refine rwG_watch_cameIn C hP mF_X9_18 dX9_wasOut_33 ?_
          refine lv_iload hx hb dX9_wasOut_36 (lv_at hl 5 rfl) ?_
          refine rwL_watch_cameIn C hP (by omega) (by omega) dX9_wasOut_38 ?_
          refine lv_istore (lv' := [(6, .int (iI (f 33 x5))), (0, .ref (ad 43)), (1, .int (iI a1)), (2, .int (iI a2)), (3, .int (iI a3)), (4, .int (iI a4)), (5, .int (iI x5))]) hx hb dX9_wasOut_39 hl (by decide) rfl (fun ls hl => ?_)
          refine lv_aload_n hx hb dX9_wasOut_41 rfl (lv_at hl 1 rfl) ?_
          refine rwG_watch_wentOut C hP mF_X9_15 dX9_wasOut_42 ?_
          refine lv_iload hx hb dX9_wasOut_45 (lv_at hl 6 rfl) ?_
          refine rwL_watch_wentOut C hP (by omega) (by omega) dX9_wasOut_47 ?_
          have r_6 : 0 ≤ (f 32 x5) ∧ (f 32 x5) ≤ 1000000 := hP.2.2 32 x5
          refine lv_iload_n hx hb dX9_wasOut_48 rfl (lv_at hl 4 rfl) ?_
          refine gi_cgt (tgt := 60) hx hb dX9_wasOut_49 (by decide) (by omega) (by omega) (fun c_7 => ?_) (fun c_7 => ?_)
          · refine lv_iinc (v := iI (x5 + 1)) (lv' := [(5, .int (iI (x5 + 1))), (6, .int (iI (f 33 x5))), (0, .ref (ad 43)), (1, .int (iI a1)), (2, .int (iI a2)), (3, .int (iI a3)), (4, .int (iI a4))]) hx hb dX9_wasOut_60 hl (k := 6) rfl (by show iI _ + iI 1 = _; rw [iI_add]) (by decide) rfl (fun ls hl => ?_)
            refine lv_goto (tgt := 6) hx hb dX9_wasOut_63 (by decide) ?_
            exact ih_6 (x5 + 1) _ _ _ (by omega) (by omega) hP hS (lv_sub hl [2, 3, 4, 5, 6, 0] rfl)
          · refine lv_iload_n hx hb dX9_wasOut_52 rfl (lv_at hl 3 rfl) ?_
            refine lv_iload hx hb dX9_wasOut_53 (lv_at hl 0 rfl) ?_
            refine gi_cgt (tgt := 60) hx hb dX9_wasOut_55 (by decide) (by omega) (by omega) (fun c_8 => ?_) (fun c_8 => ?_)
            · refine lv_iinc (v := iI (x5 + 1)) (lv' := [(5, .int (iI (x5 + 1))), (6, .int (iI (f 33 x5))), (0, .ref (ad 43)), (1, .int (iI a1)), (2, .int (iI a2)), (3, .int (iI a3)), (4, .int (iI a4))]) hx hb dX9_wasOut_60 hl (k := 6) rfl (by show iI _ + iI 1 = _; rw [iI_add]) (by decide) rfl (fun ls hl => ?_)
              refine lv_goto (tgt := 6) hx hb dX9_wasOut_63 (by decide) ?_
              exact ih_6 (x5 + 1) _ _ _ (by omega) (by omega) hP hS (lv_sub hl [2, 3, 4, 5, 6, 0] rfl)
            · refine lv_iconst (v := iI 1) hx hb dX9_wasOut_58 rfl ?_
              exact g_zret hQ C hr hlocks (by decide) hP hS dX9_wasOut_59 ⟨1, rfl, rfl, rfl, rfl, (by first | omega | (split <;> omega))⟩
        · refine lv_iload hx hb dX9_wasOut_27 (lv_at hl 4 rfl) ?_
          refine lv_goto (tgt := 39) hx hb dX9_wasOut_29 (by decide) ?_
          refine lv_istore (lv' := [(6, .int (iI a4)), (0, .ref (ad 43)), (1, .int (iI a1)), (2, .int (iI a2)), (3, .int (iI a3)), (4, .int (iI a4)), (5, .int (iI x5))]) hx hb dX9_wasOut_39 hl (by decide) rfl (fun ls hl => ?_)
          refine lv_aload_n hx hb dX9_wasOut_41 rfl (lv_at hl 1 rfl) ?_
          refine rwG_watch_wentOut C hP mF_X9_15 dX9_wasOut_42 ?_
          refine lv_iload hx hb dX9_wasOut_45 (lv_at hl 6 rfl) ?_
          refine rwL_watch_wentOut C hP (by omega) (by omega) dX9_wasOut_47 ?_
          have r_9 : 0 ≤ (f 32 x5) ∧ (f 32 x5) ≤ 1000000 := hP.2.2 32 x5
          refine lv_iload_n hx hb dX9_wasOut_48 rfl (lv_at hl 4 rfl) ?_
          refine gi_cgt (tgt := 60) hx hb dX9_wasOut_49 (by decide) (by omega) (by omega) (fun c_10 => ?_) (fun c_10 => ?_)
          · refine lv_iinc (v := iI (x5 + 1)) (lv' := [(5, .int (iI (x5 + 1))), (6, .int (iI a4)), (0, .ref (ad 43)), (1, .int (iI a1)), (2, .int (iI a2)), (3, .int (iI a3)), (4, .int (iI a4))]) hx hb dX9_wasOut_60 hl (k := 6) rfl (by show iI _ + iI 1 = _; rw [iI_add]) (by decide) rfl (fun ls hl => ?_)
            refine lv_goto (tgt := 6) hx hb dX9_wasOut_63 (by decide) ?_
            exact ih_6 (x5 + 1) _ _ _ (by omega) (by omega) hP hS (lv_sub hl [2, 3, 4, 5, 6, 0] rfl)
          · refine lv_iload_n hx hb dX9_wasOut_52 rfl (lv_at hl 3 rfl) ?_
            refine lv_iload hx hb dX9_wasOut_53 (lv_at hl 0 rfl) ?_
            refine gi_cgt (tgt := 60) hx hb dX9_wasOut_55 (by decide) (by omega) (by omega) (fun c_11 => ?_) (fun c_11 => ?_)
            · refine lv_iinc (v := iI (x5 + 1)) (lv' := [(5, .int (iI (x5 + 1))), (6, .int (iI a4)), (0, .ref (ad 43)), (1, .int (iI a1)), (2, .int (iI a2)), (3, .int (iI a3)), (4, .int (iI a4))]) hx hb dX9_wasOut_60 hl (k := 6) rfl (by show iI _ + iI 1 = _; rw [iI_add]) (by decide) rfl (fun ls hl => ?_)
              refine lv_goto (tgt := 6) hx hb dX9_wasOut_63 (by decide) ?_
              exact ih_6 (x5 + 1) _ _ _ (by omega) (by omega) hP hS (lv_sub hl [2, 3, 4, 5, 6, 0] rfl)
            · refine lv_iconst (v := iI 1) hx hb dX9_wasOut_58 rfl ?_
              exact g_zret hQ C hr hlocks (by decide) hP hS dX9_wasOut_59 ⟨1, rfl, rfl, rfl, rfl, (by first | omega | (split <;> omega))⟩
  exact L_1 21 (a1 * 20) _ _ _ (by omega) (by omega) hP hS (lv_sub hl [1, 2, 3, 4, 5, 0] rfl)

set_option maxHeartbeats 4000000 in
set_option maxRecDepth 100000 in
theorem c_X9_hasSeen (l : Launch) (D : va_G) (k : Nat → ClassId) (A : Nat → Prop) (ad : Nat → Nat) (hD : rwD A k ad) (v : gV) (f g : gF) (a2 : Int) (a3 : Int) (a4 : Int) (a5 : Int) (h_a2 : inR a2) (h_a3 : inR a3) (h_a4 : inR a4) (h_a5 : inR a5) (hc : 0 ≤ a2 ∧ a2 ≤ 15) : GM l D k A (rwT k ad) yX9_hasSeen cX9_hasSeen 7 (some .boolean) 2 47 [.ref (ad 43), .ref (ad 30), .int (iI a2), .int (iI a3), .int (iI a4), .int (iI a5)] v f g (fun r v1 f1 g1 => ∃ (z : Int), r = some (.int (iI z)) ∧ v = v1 ∧ f = f1 ∧ g = g1 ∧ (0 ≤ z ∧ z ≤ 1)) := by
  refine GM.of (by decide) (Nat.le_of_ble_eq_true rfl) ?_
  intro p e s m args below meth c Q ls hQ C hml hr hlocks hP hl
  have hx := C.1
  have hb := C.2.1
  have hok := hP.2
  have hS : va_S A s.heap s.heap [] := va_S.rf
  have hl : lv_has ls 7 [(0, .ref (ad 43)), (1, .ref (ad 30)), (2, .int (iI a2)), (3, .int (iI a3)), (4, .int (iI a4)), (5, .int (iI a5))] := hl
  have r_1 : 0 ≤ (v 23) ∧ (v 23) ≤ 300 := hok.1 23
  refine lv_iconst (v := iI 0) hx hb dX9_hasSeen_0 rfl ?_
  refine lv_istore (lv' := [(6, .int (iI 0)), (0, .ref (ad 43)), (1, .ref (ad 30)), (2, .int (iI a2)), (3, .int (iI a3)), (4, .int (iI a4)), (5, .int (iI a5))]) hx hb dX9_hasSeen_1 hl (by decide) rfl (fun ls hl => ?_)
  have L_2 : ∀ (n : Nat) (x6 : Int) (H : Heap) (locs : List Loc) (ls : Array Slot), 300 - x6 < (n : Int) → (0 ≤ x6 ∧ x6 ≤ (v 23)) → gWd D (rwT k ad) v f g H → va_S A s.heap H locs → lv_has ls 7 [(0, .ref (ad 43)), (1, .ref (ad 30)), (2, .int (iI a2)), (3, .int (iI a3)), (4, .int (iI a4)), (5, .int (iI a5)), (6, .int (iI x6))] → W p l e (gRm 2 47) s m args below meth c H locs 0 0 Q (F0 m 3 ls []) := by
    intro n
    induction n with
    | zero =>
      intro x6 H locs ls hn_2 i2_0 hP hS hl
      exfalso; omega
    | succ n ih_3 =>
      intro x6 H locs ls hn_2 i2_0 hP hS hl
      refine lv_iload hx hb dX9_hasSeen_3 (lv_at hl 6 rfl) ?_
      refine lv_aload_n hx hb dX9_hasSeen_5 rfl (lv_at hl 1 rfl) ?_
      refine rwG_tries_many C hP mF_X9_31 dX9_hasSeen_6 ?_
      refine gi_cge (tgt := 94) hx hb dX9_hasSeen_9 (by decide) (by omega) (by omega) (fun c_3 => ?_) (fun c_3 => ?_)
      · refine lv_iconst (v := iI 0) hx hb dX9_hasSeen_94 rfl ?_
        exact g_zret hQ C hr hlocks (by decide) hP hS dX9_hasSeen_95 ⟨0, rfl, rfl, rfl, rfl, (by first | omega | (split <;> omega))⟩
      · refine lv_aload_n hx hb dX9_hasSeen_12 rfl (lv_at hl 1 rfl) ?_
        refine rwG_tries_round C hP mF_X9_37 dX9_hasSeen_13 ?_
        refine lv_iload hx hb dX9_hasSeen_16 (lv_at hl 6 rfl) ?_
        refine rwL_tries_round C hP (by omega) (by omega) dX9_hasSeen_18 ?_
        have r_4 : 0 ≤ (f 21 x6) ∧ (f 21 x6) ≤ 3 := hP.2.2 21 x6
        refine lv_iload_n hx hb dX9_hasSeen_19 rfl (lv_at hl 3 rfl) ?_
        refine gi_cne (tgt := 88) hx hb dX9_hasSeen_20 (by decide) (by omega) (by omega) (fun c_5 => ?_) (fun c_5 => ?_)
        · refine lv_iinc (v := iI (x6 + 1)) (lv' := [(6, .int (iI (x6 + 1))), (0, .ref (ad 43)), (1, .ref (ad 30)), (2, .int (iI a2)), (3, .int (iI a3)), (4, .int (iI a4)), (5, .int (iI a5))]) hx hb dX9_hasSeen_88 hl (k := 6) rfl (by show iI _ + iI 1 = _; rw [iI_add]) (by decide) rfl (fun ls hl => ?_)
          refine lv_goto (tgt := 3) hx hb dX9_hasSeen_91 (by decide) ?_
          exact ih_3 (x6 + 1) _ _ _ (by omega) (by omega) hP hS (lv_sub hl [1, 2, 3, 4, 5, 6, 0] rfl)
        · refine lv_aload_n hx hb dX9_hasSeen_23 rfl (lv_at hl 1 rfl) ?_
          refine rwG_tries_route C hP mF_X9_40 dX9_hasSeen_24 ?_
          refine lv_iload hx hb dX9_hasSeen_27 (lv_at hl 6 rfl) ?_
          refine rwL_tries_route C hP (by omega) (by omega) dX9_hasSeen_29 ?_
          have r_6 : 0 ≤ (f 22 x6) ∧ (f 22 x6) ≤ 4 := hP.2.2 22 x6
          refine lv_iload hx hb dX9_hasSeen_30 (lv_at hl 4 rfl) ?_
          refine gi_cne (tgt := 88) hx hb dX9_hasSeen_32 (by decide) (by omega) (by omega) (fun c_7 => ?_) (fun c_7 => ?_)
          · refine lv_iinc (v := iI (x6 + 1)) (lv' := [(6, .int (iI (x6 + 1))), (0, .ref (ad 43)), (1, .ref (ad 30)), (2, .int (iI a2)), (3, .int (iI a3)), (4, .int (iI a4)), (5, .int (iI a5))]) hx hb dX9_hasSeen_88 hl (k := 6) rfl (by show iI _ + iI 1 = _; rw [iI_add]) (by decide) rfl (fun ls hl => ?_)
            refine lv_goto (tgt := 3) hx hb dX9_hasSeen_91 (by decide) ?_
            exact ih_3 (x6 + 1) _ _ _ (by omega) (by omega) hP hS (lv_sub hl [1, 2, 3, 4, 5, 6, 0] rfl)
          · refine lv_aload_n hx hb dX9_hasSeen_35 rfl (lv_at hl 1 rfl) ?_
            refine rwG_tries_climber C hP mF_X9_43 dX9_hasSeen_36 ?_
            refine lv_iload hx hb dX9_hasSeen_39 (lv_at hl 6 rfl) ?_
            refine rwL_tries_climber C hP (by omega) (by omega) dX9_hasSeen_41 ?_
            have r_8 : 0 ≤ (f 20 x6) ∧ (f 20 x6) ≤ 15 := hP.2.2 20 x6
            refine lv_iload_n hx hb dX9_hasSeen_42 rfl (lv_at hl 2 rfl) ?_
            refine gi_ceq (tgt := 88) hx hb dX9_hasSeen_43 (by decide) (by omega) (by omega) (fun c_9 => ?_) (fun c_9 => ?_)
            · refine lv_iinc (v := iI (x6 + 1)) (lv' := [(6, .int (iI (x6 + 1))), (0, .ref (ad 43)), (1, .ref (ad 30)), (2, .int (iI a2)), (3, .int (iI a3)), (4, .int (iI a4)), (5, .int (iI a5))]) hx hb dX9_hasSeen_88 hl (k := 6) rfl (by show iI _ + iI 1 = _; rw [iI_add]) (by decide) rfl (fun ls hl => ?_)
              refine lv_goto (tgt := 3) hx hb dX9_hasSeen_91 (by decide) ?_
              exact ih_3 (x6 + 1) _ _ _ (by omega) (by omega) hP hS (lv_sub hl [1, 2, 3, 4, 5, 6, 0] rfl)
            · refine lv_aload_n hx hb dX9_hasSeen_46 rfl (lv_at hl 0 rfl) ?_
              refine lv_iload_n hx hb dX9_hasSeen_47 rfl (lv_at hl 2 rfl) ?_
              refine lv_aload_n hx hb dX9_hasSeen_48 rfl (lv_at hl 1 rfl) ?_
              refine rwG_tries_begun C hP mF_X9_46 dX9_hasSeen_49 ?_
              refine lv_iload hx hb dX9_hasSeen_52 (lv_at hl 6 rfl) ?_
              refine rwL_tries_begun C hP (by omega) (by omega) dX9_hasSeen_54 ?_
              have r_10 : 0 ≤ (f 23 x6) ∧ (f 23 x6) ≤ 1000000 := hP.2.2 23 x6
              refine lv_aload_n hx hb dX9_hasSeen_55 rfl (lv_at hl 1 rfl) ?_
              refine rwG_tries_ended C hP mF_X9_49 dX9_hasSeen_56 ?_
              refine lv_iload hx hb dX9_hasSeen_59 (lv_at hl 6 rfl) ?_
              refine rwL_tries_ended C hP (by omega) (by omega) dX9_hasSeen_61 ?_
              have r_11 : (-1) ≤ (f 24 x6) ∧ (f 24 x6) ≤ 1000999 := hP.2.2 24 x6
              refine lv_iconst (v := iI (-1)) hx hb dX9_hasSeen_62 rfl ?_
              refine gi_cne (tgt := 71) hx hb dX9_hasSeen_63 (by decide) (by omega) (by decide) (fun c_12 => ?_) (fun c_12 => ?_)
              · refine lv_aload_n hx hb dX9_hasSeen_71 rfl (lv_at hl 1 rfl) ?_
                refine rwG_tries_ended C hP mF_X9_49 dX9_hasSeen_72 ?_
                refine lv_iload hx hb dX9_hasSeen_75 (lv_at hl 6 rfl) ?_
                refine rwL_tries_ended C hP (by omega) (by omega) dX9_hasSeen_77 ?_
                refine lv_iload hx hb dX9_hasSeen_78 (lv_at hl 5 rfl) ?_
                refine g_cv (As := [.int (iI a2), .int (iI (f 23 x6)), .int (iI (f 24 x6)), .int (iI a5)]) (rest := []) (n := 4) C hml (c_X9_wasOut l D k A ad hD v f g a2 (f 23 x6) (f 24 x6) a5 (by omega) (by omega) (by omega) (by omega) (show 0 ≤ a2 ∧ a2 ≤ 15 from by omega)) mM_X9_52 mI_X9_wasOut mE_X9_wasOut mN_X9 mC_X9_wasOut (by decide +kernel) 43 (ci := 9) rfl rfl hP hS (fun _ h => h) ⟨Nat.le_of_ble_eq_true rfl, Nat.le_of_ble_eq_true rfl⟩ ⟨Nat.zero_le _, Nat.zero_le _⟩ hl.1 rfl rfl (Nat.le_of_ble_eq_true rfl) dX9_hasSeen_80 (fun r_13 v_13 f_13 g_13 H locs hq_13 hP _ hS => ?_)
                obtain ⟨z_13, rfl, rfl, rfl, rfl, p0_13⟩ := hq_13
                show W p l e (gRm 2 47) s m args below meth c _ _ 0 0 Q (F0 m 83 ls [.int (iI z_13)])
                replace p0_13 : 0 ≤ z_13 ∧ z_13 ≤ 1 := p0_13
                refine gi_zeq (tgt := 88) hx hb dX9_hasSeen_83 (by decide) (by omega) (fun c_14 => ?_) (fun c_14 => ?_)
                · refine lv_iinc (v := iI (x6 + 1)) (lv' := [(6, .int (iI (x6 + 1))), (0, .ref (ad 43)), (1, .ref (ad 30)), (2, .int (iI a2)), (3, .int (iI a3)), (4, .int (iI a4)), (5, .int (iI a5))]) hx hb dX9_hasSeen_88 hl (k := 6) rfl (by show iI _ + iI 1 = _; rw [iI_add]) (by decide) rfl (fun ls hl => ?_)
                  refine lv_goto (tgt := 3) hx hb dX9_hasSeen_91 (by decide) ?_
                  exact ih_3 (x6 + 1) _ _ _ (by omega) (by omega) hP hS (lv_sub hl [1, 2, 3, 4, 5, 6, 0] rfl)
                · refine lv_iconst (v := iI 1) hx hb dX9_hasSeen_86 rfl ?_
                  exact g_zret hQ C hr hlocks (by decide) hP hS dX9_hasSeen_87 ⟨1, rfl, rfl, rfl, rfl, (by first | omega | (split <;> omega))⟩
              · refine lv_iload hx hb dX9_hasSeen_66 (lv_at hl 5 rfl) ?_
                refine lv_goto (tgt := 78) hx hb dX9_hasSeen_68 (by decide) ?_
                refine lv_iload hx hb dX9_hasSeen_78 (lv_at hl 5 rfl) ?_
                refine g_cv (As := [.int (iI a2), .int (iI (f 23 x6)), .int (iI a5), .int (iI a5)]) (rest := []) (n := 4) C hml (c_X9_wasOut l D k A ad hD v f g a2 (f 23 x6) a5 a5 (by omega) (by omega) (by omega) (by omega) (show 0 ≤ a2 ∧ a2 ≤ 15 from by omega)) mM_X9_52 mI_X9_wasOut mE_X9_wasOut mN_X9 mC_X9_wasOut (by decide +kernel) 43 (ci := 9) rfl rfl hP hS (fun _ h => h) ⟨Nat.le_of_ble_eq_true rfl, Nat.le_of_ble_eq_true rfl⟩ ⟨Nat.zero_le _, Nat.zero_le _⟩ hl.1 rfl rfl (Nat.le_of_ble_eq_true rfl) dX9_hasSeen_80 (fun r_15 v_15 f_15 g_15 H locs hq_15 hP _ hS => ?_)
                obtain ⟨z_15, rfl, rfl, rfl, rfl, p0_15⟩ := hq_15
                show W p l e (gRm 2 47) s m args below meth c _ _ 0 0 Q (F0 m 83 ls [.int (iI z_15)])
                replace p0_15 : 0 ≤ z_15 ∧ z_15 ≤ 1 := p0_15
                refine gi_zeq (tgt := 88) hx hb dX9_hasSeen_83 (by decide) (by omega) (fun c_16 => ?_) (fun c_16 => ?_)
                · refine lv_iinc (v := iI (x6 + 1)) (lv' := [(6, .int (iI (x6 + 1))), (0, .ref (ad 43)), (1, .ref (ad 30)), (2, .int (iI a2)), (3, .int (iI a3)), (4, .int (iI a4)), (5, .int (iI a5))]) hx hb dX9_hasSeen_88 hl (k := 6) rfl (by show iI _ + iI 1 = _; rw [iI_add]) (by decide) rfl (fun ls hl => ?_)
                  refine lv_goto (tgt := 3) hx hb dX9_hasSeen_91 (by decide) ?_
                  exact ih_3 (x6 + 1) _ _ _ (by omega) (by omega) hP hS (lv_sub hl [1, 2, 3, 4, 5, 6, 0] rfl)
                · refine lv_iconst (v := iI 1) hx hb dX9_hasSeen_86 rfl ?_
                  exact g_zret hQ C hr hlocks (by decide) hP hS dX9_hasSeen_87 ⟨1, rfl, rfl, rfl, rfl, (by first | omega | (split <;> omega))⟩
  exact L_2 301 0 _ _ _ (by omega) (by omega) hP hS (lv_sub hl [1, 2, 3, 4, 5, 6, 0] rfl)

set_option maxHeartbeats 4000000 in
set_option maxRecDepth 100000 in
theorem c_X2_letCome (l : Launch) (D : va_G) (k : Nat → ClassId) (A : Nat → Prop) (ad : Nat → Nat) (hD : rwD A k ad) (v : gV) (f g : gF) (a2 : Int) (a3 : Int) (h_a2 : inR a2) (h_a3 : inR a3) (h0 : (v 22) < 3) (h3 : 0 ≤ a3 ∧ a3 ≤ 999) : GM l D k A (rwT k ad) yX2_letCome cX2_letCome 6 (some .int) 0 0 [.ref (ad 27), .ref (ad 57), .int (iI a2), .int (iI a3)] v f g (fun r v1 f1 g1 => ∃ (z : Int) (a18_ : Int → Int) (a19_ : Int → Int), r = some (.int (iI z)) ∧ (va_up v 22 ((v 22) + 1)) = v1 ∧ (va_up (va_up f 18 a18_) 19 a19_) = f1 ∧ g = g1 ∧ (0 ≤ z ∧ z ≤ 16)) := by
  refine GM.of (by decide) (Nat.le_of_ble_eq_true rfl) ?_
  intro p e s m args below meth c Q ls hQ C hml hr hlocks hP hl
  have hx := C.1
  have hb := C.2.1
  have hok := hP.2
  have hS : va_S A s.heap s.heap [] := va_S.rf
  have hl : lv_has ls 6 [(0, .ref (ad 27)), (1, .ref (ad 57)), (2, .int (iI a2)), (3, .int (iI a3))] := hl
  have hP : gWd D (rwT k ad) (va_up v 22 (v 22)) (va_up (va_up f 18 (f 18)) 19 (f 19)) g s.heap := by rw [va_id, va_id, va_id]; exact hP
  have r_1 : 0 ≤ (v 21) ∧ (v 21) ≤ 16 := hok.1 21
  have r_2 : 0 ≤ (v 22) ∧ (v 22) ≤ 3 := hok.1 22
  refine lv_iconst (v := iI 0) hx hb dX2_letCome_0 rfl ?_
  refine lv_istore (lv' := [(4, .int (iI 0)), (0, .ref (ad 27)), (1, .ref (ad 57)), (2, .int (iI a2)), (3, .int (iI a3))]) hx hb dX2_letCome_1 hl (by decide) rfl (fun ls hl => ?_)
  refine lv_iconst (v := iI 0) hx hb dX2_letCome_3 rfl ?_
  refine lv_istore (lv' := [(5, .int (iI 0)), (4, .int (iI 0)), (0, .ref (ad 27)), (1, .ref (ad 57)), (2, .int (iI a2)), (3, .int (iI a3))]) hx hb dX2_letCome_4 hl (by decide) rfl (fun ls hl => ?_)
  have L_3 : ∀ (n : Nat) (x4 : Int) (x5 : Int) (c18_3 : Int → Int) (H : Heap) (locs : List Loc) (ls : Array Slot), 16 - x5 < (n : Int) → (0 ≤ x5 ∧ x5 ≤ (v 21)) → (0 ≤ x4 ∧ x4 ≤ x5) → gWd D (rwT k ad) (va_up v 22 (v 22)) (va_up (va_up f 18 c18_3) 19 (f 19)) g H → va_S A s.heap H locs → lv_has ls 6 [(0, .ref (ad 27)), (1, .ref (ad 57)), (2, .int (iI a2)), (3, .int (iI a3)), (4, .int (iI x4)), (5, .int (iI x5))] → W p l e (gRm 0 0) s m args below meth c H locs 0 0 Q (F0 m 6 ls []) := by
    intro n
    induction n with
    | zero =>
      intro x4 x5 c18_3 H locs ls hn_3 i3_0 i3_1 hP hS hl
      exfalso; omega
    | succ n ih_6 =>
      intro x4 x5 c18_3 H locs ls hn_3 i3_0 i3_1 hP hS hl
      refine lv_iload hx hb dX2_letCome_6 (lv_at hl 5 rfl) ?_
      refine lv_aload_n hx hb dX2_letCome_8 rfl (lv_at hl 0 rfl) ?_
      refine rwG_field_climbers C hP mF_X2_18 dX2_letCome_9 ?_
      show W p l e (gRm 0 0) s m args below meth c _ _ 0 0 Q (F0 m 12 ls [.int (iI (v 21)), .int (iI x5)])
      refine gi_cge (tgt := 59) hx hb dX2_letCome_12 (by decide) (by omega) (by omega) (fun c_4 => ?_) (fun c_4 => ?_)
      · refine lv_aload_n hx hb dX2_letCome_59 rfl (lv_at hl 0 rfl) ?_
        refine lv_dup hx hb dX2_letCome_60 rfl ?_
        refine rwG_field_open C hP mF_X2_22 dX2_letCome_61 ?_
        show W p l e (gRm 0 0) s m args below meth c _ _ 0 0 Q (F0 m 64 ls [.int (iI (v 22)), .ref (ad 27)])
        refine lv_iconst (v := iI 1) hx hb dX2_letCome_64 rfl ?_
        refine gi_add (z := ((v 22) + 1)) hx hb dX2_letCome_65 rfl ?_
        refine rwP_field_open (v1 := (va_up v 22 ((v 22) + 1))) C hP hD hS mF_X2_22 (by omega) rfl (Or.inr (gF_up (V := rwV) (F := rwF) (gF_up (V := rwV) (F := rwF) (gR_up (V := rwV) (F := rwF) ⟨hok.1, hok.2⟩ 22 (show 0 ≤ ((v 22) + 1) ∧ ((v 22) + 1) ≤ 3 from by omega)) 18 (hP.2.2 18)) 19 (hP.2.2 19))) dX2_letCome_66 (fun H locs hP hS => ?_)
        refine lv_aload_n hx hb dX2_letCome_69 rfl (lv_at hl 0 rfl) ?_
        refine rwG_field_cutDay C hP mF_X2_15 dX2_letCome_70 ?_
        refine lv_aload_n hx hb dX2_letCome_73 rfl (lv_at hl 0 rfl) ?_
        refine rwG_field_open C hP mF_X2_22 dX2_letCome_74 ?_
        show W p l e (gRm 0 0) s m args below meth c _ _ 0 0 Q (F0 m 77 ls [.int (iI ((v 22) + 1)), .ref (ad 29)])
        have r_5 : 0 ≤ ((v 22) + 1) ∧ ((v 22) + 1) ≤ 3 := hP.2.1 22
        refine lv_iload_n hx hb dX2_letCome_77 rfl (lv_at hl 3 rfl) ?_
        refine rwS_field_cutDay (f1 := (va_up (va_up f 18 c18_3) 19 (u1 (f 19) ((v 22) + 1) a3))) C hP hD hS (by omega) (by omega) (by omega) rfl (Or.inr (gF_up (V := rwV) (F := rwF) (gF_up (V := rwV) (F := rwF) (gR_up (V := rwV) (F := rwF) ⟨hok.1, hok.2⟩ 22 (hP.2.1 22)) 18 (hP.2.2 18)) 19 (u1_rng (hP.2.2 19) (show 0 ≤ a3 ∧ a3 ≤ 999 from (by omega))))) dX2_letCome_78 (fun H locs hP hS => ?_)
        refine lv_iload hx hb dX2_letCome_79 (lv_at hl 4 rfl) ?_
        exact g_iret hQ C hr hlocks hP hS dX2_letCome_81 ⟨x4, c18_3, (u1 (f 19) ((v 22) + 1) a3), rfl, rfl, rfl, rfl, (by first | omega | (split <;> omega))⟩
      · refine lv_aload_n hx hb dX2_letCome_15 rfl (lv_at hl 0 rfl) ?_
        refine rwG_field_latest C hP mF_X2_9 dX2_letCome_16 ?_
        refine lv_iload hx hb dX2_letCome_19 (lv_at hl 5 rfl) ?_
        refine rwL_field_latest C hP (by omega) (by omega) dX2_letCome_21 ?_
        show W p l e (gRm 0 0) s m args below meth c _ _ 0 0 Q (F0 m 22 ls [.int (iI (c18_3 x5))])
        have r_6 : 0 ≤ (c18_3 x5) ∧ (c18_3 x5) ≤ 3 := hP.2.2 18 x5
        refine lv_aload_n hx hb dX2_letCome_22 rfl (lv_at hl 0 rfl) ?_
        refine rwG_field_open C hP mF_X2_22 dX2_letCome_23 ?_
        show W p l e (gRm 0 0) s m args below meth c _ _ 0 0 Q (F0 m 26 ls [.int (iI (v 22)), .int (iI (c18_3 x5))])
        refine gi_cne (tgt := 53) hx hb dX2_letCome_26 (by decide) (by omega) (by omega) (fun c_7 => ?_) (fun c_7 => ?_)
        · refine lv_iinc (v := iI (x5 + 1)) (lv' := [(5, .int (iI (x5 + 1))), (0, .ref (ad 27)), (1, .ref (ad 57)), (2, .int (iI a2)), (3, .int (iI a3)), (4, .int (iI x4))]) hx hb dX2_letCome_53 hl (k := 5) rfl (by show iI _ + iI 1 = _; rw [iI_add]) (by decide) rfl (fun ls hl => ?_)
          refine lv_goto (tgt := 6) hx hb dX2_letCome_56 (by decide) ?_
          exact ih_6 x4 (x5 + 1) c18_3 _ _ _ (by omega) (by omega) (by omega) hP hS (lv_sub hl [1, 2, 3, 4, 5, 0] rfl)
        · refine lv_aload_n hx hb dX2_letCome_29 rfl (lv_at hl 1 rfl) ?_
          refine lv_iload hx hb dX2_letCome_30 (lv_at hl 5 rfl) ?_
          refine rwL_results_ranks C hP (by omega) (by omega) dX2_letCome_32 ?_
          show W p l e (gRm 0 0) s m args below meth c _ _ 0 0 Q (F0 m 33 ls [.int (iI (f 41 x5))])
          have r_8 : (-1) ≤ (f 41 x5) ∧ (f 41 x5) ≤ 17 := hP.2.2 41 x5
          refine lv_iload_n hx hb dX2_letCome_33 rfl (lv_at hl 2 rfl) ?_
          refine gi_cgt (tgt := 53) hx hb dX2_letCome_34 (by decide) (by omega) (by omega) (fun c_9 => ?_) (fun c_9 => ?_)
          · refine lv_iinc (v := iI (x5 + 1)) (lv' := [(5, .int (iI (x5 + 1))), (0, .ref (ad 27)), (1, .ref (ad 57)), (2, .int (iI a2)), (3, .int (iI a3)), (4, .int (iI x4))]) hx hb dX2_letCome_53 hl (k := 5) rfl (by show iI _ + iI 1 = _; rw [iI_add]) (by decide) rfl (fun ls hl => ?_)
            refine lv_goto (tgt := 6) hx hb dX2_letCome_56 (by decide) ?_
            exact ih_6 x4 (x5 + 1) c18_3 _ _ _ (by omega) (by omega) (by omega) hP hS (lv_sub hl [1, 2, 3, 4, 5, 0] rfl)
          · refine lv_aload_n hx hb dX2_letCome_37 rfl (lv_at hl 0 rfl) ?_
            refine rwG_field_latest C hP mF_X2_9 dX2_letCome_38 ?_
            refine lv_iload hx hb dX2_letCome_41 (lv_at hl 5 rfl) ?_
            refine lv_aload_n hx hb dX2_letCome_43 rfl (lv_at hl 0 rfl) ?_
            refine rwG_field_open C hP mF_X2_22 dX2_letCome_44 ?_
            show W p l e (gRm 0 0) s m args below meth c _ _ 0 0 Q (F0 m 47 ls [.int (iI (v 22)), .int (iI x5), .ref (ad 28)])
            refine lv_iconst (v := iI 1) hx hb dX2_letCome_47 rfl ?_
            refine gi_add (z := ((v 22) + 1)) hx hb dX2_letCome_48 rfl ?_
            refine rwS_field_latest (f1 := (va_up (va_up f 18 (u1 c18_3 x5 ((v 22) + 1))) 19 (f 19))) C hP hD hS (by omega) (by omega) (by omega) rfl (Or.inr (gF_up (V := rwV) (F := rwF) (gF_up (V := rwV) (F := rwF) (gR_up (V := rwV) (F := rwF) ⟨hok.1, hok.2⟩ 22 (hP.2.1 22)) 18 (u1_rng (hP.2.2 18) (show 0 ≤ ((v 22) + 1) ∧ ((v 22) + 1) ≤ 3 from (by omega)))) 19 (hP.2.2 19))) dX2_letCome_49 (fun H locs hP hS => ?_)
            refine lv_iinc (v := iI (x4 + 1)) (lv' := [(4, .int (iI (x4 + 1))), (0, .ref (ad 27)), (1, .ref (ad 57)), (2, .int (iI a2)), (3, .int (iI a3)), (5, .int (iI x5))]) hx hb dX2_letCome_50 hl (k := 4) rfl (by show iI _ + iI 1 = _; rw [iI_add]) (by decide) rfl (fun ls hl => ?_)
            refine lv_iinc (v := iI (x5 + 1)) (lv' := [(5, .int (iI (x5 + 1))), (4, .int (iI (x4 + 1))), (0, .ref (ad 27)), (1, .ref (ad 57)), (2, .int (iI a2)), (3, .int (iI a3))]) hx hb dX2_letCome_53 hl (k := 5) rfl (by show iI _ + iI 1 = _; rw [iI_add]) (by decide) rfl (fun ls hl => ?_)
            refine lv_goto (tgt := 6) hx hb dX2_letCome_56 (by decide) ?_
            exact ih_6 (x4 + 1) (x5 + 1) (u1 c18_3 x5 ((v 22) + 1)) _ _ _ (by omega) (by omega) (by omega) hP hS (lv_sub hl [2, 3, 4, 5, 1, 0] rfl)
  exact L_3 17 0 0 (f 18) _ _ _ (by omega) (by omega) (by omega) hP hS (lv_sub hl [2, 3, 4, 5, 1, 0] rfl)

set_option maxHeartbeats 4000000 in
set_option maxRecDepth 100000 in
theorem c_X5_cellOf (l : Launch) (D : va_G) (k : Nat → ClassId) (A : Nat → Prop) (ad : Nat → Nat) (hD : rwD A k ad) (v : gV) (f g : gF) (a1 : Int) (a2 : Int) (a3 : Int) (h_a1 : inR a1) (h_a2 : inR a2) (h_a3 : inR a3) (h1 : 0 ≤ a1 ∧ a1 ≤ 3) (h2 : 0 ≤ a2 ∧ a2 ≤ 15) (h3 : 0 ≤ a3 ∧ a3 ≤ 4) : GM l D k A (rwT k ad) yX5_cellOf cX5_cellOf 3 (some .int) 0 0 [.int (iI a1), .int (iI a2), .int (iI a3)] v f g (fun r v1 f1 g1 => ∃ (z : Int), r = some (.int (iI z)) ∧ v = v1 ∧ f = f1 ∧ g = g1 ∧ (z = (a1 * 80 + a2 * 5 + a3))) := by
  refine GM.of (by decide) (Nat.le_of_ble_eq_true rfl) ?_
  intro p e s m args below meth c Q ls hQ C hml hr hlocks hP hl
  have hx := C.1
  have hb := C.2.1
  have hok := hP.2
  have hS : va_S A s.heap s.heap [] := va_S.rf
  have hl : lv_has ls 3 [(0, .int (iI a1)), (1, .int (iI a2)), (2, .int (iI a3))] := hl
  refine lv_iload_n hx hb dX5_cellOf_0 rfl (lv_at hl 0 rfl) ?_
  refine lv_bipush (v := iI 80) hx hb dX5_cellOf_1 (by decide) ?_
  refine gi_mul (z := (a1 * 80)) hx hb dX5_cellOf_3 rfl ?_
  refine lv_iload_n hx hb dX5_cellOf_4 rfl (lv_at hl 1 rfl) ?_
  refine lv_iconst (v := iI 5) hx hb dX5_cellOf_5 rfl ?_
  refine gi_mul (z := (a2 * 5)) hx hb dX5_cellOf_6 rfl ?_
  refine gi_add (z := ((a1 * 80) + (a2 * 5))) hx hb dX5_cellOf_7 rfl ?_
  refine lv_iload_n hx hb dX5_cellOf_8 rfl (lv_at hl 2 rfl) ?_
  refine gi_add (z := (((a1 * 80) + (a2 * 5)) + a3)) hx hb dX5_cellOf_9 rfl ?_
  exact g_iret hQ C hr hlocks hP hS dX5_cellOf_10 ⟨(((a1 * 80) + (a2 * 5)) + a3), rfl, rfl, rfl, rfl, (by first | omega | (split <;> omega))⟩

set_option maxHeartbeats 4000000 in
set_option maxRecDepth 100000 in
theorem c_X5_keyRow (l : Launch) (D : va_G) (k : Nat → ClassId) (A : Nat → Prop) (ad : Nat → Nat) (hD : rwD A k ad) (v : gV) (f g : gF) (a1 : Int) (a2 : Int) (h_a1 : inR a1) (h_a2 : inR a2) (h1 : 0 ≤ a1 ∧ a1 ≤ 3) (h2 : 0 ≤ a2 ∧ a2 ≤ 15) : GM l D k A (rwT k ad) yX5_keyRow cX5_keyRow 2 (some .int) 0 0 [.int (iI a1), .int (iI a2)] v f g (fun r v1 f1 g1 => ∃ (z : Int), r = some (.int (iI z)) ∧ v = v1 ∧ f = f1 ∧ g = g1 ∧ (z = ((a1 * 16 + a2) * 4))) := by
  refine GM.of (by decide) (Nat.le_of_ble_eq_true rfl) ?_
  intro p e s m args below meth c Q ls hQ C hml hr hlocks hP hl
  have hx := C.1
  have hb := C.2.1
  have hok := hP.2
  have hS : va_S A s.heap s.heap [] := va_S.rf
  have hl : lv_has ls 2 [(0, .int (iI a1)), (1, .int (iI a2))] := hl
  refine lv_iload_n hx hb dX5_keyRow_0 rfl (lv_at hl 0 rfl) ?_
  refine lv_bipush (v := iI 16) hx hb dX5_keyRow_1 (by decide) ?_
  refine gi_mul (z := (a1 * 16)) hx hb dX5_keyRow_3 rfl ?_
  refine lv_iload_n hx hb dX5_keyRow_4 rfl (lv_at hl 1 rfl) ?_
  refine gi_add (z := ((a1 * 16) + a2)) hx hb dX5_keyRow_5 rfl ?_
  refine lv_iconst (v := iI 4) hx hb dX5_keyRow_6 rfl ?_
  refine gi_mul (z := (((a1 * 16) + a2) * 4)) hx hb dX5_keyRow_7 rfl ?_
  exact g_iret hQ C hr hlocks hP hS dX5_keyRow_8 ⟨(((a1 * 16) + a2) * 4), rfl, rfl, rfl, rfl, (by first | omega | (split <;> omega))⟩

set_option maxHeartbeats 4000000 in
set_option maxRecDepth 100000 in
theorem c_X4_worked (l : Launch) (D : va_G) (k : Nat → ClassId) (A : Nat → Prop) (ad : Nat → Nat) (hD : rwD A k ad) (v : gV) (f g : gF) (a1 : Int) (a2 : Int) (a3 : Int) (h_a1 : inR a1) : GM l D k A (rwT k ad) yX4_worked cX4_worked 5 (some .long) 0 0 [.int (iI a1), .long (iL a2), .long (iL a3)] v f g (fun r v1 f1 g1 => ∃ (z : Int), r = some (.long (iL z)) ∧ v = v1 ∧ f = f1 ∧ g = g1) := by
  refine GM.of (by decide) (Nat.le_of_ble_eq_true rfl) ?_
  intro p e s m args below meth c Q ls hQ C hml hr hlocks hP hl
  have hx := C.1
  have hb := C.2.1
  have hok := hP.2
  have hS : va_S A s.heap s.heap [] := va_S.rf
  have hl : lv_has ls 5 [(0, .int (iI a1)), (1, .long (iL a2)), (3, .long (iL a3))] := hl
  refine lv_iload_n hx hb dX4_worked_0 rfl (lv_at hl 0 rfl) ?_
  refine lv_bipush (v := iI 9) hx hb dX4_worked_1 (by decide) ?_
  refine gi_cne (tgt := 10) hx hb dX4_worked_3 (by decide) (by omega) (by decide) (fun c_1 => ?_) (fun c_1 => ?_)
  · refine lv_iload_n hx hb dX4_worked_10 rfl (lv_at hl 0 rfl) ?_
    refine lv_bipush (v := iI 7) hx hb dX4_worked_11 (by decide) ?_
    refine gi_cne (tgt := 22) hx hb dX4_worked_13 (by decide) (by omega) (by decide) (fun c_2 => ?_) (fun c_2 => ?_)
    · refine lv_lload_n hx hb dX4_worked_22 rfl (lv_at hl 1 rfl) ?_
      refine lv_lload_n hx hb dX4_worked_23 rfl (lv_at hl 2 rfl) ?_
      refine gl_sub (z := (a2 - a3)) hx hb dX4_worked_24 rfl ?_
      exact g_lret hQ C hr hlocks hP hS dX4_worked_25 ⟨(a2 - a3), rfl, rfl, rfl, rfl⟩
    · refine lv_lload_n hx hb dX4_worked_16 rfl (lv_at hl 1 rfl) ?_
      refine lv_lload_n hx hb dX4_worked_17 rfl (lv_at hl 2 rfl) ?_
      refine gl_add (z := (a2 + a3)) hx hb dX4_worked_18 rfl ?_
      refine lv_goto (tgt := 25) hx hb dX4_worked_19 (by decide) ?_
      exact g_lret hQ C hr hlocks hP hS dX4_worked_25 ⟨(a2 + a3), rfl, rfl, rfl, rfl⟩
  · refine lv_lload_n hx hb dX4_worked_6 rfl (lv_at hl 1 rfl) ?_
    refine lv_lload_n hx hb dX4_worked_7 rfl (lv_at hl 2 rfl) ?_
    refine gl_mul (z := (a2 * a3)) hx hb dX4_worked_8 rfl ?_
    exact g_lret hQ C hr hlocks hP hS dX4_worked_9 ⟨(a2 * a3), rfl, rfl, rfl, rfl⟩

set_option maxHeartbeats 4000000 in
set_option maxRecDepth 100000 in
theorem c_X4_bounded (l : Launch) (D : va_G) (k : Nat → ClassId) (A : Nat → Prop) (ad : Nat → Nat) (hD : rwD A k ad) (v : gV) (f g : gF) (a1 : Int) : GM l D k A (rwT k ad) yX4_bounded cX4_bounded 2 (some .long) 1 40 [.long (iL a1)] v f g (fun r v1 f1 g1 => ∃ (z : Int), r = some (.long (iL z)) ∧ v = v1 ∧ f = f1 ∧ g = g1) := by
  refine GM.of (by decide) (Nat.le_of_ble_eq_true rfl) ?_
  intro p e s m args below meth c Q ls hQ C hml hr hlocks hP hl
  have hx := C.1
  have hb := C.2.1
  have hok := hP.2
  have hS : va_S A s.heap s.heap [] := va_S.rf
  have hl : lv_has ls 2 [(0, .long (iL a1))] := hl
  refine lv_ldc2 (v := iL (-1000000000)) hx hb C.2.2.2.1 (C.2.2.1 _ (show Cond.constantLong RX4 71 (iL (-1000000000)) ∈ gWs from mD_X4_71)) dX4_bounded_0 ?_
  refine lv_ldc2 (v := iL 1000000000) hx hb C.2.2.2.1 (C.2.2.1 _ (show Cond.constantLong RX4 73 (iL 1000000000) ∈ gWs from mD_X4_73)) dX4_bounded_3 ?_
  refine lv_lload_n hx hb dX4_bounded_6 rfl (lv_at hl 0 rfl) ?_
  refine gl_min C hml hl.1 mM_X4_75 (Nat.le_of_ble_eq_true rfl) (Nat.le_of_ble_eq_true rfl) dX4_bounded_7 (fun x_1 ex_1 => ?_)
  refine gl_max C hml hl.1 mM_X4_81 (Nat.le_of_ble_eq_true rfl) (Nat.le_of_ble_eq_true rfl) dX4_bounded_10 (fun x_2 ex_2 => ?_)
  exact g_lret hQ C hr hlocks hP hS dX4_bounded_13 ⟨x_2, rfl, rfl, rfl, rfl⟩

set_option maxHeartbeats 4000000 in
set_option maxRecDepth 100000 in
theorem c_X4_pointsFor (l : Launch) (D : va_G) (k : Nat → ClassId) (A : Nat → Prop) (ad : Nat → Nat) (hD : rwD A k ad) (v : gV) (f g : gF) : GM l D k A (rwT k ad) yX4_pointsFor cX4_pointsFor 5 (some .int) 2 61 [.ref (ad 2), .ref (ad 53)] v f g (fun r v1 f1 g1 => ∃ (z : Int) (b0_ : Int → Int), r = some (.int (iI z)) ∧ v = v1 ∧ f = f1 ∧ (va_up g 0 b0_) = g1 ∧ ((-2147483648) ≤ z ∧ z ≤ 2147483647)) := by
  refine GM.of (by decide) (Nat.le_of_ble_eq_true rfl) ?_
  intro p e s m args below meth c Q ls hQ C hml hr hlocks hP hl
  have hx := C.1
  have hb := C.2.1
  have hok := hP.2
  have hS : va_S A s.heap s.heap [] := va_S.rf
  have hl : lv_has ls 5 [(0, .ref (ad 2)), (1, .ref (ad 53))] := hl
  have hP : gWd D (rwT k ad) v f (va_up g 0 (g 0)) s.heap := by rw [va_id]; exact hP
  have r_1 : 0 ≤ (v 2) ∧ (v 2) ≤ 40 := hok.1 2
  refine lv_iconst (v := iI 0) hx hb dX4_pointsFor_0 rfl ?_
  refine lv_istore_n (lv' := [(2, .int (iI 0)), (0, .ref (ad 2)), (1, .ref (ad 53))]) hx hb dX4_pointsFor_1 rfl hl (by decide) rfl (fun ls hl => ?_)
  refine lv_iconst (v := iI 0) hx hb dX4_pointsFor_2 rfl ?_
  refine lv_istore_n (lv' := [(3, .int (iI 0)), (2, .int (iI 0)), (0, .ref (ad 2)), (1, .ref (ad 53))]) hx hb dX4_pointsFor_3 rfl hl (by decide) rfl (fun ls hl => ?_)
  have L_2 : ∀ (n : Nat) (x2 : Int) (x3 : Int) (d0_2 : Int → Int) (H : Heap) (locs : List Loc) (ls : Array Slot), 40 - x3 < (n : Int) → (0 ≤ x3 ∧ x3 ≤ (v 2)) → (0 ≤ x2 ∧ x2 ≤ 40) → gWd D (rwT k ad) v f (va_up g 0 d0_2) H → va_S A s.heap H locs → lv_has ls 5 [(0, .ref (ad 2)), (1, .ref (ad 53)), (2, .int (iI x2)), (3, .int (iI x3))] → W p l e (gRm 2 61) s m args below meth c H locs 0 0 Q (F0 m 4 ls []) := by
    intro n
    induction n with
    | zero =>
      intro x2 x3 d0_2 H locs ls hn_2 i2_0 i2_1 hP hS hl
      exfalso; omega
    | succ n ih_4 =>
      intro x2 x3 d0_2 H locs ls hn_2 i2_0 i2_1 hP hS hl
      refine lv_iload_n hx hb dX4_pointsFor_4 rfl (lv_at hl 3 rfl) ?_
      refine lv_aload_n hx hb dX4_pointsFor_5 rfl (lv_at hl 0 rfl) ?_
      refine rwG_laws_items C hP mF_X4_35 dX4_pointsFor_6 ?_
      refine gi_cge (tgt := 142) hx hb dX4_pointsFor_9 (by decide) (by omega) (by omega) (fun c_3 => ?_) (fun c_3 => ?_)
      · refine lv_iload_n hx hb dX4_pointsFor_142 rfl (lv_at hl 2 rfl) ?_
        refine gi_zle (tgt := 156) hx hb dX4_pointsFor_143 (by decide) (by omega) (fun c_4 => ?_) (fun c_4 => ?_)
        · refine lv_iconst (v := iI 0) hx hb dX4_pointsFor_156 rfl ?_
          exact g_iret hQ C hr hlocks hP hS dX4_pointsFor_157 ⟨0, d0_2, rfl, rfl, rfl, rfl, (by first | omega | (split <;> omega))⟩
        · refine lv_aload_n hx hb dX4_pointsFor_146 rfl (lv_at hl 0 rfl) ?_
          refine rwG_laws_stack C hP mF_X4_27 dX4_pointsFor_147 ?_
          refine lv_iconst (v := iI 0) hx hb dX4_pointsFor_150 rfl ?_
          refine rwL_laws_stack C hP (by decide) (by decide) dX4_pointsFor_151 ?_
          show W p l e (gRm 2 61) s m args below meth c _ _ 0 0 Q (F0 m 152 ls [.long (iL (d0_2 0))])
          refine gl_l2i hx hb dX4_pointsFor_152 (fun x_5 ex_5 hx_5 => ?_)
          refine lv_goto (tgt := 157) hx hb dX4_pointsFor_153 (by decide) ?_
          exact g_iret hQ C hr hlocks hP hS dX4_pointsFor_157 ⟨x_5, d0_2, rfl, rfl, rfl, rfl, (by first | omega | (split <;> omega))⟩
      · refine lv_aload_n hx hb dX4_pointsFor_12 rfl (lv_at hl 0 rfl) ?_
        refine rwG_laws_item C hP mF_X4_15 dX4_pointsFor_13 ?_
        refine lv_iload_n hx hb dX4_pointsFor_16 rfl (lv_at hl 3 rfl) ?_
        refine rwL_laws_item C hP (by omega) (by omega) dX4_pointsFor_17 ?_
        have r_6 : 0 ≤ (f 2 x3) ∧ (f 2 x3) ≤ 10 := hP.2.2 2 x3
        refine lv_istore (lv' := [(4, .int (iI (f 2 x3))), (0, .ref (ad 2)), (1, .ref (ad 53)), (2, .int (iI x2)), (3, .int (iI x3))]) hx hb dX4_pointsFor_18 hl (by decide) rfl (fun ls hl => ?_)
        refine lv_iload hx hb dX4_pointsFor_20 (lv_at hl 0 rfl) ?_
        refine lv_bipush (v := iI 6) hx hb dX4_pointsFor_22 (by decide) ?_
        refine gi_cgt (tgt := 67) hx hb dX4_pointsFor_24 (by decide) (by omega) (by decide) (fun c_7 => ?_) (fun c_7 => ?_)
        · refine lv_iload hx hb dX4_pointsFor_67 (lv_at hl 0 rfl) ?_
          refine lv_bipush (v := iI 10) hx hb dX4_pointsFor_69 (by decide) ?_
          refine gi_cne (tgt := 98) hx hb dX4_pointsFor_71 (by decide) (by omega) (by decide) (fun c_8 => ?_) (fun c_8 => ?_)
          · refine lv_iload_n hx hb dX4_pointsFor_98 rfl (lv_at hl 3 rfl) ?_
            refine lv_iconst (v := iI 1) hx hb dX4_pointsFor_99 rfl ?_
            refine gi_cle (tgt := 136) hx hb dX4_pointsFor_100 (by decide) (by omega) (by decide) (fun c_9 => ?_) (fun c_9 => ?_)
            · refine lv_iinc (v := iI (x3 + 1)) (lv' := [(3, .int (iI (x3 + 1))), (4, .int (iI (f 2 x3))), (0, .ref (ad 2)), (1, .ref (ad 53)), (2, .int (iI x2))]) hx hb dX4_pointsFor_136 hl (k := 4) rfl (by show iI _ + iI 1 = _; rw [iI_add]) (by decide) rfl (fun ls hl => ?_)
              refine lv_goto (tgt := 4) hx hb dX4_pointsFor_139 (by decide) ?_
              exact ih_4 x2 (x3 + 1) d0_2 _ _ _ (by omega) (by omega) (by omega) hP hS (lv_sub hl [2, 3, 4, 0] rfl)
            · refine lv_iinc (v := iI (x2 + (-1))) (lv' := [(2, .int (iI (x2 + (-1)))), (4, .int (iI (f 2 x3))), (0, .ref (ad 2)), (1, .ref (ad 53)), (3, .int (iI x3))]) hx hb dX4_pointsFor_103 hl (k := 3) rfl (by show iI _ + iI (-1) = _; rw [iI_add]) (by decide) rfl (fun ls hl => ?_)
              refine lv_aload_n hx hb dX4_pointsFor_106 rfl (lv_at hl 2 rfl) ?_
              refine rwG_laws_stack C hP mF_X4_27 dX4_pointsFor_107 ?_
              refine lv_iload_n hx hb dX4_pointsFor_110 rfl (lv_at hl 0 rfl) ?_
              refine lv_iconst (v := iI 1) hx hb dX4_pointsFor_111 rfl ?_
              refine gi_sub (z := ((x2 + (-1)) - 1)) hx hb dX4_pointsFor_112 rfl ?_
              refine lv_iload hx hb dX4_pointsFor_113 (lv_at hl 1 rfl) ?_
              refine lv_aload_n hx hb dX4_pointsFor_115 rfl (lv_at hl 2 rfl) ?_
              refine rwG_laws_stack C hP mF_X4_27 dX4_pointsFor_116 ?_
              refine lv_iload_n hx hb dX4_pointsFor_119 rfl (lv_at hl 0 rfl) ?_
              refine lv_iconst (v := iI 1) hx hb dX4_pointsFor_120 rfl ?_
              refine gi_sub (z := ((x2 + (-1)) - 1)) hx hb dX4_pointsFor_121 rfl ?_
              refine rwL_laws_stack C hP (by omega) (by omega) dX4_pointsFor_122 ?_
              show W p l e (gRm 2 61) s m args below meth c _ _ 0 0 Q (F0 m 123 ls [.long (iL (d0_2 ((x2 + (-1)) - 1))), .int (iI (f 2 x3)), .int (iI ((x2 + (-1)) - 1)), .ref (ad 8)])
              refine lv_aload_n hx hb dX4_pointsFor_123 rfl (lv_at hl 2 rfl) ?_
              refine rwG_laws_stack C hP mF_X4_27 dX4_pointsFor_124 ?_
              refine lv_iload_n hx hb dX4_pointsFor_127 rfl (lv_at hl 0 rfl) ?_
              refine rwL_laws_stack C hP (by omega) (by omega) dX4_pointsFor_128 ?_
              show W p l e (gRm 2 61) s m args below meth c _ _ 0 0 Q (F0 m 129 ls [.long (iL (d0_2 (x2 + (-1)))), .long (iL (d0_2 ((x2 + (-1)) - 1))), .int (iI (f 2 x3)), .int (iI ((x2 + (-1)) - 1)), .ref (ad 8)])
              refine g_cs (As := [.int (iI (f 2 x3)), .long (iL (d0_2 ((x2 + (-1)) - 1))), .long (iL (d0_2 (x2 + (-1))))]) (rest := [.int (iI ((x2 + (-1)) - 1)), .ref (ad 8)]) (n := 3) C hml (c_X4_worked l D k A ad hD v f (va_up g 0 d0_2) (f 2 x3) (d0_2 ((x2 + (-1)) - 1)) (d0_2 (x2 + (-1))) (by omega)) mM_X4_63 mS_X4_worked mN_X4 mC_X4_worked (by decide +kernel) hP hS (fun _ h => h) ⟨Nat.le_of_ble_eq_true rfl, Nat.le_of_ble_eq_true rfl⟩ ⟨Nat.zero_le _, Nat.zero_le _⟩ hl.1 rfl rfl (Nat.le_of_ble_eq_true rfl) dX4_pointsFor_129 (fun r_10 v_10 f_10 g_10 H locs hq_10 hP _ hS => ?_)
              obtain ⟨z_10, rfl, rfl, rfl, rfl⟩ := hq_10
              show W p l e (gRm 2 61) s m args below meth c _ _ 0 0 Q (F0 m 132 ls [.long (iL z_10), .int (iI ((x2 + (-1)) - 1)), .ref (ad 8)])
              refine g_cs (As := [.long (iL z_10)]) (rest := [.int (iI ((x2 + (-1)) - 1)), .ref (ad 8)]) (n := 1) C hml (c_X4_bounded l D k A ad hD v f (va_up g 0 d0_2) z_10) mM_X4_67 mS_X4_bounded mN_X4 mC_X4_bounded (by decide +kernel) hP hS (fun _ h => h) ⟨Nat.le_of_ble_eq_true rfl, Nat.le_of_ble_eq_true rfl⟩ ⟨Nat.zero_le _, Nat.zero_le _⟩ hl.1 rfl rfl (Nat.le_of_ble_eq_true rfl) dX4_pointsFor_132 (fun r_11 v_11 f_11 g_11 H locs hq_11 hP _ hS => ?_)
              obtain ⟨z_11, rfl, rfl, rfl, rfl⟩ := hq_11
              show W p l e (gRm 2 61) s m args below meth c _ _ 0 0 Q (F0 m 135 ls [.long (iL z_11), .int (iI ((x2 + (-1)) - 1)), .ref (ad 8)])
              refine rwS_laws_stack (g1 := (va_up g 0 (u1 d0_2 ((x2 + (-1)) - 1) z_11))) C hP hD hS (by omega) (by omega) rfl dX4_pointsFor_135 (fun H locs hP hS => ?_)
              refine lv_iinc (v := iI (x3 + 1)) (lv' := [(3, .int (iI (x3 + 1))), (2, .int (iI (x2 + (-1)))), (4, .int (iI (f 2 x3))), (0, .ref (ad 2)), (1, .ref (ad 53))]) hx hb dX4_pointsFor_136 hl (k := 4) rfl (by show iI _ + iI 1 = _; rw [iI_add]) (by decide) rfl (fun ls hl => ?_)
              refine lv_goto (tgt := 4) hx hb dX4_pointsFor_139 (by decide) ?_
              exact ih_4 (x2 + (-1)) (x3 + 1) (u1 d0_2 ((x2 + (-1)) - 1) z_11) _ _ _ (by omega) (by omega) (by omega) hP hS (lv_sub hl [3, 4, 1, 0] rfl)
          · refine lv_iload_n hx hb dX4_pointsFor_74 rfl (lv_at hl 3 rfl) ?_
            refine gi_zle (tgt := 136) hx hb dX4_pointsFor_75 (by decide) (by omega) (fun c_12 => ?_) (fun c_12 => ?_)
            · refine lv_iinc (v := iI (x3 + 1)) (lv' := [(3, .int (iI (x3 + 1))), (4, .int (iI (f 2 x3))), (0, .ref (ad 2)), (1, .ref (ad 53)), (2, .int (iI x2))]) hx hb dX4_pointsFor_136 hl (k := 4) rfl (by show iI _ + iI 1 = _; rw [iI_add]) (by decide) rfl (fun ls hl => ?_)
              refine lv_goto (tgt := 4) hx hb dX4_pointsFor_139 (by decide) ?_
              exact ih_4 x2 (x3 + 1) d0_2 _ _ _ (by omega) (by omega) (by omega) hP hS (lv_sub hl [2, 3, 4, 0] rfl)
            · refine lv_aload_n hx hb dX4_pointsFor_78 rfl (lv_at hl 1 rfl) ?_
              refine rwG_laws_stack C hP mF_X4_27 dX4_pointsFor_79 ?_
              refine lv_iload_n hx hb dX4_pointsFor_82 rfl (lv_at hl 3 rfl) ?_
              refine lv_iconst (v := iI 1) hx hb dX4_pointsFor_83 rfl ?_
              refine gi_sub (z := (x2 - 1)) hx hb dX4_pointsFor_84 rfl ?_
              refine lv_aload_n hx hb dX4_pointsFor_85 rfl (lv_at hl 1 rfl) ?_
              refine rwG_laws_stack C hP mF_X4_27 dX4_pointsFor_86 ?_
              refine lv_iload_n hx hb dX4_pointsFor_89 rfl (lv_at hl 3 rfl) ?_
              refine lv_iconst (v := iI 1) hx hb dX4_pointsFor_90 rfl ?_
              refine gi_sub (z := (x2 - 1)) hx hb dX4_pointsFor_91 rfl ?_
              refine rwL_laws_stack C hP (by omega) (by omega) dX4_pointsFor_92 ?_
              show W p l e (gRm 2 61) s m args below meth c _ _ 0 0 Q (F0 m 93 ls [.long (iL (d0_2 (x2 - 1))), .int (iI (x2 - 1)), .ref (ad 8)])
              refine gl_neg (z := (-(d0_2 (x2 - 1)))) hx hb dX4_pointsFor_93 rfl ?_
              refine rwS_laws_stack (g1 := (va_up g 0 (u1 d0_2 (x2 - 1) (-(d0_2 (x2 - 1)))))) C hP hD hS (by omega) (by omega) rfl dX4_pointsFor_94 (fun H locs hP hS => ?_)
              refine lv_goto (tgt := 136) hx hb dX4_pointsFor_95 (by decide) ?_
              refine lv_iinc (v := iI (x3 + 1)) (lv' := [(3, .int (iI (x3 + 1))), (4, .int (iI (f 2 x3))), (0, .ref (ad 2)), (1, .ref (ad 53)), (2, .int (iI x2))]) hx hb dX4_pointsFor_136 hl (k := 4) rfl (by show iI _ + iI 1 = _; rw [iI_add]) (by decide) rfl (fun ls hl => ?_)
              refine lv_goto (tgt := 4) hx hb dX4_pointsFor_139 (by decide) ?_
              exact ih_4 x2 (x3 + 1) (u1 d0_2 (x2 - 1) (-(d0_2 (x2 - 1)))) _ _ _ (by omega) (by omega) (by omega) hP hS (lv_sub hl [2, 3, 4, 0] rfl)
        · refine lv_iload_n hx hb dX4_pointsFor_27 rfl (lv_at hl 3 rfl) ?_
          refine lv_bipush (v := iI 40) hx hb dX4_pointsFor_28 (by decide) ?_
          refine gi_cge (tgt := 136) hx hb dX4_pointsFor_30 (by decide) (by omega) (by decide) (fun c_13 => ?_) (fun c_13 => ?_)
          · refine lv_iinc (v := iI (x3 + 1)) (lv' := [(3, .int (iI (x3 + 1))), (4, .int (iI (f 2 x3))), (0, .ref (ad 2)), (1, .ref (ad 53)), (2, .int (iI x2))]) hx hb dX4_pointsFor_136 hl (k := 4) rfl (by show iI _ + iI 1 = _; rw [iI_add]) (by decide) rfl (fun ls hl => ?_)
            refine lv_goto (tgt := 4) hx hb dX4_pointsFor_139 (by decide) ?_
            exact ih_4 x2 (x3 + 1) d0_2 _ _ _ (by omega) (by omega) (by omega) hP hS (lv_sub hl [2, 3, 4, 0] rfl)
          · refine lv_aload_n hx hb dX4_pointsFor_33 rfl (lv_at hl 1 rfl) ?_
            refine rwG_laws_stack C hP mF_X4_27 dX4_pointsFor_34 ?_
            refine lv_iload_n hx hb dX4_pointsFor_37 rfl (lv_at hl 3 rfl) ?_
            refine lv_iload hx hb dX4_pointsFor_38 (lv_at hl 0 rfl) ?_
            refine lv_bipush (v := iI 6) hx hb dX4_pointsFor_40 (by decide) ?_
            refine gi_cne (tgt := 55) hx hb dX4_pointsFor_42 (by decide) (by omega) (by decide) (fun c_14 => ?_) (fun c_14 => ?_)
            · refine lv_aload_n hx hb dX4_pointsFor_55 rfl (lv_at hl 2 rfl) ?_
              refine lv_iload hx hb dX4_pointsFor_56 (lv_at hl 0 rfl) ?_
              refine rwL_results_facts C hP (by omega) (by omega) dX4_pointsFor_58 ?_
              have r_15 : (-2000000) ≤ (f 39 (f 2 x3)) ∧ (f 39 (f 2 x3)) ≤ 2000000 := hP.2.2 39 (f 2 x3)
              refine gi_i2l hx hb (by omega) dX4_pointsFor_59 ?_
              refine rwS_laws_stack (g1 := (va_up g 0 (u1 d0_2 x2 (f 39 (f 2 x3))))) C hP hD hS (by omega) (by omega) rfl dX4_pointsFor_60 (fun H locs hP hS => ?_)
              refine lv_iinc (v := iI (x2 + 1)) (lv' := [(2, .int (iI (x2 + 1))), (4, .int (iI (f 2 x3))), (0, .ref (ad 2)), (1, .ref (ad 53)), (3, .int (iI x3))]) hx hb dX4_pointsFor_61 hl (k := 3) rfl (by show iI _ + iI 1 = _; rw [iI_add]) (by decide) rfl (fun ls hl => ?_)
              refine lv_goto (tgt := 136) hx hb dX4_pointsFor_64 (by decide) ?_
              refine lv_iinc (v := iI (x3 + 1)) (lv' := [(3, .int (iI (x3 + 1))), (2, .int (iI (x2 + 1))), (4, .int (iI (f 2 x3))), (0, .ref (ad 2)), (1, .ref (ad 53))]) hx hb dX4_pointsFor_136 hl (k := 4) rfl (by show iI _ + iI 1 = _; rw [iI_add]) (by decide) rfl (fun ls hl => ?_)
              refine lv_goto (tgt := 4) hx hb dX4_pointsFor_139 (by decide) ?_
              exact ih_4 (x2 + 1) (x3 + 1) (u1 d0_2 x2 (f 39 (f 2 x3))) _ _ _ (by omega) (by omega) (by omega) hP hS (lv_sub hl [3, 4, 1, 0] rfl)
            · refine lv_aload_n hx hb dX4_pointsFor_45 rfl (lv_at hl 1 rfl) ?_
              refine rwG_laws_number C hP mF_X4_18 dX4_pointsFor_46 ?_
              refine lv_iload_n hx hb dX4_pointsFor_49 rfl (lv_at hl 4 rfl) ?_
              refine rwL_laws_number C hP (by omega) (by omega) dX4_pointsFor_50 ?_
              have r_16 : 0 ≤ (f 3 x3) ∧ (f 3 x3) ≤ 999999 := hP.2.2 3 x3
              refine gi_i2l hx hb (by omega) dX4_pointsFor_51 ?_
              refine lv_goto (tgt := 60) hx hb dX4_pointsFor_52 (by decide) ?_
              refine rwS_laws_stack (g1 := (va_up g 0 (u1 d0_2 x2 (f 3 x3)))) C hP hD hS (by omega) (by omega) rfl dX4_pointsFor_60 (fun H locs hP hS => ?_)
              refine lv_iinc (v := iI (x2 + 1)) (lv' := [(2, .int (iI (x2 + 1))), (4, .int (iI (f 2 x3))), (0, .ref (ad 2)), (1, .ref (ad 53)), (3, .int (iI x3))]) hx hb dX4_pointsFor_61 hl (k := 3) rfl (by show iI _ + iI 1 = _; rw [iI_add]) (by decide) rfl (fun ls hl => ?_)
              refine lv_goto (tgt := 136) hx hb dX4_pointsFor_64 (by decide) ?_
              refine lv_iinc (v := iI (x3 + 1)) (lv' := [(3, .int (iI (x3 + 1))), (2, .int (iI (x2 + 1))), (4, .int (iI (f 2 x3))), (0, .ref (ad 2)), (1, .ref (ad 53))]) hx hb dX4_pointsFor_136 hl (k := 4) rfl (by show iI _ + iI 1 = _; rw [iI_add]) (by decide) rfl (fun ls hl => ?_)
              refine lv_goto (tgt := 4) hx hb dX4_pointsFor_139 (by decide) ?_
              exact ih_4 (x2 + 1) (x3 + 1) (u1 d0_2 x2 (f 3 x3)) _ _ _ (by omega) (by omega) (by omega) hP hS (lv_sub hl [3, 4, 1, 0] rfl)
  exact L_2 41 0 0 (g 0) _ _ _ (by omega) (by omega) (by omega) hP hS (lv_sub hl [2, 3, 1, 0] rfl)

set_option maxHeartbeats 4000000 in
set_option maxRecDepth 100000 in
theorem c_X5_hearAppeals (l : Launch) (D : va_G) (k : Nat → ClassId) (A : Nat → Prop) (ad : Nat → Nat) (hD : rwD A k ad) (v : gV) (f g : gF) (a1 : Int) (h_a1 : inR a1) : GM l D k A (rwT k ad) yX5_hearAppeals cX5_hearAppeals 4 none 0 0 [.ref (ad 47), .int (iI a1)] v f g (fun r v1 f1 g1 => ∃ (a34_ : Int → Int) (a35_ : Int → Int), r = none ∧ v = v1 ∧ (va_up (va_up f 34 a34_) 35 a35_) = f1 ∧ g = g1) := by
  refine GM.of (by decide) (Nat.le_of_ble_eq_true rfl) ?_
  intro p e s m args below meth c Q ls hQ C hml hr hlocks hP hl
  have hx := C.1
  have hb := C.2.1
  have hok := hP.2
  have hS : va_S A s.heap s.heap [] := va_S.rf
  have hl : lv_has ls 4 [(0, .ref (ad 47)), (1, .int (iI a1))] := hl
  have hP : gWd D (rwT k ad) v (va_up (va_up f 34 (f 34)) 35 (f 35)) g s.heap := by rw [va_id, va_id]; exact hP
  have r_1 : 0 ≤ (v 23) ∧ (v 23) ≤ 300 := hok.1 23
  have r_2 : 0 ≤ (v 24) ∧ (v 24) ≤ 40 := hok.1 24
  refine lv_iconst (v := iI 0) hx hb dX5_hearAppeals_0 rfl ?_
  refine lv_istore_n (lv' := [(2, .int (iI 0)), (0, .ref (ad 47)), (1, .int (iI a1))]) hx hb dX5_hearAppeals_1 rfl hl (by decide) rfl (fun ls hl => ?_)
  have L_3 : ∀ (n : Nat) (x2 : Int) (c34_3 : Int → Int) (c35_3 : Int → Int) (H : Heap) (locs : List Loc) (ls : Array Slot), 300 - x2 < (n : Int) → (0 ≤ x2 ∧ x2 ≤ (v 23)) → gWd D (rwT k ad) v (va_up (va_up f 34 c34_3) 35 c35_3) g H → va_S A s.heap H locs → lv_has ls 4 [(0, .ref (ad 47)), (1, .int (iI a1)), (2, .int (iI x2))] → W p l e (gRm 0 0) s m args below meth c H locs 0 0 Q (F0 m 2 ls []) := by
    intro n
    induction n with
    | zero =>
      intro x2 c34_3 c35_3 H locs ls hn_3 i3_0 hP hS hl
      exfalso; omega
    | succ n ih_2 =>
      intro x2 c34_3 c35_3 H locs ls hn_3 i3_0 hP hS hl
      refine lv_iload_n hx hb dX5_hearAppeals_2 rfl (lv_at hl 2 rfl) ?_
      refine lv_aload_n hx hb dX5_hearAppeals_3 rfl (lv_at hl 0 rfl) ?_
      refine rwG_results_tries C hP mF_X5_55 dX5_hearAppeals_4 ?_
      refine rwG_tries_many C hP mF_X5_73 dX5_hearAppeals_7 ?_
      refine gi_cge (tgt := 41) hx hb dX5_hearAppeals_10 (by decide) (by omega) (by omega) (fun c_4 => ?_) (fun c_4 => ?_)
      · refine lv_iconst (v := iI 0) hx hb dX5_hearAppeals_41 rfl ?_
        refine lv_istore_n (lv' := [(2, .int (iI 0)), (0, .ref (ad 47)), (1, .int (iI a1))]) hx hb dX5_hearAppeals_42 rfl hl (by decide) rfl (fun ls hl => ?_)
        have L_5 : ∀ (n : Nat) (x2 : Int) (c34_5 : Int → Int) (c35_5 : Int → Int) (H : Heap) (locs : List Loc) (ls : Array Slot), 40 - x2 < (n : Int) → (0 ≤ x2 ∧ x2 ≤ (v 24)) → gWd D (rwT k ad) v (va_up (va_up f 34 c34_5) 35 c35_5) g H → va_S A s.heap H locs → lv_has ls 4 [(0, .ref (ad 47)), (1, .int (iI a1)), (2, .int (iI x2))] → W p l e (gRm 0 0) s m args below meth c H locs 0 0 Q (F0 m 43 ls []) := by
          intro n
          induction n with
          | zero =>
            intro x2 c34_5 c35_5 H locs ls hn_5 i5_0 hP hS hl
            exfalso; omega
          | succ n ih_43 =>
            intro x2 c34_5 c35_5 H locs ls hn_5 i5_0 hP hS hl
            refine lv_iload_n hx hb dX5_hearAppeals_43 rfl (lv_at hl 2 rfl) ?_
            refine lv_aload_n hx hb dX5_hearAppeals_44 rfl (lv_at hl 0 rfl) ?_
            refine rwG_results_appeals C hP mF_X5_59 dX5_hearAppeals_45 ?_
            refine rwG_appeals_many C hP mF_X5_98 dX5_hearAppeals_48 ?_
            refine gi_cge (tgt := 131) hx hb dX5_hearAppeals_51 (by decide) (by omega) (by omega) (fun c_6 => ?_) (fun c_6 => ?_)
            · exact g_vret hQ C hr hlocks hP hS dX5_hearAppeals_131 ⟨c34_5, c35_5, rfl, rfl, rfl, rfl⟩
            · refine lv_aload_n hx hb dX5_hearAppeals_54 rfl (lv_at hl 0 rfl) ?_
              refine rwG_results_appeals C hP mF_X5_59 dX5_hearAppeals_55 ?_
              refine rwG_appeals_number C hP mF_X5_101 dX5_hearAppeals_58 ?_
              refine lv_iload_n hx hb dX5_hearAppeals_61 rfl (lv_at hl 2 rfl) ?_
              refine rwL_appeals_number C hP (by omega) (by omega) dX5_hearAppeals_62 ?_
              show W p l e (gRm 0 0) s m args below meth c _ _ 0 0 Q (F0 m 63 ls [.int (iI (f 28 x2))])
              have r_7 : 0 ≤ (f 28 x2) ∧ (f 28 x2) ≤ 299 := hP.2.2 28 x2
              refine lv_istore_n (lv' := [(3, .int (iI (f 28 x2))), (0, .ref (ad 47)), (1, .int (iI a1)), (2, .int (iI x2))]) hx hb dX5_hearAppeals_63 rfl hl (by decide) rfl (fun ls hl => ?_)
              refine lv_aload_n hx hb dX5_hearAppeals_64 rfl (lv_at hl 1 rfl) ?_
              refine rwG_results_appeals C hP mF_X5_59 dX5_hearAppeals_65 ?_
              refine rwG_appeals_day C hP mF_X5_104 dX5_hearAppeals_68 ?_
              refine lv_iload_n hx hb dX5_hearAppeals_71 rfl (lv_at hl 3 rfl) ?_
              refine rwL_appeals_day C hP (by omega) (by omega) dX5_hearAppeals_72 ?_
              show W p l e (gRm 0 0) s m args below meth c _ _ 0 0 Q (F0 m 73 ls [.int (iI (f 30 x2))])
              have r_8 : 0 ≤ (f 30 x2) ∧ (f 30 x2) ≤ 999 := hP.2.2 30 x2
              refine lv_iload_n hx hb dX5_hearAppeals_73 rfl (lv_at hl 2 rfl) ?_
              refine gi_cgt (tgt := 125) hx hb dX5_hearAppeals_74 (by decide) (by omega) (by omega) (fun c_9 => ?_) (fun c_9 => ?_)
              · refine lv_iinc (v := iI (x2 + 1)) (lv' := [(2, .int (iI (x2 + 1))), (3, .int (iI (f 28 x2))), (0, .ref (ad 47)), (1, .int (iI a1))]) hx hb dX5_hearAppeals_125 hl (k := 3) rfl (by show iI _ + iI 1 = _; rw [iI_add]) (by decide) rfl (fun ls hl => ?_)
                refine lv_goto (tgt := 43) hx hb dX5_hearAppeals_128 (by decide) ?_
                exact ih_43 (x2 + 1) c34_5 c35_5 _ _ _ (by omega) (by omega) hP hS (lv_sub hl [2, 3, 0] rfl)
              · refine lv_aload_n hx hb dX5_hearAppeals_77 rfl (lv_at hl 1 rfl) ?_
                refine rwG_results_appeals C hP mF_X5_59 dX5_hearAppeals_78 ?_
                refine rwG_appeals_day C hP mF_X5_104 dX5_hearAppeals_81 ?_
                refine lv_iload_n hx hb dX5_hearAppeals_84 rfl (lv_at hl 3 rfl) ?_
                refine rwL_appeals_day C hP (by omega) (by omega) dX5_hearAppeals_85 ?_
                show W p l e (gRm 0 0) s m args below meth c _ _ 0 0 Q (F0 m 86 ls [.int (iI (f 30 x2))])
                refine lv_aload_n hx hb dX5_hearAppeals_86 rfl (lv_at hl 1 rfl) ?_
                refine rwG_results_knownDay C hP mF_X5_15 dX5_hearAppeals_87 ?_
                refine lv_iload_n hx hb dX5_hearAppeals_90 rfl (lv_at hl 0 rfl) ?_
                refine rwL_results_knownDay C hP (by omega) (by omega) dX5_hearAppeals_91 ?_
                show W p l e (gRm 0 0) s m args below meth c _ _ 0 0 Q (F0 m 92 ls [.int (iI (c35_5 (f 28 x2))), .int (iI (f 30 x2))])
                have r_10 : (-1) ≤ (c35_5 (f 28 x2)) ∧ (c35_5 (f 28 x2)) ≤ 999 := hP.2.2 35 (f 28 x2)
                refine gi_clt (tgt := 125) hx hb dX5_hearAppeals_92 (by decide) (by omega) (by omega) (fun c_11 => ?_) (fun c_11 => ?_)
                · refine lv_iinc (v := iI (x2 + 1)) (lv' := [(2, .int (iI (x2 + 1))), (3, .int (iI (f 28 x2))), (0, .ref (ad 47)), (1, .int (iI a1))]) hx hb dX5_hearAppeals_125 hl (k := 3) rfl (by show iI _ + iI 1 = _; rw [iI_add]) (by decide) rfl (fun ls hl => ?_)
                  refine lv_goto (tgt := 43) hx hb dX5_hearAppeals_128 (by decide) ?_
                  exact ih_43 (x2 + 1) c34_5 c35_5 _ _ _ (by omega) (by omega) hP hS (lv_sub hl [2, 3, 0] rfl)
                · refine lv_aload_n hx hb dX5_hearAppeals_95 rfl (lv_at hl 1 rfl) ?_
                  refine rwG_results_known C hP mF_X5_9 dX5_hearAppeals_96 ?_
                  refine lv_iload_n hx hb dX5_hearAppeals_99 rfl (lv_at hl 0 rfl) ?_
                  refine lv_aload_n hx hb dX5_hearAppeals_100 rfl (lv_at hl 1 rfl) ?_
                  refine rwG_results_appeals C hP mF_X5_59 dX5_hearAppeals_101 ?_
                  refine rwG_appeals_hold C hP mF_X5_107 dX5_hearAppeals_104 ?_
                  refine lv_iload_n hx hb dX5_hearAppeals_107 rfl (lv_at hl 3 rfl) ?_
                  refine rwL_appeals_hold C hP (by omega) (by omega) dX5_hearAppeals_108 ?_
                  show W p l e (gRm 0 0) s m args below meth c _ _ 0 0 Q (F0 m 109 ls [.int (iI (f 29 x2)), .int (iI (f 28 x2)), .ref (ad 48)])
                  have r_12 : 0 ≤ (f 29 x2) ∧ (f 29 x2) ≤ 60 := hP.2.2 29 x2
                  refine rwS_results_known (f1 := (va_up (va_up f 34 (u1 c34_5 (f 28 x2) (f 29 x2))) 35 c35_5)) C hP hD hS (by omega) (by omega) (by omega) rfl (Or.inr (gF_up (V := rwV) (F := rwF) (gF_up (V := rwV) (F := rwF) ⟨hok.1, hok.2⟩ 34 (u1_rng (hP.2.2 34) (show 0 ≤ (f 29 x2) ∧ (f 29 x2) ≤ 60 from (by omega)))) 35 (hP.2.2 35))) dX5_hearAppeals_109 (fun H locs hP hS => ?_)
                  refine lv_aload_n hx hb dX5_hearAppeals_110 rfl (lv_at hl 1 rfl) ?_
                  refine rwG_results_knownDay C hP mF_X5_15 dX5_hearAppeals_111 ?_
                  refine lv_iload_n hx hb dX5_hearAppeals_114 rfl (lv_at hl 0 rfl) ?_
                  refine lv_aload_n hx hb dX5_hearAppeals_115 rfl (lv_at hl 1 rfl) ?_
                  refine rwG_results_appeals C hP mF_X5_59 dX5_hearAppeals_116 ?_
                  refine rwG_appeals_day C hP mF_X5_104 dX5_hearAppeals_119 ?_
                  refine lv_iload_n hx hb dX5_hearAppeals_122 rfl (lv_at hl 3 rfl) ?_
                  refine rwL_appeals_day C hP (by omega) (by omega) dX5_hearAppeals_123 ?_
                  show W p l e (gRm 0 0) s m args below meth c _ _ 0 0 Q (F0 m 124 ls [.int (iI (f 30 x2)), .int (iI (f 28 x2)), .ref (ad 49)])
                  refine rwS_results_knownDay (f1 := (va_up (va_up f 34 (u1 c34_5 (f 28 x2) (f 29 x2))) 35 (u1 c35_5 (f 28 x2) (f 30 x2)))) C hP hD hS (by omega) (by omega) (by omega) rfl (Or.inr (gF_up (V := rwV) (F := rwF) (gF_up (V := rwV) (F := rwF) ⟨hok.1, hok.2⟩ 34 (hP.2.2 34)) 35 (u1_rng (hP.2.2 35) (show (-1) ≤ (f 30 x2) ∧ (f 30 x2) ≤ 999 from (by omega))))) dX5_hearAppeals_124 (fun H locs hP hS => ?_)
                  refine lv_iinc (v := iI (x2 + 1)) (lv' := [(2, .int (iI (x2 + 1))), (3, .int (iI (f 28 x2))), (0, .ref (ad 47)), (1, .int (iI a1))]) hx hb dX5_hearAppeals_125 hl (k := 3) rfl (by show iI _ + iI 1 = _; rw [iI_add]) (by decide) rfl (fun ls hl => ?_)
                  refine lv_goto (tgt := 43) hx hb dX5_hearAppeals_128 (by decide) ?_
                  exact ih_43 (x2 + 1) (u1 c34_5 (f 28 x2) (f 29 x2)) (u1 c35_5 (f 28 x2) (f 30 x2)) _ _ _ (by omega) (by omega) hP hS (lv_sub hl [2, 3, 0] rfl)
        exact L_5 41 0 c34_3 c35_3 _ _ _ (by omega) (by omega) hP hS (lv_sub hl [1, 2, 0] rfl)
      · refine lv_aload_n hx hb dX5_hearAppeals_13 rfl (lv_at hl 0 rfl) ?_
        refine rwG_results_known C hP mF_X5_9 dX5_hearAppeals_14 ?_
        refine lv_iload_n hx hb dX5_hearAppeals_17 rfl (lv_at hl 2 rfl) ?_
        refine lv_aload_n hx hb dX5_hearAppeals_18 rfl (lv_at hl 0 rfl) ?_
        refine rwG_results_tries C hP mF_X5_55 dX5_hearAppeals_19 ?_
        refine rwG_tries_hold C hP mF_X5_95 dX5_hearAppeals_22 ?_
        refine lv_iload_n hx hb dX5_hearAppeals_25 rfl (lv_at hl 2 rfl) ?_
        refine rwL_tries_hold C hP (by omega) (by omega) dX5_hearAppeals_26 ?_
        show W p l e (gRm 0 0) s m args below meth c _ _ 0 0 Q (F0 m 27 ls [.int (iI (f 25 x2)), .int (iI x2), .ref (ad 48)])
        have r_13 : 0 ≤ (f 25 x2) ∧ (f 25 x2) ≤ 60 := hP.2.2 25 x2
        refine rwS_results_known (f1 := (va_up (va_up f 34 (u1 c34_3 x2 (f 25 x2))) 35 c35_3)) C hP hD hS (by omega) (by omega) (by omega) rfl (Or.inr (gF_up (V := rwV) (F := rwF) (gF_up (V := rwV) (F := rwF) ⟨hok.1, hok.2⟩ 34 (u1_rng (hP.2.2 34) (show 0 ≤ (f 25 x2) ∧ (f 25 x2) ≤ 60 from (by omega)))) 35 (hP.2.2 35))) dX5_hearAppeals_27 (fun H locs hP hS => ?_)
        refine lv_aload_n hx hb dX5_hearAppeals_28 rfl (lv_at hl 0 rfl) ?_
        refine rwG_results_knownDay C hP mF_X5_15 dX5_hearAppeals_29 ?_
        refine lv_iload_n hx hb dX5_hearAppeals_32 rfl (lv_at hl 2 rfl) ?_
        refine lv_iconst (v := iI (-1)) hx hb dX5_hearAppeals_33 rfl ?_
        refine rwS_results_knownDay (f1 := (va_up (va_up f 34 (u1 c34_3 x2 (f 25 x2))) 35 (u1 c35_3 x2 (-1)))) C hP hD hS (by omega) (by omega) (by decide) rfl (Or.inr (gF_up (V := rwV) (F := rwF) (gF_up (V := rwV) (F := rwF) ⟨hok.1, hok.2⟩ 34 (hP.2.2 34)) 35 (u1_rng (hP.2.2 35) (show (-1) ≤ (-1) ∧ (-1) ≤ 999 from (by decide))))) dX5_hearAppeals_34 (fun H locs hP hS => ?_)
        refine lv_iinc (v := iI (x2 + 1)) (lv' := [(2, .int (iI (x2 + 1))), (0, .ref (ad 47)), (1, .int (iI a1))]) hx hb dX5_hearAppeals_35 hl (k := 2) rfl (by show iI _ + iI 1 = _; rw [iI_add]) (by decide) rfl (fun ls hl => ?_)
        refine lv_goto (tgt := 2) hx hb dX5_hearAppeals_38 (by decide) ?_
        exact ih_2 (x2 + 1) (u1 c34_3 x2 (f 25 x2)) (u1 c35_3 x2 (-1)) _ _ _ (by omega) (by omega) hP hS (lv_sub hl [1, 2, 0] rfl)
  exact L_3 301 0 (f 34) (f 35) _ _ _ (by omega) (by omega) hP hS (lv_sub hl [1, 2, 0] rfl)

set_option maxHeartbeats 4000000 in
set_option maxRecDepth 100000 in
theorem c_X5_survey (l : Launch) (D : va_G) (k : Nat → ClassId) (A : Nat → Prop) (ad : Nat → Nat) (hD : rwD A k ad) (v : gV) (f g : gF) (a1 : Int) (h_a1 : inR a1) : GM l D k A (rwT k ad) yX5_survey cX5_survey 4 none 1 23 [.ref (ad 47), .int (iI a1)] v f g (fun r v1 f1 g1 => ∃ (a34_ : Int → Int) (a35_ : Int → Int) (a36_ : Int → Int) (a37_ : Int → Int) (a38_ : Int → Int), r = none ∧ v = v1 ∧ (va_up (va_up (va_up (va_up (va_up f 34 a34_) 35 a35_) 36 a36_) 37 a37_) 38 a38_) = f1 ∧ g = g1) := by
  refine GM.of (by decide) (Nat.le_of_ble_eq_true rfl) ?_
  intro p e s m args below meth c Q ls hQ C hml hr hlocks hP hl
  have hx := C.1
  have hb := C.2.1
  have hok := hP.2
  have hS : va_S A s.heap s.heap [] := va_S.rf
  have hl : lv_has ls 4 [(0, .ref (ad 47)), (1, .int (iI a1))] := hl
  have hP : gWd D (rwT k ad) v (va_up (va_up (va_up (va_up (va_up f 34 (f 34)) 35 (f 35)) 36 (f 36)) 37 (f 37)) 38 (f 38)) g s.heap := by rw [va_id, va_id, va_id, va_id, va_id]; exact hP
  have r_1 : 0 ≤ (v 23) ∧ (v 23) ≤ 300 := hok.1 23
  refine lv_aload_n hx hb dX5_survey_0 rfl (lv_at hl 0 rfl) ?_
  refine lv_iload_n hx hb dX5_survey_1 rfl (lv_at hl 1 rfl) ?_
  refine g_cv (As := [.int (iI a1)]) (rest := []) (n := 1) C hml (c_X5_hearAppeals l D k A ad hD v (va_up (va_up (va_up (va_up (va_up f 34 (f 34)) 35 (f 35)) 36 (f 36)) 37 (f 37)) 38 (f 38)) g a1 (by omega)) mM_X5_63 mI_X5_hearAppeals mE_X5_hearAppeals mN_X5 mC_X5_hearAppeals (by decide +kernel) 47 (ci := 5) rfl rfl hP hS (fun _ h => h) ⟨Nat.le_of_ble_eq_true rfl, Nat.le_of_ble_eq_true rfl⟩ ⟨Nat.zero_le _, Nat.zero_le _⟩ hl.1 rfl rfl (Nat.le_of_ble_eq_true rfl) dX5_survey_2 (fun r_2 v_2 f_2 g_2 H locs hq_2 hP _ hS => ?_)
  obtain ⟨a34_2, a35_2, rfl, rfl, rfl, rfl⟩ := hq_2
  show W p l e (gRm 1 23) s m args below meth c _ _ 0 0 Q (F0 m 5 ls [])
  have hP : gWd D (rwT k ad) v (va_up (va_up (va_up (va_up (va_up f 34 a34_2) 35 a35_2) 36 (f 36)) 37 (f 37)) 38 (f 38)) g H := ⟨hP.1, (gF_up (V := rwV) (F := rwF) (gF_up (V := rwV) (F := rwF) (gF_up (V := rwV) (F := rwF) (gF_up (V := rwV) (F := rwF) (gF_up (V := rwV) (F := rwF) ⟨hok.1, hok.2⟩ 34 (hP.2.2 34)) 35 (hP.2.2 35)) 36 (hP.2.2 36)) 37 (hP.2.2 37)) 38 (hP.2.2 38))⟩
  refine lv_aload_n hx hb dX5_survey_5 rfl (lv_at hl 0 rfl) ?_
  refine rwG_results_counted C hP mF_X5_18 dX5_survey_6 ?_
  refine lv_iconst (v := iI 0) hx hb dX5_survey_9 rfl ?_
  refine g_cs (As := [.ref (ad 50), .int (iI 0)]) (rest := []) (n := 2) C hml (c_fillI l D k A (rwT k ad) (ad 50) 50 36 320 (fun _ _ _ => rfl) (fun _ _ _ _ => rfl) hD (by decide) v (va_up (va_up (va_up (va_up (va_up f 34 a34_2) 35 a35_2) 36 (f 36)) 37 (f 37)) 38 (f 38)) g 0 (by decide) (show 0 ≤ 0 ∧ 0 ≤ 300 from (by decide))) mM_X5_67 mS_J7_fill_53178 mN_J7 mC_J7_fill_53178 (by decide +kernel) hP hS (fun _ h => h) ⟨Nat.le_of_ble_eq_true rfl, Nat.le_of_ble_eq_true rfl⟩ ⟨Nat.zero_le _, Nat.zero_le _⟩ hl.1 rfl rfl (Nat.le_of_ble_eq_true rfl) dX5_survey_10 (fun r v1 f1 g1 H locs hq hP _ hS => ?_)
  obtain ⟨rfl, rfl, rfl, rfl⟩ := hq
  show W p l e (gRm 1 23) s m args below meth c _ _ 0 0 Q (F0 m 13 ls [])
  have hP : gWd D (rwT k ad) v (va_up (va_up (va_up (va_up (va_up f 34 a34_2) 35 a35_2) 36 (gfill (f 36) 320 0)) 37 (f 37)) 38 (f 38)) g H := ⟨hP.1, (gF_up (V := rwV) (F := rwF) (gF_up (V := rwV) (F := rwF) (gF_up (V := rwV) (F := rwF) (gF_up (V := rwV) (F := rwF) (gF_up (V := rwV) (F := rwF) ⟨hok.1, hok.2⟩ 34 (hP.2.2 34)) 35 (hP.2.2 35)) 36 (hP.2.2 36)) 37 (hP.2.2 37)) 38 (hP.2.2 38))⟩
  refine lv_iconst (v := iI 0) hx hb dX5_survey_13 rfl ?_
  refine lv_istore_n (lv' := [(2, .int (iI 0)), (0, .ref (ad 47)), (1, .int (iI a1))]) hx hb dX5_survey_14 rfl hl (by decide) rfl (fun ls hl => ?_)
  have L_3 : ∀ (n : Nat) (x2 : Int) (c36_3 : Int → Int) (c37_3 : Int → Int) (c38_3 : Int → Int) (H : Heap) (locs : List Loc) (ls : Array Slot), 300 - x2 < (n : Int) → (0 ≤ x2 ∧ x2 ≤ (v 23)) → (∀ k, 0 ≤ k → k < 320 → c36_3 k ≤ x2) → gWd D (rwT k ad) v (va_up (va_up (va_up (va_up (va_up f 34 a34_2) 35 a35_2) 36 c36_3) 37 c37_3) 38 c38_3) g H → va_S A s.heap H locs → lv_has ls 4 [(0, .ref (ad 47)), (1, .int (iI a1)), (2, .int (iI x2))] → W p l e (gRm 1 23) s m args below meth c H locs 0 0 Q (F0 m 15 ls []) := by
    intro n
    induction n with
    | zero =>
      intro x2 c36_3 c37_3 c38_3 H locs ls hn_3 i3_0 i3_1 hP hS hl
      exfalso; omega
    | succ n ih_15 =>
      intro x2 c36_3 c37_3 c38_3 H locs ls hn_3 i3_0 i3_1 hP hS hl
      have hcnt := i3_1
      refine lv_iload_n hx hb dX5_survey_15 rfl (lv_at hl 2 rfl) ?_
      refine lv_aload_n hx hb dX5_survey_16 rfl (lv_at hl 0 rfl) ?_
      refine rwG_results_tries C hP mF_X5_55 dX5_survey_17 ?_
      refine rwG_tries_many C hP mF_X5_73 dX5_survey_20 ?_
      refine gi_cge (tgt := 135) hx hb dX5_survey_23 (by decide) (by omega) (by omega) (fun c_4 => ?_) (fun c_4 => ?_)
      · exact g_vret hQ C hr hlocks hP hS dX5_survey_135 ⟨a34_2, a35_2, c36_3, c37_3, c38_3, rfl, rfl, rfl, rfl⟩
      · refine lv_aload_n hx hb dX5_survey_26 rfl (lv_at hl 0 rfl) ?_
        refine rwG_results_tries C hP mF_X5_55 dX5_survey_27 ?_
        refine rwG_tries_how C hP mF_X5_79 dX5_survey_30 ?_
        refine lv_iload_n hx hb dX5_survey_33 rfl (lv_at hl 2 rfl) ?_
        refine rwL_tries_how C hP (by omega) (by omega) dX5_survey_34 ?_
        show W p l e (gRm 1 23) s m args below meth c _ _ 0 0 Q (F0 m 35 ls [.int (iI (f 26 x2))])
        have r_5 : 0 ≤ (f 26 x2) ∧ (f 26 x2) ≤ 4 := hP.2.2 26 x2
        refine lv_iconst (v := iI 4) hx hb dX5_survey_35 rfl ?_
        refine gi_ceq (tgt := 129) hx hb dX5_survey_36 (by decide) (by omega) (by decide) (fun c_6 => ?_) (fun c_6 => ?_)
        · refine lv_iinc (v := iI (x2 + 1)) (lv' := [(2, .int (iI (x2 + 1))), (0, .ref (ad 47)), (1, .int (iI a1))]) hx hb dX5_survey_129 hl (k := 2) rfl (by show iI _ + iI 1 = _; rw [iI_add]) (by decide) rfl (fun ls hl => ?_)
          refine lv_goto (tgt := 15) hx hb dX5_survey_132 (by decide) ?_
          exact ih_15 (x2 + 1) c36_3 c37_3 c38_3 _ _ _ (by omega) (by omega) (by first | exact cntKeep i3_1 | exact cntUp i3_1 (i3_1 _ (by omega) (by omega))) hP hS (lv_sub hl [1, 2, 0] rfl)
        · refine lv_aload_n hx hb dX5_survey_39 rfl (lv_at hl 0 rfl) ?_
          refine rwG_results_tries C hP mF_X5_55 dX5_survey_40 ?_
          refine rwG_tries_round C hP mF_X5_82 dX5_survey_43 ?_
          refine lv_iload_n hx hb dX5_survey_46 rfl (lv_at hl 2 rfl) ?_
          refine rwL_tries_round C hP (by omega) (by omega) dX5_survey_47 ?_
          show W p l e (gRm 1 23) s m args below meth c _ _ 0 0 Q (F0 m 48 ls [.int (iI (f 21 x2))])
          have r_7 : 0 ≤ (f 21 x2) ∧ (f 21 x2) ≤ 3 := hP.2.2 21 x2
          refine lv_aload_n hx hb dX5_survey_48 rfl (lv_at hl 0 rfl) ?_
          refine rwG_results_tries C hP mF_X5_55 dX5_survey_49 ?_
          refine rwG_tries_climber C hP mF_X5_85 dX5_survey_52 ?_
          refine lv_iload_n hx hb dX5_survey_55 rfl (lv_at hl 2 rfl) ?_
          refine rwL_tries_climber C hP (by omega) (by omega) dX5_survey_56 ?_
          show W p l e (gRm 1 23) s m args below meth c _ _ 0 0 Q (F0 m 57 ls [.int (iI (f 20 x2)), .int (iI (f 21 x2))])
          have r_8 : 0 ≤ (f 20 x2) ∧ (f 20 x2) ≤ 15 := hP.2.2 20 x2
          refine lv_aload_n hx hb dX5_survey_57 rfl (lv_at hl 0 rfl) ?_
          refine rwG_results_tries C hP mF_X5_55 dX5_survey_58 ?_
          refine rwG_tries_route C hP mF_X5_88 dX5_survey_61 ?_
          refine lv_iload_n hx hb dX5_survey_64 rfl (lv_at hl 2 rfl) ?_
          refine rwL_tries_route C hP (by omega) (by omega) dX5_survey_65 ?_
          show W p l e (gRm 1 23) s m args below meth c _ _ 0 0 Q (F0 m 66 ls [.int (iI (f 22 x2)), .int (iI (f 20 x2)), .int (iI (f 21 x2))])
          have r_9 : 0 ≤ (f 22 x2) ∧ (f 22 x2) ≤ 4 := hP.2.2 22 x2
          refine g_cs (As := [.int (iI (f 21 x2)), .int (iI (f 20 x2)), .int (iI (f 22 x2))]) (rest := []) (n := 3) C hml (c_X5_cellOf l D k A ad hD v (va_up (va_up (va_up (va_up (va_up f 34 a34_2) 35 a35_2) 36 c36_3) 37 c37_3) 38 c38_3) g (f 21 x2) (f 20 x2) (f 22 x2) (by omega) (by omega) (by omega) (show 0 ≤ (f 21 x2) ∧ (f 21 x2) ≤ 3 from by omega) (show 0 ≤ (f 20 x2) ∧ (f 20 x2) ≤ 15 from by omega) (show 0 ≤ (f 22 x2) ∧ (f 22 x2) ≤ 4 from by omega)) mM_X5_91 mS_X5_cellOf mN_X5 mC_X5_cellOf (by decide +kernel) hP hS (fun _ h => h) ⟨Nat.le_of_ble_eq_true rfl, Nat.le_of_ble_eq_true rfl⟩ ⟨Nat.zero_le _, Nat.zero_le _⟩ hl.1 rfl rfl (Nat.le_of_ble_eq_true rfl) dX5_survey_66 (fun r_10 v_10 f_10 g_10 H locs hq_10 hP _ hS => ?_)
          obtain ⟨z_10, rfl, rfl, rfl, rfl, p0_10⟩ := hq_10
          show W p l e (gRm 1 23) s m args below meth c _ _ 0 0 Q (F0 m 69 ls [.int (iI z_10)])
          replace p0_10 : z_10 = ((f 21 x2) * 80 + (f 20 x2) * 5 + (f 22 x2)) := p0_10
          have hz_10 : inR z_10 := (by first | omega | (rw [p0_10]; split <;> omega))
          refine lv_istore_n (lv' := [(3, .int (iI z_10)), (0, .ref (ad 47)), (1, .int (iI a1)), (2, .int (iI x2))]) hx hb dX5_survey_69 rfl hl (by decide) rfl (fun ls hl => ?_)
          refine lv_aload_n hx hb dX5_survey_70 rfl (lv_at hl 1 rfl) ?_
          refine rwG_results_counted C hP mF_X5_18 dX5_survey_71 ?_
          refine lv_iload_n hx hb dX5_survey_74 rfl (lv_at hl 0 rfl) ?_
          refine lv_dup2_11 hx hb dX5_survey_75 rfl rfl ?_
          refine rwL_results_counted C hP (by omega) (by omega) dX5_survey_76 ?_
          show W p l e (gRm 1 23) s m args below meth c _ _ 0 0 Q (F0 m 77 ls [.int (iI (c36_3 z_10)), .int (iI z_10), .ref (ad 50)])
          have r_11 : 0 ≤ (c36_3 z_10) ∧ (c36_3 z_10) ≤ 300 := hP.2.2 36 z_10
          have q_12 := hcnt z_10 (by omega) (by omega)
          refine lv_iconst (v := iI 1) hx hb dX5_survey_77 rfl ?_
          refine gi_add (z := ((c36_3 z_10) + 1)) hx hb dX5_survey_78 rfl ?_
          refine rwS_results_counted (f1 := (va_up (va_up (va_up (va_up (va_up f 34 a34_2) 35 a35_2) 36 (u1 c36_3 z_10 ((c36_3 z_10) + 1))) 37 c37_3) 38 c38_3)) C hP hD hS (by omega) (by omega) (by omega) rfl (Or.inr (gF_up (V := rwV) (F := rwF) (gF_up (V := rwV) (F := rwF) (gF_up (V := rwV) (F := rwF) (gF_up (V := rwV) (F := rwF) (gF_up (V := rwV) (F := rwF) ⟨hok.1, hok.2⟩ 34 (hP.2.2 34)) 35 (hP.2.2 35)) 36 (u1_rng (hP.2.2 36) (show 0 ≤ ((c36_3 z_10) + 1) ∧ ((c36_3 z_10) + 1) ≤ 300 from (by omega)))) 37 (hP.2.2 37)) 38 (hP.2.2 38))) dX5_survey_79 (fun H locs hP hS => ?_)
          refine lv_aload_n hx hb dX5_survey_80 rfl (lv_at hl 1 rfl) ?_
          refine rwG_results_counted C hP mF_X5_18 dX5_survey_81 ?_
          refine lv_iload_n hx hb dX5_survey_84 rfl (lv_at hl 0 rfl) ?_
          refine rwL_results_counted C hP (by omega) (by omega) dX5_survey_85 ?_
          show W p l e (gRm 1 23) s m args below meth c _ _ 0 0 Q (F0 m 86 ls [.int (iI ((u1 c36_3 z_10 ((c36_3 z_10) + 1)) z_10))])
          have r_13 : 0 ≤ ((u1 c36_3 z_10 ((c36_3 z_10) + 1)) z_10) ∧ ((u1 c36_3 z_10 ((c36_3 z_10) + 1)) z_10) ≤ 300 := hP.2.2 36 z_10
          have q_14 := hcnt z_10 (by omega) (by omega)
          refine lv_iconst (v := iI 1) hx hb dX5_survey_86 rfl ?_
          refine gi_ceq (tgt := 110) hx hb dX5_survey_87 (by decide) (by omega) (by decide) (fun c_15 => ?_) (fun c_15 => ?_)
          · refine lv_aload_n hx hb dX5_survey_110 rfl (lv_at hl 1 rfl) ?_
            refine rwG_results_best C hP mF_X5_21 dX5_survey_111 ?_
            refine lv_iload_n hx hb dX5_survey_114 rfl (lv_at hl 0 rfl) ?_
            refine lv_iload_n hx hb dX5_survey_115 rfl (lv_at hl 3 rfl) ?_
            refine rwS_results_best (f1 := (va_up (va_up (va_up (va_up (va_up f 34 a34_2) 35 a35_2) 36 (u1 c36_3 z_10 ((c36_3 z_10) + 1))) 37 (u1 c37_3 z_10 x2)) 38 c38_3)) C hP hD hS (by omega) (by omega) (by omega) rfl (Or.inr (gF_up (V := rwV) (F := rwF) (gF_up (V := rwV) (F := rwF) (gF_up (V := rwV) (F := rwF) (gF_up (V := rwV) (F := rwF) (gF_up (V := rwV) (F := rwF) ⟨hok.1, hok.2⟩ 34 (hP.2.2 34)) 35 (hP.2.2 35)) 36 (hP.2.2 36)) 37 (u1_rng (hP.2.2 37) (show 0 ≤ x2 ∧ x2 ≤ 299 from (by omega)))) 38 (hP.2.2 38))) dX5_survey_116 (fun H locs hP hS => ?_)
            refine lv_aload_n hx hb dX5_survey_117 rfl (lv_at hl 1 rfl) ?_
            refine rwG_results_bestNumber C hP mF_X5_24 dX5_survey_118 ?_
            refine lv_iload_n hx hb dX5_survey_121 rfl (lv_at hl 0 rfl) ?_
            refine lv_aload_n hx hb dX5_survey_122 rfl (lv_at hl 1 rfl) ?_
            refine rwG_results_counted C hP mF_X5_18 dX5_survey_123 ?_
            refine lv_iload_n hx hb dX5_survey_126 rfl (lv_at hl 0 rfl) ?_
            refine rwL_results_counted C hP (by omega) (by omega) dX5_survey_127 ?_
            show W p l e (gRm 1 23) s m args below meth c _ _ 0 0 Q (F0 m 128 ls [.int (iI ((u1 c36_3 z_10 ((c36_3 z_10) + 1)) z_10)), .int (iI z_10), .ref (ad 52)])
            have q_16 := hcnt z_10 (by omega) (by omega)
            refine rwS_results_bestNumber (f1 := (va_up (va_up (va_up (va_up (va_up f 34 a34_2) 35 a35_2) 36 (u1 c36_3 z_10 ((c36_3 z_10) + 1))) 37 (u1 c37_3 z_10 x2)) 38 (u1 c38_3 z_10 ((u1 c36_3 z_10 ((c36_3 z_10) + 1)) z_10)))) C hP hD hS (by omega) (by omega) (by omega) rfl (Or.inr (gF_up (V := rwV) (F := rwF) (gF_up (V := rwV) (F := rwF) (gF_up (V := rwV) (F := rwF) (gF_up (V := rwV) (F := rwF) (gF_up (V := rwV) (F := rwF) ⟨hok.1, hok.2⟩ 34 (hP.2.2 34)) 35 (hP.2.2 35)) 36 (hP.2.2 36)) 37 (hP.2.2 37)) 38 (u1_rng (hP.2.2 38) (show 0 ≤ ((u1 c36_3 z_10 ((c36_3 z_10) + 1)) z_10) ∧ ((u1 c36_3 z_10 ((c36_3 z_10) + 1)) z_10) ≤ 300 from (by omega))))) dX5_survey_128 (fun H locs hP hS => ?_)
            refine lv_iinc (v := iI (x2 + 1)) (lv' := [(2, .int (iI (x2 + 1))), (3, .int (iI z_10)), (0, .ref (ad 47)), (1, .int (iI a1))]) hx hb dX5_survey_129 hl (k := 3) rfl (by show iI _ + iI 1 = _; rw [iI_add]) (by decide) rfl (fun ls hl => ?_)
            refine lv_goto (tgt := 15) hx hb dX5_survey_132 (by decide) ?_
            exact ih_15 (x2 + 1) (u1 c36_3 z_10 ((c36_3 z_10) + 1)) (u1 c37_3 z_10 x2) (u1 c38_3 z_10 ((u1 c36_3 z_10 ((c36_3 z_10) + 1)) z_10)) _ _ _ (by omega) (by omega) (by first | exact cntKeep i3_1 | exact cntUp i3_1 (i3_1 _ (by omega) (by omega))) hP hS (lv_sub hl [2, 3, 0] rfl)
          · refine lv_aload_n hx hb dX5_survey_90 rfl (lv_at hl 1 rfl) ?_
            refine rwG_results_known C hP mF_X5_9 dX5_survey_91 ?_
            refine lv_iload_n hx hb dX5_survey_94 rfl (lv_at hl 3 rfl) ?_
            refine rwL_results_known C hP (by omega) (by omega) dX5_survey_95 ?_
            show W p l e (gRm 1 23) s m args below meth c _ _ 0 0 Q (F0 m 96 ls [.int (iI (a34_2 x2))])
            have r_17 : 0 ≤ (a34_2 x2) ∧ (a34_2 x2) ≤ 60 := hP.2.2 34 x2
            refine lv_aload_n hx hb dX5_survey_96 rfl (lv_at hl 1 rfl) ?_
            refine rwG_results_known C hP mF_X5_9 dX5_survey_97 ?_
            refine lv_aload_n hx hb dX5_survey_100 rfl (lv_at hl 1 rfl) ?_
            refine rwG_results_best C hP mF_X5_21 dX5_survey_101 ?_
            refine lv_iload_n hx hb dX5_survey_104 rfl (lv_at hl 0 rfl) ?_
            refine rwL_results_best C hP (by omega) (by omega) dX5_survey_105 ?_
            show W p l e (gRm 1 23) s m args below meth c _ _ 0 0 Q (F0 m 106 ls [.int (iI (c37_3 z_10)), .ref (ad 48), .int (iI (a34_2 x2))])
            have r_18 : 0 ≤ (c37_3 z_10) ∧ (c37_3 z_10) ≤ 299 := hP.2.2 37 z_10
            refine rwL_results_known C hP (by omega) (by omega) dX5_survey_106 ?_
            show W p l e (gRm 1 23) s m args below meth c _ _ 0 0 Q (F0 m 107 ls [.int (iI (a34_2 (c37_3 z_10))), .int (iI (a34_2 x2))])
            have r_19 : 0 ≤ (a34_2 (c37_3 z_10)) ∧ (a34_2 (c37_3 z_10)) ≤ 60 := hP.2.2 34 (c37_3 z_10)
            refine gi_cle (tgt := 129) hx hb dX5_survey_107 (by decide) (by omega) (by omega) (fun c_20 => ?_) (fun c_20 => ?_)
            · refine lv_iinc (v := iI (x2 + 1)) (lv' := [(2, .int (iI (x2 + 1))), (3, .int (iI z_10)), (0, .ref (ad 47)), (1, .int (iI a1))]) hx hb dX5_survey_129 hl (k := 3) rfl (by show iI _ + iI 1 = _; rw [iI_add]) (by decide) rfl (fun ls hl => ?_)
              refine lv_goto (tgt := 15) hx hb dX5_survey_132 (by decide) ?_
              exact ih_15 (x2 + 1) (u1 c36_3 z_10 ((c36_3 z_10) + 1)) c37_3 c38_3 _ _ _ (by omega) (by omega) (by first | exact cntKeep i3_1 | exact cntUp i3_1 (i3_1 _ (by omega) (by omega))) hP hS (lv_sub hl [2, 3, 0] rfl)
            · refine lv_aload_n hx hb dX5_survey_110 rfl (lv_at hl 1 rfl) ?_
              refine rwG_results_best C hP mF_X5_21 dX5_survey_111 ?_
              refine lv_iload_n hx hb dX5_survey_114 rfl (lv_at hl 0 rfl) ?_
              refine lv_iload_n hx hb dX5_survey_115 rfl (lv_at hl 3 rfl) ?_
              refine rwS_results_best (f1 := (va_up (va_up (va_up (va_up (va_up f 34 a34_2) 35 a35_2) 36 (u1 c36_3 z_10 ((c36_3 z_10) + 1))) 37 (u1 c37_3 z_10 x2)) 38 c38_3)) C hP hD hS (by omega) (by omega) (by omega) rfl (Or.inr (gF_up (V := rwV) (F := rwF) (gF_up (V := rwV) (F := rwF) (gF_up (V := rwV) (F := rwF) (gF_up (V := rwV) (F := rwF) (gF_up (V := rwV) (F := rwF) ⟨hok.1, hok.2⟩ 34 (hP.2.2 34)) 35 (hP.2.2 35)) 36 (hP.2.2 36)) 37 (u1_rng (hP.2.2 37) (show 0 ≤ x2 ∧ x2 ≤ 299 from (by omega)))) 38 (hP.2.2 38))) dX5_survey_116 (fun H locs hP hS => ?_)
              refine lv_aload_n hx hb dX5_survey_117 rfl (lv_at hl 1 rfl) ?_
              refine rwG_results_bestNumber C hP mF_X5_24 dX5_survey_118 ?_
              refine lv_iload_n hx hb dX5_survey_121 rfl (lv_at hl 0 rfl) ?_
              refine lv_aload_n hx hb dX5_survey_122 rfl (lv_at hl 1 rfl) ?_
              refine rwG_results_counted C hP mF_X5_18 dX5_survey_123 ?_
              refine lv_iload_n hx hb dX5_survey_126 rfl (lv_at hl 0 rfl) ?_
              refine rwL_results_counted C hP (by omega) (by omega) dX5_survey_127 ?_
              show W p l e (gRm 1 23) s m args below meth c _ _ 0 0 Q (F0 m 128 ls [.int (iI ((u1 c36_3 z_10 ((c36_3 z_10) + 1)) z_10)), .int (iI z_10), .ref (ad 52)])
              have q_21 := hcnt z_10 (by omega) (by omega)
              refine rwS_results_bestNumber (f1 := (va_up (va_up (va_up (va_up (va_up f 34 a34_2) 35 a35_2) 36 (u1 c36_3 z_10 ((c36_3 z_10) + 1))) 37 (u1 c37_3 z_10 x2)) 38 (u1 c38_3 z_10 ((u1 c36_3 z_10 ((c36_3 z_10) + 1)) z_10)))) C hP hD hS (by omega) (by omega) (by omega) rfl (Or.inr (gF_up (V := rwV) (F := rwF) (gF_up (V := rwV) (F := rwF) (gF_up (V := rwV) (F := rwF) (gF_up (V := rwV) (F := rwF) (gF_up (V := rwV) (F := rwF) ⟨hok.1, hok.2⟩ 34 (hP.2.2 34)) 35 (hP.2.2 35)) 36 (hP.2.2 36)) 37 (hP.2.2 37)) 38 (u1_rng (hP.2.2 38) (show 0 ≤ ((u1 c36_3 z_10 ((c36_3 z_10) + 1)) z_10) ∧ ((u1 c36_3 z_10 ((c36_3 z_10) + 1)) z_10) ≤ 300 from (by omega))))) dX5_survey_128 (fun H locs hP hS => ?_)
              refine lv_iinc (v := iI (x2 + 1)) (lv' := [(2, .int (iI (x2 + 1))), (3, .int (iI z_10)), (0, .ref (ad 47)), (1, .int (iI a1))]) hx hb dX5_survey_129 hl (k := 3) rfl (by show iI _ + iI 1 = _; rw [iI_add]) (by decide) rfl (fun ls hl => ?_)
              refine lv_goto (tgt := 15) hx hb dX5_survey_132 (by decide) ?_
              exact ih_15 (x2 + 1) (u1 c36_3 z_10 ((c36_3 z_10) + 1)) (u1 c37_3 z_10 x2) (u1 c38_3 z_10 ((u1 c36_3 z_10 ((c36_3 z_10) + 1)) z_10)) _ _ _ (by omega) (by omega) (by first | exact cntKeep i3_1 | exact cntUp i3_1 (i3_1 _ (by omega) (by omega))) hP hS (lv_sub hl [2, 3, 0] rfl)
  exact L_3 301 0 (gfill (f 36) 320 0) (f 37) (f 38) _ _ _ (by omega) (by omega) (fun k h0 h1 => by have : (gfill (f 36) 320 0) k = 0 := if_pos ⟨h0, h1⟩; omega) hP hS (lv_sub hl [1, 2, 0] rfl)

set_option maxHeartbeats 4000000 in
set_option maxRecDepth 100000 in
theorem c_X5_workFacts (l : Launch) (D : va_G) (k : Nat → ClassId) (A : Nat → Prop) (ad : Nat → Nat) (hD : rwD A k ad) (v : gV) (f g : gF) (a1 : Int) (a2 : Int) (a3 : Int) (h_a1 : inR a1) (h_a2 : inR a2) (h_a3 : inR a3) (h1 : 0 ≤ a1 ∧ a1 ≤ 3) (h2 : 0 ≤ a2 ∧ a2 ≤ 15) (h3 : 0 ≤ a3 ∧ a3 ≤ 4) : GM l D k A (rwT k ad) yX5_workFacts cX5_workFacts 8 none 2 49 [.ref (ad 47), .int (iI a1), .int (iI a2), .int (iI a3)] v f g (fun r v1 f1 g1 => ∃ (a39_ : Int → Int), r = none ∧ v = v1 ∧ (va_up f 39 a39_) = f1 ∧ g = g1) := by
  refine GM.of (by decide) (Nat.le_of_ble_eq_true rfl) ?_
  intro p e s m args below meth c Q ls hQ C hml hr hlocks hP hl
  have hx := C.1
  have hb := C.2.1
  have hok := hP.2
  have hS : va_S A s.heap s.heap [] := va_S.rf
  have hl : lv_has ls 8 [(0, .ref (ad 47)), (1, .int (iI a1)), (2, .int (iI a2)), (3, .int (iI a3))] := hl
  have hP : gWd D (rwT k ad) v (va_up f 39 (f 39)) g s.heap := by rw [va_id]; exact hP
  refine lv_aload_n hx hb dX5_workFacts_0 rfl (lv_at hl 0 rfl) ?_
  refine rwG_results_facts C hP mF_X5_27 dX5_workFacts_1 ?_
  refine lv_iconst (v := iI 0) hx hb dX5_workFacts_4 rfl ?_
  refine g_cs (As := [.ref (ad 53), .int (iI 0)]) (rest := []) (n := 2) C hml (c_fillI l D k A (rwT k ad) (ad 53) 53 39 6 (fun _ _ _ => rfl) (fun _ _ _ _ => rfl) hD (by decide) v (va_up f 39 (f 39)) g 0 (by decide) (show (-2000000) ≤ 0 ∧ 0 ≤ 2000000 from (by decide))) mM_X5_67 mS_J7_fill_53178 mN_J7 mC_J7_fill_53178 (by decide +kernel) hP hS (fun _ h => h) ⟨Nat.le_of_ble_eq_true rfl, Nat.le_of_ble_eq_true rfl⟩ ⟨Nat.zero_le _, Nat.zero_le _⟩ hl.1 rfl rfl (Nat.le_of_ble_eq_true rfl) dX5_workFacts_5 (fun r v1 f1 g1 H locs hq hP _ hS => ?_)
  obtain ⟨rfl, rfl, rfl, rfl⟩ := hq
  show W p l e (gRm 2 49) s m args below meth c _ _ 0 0 Q (F0 m 8 ls [])
  have hP : gWd D (rwT k ad) v (va_up f 39 (gfill (f 39) 6 0)) g H := ⟨hP.1, (gF_up (V := rwV) (F := rwF) ⟨hok.1, hok.2⟩ 39 (hP.2.2 39))⟩
  refine lv_iload_n hx hb dX5_workFacts_8 rfl (lv_at hl 1 rfl) ?_
  refine lv_iload_n hx hb dX5_workFacts_9 rfl (lv_at hl 2 rfl) ?_
  refine lv_iload_n hx hb dX5_workFacts_10 rfl (lv_at hl 3 rfl) ?_
  refine g_cs (As := [.int (iI a1), .int (iI a2), .int (iI a3)]) (rest := []) (n := 3) C hml (c_X5_cellOf l D k A ad hD v (va_up f 39 (gfill (f 39) 6 0)) g a1 a2 a3 (by omega) (by omega) (by omega) (show 0 ≤ a1 ∧ a1 ≤ 3 from by omega) (show 0 ≤ a2 ∧ a2 ≤ 15 from by omega) (show 0 ≤ a3 ∧ a3 ≤ 4 from by omega)) mM_X5_91 mS_X5_cellOf mN_X5 mC_X5_cellOf (by decide +kernel) hP hS (fun _ h => h) ⟨Nat.le_of_ble_eq_true rfl, Nat.le_of_ble_eq_true rfl⟩ ⟨Nat.zero_le _, Nat.zero_le _⟩ hl.1 rfl rfl (Nat.le_of_ble_eq_true rfl) dX5_workFacts_11 (fun r_1 v_1 f_1 g_1 H locs hq_1 hP _ hS => ?_)
  obtain ⟨z_1, rfl, rfl, rfl, rfl, p0_1⟩ := hq_1
  show W p l e (gRm 2 49) s m args below meth c _ _ 0 0 Q (F0 m 14 ls [.int (iI z_1)])
  replace p0_1 : z_1 = (a1 * 80 + a2 * 5 + a3) := p0_1
  have hz_1 : inR z_1 := (by first | omega | (rw [p0_1]; split <;> omega))
  refine lv_istore (lv' := [(4, .int (iI z_1)), (0, .ref (ad 47)), (1, .int (iI a1)), (2, .int (iI a2)), (3, .int (iI a3))]) hx hb dX5_workFacts_14 hl (by decide) rfl (fun ls hl => ?_)
  refine lv_aload_n hx hb dX5_workFacts_16 rfl (lv_at hl 1 rfl) ?_
  refine rwG_results_counted C hP mF_X5_18 dX5_workFacts_17 ?_
  refine lv_iload hx hb dX5_workFacts_20 (lv_at hl 0 rfl) ?_
  refine rwL_results_counted C hP (by omega) (by omega) dX5_workFacts_22 ?_
  show W p l e (gRm 2 49) s m args below meth c _ _ 0 0 Q (F0 m 23 ls [.int (iI (f 36 z_1))])
  have r_2 : 0 ≤ (f 36 z_1) ∧ (f 36 z_1) ≤ 300 := hP.2.2 36 z_1
  refine gi_zne (tgt := 27) hx hb dX5_workFacts_23 (by decide) (by omega) (fun c_3 => ?_) (fun c_3 => ?_)
  · refine lv_aload_n hx hb dX5_workFacts_27 rfl (lv_at hl 1 rfl) ?_
    refine rwG_results_best C hP mF_X5_21 dX5_workFacts_28 ?_
    refine lv_iload hx hb dX5_workFacts_31 (lv_at hl 0 rfl) ?_
    refine rwL_results_best C hP (by omega) (by omega) dX5_workFacts_33 ?_
    show W p l e (gRm 2 49) s m args below meth c _ _ 0 0 Q (F0 m 34 ls [.int (iI (f 37 z_1))])
    have r_4 : 0 ≤ (f 37 z_1) ∧ (f 37 z_1) ≤ 299 := hP.2.2 37 z_1
    refine lv_istore (lv' := [(5, .int (iI (f 37 z_1))), (4, .int (iI z_1)), (0, .ref (ad 47)), (1, .int (iI a1)), (2, .int (iI a2)), (3, .int (iI a3))]) hx hb dX5_workFacts_34 hl (by decide) rfl (fun ls hl => ?_)
    refine lv_aload_n hx hb dX5_workFacts_36 rfl (lv_at hl 2 rfl) ?_
    refine rwG_results_known C hP mF_X5_9 dX5_workFacts_37 ?_
    refine lv_iload hx hb dX5_workFacts_40 (lv_at hl 0 rfl) ?_
    refine rwL_results_known C hP (by omega) (by omega) dX5_workFacts_42 ?_
    show W p l e (gRm 2 49) s m args below meth c _ _ 0 0 Q (F0 m 43 ls [.int (iI (f 34 (f 37 z_1)))])
    have r_5 : 0 ≤ (f 34 (f 37 z_1)) ∧ (f 34 (f 37 z_1)) ≤ 60 := hP.2.2 34 (f 37 z_1)
    refine lv_istore (lv' := [(6, .int (iI (f 34 (f 37 z_1)))), (5, .int (iI (f 37 z_1))), (4, .int (iI z_1)), (0, .ref (ad 47)), (1, .int (iI a1)), (2, .int (iI a2)), (3, .int (iI a3))]) hx hb dX5_workFacts_43 hl (by decide) rfl (fun ls hl => ?_)
    refine lv_iload hx hb dX5_workFacts_45 (lv_at hl 0 rfl) ?_
    refine lv_aload_n hx hb dX5_workFacts_47 rfl (lv_at hl 3 rfl) ?_
    refine rwG_results_wall C hP mF_X5_47 dX5_workFacts_48 ?_
    refine lv_iload_n hx hb dX5_workFacts_51 rfl (lv_at hl 4 rfl) ?_
    refine lv_iload_n hx hb dX5_workFacts_52 rfl (lv_at hl 6 rfl) ?_
    refine g_cv (As := [.int (iI a1), .int (iI a3)]) (rest := [.int (iI (f 34 (f 37 z_1)))]) (n := 2) C hml (c_X8_holdsOf l D k A ad hD v (va_up f 39 (gfill (f 39) 6 0)) g a1 a3 (by omega) (by omega) (show 0 ≤ a1 ∧ a1 ≤ 3 from by omega) (show 0 ≤ a3 ∧ a3 ≤ 4 from by omega)) mM_X5_108 mI_X8_holdsOf mE_X8_holdsOf mN_X8 mC_X8_holdsOf (by decide +kernel) 23 (ci := 8) rfl rfl hP hS (fun _ h => h) ⟨Nat.le_of_ble_eq_true rfl, Nat.le_of_ble_eq_true rfl⟩ ⟨Nat.zero_le _, Nat.zero_le _⟩ hl.1 rfl rfl (Nat.le_of_ble_eq_true rfl) dX5_workFacts_53 (fun r_6 v_6 f_6 g_6 H locs hq_6 hP _ hS => ?_)
    obtain ⟨z_6, rfl, rfl, rfl, rfl, p0_6, p1_6⟩ := hq_6
    show W p l e (gRm 2 49) s m args below meth c _ _ 0 0 Q (F0 m 56 ls [.int (iI z_6), .int (iI (f 34 (f 37 z_1)))])
    replace p0_6 : z_6 = ((f 15) (a1 * 5 + a3)) := p0_6
    replace p1_6 : 0 ≤ z_6 ∧ z_6 ≤ 60 := p1_6
    have hz_6 : inR z_6 := (by first | omega | (rw [p0_6]; split <;> omega))
    refine gi_cne (tgt := 63) hx hb dX5_workFacts_56 (by decide) (by omega) (by omega) (fun c_7 => ?_) (fun c_7 => ?_)
    · refine lv_iconst (v := iI 0) hx hb dX5_workFacts_63 rfl ?_
      refine lv_istore (lv' := [(7, .int (iI 0)), (6, .int (iI (f 34 (f 37 z_1)))), (5, .int (iI (f 37 z_1))), (4, .int (iI z_1)), (0, .ref (ad 47)), (1, .int (iI a1)), (2, .int (iI a2)), (3, .int (iI a3))]) hx hb dX5_workFacts_64 hl (by decide) rfl (fun ls hl => ?_)
      refine lv_aload_n hx hb dX5_workFacts_66 rfl (lv_at hl 4 rfl) ?_
      refine rwG_results_facts C hP mF_X5_27 dX5_workFacts_67 ?_
      refine lv_iconst (v := iI 0) hx hb dX5_workFacts_70 rfl ?_
      refine lv_iload hx hb dX5_workFacts_71 (lv_at hl 0 rfl) ?_
      refine gi_zeq (tgt := 80) hx hb dX5_workFacts_73 (by decide) (by decide) (fun c_8 => ?_) (fun c_8 => ?_)
      · refine lv_iconst (v := iI 0) hx hb dX5_workFacts_80 rfl ?_
        refine rwS_results_facts (f1 := (va_up f 39 (u1 (gfill (f 39) 6 0) 0 0))) C hP hD hS (by decide) (by decide) (by decide) rfl (Or.inr (gF_up (V := rwV) (F := rwF) ⟨hok.1, hok.2⟩ 39 (u1_rng (hP.2.2 39) (show (-2000000) ≤ 0 ∧ 0 ≤ 2000000 from (by decide))))) dX5_workFacts_81 (fun H locs hP hS => ?_)
        refine lv_aload_n hx hb dX5_workFacts_82 rfl (lv_at hl 4 rfl) ?_
        refine rwG_results_facts C hP mF_X5_27 dX5_workFacts_83 ?_
        refine lv_iconst (v := iI 1) hx hb dX5_workFacts_86 rfl ?_
        refine lv_aload_n hx hb dX5_workFacts_87 rfl (lv_at hl 4 rfl) ?_
        refine rwG_results_wall C hP mF_X5_47 dX5_workFacts_88 ?_
        refine lv_iload_n hx hb dX5_workFacts_91 rfl (lv_at hl 5 rfl) ?_
        refine lv_iload_n hx hb dX5_workFacts_92 rfl (lv_at hl 7 rfl) ?_
        refine lv_iload hx hb dX5_workFacts_93 (lv_at hl 1 rfl) ?_
        refine g_cv (As := [.int (iI a1), .int (iI a3), .int (iI (f 34 (f 37 z_1)))]) (rest := [.int (iI 1), .ref (ad 53)]) (n := 3) C hml (c_X8_zonesUpTo l D k A ad hD v (va_up f 39 (u1 (gfill (f 39) 6 0) 0 0)) g a1 a3 (f 34 (f 37 z_1)) (by omega) (by omega) (by omega) (show 0 ≤ a1 ∧ a1 ≤ 3 from by omega) (show 0 ≤ a3 ∧ a3 ≤ 4 from by omega)) mM_X5_114 mI_X8_zonesUpTo mE_X8_zonesUpTo mN_X8 mC_X8_zonesUpTo (by decide +kernel) 23 (ci := 8) rfl rfl hP hS (fun _ h => h) ⟨Nat.le_of_ble_eq_true rfl, Nat.le_of_ble_eq_true rfl⟩ ⟨Nat.zero_le _, Nat.zero_le _⟩ hl.1 rfl rfl (Nat.le_of_ble_eq_true rfl) dX5_workFacts_95 (fun r_9 v_9 f_9 g_9 H locs hq_9 hP _ hS => ?_)
        obtain ⟨z_9, rfl, rfl, rfl, rfl, p0_9⟩ := hq_9
        show W p l e (gRm 2 49) s m args below meth c _ _ 0 0 Q (F0 m 98 ls [.int (iI z_9), .int (iI 1), .ref (ad 53)])
        replace p0_9 : 0 ≤ z_9 ∧ z_9 ≤ 3 := p0_9
        refine rwS_results_facts (f1 := (va_up f 39 (u1 (u1 (gfill (f 39) 6 0) 0 0) 1 z_9))) C hP hD hS (by decide) (by decide) (by omega) rfl (Or.inr (gF_up (V := rwV) (F := rwF) ⟨hok.1, hok.2⟩ 39 (u1_rng (hP.2.2 39) (show (-2000000) ≤ z_9 ∧ z_9 ≤ 2000000 from (by omega))))) dX5_workFacts_98 (fun H locs hP hS => ?_)
        refine lv_aload_n hx hb dX5_workFacts_99 rfl (lv_at hl 4 rfl) ?_
        refine rwG_results_facts C hP mF_X5_27 dX5_workFacts_100 ?_
        refine lv_iconst (v := iI 2) hx hb dX5_workFacts_103 rfl ?_
        refine lv_iload hx hb dX5_workFacts_104 (lv_at hl 1 rfl) ?_
        refine rwS_results_facts (f1 := (va_up f 39 (u1 (u1 (u1 (gfill (f 39) 6 0) 0 0) 1 z_9) 2 (f 34 (f 37 z_1))))) C hP hD hS (by decide) (by decide) (by omega) rfl (Or.inr (gF_up (V := rwV) (F := rwF) ⟨hok.1, hok.2⟩ 39 (u1_rng (hP.2.2 39) (show (-2000000) ≤ (f 34 (f 37 z_1)) ∧ (f 34 (f 37 z_1)) ≤ 2000000 from (by omega))))) dX5_workFacts_106 (fun H locs hP hS => ?_)
        refine lv_aload_n hx hb dX5_workFacts_107 rfl (lv_at hl 4 rfl) ?_
        refine rwG_results_facts C hP mF_X5_27 dX5_workFacts_108 ?_
        refine lv_iconst (v := iI 3) hx hb dX5_workFacts_111 rfl ?_
        refine lv_aload_n hx hb dX5_workFacts_112 rfl (lv_at hl 4 rfl) ?_
        refine rwG_results_bestNumber C hP mF_X5_24 dX5_workFacts_113 ?_
        refine lv_iload hx hb dX5_workFacts_116 (lv_at hl 3 rfl) ?_
        refine rwL_results_bestNumber C hP (by omega) (by omega) dX5_workFacts_118 ?_
        show W p l e (gRm 2 49) s m args below meth c _ _ 0 0 Q (F0 m 119 ls [.int (iI (f 38 z_1)), .int (iI 3), .ref (ad 53)])
        have r_10 : 0 ≤ (f 38 z_1) ∧ (f 38 z_1) ≤ 300 := hP.2.2 38 z_1
        refine rwS_results_facts (f1 := (va_up f 39 (u1 (u1 (u1 (u1 (gfill (f 39) 6 0) 0 0) 1 z_9) 2 (f 34 (f 37 z_1))) 3 (f 38 z_1)))) C hP hD hS (by decide) (by decide) (by omega) rfl (Or.inr (gF_up (V := rwV) (F := rwF) ⟨hok.1, hok.2⟩ 39 (u1_rng (hP.2.2 39) (show (-2000000) ≤ (f 38 z_1) ∧ (f 38 z_1) ≤ 2000000 from (by omega))))) dX5_workFacts_119 (fun H locs hP hS => ?_)
        refine lv_aload_n hx hb dX5_workFacts_120 rfl (lv_at hl 4 rfl) ?_
        refine rwG_results_facts C hP mF_X5_27 dX5_workFacts_121 ?_
        refine lv_iconst (v := iI 4) hx hb dX5_workFacts_124 rfl ?_
        refine lv_aload_n hx hb dX5_workFacts_125 rfl (lv_at hl 4 rfl) ?_
        refine rwG_results_tries C hP mF_X5_55 dX5_workFacts_126 ?_
        refine rwG_tries_how C hP mF_X5_79 dX5_workFacts_129 ?_
        refine lv_iload hx hb dX5_workFacts_132 (lv_at hl 2 rfl) ?_
        refine rwL_tries_how C hP (by omega) (by omega) dX5_workFacts_134 ?_
        show W p l e (gRm 2 49) s m args below meth c _ _ 0 0 Q (F0 m 135 ls [.int (iI (f 26 (f 37 z_1))), .int (iI 4), .ref (ad 53)])
        have r_11 : 0 ≤ (f 26 (f 37 z_1)) ∧ (f 26 (f 37 z_1)) ≤ 4 := hP.2.2 26 (f 37 z_1)
        refine gi_zne (tgt := 142) hx hb dX5_workFacts_135 (by decide) (by omega) (fun c_12 => ?_) (fun c_12 => ?_)
        · refine lv_aload_n hx hb dX5_workFacts_142 rfl (lv_at hl 4 rfl) ?_
          refine rwG_results_tries C hP mF_X5_55 dX5_workFacts_143 ?_
          refine rwG_tries_ended C hP mF_X5_117 dX5_workFacts_146 ?_
          refine lv_iload hx hb dX5_workFacts_149 (lv_at hl 2 rfl) ?_
          refine rwL_tries_ended C hP (by omega) (by omega) dX5_workFacts_151 ?_
          show W p l e (gRm 2 49) s m args below meth c _ _ 0 0 Q (F0 m 152 ls [.int (iI (f 24 (f 37 z_1))), .int (iI 4), .ref (ad 53)])
          have r_13 : (-1) ≤ (f 24 (f 37 z_1)) ∧ (f 24 (f 37 z_1)) ≤ 1000999 := hP.2.2 24 (f 37 z_1)
          refine lv_aload_n hx hb dX5_workFacts_152 rfl (lv_at hl 4 rfl) ?_
          refine rwG_results_tries C hP mF_X5_55 dX5_workFacts_153 ?_
          refine rwG_tries_begun C hP mF_X5_120 dX5_workFacts_156 ?_
          refine lv_iload hx hb dX5_workFacts_159 (lv_at hl 2 rfl) ?_
          refine rwL_tries_begun C hP (by omega) (by omega) dX5_workFacts_161 ?_
          show W p l e (gRm 2 49) s m args below meth c _ _ 0 0 Q (F0 m 162 ls [.int (iI (f 23 (f 37 z_1))), .int (iI (f 24 (f 37 z_1))), .int (iI 4), .ref (ad 53)])
          have r_14 : 0 ≤ (f 23 (f 37 z_1)) ∧ (f 23 (f 37 z_1)) ≤ 1000000 := hP.2.2 23 (f 37 z_1)
          refine gi_sub (z := ((f 24 (f 37 z_1)) - (f 23 (f 37 z_1)))) hx hb dX5_workFacts_162 rfl ?_
          refine rwS_results_facts (f1 := (va_up f 39 (u1 (u1 (u1 (u1 (u1 (gfill (f 39) 6 0) 0 0) 1 z_9) 2 (f 34 (f 37 z_1))) 3 (f 38 z_1)) 4 ((f 24 (f 37 z_1)) - (f 23 (f 37 z_1)))))) C hP hD hS (by decide) (by decide) (by omega) rfl (Or.inr (gF_up (V := rwV) (F := rwF) ⟨hok.1, hok.2⟩ 39 (u1_rng (hP.2.2 39) (show (-2000000) ≤ ((f 24 (f 37 z_1)) - (f 23 (f 37 z_1))) ∧ ((f 24 (f 37 z_1)) - (f 23 (f 37 z_1))) ≤ 2000000 from (by omega))))) dX5_workFacts_163 (fun H locs hP hS => ?_)
          refine lv_aload_n hx hb dX5_workFacts_164 rfl (lv_at hl 4 rfl) ?_
          refine rwG_results_facts C hP mF_X5_27 dX5_workFacts_165 ?_
          refine lv_iconst (v := iI 5) hx hb dX5_workFacts_168 rfl ?_
          refine lv_iload hx hb dX5_workFacts_169 (lv_at hl 0 rfl) ?_
          refine gi_zeq (tgt := 189) hx hb dX5_workFacts_171 (by decide) (by decide) (fun c_15 => ?_) (fun c_15 => ?_)
          · refine lv_iconst (v := iI 0) hx hb dX5_workFacts_189 rfl ?_
            refine rwS_results_facts (f1 := (va_up f 39 (u1 (u1 (u1 (u1 (u1 (u1 (gfill (f 39) 6 0) 0 0) 1 z_9) 2 (f 34 (f 37 z_1))) 3 (f 38 z_1)) 4 ((f 24 (f 37 z_1)) - (f 23 (f 37 z_1)))) 5 0))) C hP hD hS (by decide) (by decide) (by decide) rfl (Or.inr (gF_up (V := rwV) (F := rwF) ⟨hok.1, hok.2⟩ 39 (u1_rng (hP.2.2 39) (show (-2000000) ≤ 0 ∧ 0 ≤ 2000000 from (by decide))))) dX5_workFacts_190 (fun H locs hP hS => ?_)
            exact g_vret hQ C hr hlocks hP hS dX5_workFacts_191 ⟨(u1 (u1 (u1 (u1 (u1 (u1 (gfill (f 39) 6 0) 0 0) 1 z_9) 2 (f 34 (f 37 z_1))) 3 (f 38 z_1)) 4 ((f 24 (f 37 z_1)) - (f 23 (f 37 z_1)))) 5 0), rfl, rfl, rfl, rfl⟩
          · exfalso; omega
        · refine lv_iconst (v := iI 0) hx hb dX5_workFacts_138 rfl ?_
          refine lv_goto (tgt := 163) hx hb dX5_workFacts_139 (by decide) ?_
          refine rwS_results_facts (f1 := (va_up f 39 (u1 (u1 (u1 (u1 (u1 (gfill (f 39) 6 0) 0 0) 1 z_9) 2 (f 34 (f 37 z_1))) 3 (f 38 z_1)) 4 0))) C hP hD hS (by decide) (by decide) (by decide) rfl (Or.inr (gF_up (V := rwV) (F := rwF) ⟨hok.1, hok.2⟩ 39 (u1_rng (hP.2.2 39) (show (-2000000) ≤ 0 ∧ 0 ≤ 2000000 from (by decide))))) dX5_workFacts_163 (fun H locs hP hS => ?_)
          refine lv_aload_n hx hb dX5_workFacts_164 rfl (lv_at hl 4 rfl) ?_
          refine rwG_results_facts C hP mF_X5_27 dX5_workFacts_165 ?_
          refine lv_iconst (v := iI 5) hx hb dX5_workFacts_168 rfl ?_
          refine lv_iload hx hb dX5_workFacts_169 (lv_at hl 0 rfl) ?_
          refine gi_zeq (tgt := 189) hx hb dX5_workFacts_171 (by decide) (by decide) (fun c_16 => ?_) (fun c_16 => ?_)
          · refine lv_iconst (v := iI 0) hx hb dX5_workFacts_189 rfl ?_
            refine rwS_results_facts (f1 := (va_up f 39 (u1 (u1 (u1 (u1 (u1 (u1 (gfill (f 39) 6 0) 0 0) 1 z_9) 2 (f 34 (f 37 z_1))) 3 (f 38 z_1)) 4 0) 5 0))) C hP hD hS (by decide) (by decide) (by decide) rfl (Or.inr (gF_up (V := rwV) (F := rwF) ⟨hok.1, hok.2⟩ 39 (u1_rng (hP.2.2 39) (show (-2000000) ≤ 0 ∧ 0 ≤ 2000000 from (by decide))))) dX5_workFacts_190 (fun H locs hP hS => ?_)
            exact g_vret hQ C hr hlocks hP hS dX5_workFacts_191 ⟨(u1 (u1 (u1 (u1 (u1 (u1 (gfill (f 39) 6 0) 0 0) 1 z_9) 2 (f 34 (f 37 z_1))) 3 (f 38 z_1)) 4 0) 5 0), rfl, rfl, rfl, rfl⟩
          · exfalso; omega
      · exfalso; omega
    · refine lv_iconst (v := iI 1) hx hb dX5_workFacts_59 rfl ?_
      refine lv_goto (tgt := 64) hx hb dX5_workFacts_60 (by decide) ?_
      refine lv_istore (lv' := [(7, .int (iI 1)), (6, .int (iI (f 34 (f 37 z_1)))), (5, .int (iI (f 37 z_1))), (4, .int (iI z_1)), (0, .ref (ad 47)), (1, .int (iI a1)), (2, .int (iI a2)), (3, .int (iI a3))]) hx hb dX5_workFacts_64 hl (by decide) rfl (fun ls hl => ?_)
      refine lv_aload_n hx hb dX5_workFacts_66 rfl (lv_at hl 4 rfl) ?_
      refine rwG_results_facts C hP mF_X5_27 dX5_workFacts_67 ?_
      refine lv_iconst (v := iI 0) hx hb dX5_workFacts_70 rfl ?_
      refine lv_iload hx hb dX5_workFacts_71 (lv_at hl 0 rfl) ?_
      refine gi_zeq (tgt := 80) hx hb dX5_workFacts_73 (by decide) (by decide) (fun c_17 => ?_) (fun c_17 => ?_)
      · exfalso; omega
      · refine lv_iconst (v := iI 1) hx hb dX5_workFacts_76 rfl ?_
        refine lv_goto (tgt := 81) hx hb dX5_workFacts_77 (by decide) ?_
        refine rwS_results_facts (f1 := (va_up f 39 (u1 (gfill (f 39) 6 0) 0 1))) C hP hD hS (by decide) (by decide) (by decide) rfl (Or.inr (gF_up (V := rwV) (F := rwF) ⟨hok.1, hok.2⟩ 39 (u1_rng (hP.2.2 39) (show (-2000000) ≤ 1 ∧ 1 ≤ 2000000 from (by decide))))) dX5_workFacts_81 (fun H locs hP hS => ?_)
        refine lv_aload_n hx hb dX5_workFacts_82 rfl (lv_at hl 4 rfl) ?_
        refine rwG_results_facts C hP mF_X5_27 dX5_workFacts_83 ?_
        refine lv_iconst (v := iI 1) hx hb dX5_workFacts_86 rfl ?_
        refine lv_aload_n hx hb dX5_workFacts_87 rfl (lv_at hl 4 rfl) ?_
        refine rwG_results_wall C hP mF_X5_47 dX5_workFacts_88 ?_
        refine lv_iload_n hx hb dX5_workFacts_91 rfl (lv_at hl 5 rfl) ?_
        refine lv_iload_n hx hb dX5_workFacts_92 rfl (lv_at hl 7 rfl) ?_
        refine lv_iload hx hb dX5_workFacts_93 (lv_at hl 1 rfl) ?_
        refine g_cv (As := [.int (iI a1), .int (iI a3), .int (iI (f 34 (f 37 z_1)))]) (rest := [.int (iI 1), .ref (ad 53)]) (n := 3) C hml (c_X8_zonesUpTo l D k A ad hD v (va_up f 39 (u1 (gfill (f 39) 6 0) 0 1)) g a1 a3 (f 34 (f 37 z_1)) (by omega) (by omega) (by omega) (show 0 ≤ a1 ∧ a1 ≤ 3 from by omega) (show 0 ≤ a3 ∧ a3 ≤ 4 from by omega)) mM_X5_114 mI_X8_zonesUpTo mE_X8_zonesUpTo mN_X8 mC_X8_zonesUpTo (by decide +kernel) 23 (ci := 8) rfl rfl hP hS (fun _ h => h) ⟨Nat.le_of_ble_eq_true rfl, Nat.le_of_ble_eq_true rfl⟩ ⟨Nat.zero_le _, Nat.zero_le _⟩ hl.1 rfl rfl (Nat.le_of_ble_eq_true rfl) dX5_workFacts_95 (fun r_18 v_18 f_18 g_18 H locs hq_18 hP _ hS => ?_)
        obtain ⟨z_18, rfl, rfl, rfl, rfl, p0_18⟩ := hq_18
        show W p l e (gRm 2 49) s m args below meth c _ _ 0 0 Q (F0 m 98 ls [.int (iI z_18), .int (iI 1), .ref (ad 53)])
        replace p0_18 : 0 ≤ z_18 ∧ z_18 ≤ 3 := p0_18
        refine rwS_results_facts (f1 := (va_up f 39 (u1 (u1 (gfill (f 39) 6 0) 0 1) 1 z_18))) C hP hD hS (by decide) (by decide) (by omega) rfl (Or.inr (gF_up (V := rwV) (F := rwF) ⟨hok.1, hok.2⟩ 39 (u1_rng (hP.2.2 39) (show (-2000000) ≤ z_18 ∧ z_18 ≤ 2000000 from (by omega))))) dX5_workFacts_98 (fun H locs hP hS => ?_)
        refine lv_aload_n hx hb dX5_workFacts_99 rfl (lv_at hl 4 rfl) ?_
        refine rwG_results_facts C hP mF_X5_27 dX5_workFacts_100 ?_
        refine lv_iconst (v := iI 2) hx hb dX5_workFacts_103 rfl ?_
        refine lv_iload hx hb dX5_workFacts_104 (lv_at hl 1 rfl) ?_
        refine rwS_results_facts (f1 := (va_up f 39 (u1 (u1 (u1 (gfill (f 39) 6 0) 0 1) 1 z_18) 2 (f 34 (f 37 z_1))))) C hP hD hS (by decide) (by decide) (by omega) rfl (Or.inr (gF_up (V := rwV) (F := rwF) ⟨hok.1, hok.2⟩ 39 (u1_rng (hP.2.2 39) (show (-2000000) ≤ (f 34 (f 37 z_1)) ∧ (f 34 (f 37 z_1)) ≤ 2000000 from (by omega))))) dX5_workFacts_106 (fun H locs hP hS => ?_)
        refine lv_aload_n hx hb dX5_workFacts_107 rfl (lv_at hl 4 rfl) ?_
        refine rwG_results_facts C hP mF_X5_27 dX5_workFacts_108 ?_
        refine lv_iconst (v := iI 3) hx hb dX5_workFacts_111 rfl ?_
        refine lv_aload_n hx hb dX5_workFacts_112 rfl (lv_at hl 4 rfl) ?_
        refine rwG_results_bestNumber C hP mF_X5_24 dX5_workFacts_113 ?_
        refine lv_iload hx hb dX5_workFacts_116 (lv_at hl 3 rfl) ?_
        refine rwL_results_bestNumber C hP (by omega) (by omega) dX5_workFacts_118 ?_
        show W p l e (gRm 2 49) s m args below meth c _ _ 0 0 Q (F0 m 119 ls [.int (iI (f 38 z_1)), .int (iI 3), .ref (ad 53)])
        have r_19 : 0 ≤ (f 38 z_1) ∧ (f 38 z_1) ≤ 300 := hP.2.2 38 z_1
        refine rwS_results_facts (f1 := (va_up f 39 (u1 (u1 (u1 (u1 (gfill (f 39) 6 0) 0 1) 1 z_18) 2 (f 34 (f 37 z_1))) 3 (f 38 z_1)))) C hP hD hS (by decide) (by decide) (by omega) rfl (Or.inr (gF_up (V := rwV) (F := rwF) ⟨hok.1, hok.2⟩ 39 (u1_rng (hP.2.2 39) (show (-2000000) ≤ (f 38 z_1) ∧ (f 38 z_1) ≤ 2000000 from (by omega))))) dX5_workFacts_119 (fun H locs hP hS => ?_)
        refine lv_aload_n hx hb dX5_workFacts_120 rfl (lv_at hl 4 rfl) ?_
        refine rwG_results_facts C hP mF_X5_27 dX5_workFacts_121 ?_
        refine lv_iconst (v := iI 4) hx hb dX5_workFacts_124 rfl ?_
        refine lv_aload_n hx hb dX5_workFacts_125 rfl (lv_at hl 4 rfl) ?_
        refine rwG_results_tries C hP mF_X5_55 dX5_workFacts_126 ?_
        refine rwG_tries_how C hP mF_X5_79 dX5_workFacts_129 ?_
        refine lv_iload hx hb dX5_workFacts_132 (lv_at hl 2 rfl) ?_
        refine rwL_tries_how C hP (by omega) (by omega) dX5_workFacts_134 ?_
        show W p l e (gRm 2 49) s m args below meth c _ _ 0 0 Q (F0 m 135 ls [.int (iI (f 26 (f 37 z_1))), .int (iI 4), .ref (ad 53)])
        have r_20 : 0 ≤ (f 26 (f 37 z_1)) ∧ (f 26 (f 37 z_1)) ≤ 4 := hP.2.2 26 (f 37 z_1)
        refine gi_zne (tgt := 142) hx hb dX5_workFacts_135 (by decide) (by omega) (fun c_21 => ?_) (fun c_21 => ?_)
        · refine lv_aload_n hx hb dX5_workFacts_142 rfl (lv_at hl 4 rfl) ?_
          refine rwG_results_tries C hP mF_X5_55 dX5_workFacts_143 ?_
          refine rwG_tries_ended C hP mF_X5_117 dX5_workFacts_146 ?_
          refine lv_iload hx hb dX5_workFacts_149 (lv_at hl 2 rfl) ?_
          refine rwL_tries_ended C hP (by omega) (by omega) dX5_workFacts_151 ?_
          show W p l e (gRm 2 49) s m args below meth c _ _ 0 0 Q (F0 m 152 ls [.int (iI (f 24 (f 37 z_1))), .int (iI 4), .ref (ad 53)])
          have r_22 : (-1) ≤ (f 24 (f 37 z_1)) ∧ (f 24 (f 37 z_1)) ≤ 1000999 := hP.2.2 24 (f 37 z_1)
          refine lv_aload_n hx hb dX5_workFacts_152 rfl (lv_at hl 4 rfl) ?_
          refine rwG_results_tries C hP mF_X5_55 dX5_workFacts_153 ?_
          refine rwG_tries_begun C hP mF_X5_120 dX5_workFacts_156 ?_
          refine lv_iload hx hb dX5_workFacts_159 (lv_at hl 2 rfl) ?_
          refine rwL_tries_begun C hP (by omega) (by omega) dX5_workFacts_161 ?_
          show W p l e (gRm 2 49) s m args below meth c _ _ 0 0 Q (F0 m 162 ls [.int (iI (f 23 (f 37 z_1))), .int (iI (f 24 (f 37 z_1))), .int (iI 4), .ref (ad 53)])
          have r_23 : 0 ≤ (f 23 (f 37 z_1)) ∧ (f 23 (f 37 z_1)) ≤ 1000000 := hP.2.2 23 (f 37 z_1)
          refine gi_sub (z := ((f 24 (f 37 z_1)) - (f 23 (f 37 z_1)))) hx hb dX5_workFacts_162 rfl ?_
          refine rwS_results_facts (f1 := (va_up f 39 (u1 (u1 (u1 (u1 (u1 (gfill (f 39) 6 0) 0 1) 1 z_18) 2 (f 34 (f 37 z_1))) 3 (f 38 z_1)) 4 ((f 24 (f 37 z_1)) - (f 23 (f 37 z_1)))))) C hP hD hS (by decide) (by decide) (by omega) rfl (Or.inr (gF_up (V := rwV) (F := rwF) ⟨hok.1, hok.2⟩ 39 (u1_rng (hP.2.2 39) (show (-2000000) ≤ ((f 24 (f 37 z_1)) - (f 23 (f 37 z_1))) ∧ ((f 24 (f 37 z_1)) - (f 23 (f 37 z_1))) ≤ 2000000 from (by omega))))) dX5_workFacts_163 (fun H locs hP hS => ?_)
          refine lv_aload_n hx hb dX5_workFacts_164 rfl (lv_at hl 4 rfl) ?_
          refine rwG_results_facts C hP mF_X5_27 dX5_workFacts_165 ?_
          refine lv_iconst (v := iI 5) hx hb dX5_workFacts_168 rfl ?_
          refine lv_iload hx hb dX5_workFacts_169 (lv_at hl 0 rfl) ?_
          refine gi_zeq (tgt := 189) hx hb dX5_workFacts_171 (by decide) (by decide) (fun c_24 => ?_) (fun c_24 => ?_)
          · exfalso; omega
          · refine lv_aload_n hx hb dX5_workFacts_174 rfl (lv_at hl 4 rfl) ?_
            refine rwG_results_bestNumber C hP mF_X5_24 dX5_workFacts_175 ?_
            refine lv_iload hx hb dX5_workFacts_178 (lv_at hl 3 rfl) ?_
            refine rwL_results_bestNumber C hP (by omega) (by omega) dX5_workFacts_180 ?_
            show W p l e (gRm 2 49) s m args below meth c _ _ 0 0 Q (F0 m 181 ls [.int (iI (f 38 z_1)), .int (iI 5), .ref (ad 53)])
            refine lv_iconst (v := iI 1) hx hb dX5_workFacts_181 rfl ?_
            refine gi_cne (tgt := 189) hx hb dX5_workFacts_182 (by decide) (by omega) (by decide) (fun c_25 => ?_) (fun c_25 => ?_)
            · refine lv_iconst (v := iI 0) hx hb dX5_workFacts_189 rfl ?_
              refine rwS_results_facts (f1 := (va_up f 39 (u1 (u1 (u1 (u1 (u1 (u1 (gfill (f 39) 6 0) 0 1) 1 z_18) 2 (f 34 (f 37 z_1))) 3 (f 38 z_1)) 4 ((f 24 (f 37 z_1)) - (f 23 (f 37 z_1)))) 5 0))) C hP hD hS (by decide) (by decide) (by decide) rfl (Or.inr (gF_up (V := rwV) (F := rwF) ⟨hok.1, hok.2⟩ 39 (u1_rng (hP.2.2 39) (show (-2000000) ≤ 0 ∧ 0 ≤ 2000000 from (by decide))))) dX5_workFacts_190 (fun H locs hP hS => ?_)
              exact g_vret hQ C hr hlocks hP hS dX5_workFacts_191 ⟨(u1 (u1 (u1 (u1 (u1 (u1 (gfill (f 39) 6 0) 0 1) 1 z_18) 2 (f 34 (f 37 z_1))) 3 (f 38 z_1)) 4 ((f 24 (f 37 z_1)) - (f 23 (f 37 z_1)))) 5 0), rfl, rfl, rfl, rfl⟩
            · refine lv_iconst (v := iI 1) hx hb dX5_workFacts_185 rfl ?_
              refine lv_goto (tgt := 190) hx hb dX5_workFacts_186 (by decide) ?_
              refine rwS_results_facts (f1 := (va_up f 39 (u1 (u1 (u1 (u1 (u1 (u1 (gfill (f 39) 6 0) 0 1) 1 z_18) 2 (f 34 (f 37 z_1))) 3 (f 38 z_1)) 4 ((f 24 (f 37 z_1)) - (f 23 (f 37 z_1)))) 5 1))) C hP hD hS (by decide) (by decide) (by decide) rfl (Or.inr (gF_up (V := rwV) (F := rwF) ⟨hok.1, hok.2⟩ 39 (u1_rng (hP.2.2 39) (show (-2000000) ≤ 1 ∧ 1 ≤ 2000000 from (by decide))))) dX5_workFacts_190 (fun H locs hP hS => ?_)
              exact g_vret hQ C hr hlocks hP hS dX5_workFacts_191 ⟨(u1 (u1 (u1 (u1 (u1 (u1 (gfill (f 39) 6 0) 0 1) 1 z_18) 2 (f 34 (f 37 z_1))) 3 (f 38 z_1)) 4 ((f 24 (f 37 z_1)) - (f 23 (f 37 z_1)))) 5 1), rfl, rfl, rfl, rfl⟩
        · refine lv_iconst (v := iI 0) hx hb dX5_workFacts_138 rfl ?_
          refine lv_goto (tgt := 163) hx hb dX5_workFacts_139 (by decide) ?_
          refine rwS_results_facts (f1 := (va_up f 39 (u1 (u1 (u1 (u1 (u1 (gfill (f 39) 6 0) 0 1) 1 z_18) 2 (f 34 (f 37 z_1))) 3 (f 38 z_1)) 4 0))) C hP hD hS (by decide) (by decide) (by decide) rfl (Or.inr (gF_up (V := rwV) (F := rwF) ⟨hok.1, hok.2⟩ 39 (u1_rng (hP.2.2 39) (show (-2000000) ≤ 0 ∧ 0 ≤ 2000000 from (by decide))))) dX5_workFacts_163 (fun H locs hP hS => ?_)
          refine lv_aload_n hx hb dX5_workFacts_164 rfl (lv_at hl 4 rfl) ?_
          refine rwG_results_facts C hP mF_X5_27 dX5_workFacts_165 ?_
          refine lv_iconst (v := iI 5) hx hb dX5_workFacts_168 rfl ?_
          refine lv_iload hx hb dX5_workFacts_169 (lv_at hl 0 rfl) ?_
          refine gi_zeq (tgt := 189) hx hb dX5_workFacts_171 (by decide) (by decide) (fun c_26 => ?_) (fun c_26 => ?_)
          · exfalso; omega
          · refine lv_aload_n hx hb dX5_workFacts_174 rfl (lv_at hl 4 rfl) ?_
            refine rwG_results_bestNumber C hP mF_X5_24 dX5_workFacts_175 ?_
            refine lv_iload hx hb dX5_workFacts_178 (lv_at hl 3 rfl) ?_
            refine rwL_results_bestNumber C hP (by omega) (by omega) dX5_workFacts_180 ?_
            show W p l e (gRm 2 49) s m args below meth c _ _ 0 0 Q (F0 m 181 ls [.int (iI (f 38 z_1)), .int (iI 5), .ref (ad 53)])
            refine lv_iconst (v := iI 1) hx hb dX5_workFacts_181 rfl ?_
            refine gi_cne (tgt := 189) hx hb dX5_workFacts_182 (by decide) (by omega) (by decide) (fun c_27 => ?_) (fun c_27 => ?_)
            · refine lv_iconst (v := iI 0) hx hb dX5_workFacts_189 rfl ?_
              refine rwS_results_facts (f1 := (va_up f 39 (u1 (u1 (u1 (u1 (u1 (u1 (gfill (f 39) 6 0) 0 1) 1 z_18) 2 (f 34 (f 37 z_1))) 3 (f 38 z_1)) 4 0) 5 0))) C hP hD hS (by decide) (by decide) (by decide) rfl (Or.inr (gF_up (V := rwV) (F := rwF) ⟨hok.1, hok.2⟩ 39 (u1_rng (hP.2.2 39) (show (-2000000) ≤ 0 ∧ 0 ≤ 2000000 from (by decide))))) dX5_workFacts_190 (fun H locs hP hS => ?_)
              exact g_vret hQ C hr hlocks hP hS dX5_workFacts_191 ⟨(u1 (u1 (u1 (u1 (u1 (u1 (gfill (f 39) 6 0) 0 1) 1 z_18) 2 (f 34 (f 37 z_1))) 3 (f 38 z_1)) 4 0) 5 0), rfl, rfl, rfl, rfl⟩
            · refine lv_iconst (v := iI 1) hx hb dX5_workFacts_185 rfl ?_
              refine lv_goto (tgt := 190) hx hb dX5_workFacts_186 (by decide) ?_
              refine rwS_results_facts (f1 := (va_up f 39 (u1 (u1 (u1 (u1 (u1 (u1 (gfill (f 39) 6 0) 0 1) 1 z_18) 2 (f 34 (f 37 z_1))) 3 (f 38 z_1)) 4 0) 5 1))) C hP hD hS (by decide) (by decide) (by decide) rfl (Or.inr (gF_up (V := rwV) (F := rwF) ⟨hok.1, hok.2⟩ 39 (u1_rng (hP.2.2 39) (show (-2000000) ≤ 1 ∧ 1 ≤ 2000000 from (by decide))))) dX5_workFacts_190 (fun H locs hP hS => ?_)
              exact g_vret hQ C hr hlocks hP hS dX5_workFacts_191 ⟨(u1 (u1 (u1 (u1 (u1 (u1 (gfill (f 39) 6 0) 0 1) 1 z_18) 2 (f 34 (f 37 z_1))) 3 (f 38 z_1)) 4 0) 5 1), rfl, rfl, rfl, rfl⟩
  · exact g_vret hQ C hr hlocks hP hS dX5_workFacts_26 ⟨(gfill (f 39) 6 0), rfl, rfl, rfl, rfl⟩

set_option maxHeartbeats 4000000 in
set_option maxRecDepth 100000 in
theorem c_X5_workKeys (l : Launch) (D : va_G) (k : Nat → ClassId) (A : Nat → Prop) (ad : Nat → Nat) (hD : rwD A k ad) (v : gV) (f g : gF) (a1 : Int) (a2 : Int) (h_a1 : inR a1) (h_a2 : inR a2) (hs : shOk (v 1) (f 1)) (h1 : 0 ≤ a1 ∧ a1 ≤ 3) (h2 : 0 ≤ a2 ∧ a2 ≤ 15) : GM l D k A (rwT k ad) yX5_workKeys cX5_workKeys 5 none 3 85 [.ref (ad 47), .int (iI a1), .int (iI a2)] v f g (fun r v1 f1 g1 => ∃ (a39_ : Int → Int) (b0_ : Int → Int) (b2_ : Int → Int) (b3_ : Int → Int), r = none ∧ v = v1 ∧ (va_up f 39 a39_) = f1 ∧ (va_up (va_up (va_up g 0 b0_) 2 b2_) 3 b3_) = g1) := by
  refine GM.of (by decide) (Nat.le_of_ble_eq_true rfl) ?_
  intro p e s m args below meth c Q ls hQ C hml hr hlocks hP hl
  have hx := C.1
  have hb := C.2.1
  have hok := hP.2
  have hS : va_S A s.heap s.heap [] := va_S.rf
  have hl : lv_has ls 5 [(0, .ref (ad 47)), (1, .int (iI a1)), (2, .int (iI a2))] := hl
  have hP : gWd D (rwT k ad) v (va_up f 39 (f 39)) (va_up (va_up (va_up g 0 (g 0)) 2 (g 2)) 3 (g 3)) s.heap := by rw [va_id, va_id, va_id, va_id]; exact hP
  have r_1 : 0 ≤ (v 3) ∧ (v 3) ≤ 4 := hok.1 3
  refine lv_aload_n hx hb dX5_workKeys_0 rfl (lv_at hl 0 rfl) ?_
  refine rwG_results_totals C hP mF_X5_33 dX5_workKeys_1 ?_
  refine lv_lconst (v := iL 0) hx hb dX5_workKeys_4 (by decide) ?_
  refine g_cs (As := [.ref (ad 55), .long (iL 0)]) (rest := []) (n := 2) C hml (c_fillL l D k A (rwT k ad) (ad 55) 55 2 4 (fun _ _ _ => rfl) (fun _ _ _ _ => rfl) hD (by decide) v (va_up f 39 (f 39)) (va_up (va_up (va_up g 0 (g 0)) 2 (g 2)) 3 (g 3)) 0) mM_X5_123 mS_J7_fill_d0a16 mN_J7 mC_J7_fill_d0a16 (by decide +kernel) hP hS (fun _ h => h) ⟨Nat.le_of_ble_eq_true rfl, Nat.le_of_ble_eq_true rfl⟩ ⟨Nat.zero_le _, Nat.zero_le _⟩ hl.1 rfl rfl (Nat.le_of_ble_eq_true rfl) dX5_workKeys_5 (fun r v1 f1 g1 H locs hq hP _ hS => ?_)
  obtain ⟨rfl, rfl, rfl, rfl⟩ := hq
  show W p l e (gRm 3 85) s m args below meth c _ _ 0 0 Q (F0 m 8 ls [])
  have hP : gWd D (rwT k ad) v (va_up f 39 (f 39)) (va_up (va_up (va_up g 0 (g 0)) 2 (gfill (g 2) 4 0)) 3 (g 3)) H := ⟨hP.1, (gF_up (V := rwV) (F := rwF) ⟨hok.1, hok.2⟩ 39 (hP.2.2 39))⟩
  refine lv_iconst (v := iI 0) hx hb dX5_workKeys_8 rfl ?_
  refine lv_istore_n (lv' := [(3, .int (iI 0)), (0, .ref (ad 47)), (1, .int (iI a1)), (2, .int (iI a2))]) hx hb dX5_workKeys_9 rfl hl (by decide) rfl (fun ls hl => ?_)
  have L_2 : ∀ (n : Nat) (x3 : Int) (c39_2 : Int → Int) (d0_2 : Int → Int) (d2_2 : Int → Int) (H : Heap) (locs : List Loc) (ls : Array Slot), 5 - x3 < (n : Int) → (0 ≤ x3 ∧ x3 ≤ 5) → gWd D (rwT k ad) v (va_up f 39 c39_2) (va_up (va_up (va_up g 0 d0_2) 2 d2_2) 3 (g 3)) H → va_S A s.heap H locs → lv_has ls 5 [(0, .ref (ad 47)), (1, .int (iI a1)), (2, .int (iI a2)), (3, .int (iI x3))] → W p l e (gRm 3 85) s m args below meth c H locs 0 0 Q (F0 m 10 ls []) := by
    intro n
    induction n with
    | zero =>
      intro x3 c39_2 d0_2 d2_2 H locs ls hn_2 i2_0 hP hS hl
      exfalso; omega
    | succ n ih_10 =>
      intro x3 c39_2 d0_2 d2_2 H locs ls hn_2 i2_0 hP hS hl
      refine lv_iload_n hx hb dX5_workKeys_10 rfl (lv_at hl 3 rfl) ?_
      refine lv_aload_n hx hb dX5_workKeys_11 rfl (lv_at hl 0 rfl) ?_
      refine rwG_results_laws C hP mF_X5_43 dX5_workKeys_12 ?_
      refine lv_iload_n hx hb dX5_workKeys_15 rfl (lv_at hl 1 rfl) ?_
      refine lv_iconst (v := iI 0) hx hb dX5_workKeys_16 rfl ?_
      refine g_cv (As := [.int (iI a1), .int (iI 0)]) (rest := [.int (iI x3)]) (n := 2) C hml (c_X4_shapeOf l D k A ad hD v (va_up f 39 c39_2) (va_up (va_up (va_up g 0 d0_2) 2 d2_2) 3 (g 3)) a1 0 (by omega) (by decide)) mM_X5_126 mI_X4_shapeOf mE_X4_shapeOf mN_X4 mC_X4_shapeOf (by decide +kernel) 2 (ci := 4) rfl rfl hP hS (fun _ h => h) ⟨Nat.le_of_ble_eq_true rfl, Nat.le_of_ble_eq_true rfl⟩ ⟨Nat.zero_le _, Nat.zero_le _⟩ hl.1 rfl rfl (Nat.le_of_ble_eq_true rfl) dX5_workKeys_17 (fun r_3 v_3 f_3 g_3 H locs hq_3 hP _ hS => ?_)
      obtain ⟨z_3, rfl, rfl, rfl, rfl, p0_3, p1_3⟩ := hq_3
      show W p l e (gRm 3 85) s m args below meth c _ _ 0 0 Q (F0 m 20 ls [.int (iI z_3), .int (iI x3)])
      replace p0_3 : z_3 = (if (0 ≤ a1 ∧ a1 < (v 1)) ∧ 0 ≤ (0 : Int) ∧ (0 : Int) < 4 then (f 1) (a1 * 4 + (0 : Int)) else 0) := p0_3
      replace p1_3 : 0 ≤ z_3 ∧ z_3 ≤ 999999 := p1_3
      have hz_3 : inR z_3 := (by first | omega | (rw [p0_3]; split <;> omega))
      have q_3 := sh0 hs p0_3
      refine gi_cge (tgt := 121) hx hb dX5_workKeys_20 (by decide) (by omega) (by omega) (fun c_4 => ?_) (fun c_4 => ?_)
      · refine lv_iconst (v := iI 0) hx hb dX5_workKeys_121 rfl ?_
        refine lv_istore_n (lv' := [(3, .int (iI 0)), (0, .ref (ad 47)), (1, .int (iI a1)), (2, .int (iI a2))]) hx hb dX5_workKeys_122 rfl hl (by decide) rfl (fun ls hl => ?_)
        have L_5 : ∀ (n : Nat) (x3 : Int) (d3_5 : Int → Int) (H : Heap) (locs : List Loc) (ls : Array Slot), 4 - x3 < (n : Int) → (0 ≤ x3 ∧ x3 ≤ (v 3)) → gWd D (rwT k ad) v (va_up f 39 c39_2) (va_up (va_up (va_up g 0 d0_2) 2 d2_2) 3 d3_5) H → va_S A s.heap H locs → lv_has ls 5 [(0, .ref (ad 47)), (1, .int (iI a1)), (2, .int (iI a2)), (3, .int (iI x3))] → W p l e (gRm 3 85) s m args below meth c H locs 0 0 Q (F0 m 123 ls []) := by
          intro n
          induction n with
          | zero =>
            intro x3 d3_5 H locs ls hn_5 i5_0 hP hS hl
            exfalso; omega
          | succ n ih_123 =>
            intro x3 d3_5 H locs ls hn_5 i5_0 hP hS hl
            refine lv_iload_n hx hb dX5_workKeys_123 rfl (lv_at hl 3 rfl) ?_
            refine lv_aload_n hx hb dX5_workKeys_124 rfl (lv_at hl 0 rfl) ?_
            refine rwG_results_laws C hP mF_X5_43 dX5_workKeys_125 ?_
            refine rwG_laws_keys C hP mF_X5_145 dX5_workKeys_128 ?_
            refine gi_cge (tgt := 166) hx hb dX5_workKeys_131 (by decide) (by omega) (by omega) (fun c_6 => ?_) (fun c_6 => ?_)
            · exact g_vret hQ C hr hlocks hP hS dX5_workKeys_166 ⟨c39_2, d0_2, d2_2, d3_5, rfl, rfl, rfl, rfl⟩
            · refine lv_aload_n hx hb dX5_workKeys_134 rfl (lv_at hl 0 rfl) ?_
              refine rwG_results_keyRows C hP mF_X5_37 dX5_workKeys_135 ?_
              refine lv_iload_n hx hb dX5_workKeys_138 rfl (lv_at hl 1 rfl) ?_
              refine lv_iload_n hx hb dX5_workKeys_139 rfl (lv_at hl 2 rfl) ?_
              refine g_cs (As := [.int (iI a1), .int (iI a2)]) (rest := [.ref (ad 56)]) (n := 2) C hml (c_X5_keyRow l D k A ad hD v (va_up f 39 c39_2) (va_up (va_up (va_up g 0 d0_2) 2 d2_2) 3 d3_5) a1 a2 (by omega) (by omega) (show 0 ≤ a1 ∧ a1 ≤ 3 from by omega) (show 0 ≤ a2 ∧ a2 ≤ 15 from by omega)) mM_X5_148 mS_X5_keyRow mN_X5 mC_X5_keyRow (by decide +kernel) hP hS (fun _ h => h) ⟨Nat.le_of_ble_eq_true rfl, Nat.le_of_ble_eq_true rfl⟩ ⟨Nat.zero_le _, Nat.zero_le _⟩ hl.1 rfl rfl (Nat.le_of_ble_eq_true rfl) dX5_workKeys_140 (fun r_7 v_7 f_7 g_7 H locs hq_7 hP _ hS => ?_)
              obtain ⟨z_7, rfl, rfl, rfl, rfl, p0_7⟩ := hq_7
              show W p l e (gRm 3 85) s m args below meth c _ _ 0 0 Q (F0 m 143 ls [.int (iI z_7), .ref (ad 56)])
              replace p0_7 : z_7 = ((a1 * 16 + a2) * 4) := p0_7
              have hz_7 : inR z_7 := (by first | omega | (rw [p0_7]; split <;> omega))
              refine lv_iload_n hx hb dX5_workKeys_143 rfl (lv_at hl 3 rfl) ?_
              refine gi_add (z := (z_7 + x3)) hx hb dX5_workKeys_144 rfl ?_
              refine lv_aload_n hx hb dX5_workKeys_145 rfl (lv_at hl 0 rfl) ?_
              refine rwG_results_totals C hP mF_X5_33 dX5_workKeys_146 ?_
              refine lv_aload_n hx hb dX5_workKeys_149 rfl (lv_at hl 0 rfl) ?_
              refine rwG_results_laws C hP mF_X5_43 dX5_workKeys_150 ?_
              refine rwG_laws_keyKind C hP mF_X5_151 dX5_workKeys_153 ?_
              refine lv_iload_n hx hb dX5_workKeys_156 rfl (lv_at hl 3 rfl) ?_
              refine rwL_laws_keyKind C hP (by omega) (by omega) dX5_workKeys_157 ?_
              show W p l e (gRm 3 85) s m args below meth c _ _ 0 0 Q (F0 m 158 ls [.int (iI (f 4 x3)), .ref (ad 55), .int (iI (z_7 + x3)), .ref (ad 56)])
              have r_8 : 0 ≤ (f 4 x3) ∧ (f 4 x3) ≤ 3 := hP.2.2 4 x3
              refine rwL_results_totals C hP (by omega) (by omega) dX5_workKeys_158 ?_
              show W p l e (gRm 3 85) s m args below meth c _ _ 0 0 Q (F0 m 159 ls [.long (iL (d2_2 (f 4 x3))), .int (iI (z_7 + x3)), .ref (ad 56)])
              refine rwS_results_keyRows (g1 := (va_up (va_up (va_up g 0 d0_2) 2 d2_2) 3 (u1 d3_5 (z_7 + x3) (d2_2 (f 4 x3))))) C hP hD hS (by omega) (by omega) rfl dX5_workKeys_159 (fun H locs hP hS => ?_)
              refine lv_iinc (v := iI (x3 + 1)) (lv' := [(3, .int (iI (x3 + 1))), (0, .ref (ad 47)), (1, .int (iI a1)), (2, .int (iI a2))]) hx hb dX5_workKeys_160 hl (k := 3) rfl (by show iI _ + iI 1 = _; rw [iI_add]) (by decide) rfl (fun ls hl => ?_)
              refine lv_goto (tgt := 123) hx hb dX5_workKeys_163 (by decide) ?_
              exact ih_123 (x3 + 1) (u1 d3_5 (z_7 + x3) (d2_2 (f 4 x3))) _ _ _ (by omega) (by omega) hP hS (lv_sub hl [1, 2, 3, 0] rfl)
        exact L_5 5 0 (g 3) _ _ _ (by omega) (by omega) hP hS (lv_sub hl [1, 2, 3, 0] rfl)
      · refine lv_aload_n hx hb dX5_workKeys_23 rfl (lv_at hl 0 rfl) ?_
        refine lv_iload_n hx hb dX5_workKeys_24 rfl (lv_at hl 1 rfl) ?_
        refine lv_iload_n hx hb dX5_workKeys_25 rfl (lv_at hl 2 rfl) ?_
        refine lv_iload_n hx hb dX5_workKeys_26 rfl (lv_at hl 3 rfl) ?_
        refine g_cv (As := [.int (iI a1), .int (iI a2), .int (iI x3)]) (rest := []) (n := 3) C hml (c_X5_workFacts l D k A ad hD v (va_up f 39 c39_2) (va_up (va_up (va_up g 0 d0_2) 2 d2_2) 3 (g 3)) a1 a2 x3 (by omega) (by omega) (by omega) (show 0 ≤ a1 ∧ a1 ≤ 3 from by omega) (show 0 ≤ a2 ∧ a2 ≤ 15 from by omega) (show 0 ≤ x3 ∧ x3 ≤ 4 from by omega)) mM_X5_131 mI_X5_workFacts mE_X5_workFacts mN_X5 mC_X5_workFacts (by decide +kernel) 47 (ci := 5) rfl rfl hP hS (fun _ h => h) ⟨Nat.le_of_ble_eq_true rfl, Nat.le_of_ble_eq_true rfl⟩ ⟨Nat.zero_le _, Nat.zero_le _⟩ hl.1 rfl rfl (Nat.le_of_ble_eq_true rfl) dX5_workKeys_27 (fun r_9 v_9 f_9 g_9 H locs hq_9 hP _ hS => ?_)
        obtain ⟨a39_9, rfl, rfl, rfl, rfl⟩ := hq_9
        show W p l e (gRm 3 85) s m args below meth c _ _ 0 0 Q (F0 m 30 ls [])
        have hP : gWd D (rwT k ad) v (va_up f 39 a39_9) (va_up (va_up (va_up g 0 d0_2) 2 d2_2) 3 (g 3)) H := ⟨hP.1, (gF_up (V := rwV) (F := rwF) ⟨hok.1, hok.2⟩ 39 (hP.2.2 39))⟩
        refine lv_aload_n hx hb dX5_workKeys_30 rfl (lv_at hl 0 rfl) ?_
        refine rwG_results_laws C hP mF_X5_43 dX5_workKeys_31 ?_
        refine lv_aload_n hx hb dX5_workKeys_34 rfl (lv_at hl 0 rfl) ?_
        refine rwG_results_facts C hP mF_X5_27 dX5_workKeys_35 ?_
        refine g_cv (As := [.ref (ad 53)]) (rest := []) (n := 1) C hml (c_X4_pointsFor l D k A ad hD v (va_up f 39 a39_9) (va_up (va_up (va_up g 0 d0_2) 2 d2_2) 3 (g 3))) mM_X5_135 mI_X4_pointsFor mE_X4_pointsFor mN_X4 mC_X4_pointsFor (by decide +kernel) 2 (ci := 4) rfl rfl hP hS (fun _ h => h) ⟨Nat.le_of_ble_eq_true rfl, Nat.le_of_ble_eq_true rfl⟩ ⟨Nat.zero_le _, Nat.zero_le _⟩ hl.1 rfl rfl (Nat.le_of_ble_eq_true rfl) dX5_workKeys_38 (fun r_10 v_10 f_10 g_10 H locs hq_10 hP _ hS => ?_)
        obtain ⟨z_10, b0_10, rfl, rfl, rfl, rfl, p0_10⟩ := hq_10
        show W p l e (gRm 3 85) s m args below meth c _ _ 0 0 Q (F0 m 41 ls [.int (iI z_10)])
        have hP : gWd D (rwT k ad) v (va_up f 39 a39_9) (va_up (va_up (va_up g 0 b0_10) 2 d2_2) 3 (g 3)) H := ⟨hP.1, (gF_up (V := rwV) (F := rwF) ⟨hok.1, hok.2⟩ 39 (hP.2.2 39))⟩
        replace p0_10 : (-2147483648) ≤ z_10 ∧ z_10 ≤ 2147483647 := p0_10
        refine lv_istore (lv' := [(4, .int (iI z_10)), (0, .ref (ad 47)), (1, .int (iI a1)), (2, .int (iI a2)), (3, .int (iI x3))]) hx hb dX5_workKeys_41 hl (by decide) rfl (fun ls hl => ?_)
        refine lv_aload_n hx hb dX5_workKeys_43 rfl (lv_at hl 1 rfl) ?_
        refine rwG_results_totals C hP mF_X5_33 dX5_workKeys_44 ?_
        refine lv_iconst (v := iI 0) hx hb dX5_workKeys_47 rfl ?_
        refine lv_dup2_11 hx hb dX5_workKeys_48 rfl rfl ?_
        refine rwL_results_totals C hP (by decide) (by decide) dX5_workKeys_49 ?_
        show W p l e (gRm 3 85) s m args below meth c _ _ 0 0 Q (F0 m 50 ls [.long (iL (d2_2 0)), .int (iI 0), .ref (ad 55)])
        refine lv_iload hx hb dX5_workKeys_50 (lv_at hl 0 rfl) ?_
        refine gi_i2l hx hb (by omega) dX5_workKeys_52 ?_
        refine gl_add (z := ((d2_2 0) + z_10)) hx hb dX5_workKeys_53 rfl ?_
        refine rwS_results_totals (g1 := (va_up (va_up (va_up g 0 b0_10) 2 (u1 d2_2 0 ((d2_2 0) + z_10))) 3 (g 3))) C hP hD hS (by decide) (by decide) rfl dX5_workKeys_54 (fun H locs hP hS => ?_)
        refine lv_aload_n hx hb dX5_workKeys_55 rfl (lv_at hl 1 rfl) ?_
        refine rwG_results_totals C hP mF_X5_33 dX5_workKeys_56 ?_
        refine lv_iconst (v := iI 1) hx hb dX5_workKeys_59 rfl ?_
        refine lv_iload_n hx hb dX5_workKeys_60 rfl (lv_at hl 4 rfl) ?_
        refine gi_zne (tgt := 70) hx hb dX5_workKeys_61 (by decide) (by omega) (fun c_11 => ?_) (fun c_11 => ?_)
        · refine lv_aload_n hx hb dX5_workKeys_70 rfl (lv_at hl 1 rfl) ?_
          refine rwG_results_totals C hP mF_X5_33 dX5_workKeys_71 ?_
          refine lv_iconst (v := iI 1) hx hb dX5_workKeys_74 rfl ?_
          refine rwL_results_totals C hP (by decide) (by decide) dX5_workKeys_75 ?_
          show W p l e (gRm 3 85) s m args below meth c _ _ 0 0 Q (F0 m 76 ls [.long (iL ((u1 d2_2 0 ((d2_2 0) + z_10)) 1)), .int (iI 1), .ref (ad 55)])
          refine lv_iload hx hb dX5_workKeys_76 (lv_at hl 0 rfl) ?_
          refine gi_i2l hx hb (by omega) dX5_workKeys_78 ?_
          refine gl_max C hml hl.1 mM_X5_139 (Nat.le_of_ble_eq_true rfl) (Nat.le_of_ble_eq_true rfl) dX5_workKeys_79 (fun x_12 ex_12 => ?_)
          refine rwS_results_totals (g1 := (va_up (va_up (va_up g 0 b0_10) 2 (u1 (u1 d2_2 0 ((d2_2 0) + z_10)) 1 x_12)) 3 (g 3))) C hP hD hS (by decide) (by decide) rfl dX5_workKeys_82 (fun H locs hP hS => ?_)
          refine lv_aload_n hx hb dX5_workKeys_83 rfl (lv_at hl 1 rfl) ?_
          refine rwG_results_totals C hP mF_X5_33 dX5_workKeys_84 ?_
          refine lv_iconst (v := iI 2) hx hb dX5_workKeys_87 rfl ?_
          refine lv_dup2_11 hx hb dX5_workKeys_88 rfl rfl ?_
          refine rwL_results_totals C hP (by decide) (by decide) dX5_workKeys_89 ?_
          show W p l e (gRm 3 85) s m args below meth c _ _ 0 0 Q (F0 m 90 ls [.long (iL ((u1 (u1 d2_2 0 ((d2_2 0) + z_10)) 1 x_12) 2)), .int (iI 2), .ref (ad 55)])
          refine lv_aload_n hx hb dX5_workKeys_90 rfl (lv_at hl 1 rfl) ?_
          refine rwG_results_facts C hP mF_X5_27 dX5_workKeys_91 ?_
          refine lv_iconst (v := iI 0) hx hb dX5_workKeys_94 rfl ?_
          refine rwL_results_facts C hP (by decide) (by decide) dX5_workKeys_95 ?_
          show W p l e (gRm 3 85) s m args below meth c _ _ 0 0 Q (F0 m 96 ls [.int (iI (a39_9 0)), .long (iL ((u1 (u1 d2_2 0 ((d2_2 0) + z_10)) 1 x_12) 2)), .int (iI 2), .ref (ad 55)])
          have r_13 : (-2000000) ≤ (a39_9 0) ∧ (a39_9 0) ≤ 2000000 := hP.2.2 39 0
          refine gi_i2l hx hb (by omega) dX5_workKeys_96 ?_
          refine gl_add (z := (((u1 (u1 d2_2 0 ((d2_2 0) + z_10)) 1 x_12) 2) + (a39_9 0))) hx hb dX5_workKeys_97 rfl ?_
          refine rwS_results_totals (g1 := (va_up (va_up (va_up g 0 b0_10) 2 (u1 (u1 (u1 d2_2 0 ((d2_2 0) + z_10)) 1 x_12) 2 (((u1 (u1 d2_2 0 ((d2_2 0) + z_10)) 1 x_12) 2) + (a39_9 0)))) 3 (g 3))) C hP hD hS (by decide) (by decide) rfl dX5_workKeys_98 (fun H locs hP hS => ?_)
          refine lv_aload_n hx hb dX5_workKeys_99 rfl (lv_at hl 1 rfl) ?_
          refine rwG_results_totals C hP mF_X5_33 dX5_workKeys_100 ?_
          refine lv_iconst (v := iI 3) hx hb dX5_workKeys_103 rfl ?_
          refine lv_dup2_11 hx hb dX5_workKeys_104 rfl rfl ?_
          refine rwL_results_totals C hP (by decide) (by decide) dX5_workKeys_105 ?_
          show W p l e (gRm 3 85) s m args below meth c _ _ 0 0 Q (F0 m 106 ls [.long (iL ((u1 (u1 (u1 d2_2 0 ((d2_2 0) + z_10)) 1 x_12) 2 (((u1 (u1 d2_2 0 ((d2_2 0) + z_10)) 1 x_12) 2) + (a39_9 0))) 3)), .int (iI 3), .ref (ad 55)])
          refine lv_aload_n hx hb dX5_workKeys_106 rfl (lv_at hl 1 rfl) ?_
          refine rwG_results_facts C hP mF_X5_27 dX5_workKeys_107 ?_
          refine lv_iconst (v := iI 1) hx hb dX5_workKeys_110 rfl ?_
          refine rwL_results_facts C hP (by decide) (by decide) dX5_workKeys_111 ?_
          show W p l e (gRm 3 85) s m args below meth c _ _ 0 0 Q (F0 m 112 ls [.int (iI (a39_9 1)), .long (iL ((u1 (u1 (u1 d2_2 0 ((d2_2 0) + z_10)) 1 x_12) 2 (((u1 (u1 d2_2 0 ((d2_2 0) + z_10)) 1 x_12) 2) + (a39_9 0))) 3)), .int (iI 3), .ref (ad 55)])
          have r_14 : (-2000000) ≤ (a39_9 1) ∧ (a39_9 1) ≤ 2000000 := hP.2.2 39 1
          refine gi_i2l hx hb (by omega) dX5_workKeys_112 ?_
          refine gl_add (z := (((u1 (u1 (u1 d2_2 0 ((d2_2 0) + z_10)) 1 x_12) 2 (((u1 (u1 d2_2 0 ((d2_2 0) + z_10)) 1 x_12) 2) + (a39_9 0))) 3) + (a39_9 1))) hx hb dX5_workKeys_113 rfl ?_
          refine rwS_results_totals (g1 := (va_up (va_up (va_up g 0 b0_10) 2 (u1 (u1 (u1 (u1 d2_2 0 ((d2_2 0) + z_10)) 1 x_12) 2 (((u1 (u1 d2_2 0 ((d2_2 0) + z_10)) 1 x_12) 2) + (a39_9 0))) 3 (((u1 (u1 (u1 d2_2 0 ((d2_2 0) + z_10)) 1 x_12) 2 (((u1 (u1 d2_2 0 ((d2_2 0) + z_10)) 1 x_12) 2) + (a39_9 0))) 3) + (a39_9 1)))) 3 (g 3))) C hP hD hS (by decide) (by decide) rfl dX5_workKeys_114 (fun H locs hP hS => ?_)
          refine lv_iinc (v := iI (x3 + 1)) (lv' := [(3, .int (iI (x3 + 1))), (4, .int (iI z_10)), (0, .ref (ad 47)), (1, .int (iI a1)), (2, .int (iI a2))]) hx hb dX5_workKeys_115 hl (k := 4) rfl (by show iI _ + iI 1 = _; rw [iI_add]) (by decide) rfl (fun ls hl => ?_)
          refine lv_goto (tgt := 10) hx hb dX5_workKeys_118 (by decide) ?_
          exact ih_10 (x3 + 1) a39_9 b0_10 (u1 (u1 (u1 (u1 d2_2 0 ((d2_2 0) + z_10)) 1 x_12) 2 (((u1 (u1 d2_2 0 ((d2_2 0) + z_10)) 1 x_12) 2) + (a39_9 0))) 3 (((u1 (u1 (u1 d2_2 0 ((d2_2 0) + z_10)) 1 x_12) 2 (((u1 (u1 d2_2 0 ((d2_2 0) + z_10)) 1 x_12) 2) + (a39_9 0))) 3) + (a39_9 1))) _ _ _ (by omega) (by omega) hP hS (lv_sub hl [2, 3, 4, 0] rfl)
        · refine lv_iload hx hb dX5_workKeys_64 (lv_at hl 0 rfl) ?_
          refine gi_i2l hx hb (by omega) dX5_workKeys_66 ?_
          refine lv_goto (tgt := 82) hx hb dX5_workKeys_67 (by decide) ?_
          refine rwS_results_totals (g1 := (va_up (va_up (va_up g 0 b0_10) 2 (u1 (u1 d2_2 0 ((d2_2 0) + z_10)) 1 z_10)) 3 (g 3))) C hP hD hS (by decide) (by decide) rfl dX5_workKeys_82 (fun H locs hP hS => ?_)
          refine lv_aload_n hx hb dX5_workKeys_83 rfl (lv_at hl 1 rfl) ?_
          refine rwG_results_totals C hP mF_X5_33 dX5_workKeys_84 ?_
          refine lv_iconst (v := iI 2) hx hb dX5_workKeys_87 rfl ?_
          refine lv_dup2_11 hx hb dX5_workKeys_88 rfl rfl ?_
          refine rwL_results_totals C hP (by decide) (by decide) dX5_workKeys_89 ?_
          show W p l e (gRm 3 85) s m args below meth c _ _ 0 0 Q (F0 m 90 ls [.long (iL ((u1 (u1 d2_2 0 ((d2_2 0) + z_10)) 1 z_10) 2)), .int (iI 2), .ref (ad 55)])
          refine lv_aload_n hx hb dX5_workKeys_90 rfl (lv_at hl 1 rfl) ?_
          refine rwG_results_facts C hP mF_X5_27 dX5_workKeys_91 ?_
          refine lv_iconst (v := iI 0) hx hb dX5_workKeys_94 rfl ?_
          refine rwL_results_facts C hP (by decide) (by decide) dX5_workKeys_95 ?_
          show W p l e (gRm 3 85) s m args below meth c _ _ 0 0 Q (F0 m 96 ls [.int (iI (a39_9 0)), .long (iL ((u1 (u1 d2_2 0 ((d2_2 0) + z_10)) 1 z_10) 2)), .int (iI 2), .ref (ad 55)])
          have r_15 : (-2000000) ≤ (a39_9 0) ∧ (a39_9 0) ≤ 2000000 := hP.2.2 39 0
          refine gi_i2l hx hb (by omega) dX5_workKeys_96 ?_
          refine gl_add (z := (((u1 (u1 d2_2 0 ((d2_2 0) + z_10)) 1 z_10) 2) + (a39_9 0))) hx hb dX5_workKeys_97 rfl ?_
          refine rwS_results_totals (g1 := (va_up (va_up (va_up g 0 b0_10) 2 (u1 (u1 (u1 d2_2 0 ((d2_2 0) + z_10)) 1 z_10) 2 (((u1 (u1 d2_2 0 ((d2_2 0) + z_10)) 1 z_10) 2) + (a39_9 0)))) 3 (g 3))) C hP hD hS (by decide) (by decide) rfl dX5_workKeys_98 (fun H locs hP hS => ?_)
          refine lv_aload_n hx hb dX5_workKeys_99 rfl (lv_at hl 1 rfl) ?_
          refine rwG_results_totals C hP mF_X5_33 dX5_workKeys_100 ?_
          refine lv_iconst (v := iI 3) hx hb dX5_workKeys_103 rfl ?_
          refine lv_dup2_11 hx hb dX5_workKeys_104 rfl rfl ?_
          refine rwL_results_totals C hP (by decide) (by decide) dX5_workKeys_105 ?_
          show W p l e (gRm 3 85) s m args below meth c _ _ 0 0 Q (F0 m 106 ls [.long (iL ((u1 (u1 (u1 d2_2 0 ((d2_2 0) + z_10)) 1 z_10) 2 (((u1 (u1 d2_2 0 ((d2_2 0) + z_10)) 1 z_10) 2) + (a39_9 0))) 3)), .int (iI 3), .ref (ad 55)])
          refine lv_aload_n hx hb dX5_workKeys_106 rfl (lv_at hl 1 rfl) ?_
          refine rwG_results_facts C hP mF_X5_27 dX5_workKeys_107 ?_
          refine lv_iconst (v := iI 1) hx hb dX5_workKeys_110 rfl ?_
          refine rwL_results_facts C hP (by decide) (by decide) dX5_workKeys_111 ?_
          show W p l e (gRm 3 85) s m args below meth c _ _ 0 0 Q (F0 m 112 ls [.int (iI (a39_9 1)), .long (iL ((u1 (u1 (u1 d2_2 0 ((d2_2 0) + z_10)) 1 z_10) 2 (((u1 (u1 d2_2 0 ((d2_2 0) + z_10)) 1 z_10) 2) + (a39_9 0))) 3)), .int (iI 3), .ref (ad 55)])
          have r_16 : (-2000000) ≤ (a39_9 1) ∧ (a39_9 1) ≤ 2000000 := hP.2.2 39 1
          refine gi_i2l hx hb (by omega) dX5_workKeys_112 ?_
          refine gl_add (z := (((u1 (u1 (u1 d2_2 0 ((d2_2 0) + z_10)) 1 z_10) 2 (((u1 (u1 d2_2 0 ((d2_2 0) + z_10)) 1 z_10) 2) + (a39_9 0))) 3) + (a39_9 1))) hx hb dX5_workKeys_113 rfl ?_
          refine rwS_results_totals (g1 := (va_up (va_up (va_up g 0 b0_10) 2 (u1 (u1 (u1 (u1 d2_2 0 ((d2_2 0) + z_10)) 1 z_10) 2 (((u1 (u1 d2_2 0 ((d2_2 0) + z_10)) 1 z_10) 2) + (a39_9 0))) 3 (((u1 (u1 (u1 d2_2 0 ((d2_2 0) + z_10)) 1 z_10) 2 (((u1 (u1 d2_2 0 ((d2_2 0) + z_10)) 1 z_10) 2) + (a39_9 0))) 3) + (a39_9 1)))) 3 (g 3))) C hP hD hS (by decide) (by decide) rfl dX5_workKeys_114 (fun H locs hP hS => ?_)
          refine lv_iinc (v := iI (x3 + 1)) (lv' := [(3, .int (iI (x3 + 1))), (4, .int (iI z_10)), (0, .ref (ad 47)), (1, .int (iI a1)), (2, .int (iI a2))]) hx hb dX5_workKeys_115 hl (k := 4) rfl (by show iI _ + iI 1 = _; rw [iI_add]) (by decide) rfl (fun ls hl => ?_)
          refine lv_goto (tgt := 10) hx hb dX5_workKeys_118 (by decide) ?_
          exact ih_10 (x3 + 1) a39_9 b0_10 (u1 (u1 (u1 (u1 d2_2 0 ((d2_2 0) + z_10)) 1 z_10) 2 (((u1 (u1 d2_2 0 ((d2_2 0) + z_10)) 1 z_10) 2) + (a39_9 0))) 3 (((u1 (u1 (u1 d2_2 0 ((d2_2 0) + z_10)) 1 z_10) 2 (((u1 (u1 d2_2 0 ((d2_2 0) + z_10)) 1 z_10) 2) + (a39_9 0))) 3) + (a39_9 1))) _ _ _ (by omega) (by omega) hP hS (lv_sub hl [2, 3, 4, 0] rfl)
  exact L_2 6 0 (f 39) (g 0) (gfill (g 2) 4 0) _ _ _ (by omega) (by omega) hP hS (lv_sub hl [1, 2, 3, 0] rfl)

set_option maxHeartbeats 4000000 in
set_option maxRecDepth 100000 in
theorem c_X5_keyOf (l : Launch) (D : va_G) (k : Nat → ClassId) (A : Nat → Prop) (ad : Nat → Nat) (hD : rwD A k ad) (v : gV) (f g : gF) (a1 : Int) (a2 : Int) (a3 : Int) (h_a1 : inR a1) (h_a2 : inR a2) (h_a3 : inR a3) (h1 : 0 ≤ a1 ∧ a1 ≤ 3) (h2 : 0 ≤ a2 ∧ a2 ≤ 15) (h3 : 0 ≤ a3 ∧ a3 < 4) : GM l D k A (rwT k ad) yX5_keyOf cX5_keyOf 4 (some .long) 1 21 [.ref (ad 47), .int (iI a1), .int (iI a2), .int (iI a3)] v f g (fun r v1 f1 g1 => ∃ (z : Int), r = some (.long (iL z)) ∧ v = v1 ∧ f = f1 ∧ g = g1) := by
  refine GM.of (by decide) (Nat.le_of_ble_eq_true rfl) ?_
  intro p e s m args below meth c Q ls hQ C hml hr hlocks hP hl
  have hx := C.1
  have hb := C.2.1
  have hok := hP.2
  have hS : va_S A s.heap s.heap [] := va_S.rf
  have hl : lv_has ls 4 [(0, .ref (ad 47)), (1, .int (iI a1)), (2, .int (iI a2)), (3, .int (iI a3))] := hl
  refine lv_aload_n hx hb dX5_keyOf_0 rfl (lv_at hl 0 rfl) ?_
  refine rwG_results_keyRows C hP mF_X5_37 dX5_keyOf_1 ?_
  refine lv_iload_n hx hb dX5_keyOf_4 rfl (lv_at hl 1 rfl) ?_
  refine lv_iload_n hx hb dX5_keyOf_5 rfl (lv_at hl 2 rfl) ?_
  refine g_cs (As := [.int (iI a1), .int (iI a2)]) (rest := [.ref (ad 56)]) (n := 2) C hml (c_X5_keyRow l D k A ad hD v f g a1 a2 (by omega) (by omega) (show 0 ≤ a1 ∧ a1 ≤ 3 from by omega) (show 0 ≤ a2 ∧ a2 ≤ 15 from by omega)) mM_X5_148 mS_X5_keyRow mN_X5 mC_X5_keyRow (by decide +kernel) hP hS (fun _ h => h) ⟨Nat.le_of_ble_eq_true rfl, Nat.le_of_ble_eq_true rfl⟩ ⟨Nat.zero_le _, Nat.zero_le _⟩ hl.1 rfl rfl (Nat.le_of_ble_eq_true rfl) dX5_keyOf_6 (fun r_1 v_1 f_1 g_1 H locs hq_1 hP _ hS => ?_)
  obtain ⟨z_1, rfl, rfl, rfl, rfl, p0_1⟩ := hq_1
  show W p l e (gRm 1 21) s m args below meth c _ _ 0 0 Q (F0 m 9 ls [.int (iI z_1), .ref (ad 56)])
  replace p0_1 : z_1 = ((a1 * 16 + a2) * 4) := p0_1
  have hz_1 : inR z_1 := (by first | omega | (rw [p0_1]; split <;> omega))
  refine lv_iload_n hx hb dX5_keyOf_9 rfl (lv_at hl 3 rfl) ?_
  refine gi_add (z := (z_1 + a3)) hx hb dX5_keyOf_10 rfl ?_
  refine rwL_results_keyRows C hP (by omega) (by omega) dX5_keyOf_11 ?_
  exact g_lret hQ C hr hlocks hP hS dX5_keyOf_12 ⟨(g 3 (z_1 + a3)), rfl, rfl, rfl, rfl⟩

set_option maxHeartbeats 4000000 in
set_option maxRecDepth 100000 in
theorem c_X5_lowestAsked (l : Launch) (D : va_G) (k : Nat → ClassId) (A : Nat → Prop) (ad : Nat → Nat) (hD : rwD A k ad) (v : gV) (f g : gF) (a1 : Int) (h_a1 : inR a1) (h1 : 0 ≤ a1) : GM l D k A (rwT k ad) yX5_lowestAsked cX5_lowestAsked 2 (some .int) 0 0 [.ref (ad 47), .int (iI a1)] v f g (fun r v1 f1 g1 => ∃ (z : Int), r = some (.int (iI z)) ∧ v = v1 ∧ f = f1 ∧ g = g1 ∧ (z = (if (v 4) = 0 then a1 else 0)) ∧ (0 ≤ z ∧ z ≤ a1)) := by
  refine GM.of (by decide) (Nat.le_of_ble_eq_true rfl) ?_
  intro p e s m args below meth c Q ls hQ C hml hr hlocks hP hl
  have hx := C.1
  have hb := C.2.1
  have hok := hP.2
  have hS : va_S A s.heap s.heap [] := va_S.rf
  have hl : lv_has ls 2 [(0, .ref (ad 47)), (1, .int (iI a1))] := hl
  refine lv_aload_n hx hb dX5_lowestAsked_0 rfl (lv_at hl 0 rfl) ?_
  refine rwG_results_laws C hP mF_X5_43 dX5_lowestAsked_1 ?_
  refine rwG_laws_back C hP mF_X5_181 dX5_lowestAsked_4 ?_
  have r_1 : 0 ≤ (v 4) ∧ (v 4) ≤ 1 := hok.1 4
  refine gi_zeq (tgt := 14) hx hb dX5_lowestAsked_7 (by decide) (by omega) (fun c_2 => ?_) (fun c_2 => ?_)
  · refine lv_iload_n hx hb dX5_lowestAsked_14 rfl (lv_at hl 1 rfl) ?_
    exact g_iret hQ C hr hlocks hP hS dX5_lowestAsked_15 ⟨a1, rfl, rfl, rfl, rfl, (by first | omega | (split <;> omega)), (by first | omega | (split <;> omega))⟩
  · refine lv_iconst (v := iI 0) hx hb dX5_lowestAsked_10 rfl ?_
    refine lv_goto (tgt := 15) hx hb dX5_lowestAsked_11 (by decide) ?_
    exact g_iret hQ C hr hlocks hP hS dX5_lowestAsked_15 ⟨0, rfl, rfl, rfl, rfl, (by first | omega | (split <;> omega)), (by first | omega | (split <;> omega))⟩

set_option maxHeartbeats 4000000 in
set_option maxRecDepth 100000 in
theorem c_X5_isAhead (l : Launch) (D : va_G) (k : Nat → ClassId) (A : Nat → Prop) (ad : Nat → Nat) (hD : rwD A k ad) (v : gV) (f g : gF) (a1 : Int) (a2 : Int) (a3 : Int) (h_a1 : inR a1) (h_a2 : inR a2) (h_a3 : inR a3) (h1 : 0 ≤ a1 ∧ a1 ≤ 3) (h2 : 0 ≤ a2 ∧ a2 ≤ 15) (h3 : 0 ≤ a3 ∧ a3 ≤ 15) : GM l D k A (rwT k ad) yX5_isAhead cX5_isAhead 10 (some .boolean) 2 44 [.ref (ad 47), .int (iI a1), .int (iI a2), .int (iI a3)] v f g (fun r v1 f1 g1 => ∃ (z : Int), r = some (.int (iI z)) ∧ v = v1 ∧ f = f1 ∧ g = g1 ∧ (0 ≤ z ∧ z ≤ 1)) := by
  refine GM.of (by decide) (Nat.le_of_ble_eq_true rfl) ?_
  intro p e s m args below meth c Q ls hQ C hml hr hlocks hP hl
  have hx := C.1
  have hb := C.2.1
  have hok := hP.2
  have hS : va_S A s.heap s.heap [] := va_S.rf
  have hl : lv_has ls 10 [(0, .ref (ad 47)), (1, .int (iI a1)), (2, .int (iI a2)), (3, .int (iI a3))] := hl
  have r_1 : 0 ≤ (v 3) ∧ (v 3) ≤ 4 := hok.1 3
  refine lv_iload_n hx hb dX5_isAhead_0 rfl (lv_at hl 1 rfl) ?_
  refine lv_istore (lv' := [(4, .int (iI a1)), (0, .ref (ad 47)), (1, .int (iI a1)), (2, .int (iI a2)), (3, .int (iI a3))]) hx hb dX5_isAhead_1 hl (by decide) rfl (fun ls hl => ?_)
  have L_2 : ∀ (n : Nat) (x4 : Int) (H : Heap) (locs : List Loc) (ls : Array Slot), x4 + 1 < (n : Int) → ((-1) ≤ x4 ∧ x4 ≤ a1) → gWd D (rwT k ad) v f g H → va_S A s.heap H locs → lv_has ls 10 [(0, .ref (ad 47)), (1, .int (iI a1)), (2, .int (iI a2)), (3, .int (iI a3)), (4, .int (iI x4))] → W p l e (gRm 2 44) s m args below meth c H locs 0 0 Q (F0 m 3 ls []) := by
    intro n
    induction n with
    | zero =>
      intro x4 H locs ls hn_2 i2_0 hP hS hl
      exfalso; omega
    | succ n ih_3 =>
      intro x4 H locs ls hn_2 i2_0 hP hS hl
      refine lv_iload hx hb dX5_isAhead_3 (lv_at hl 4 rfl) ?_
      refine lv_aload_n hx hb dX5_isAhead_5 rfl (lv_at hl 0 rfl) ?_
      refine lv_iload_n hx hb dX5_isAhead_6 rfl (lv_at hl 1 rfl) ?_
      refine g_cv (As := [.int (iI a1)]) (rest := [.int (iI x4)]) (n := 1) C hml (c_X5_lowestAsked l D k A ad hD v f g a1 (by omega) (show 0 ≤ a1 from by omega)) mM_X5_162 mI_X5_lowestAsked mE_X5_lowestAsked mN_X5 mC_X5_lowestAsked (by decide +kernel) 47 (ci := 5) rfl rfl hP hS (fun _ h => h) ⟨Nat.le_of_ble_eq_true rfl, Nat.le_of_ble_eq_true rfl⟩ ⟨Nat.zero_le _, Nat.zero_le _⟩ hl.1 rfl rfl (Nat.le_of_ble_eq_true rfl) dX5_isAhead_7 (fun r_3 v_3 f_3 g_3 H locs hq_3 hP _ hS => ?_)
      obtain ⟨z_3, rfl, rfl, rfl, rfl, p0_3, p1_3⟩ := hq_3
      show W p l e (gRm 2 44) s m args below meth c _ _ 0 0 Q (F0 m 10 ls [.int (iI z_3), .int (iI x4)])
      replace p0_3 : z_3 = (if (v 4) = 0 then a1 else 0) := p0_3
      replace p1_3 : 0 ≤ z_3 ∧ z_3 ≤ a1 := p1_3
      have hz_3 : inR z_3 := (by first | omega | (rw [p0_3]; split <;> omega))
      refine gi_clt (tgt := 111) hx hb dX5_isAhead_10 (by decide) (by omega) (by omega) (fun c_4 => ?_) (fun c_4 => ?_)
      · refine lv_iconst (v := iI 0) hx hb dX5_isAhead_111 rfl ?_
        exact g_zret hQ C hr hlocks (by decide) hP hS dX5_isAhead_112 ⟨0, rfl, rfl, rfl, rfl, (by first | omega | (split <;> omega))⟩
      · refine lv_iconst (v := iI 0) hx hb dX5_isAhead_13 rfl ?_
        refine lv_istore (lv' := [(5, .int (iI 0)), (0, .ref (ad 47)), (1, .int (iI a1)), (2, .int (iI a2)), (3, .int (iI a3)), (4, .int (iI x4))]) hx hb dX5_isAhead_14 hl (by decide) rfl (fun ls hl => ?_)
        have L_5 : ∀ (n : Nat) (x5 : Int) (H : Heap) (locs : List Loc) (ls : Array Slot), 4 - x5 < (n : Int) → (0 ≤ x5 ∧ x5 ≤ (v 3)) → gWd D (rwT k ad) v f g H → va_S A s.heap H locs → lv_has ls 10 [(0, .ref (ad 47)), (1, .int (iI a1)), (2, .int (iI a2)), (3, .int (iI a3)), (4, .int (iI x4)), (5, .int (iI x5))] → W p l e (gRm 2 44) s m args below meth c H locs 0 0 Q (F0 m 16 ls []) := by
          intro n
          induction n with
          | zero =>
            intro x5 H locs ls hn_5 i5_0 hP hS hl
            exfalso; omega
          | succ n ih_16 =>
            intro x5 H locs ls hn_5 i5_0 hP hS hl
            refine lv_iload hx hb dX5_isAhead_16 (lv_at hl 5 rfl) ?_
            refine lv_aload_n hx hb dX5_isAhead_18 rfl (lv_at hl 0 rfl) ?_
            refine rwG_results_laws C hP mF_X5_43 dX5_isAhead_19 ?_
            refine rwG_laws_keys C hP mF_X5_145 dX5_isAhead_22 ?_
            refine gi_cge (tgt := 105) hx hb dX5_isAhead_25 (by decide) (by omega) (by omega) (fun c_6 => ?_) (fun c_6 => ?_)
            · refine lv_iinc (v := iI (x4 + (-1))) (lv' := [(4, .int (iI (x4 + (-1)))), (0, .ref (ad 47)), (1, .int (iI a1)), (2, .int (iI a2)), (3, .int (iI a3)), (5, .int (iI x5))]) hx hb dX5_isAhead_105 hl (k := 4) rfl (by show iI _ + iI (-1) = _; rw [iI_add]) (by decide) rfl (fun ls hl => ?_)
              refine lv_goto (tgt := 3) hx hb dX5_isAhead_108 (by decide) ?_
              exact ih_3 (x4 + (-1)) _ _ _ (by omega) (by omega) hP hS (lv_sub hl [1, 2, 3, 4, 0] rfl)
            · refine lv_aload_n hx hb dX5_isAhead_28 rfl (lv_at hl 0 rfl) ?_
              refine lv_iload hx hb dX5_isAhead_29 (lv_at hl 4 rfl) ?_
              refine lv_iload_n hx hb dX5_isAhead_31 rfl (lv_at hl 2 rfl) ?_
              refine lv_iload hx hb dX5_isAhead_32 (lv_at hl 5 rfl) ?_
              refine g_cv (As := [.int (iI x4), .int (iI a2), .int (iI x5)]) (rest := []) (n := 3) C hml (c_X5_keyOf l D k A ad hD v f g x4 a2 x5 (by omega) (by omega) (by omega) (show 0 ≤ x4 ∧ x4 ≤ 3 from by omega) (show 0 ≤ a2 ∧ a2 ≤ 15 from by omega) (show 0 ≤ x5 ∧ x5 < 4 from by omega)) mM_X5_185 mI_X5_keyOf mE_X5_keyOf mN_X5 mC_X5_keyOf (by decide +kernel) 47 (ci := 5) rfl rfl hP hS (fun _ h => h) ⟨Nat.le_of_ble_eq_true rfl, Nat.le_of_ble_eq_true rfl⟩ ⟨Nat.zero_le _, Nat.zero_le _⟩ hl.1 rfl rfl (Nat.le_of_ble_eq_true rfl) dX5_isAhead_34 (fun r_7 v_7 f_7 g_7 H locs hq_7 hP _ hS => ?_)
              obtain ⟨z_7, rfl, rfl, rfl, rfl⟩ := hq_7
              show W p l e (gRm 2 44) s m args below meth c _ _ 0 0 Q (F0 m 37 ls [.long (iL z_7)])
              refine lv_lstore (lv' := [(6, .long (iL z_7)), (0, .ref (ad 47)), (1, .int (iI a1)), (2, .int (iI a2)), (3, .int (iI a3)), (4, .int (iI x4)), (5, .int (iI x5))]) hx hb dX5_isAhead_37 hl (by decide) rfl (fun ls hl => ?_)
              refine lv_aload_n hx hb dX5_isAhead_39 rfl (lv_at hl 1 rfl) ?_
              refine lv_iload hx hb dX5_isAhead_40 (lv_at hl 5 rfl) ?_
              refine lv_iload_n hx hb dX5_isAhead_42 rfl (lv_at hl 4 rfl) ?_
              refine lv_iload hx hb dX5_isAhead_43 (lv_at hl 6 rfl) ?_
              refine g_cv (As := [.int (iI x4), .int (iI a3), .int (iI x5)]) (rest := []) (n := 3) C hml (c_X5_keyOf l D k A ad hD v f g x4 a3 x5 (by omega) (by omega) (by omega) (show 0 ≤ x4 ∧ x4 ≤ 3 from by omega) (show 0 ≤ a3 ∧ a3 ≤ 15 from by omega) (show 0 ≤ x5 ∧ x5 < 4 from by omega)) mM_X5_185 mI_X5_keyOf mE_X5_keyOf mN_X5 mC_X5_keyOf (by decide +kernel) 47 (ci := 5) rfl rfl hP hS (fun _ h => h) ⟨Nat.le_of_ble_eq_true rfl, Nat.le_of_ble_eq_true rfl⟩ ⟨Nat.zero_le _, Nat.zero_le _⟩ hl.1 rfl rfl (Nat.le_of_ble_eq_true rfl) dX5_isAhead_45 (fun r_8 v_8 f_8 g_8 H locs hq_8 hP _ hS => ?_)
              obtain ⟨z_8, rfl, rfl, rfl, rfl⟩ := hq_8
              show W p l e (gRm 2 44) s m args below meth c _ _ 0 0 Q (F0 m 48 ls [.long (iL z_8)])
              refine lv_lstore (lv' := [(8, .long (iL z_8)), (6, .long (iL z_7)), (0, .ref (ad 47)), (1, .int (iI a1)), (2, .int (iI a2)), (3, .int (iI a3)), (4, .int (iI x4)), (5, .int (iI x5))]) hx hb dX5_isAhead_48 hl (by decide) rfl (fun ls hl => ?_)
              refine lv_lload hx hb dX5_isAhead_50 (lv_at hl 1 rfl) ?_
              refine lv_lload hx hb dX5_isAhead_52 (lv_at hl 0 rfl) ?_
              refine gl_cmp hx hb dX5_isAhead_54 (fun x_9 hx_9 => ?_)
              refine gi_zeq (tgt := 99) hx hb dX5_isAhead_55 (by decide) (by omega) (fun c_10 => ?_) (fun c_10 => ?_)
              · refine lv_iinc (v := iI (x5 + 1)) (lv' := [(5, .int (iI (x5 + 1))), (8, .long (iL z_8)), (6, .long (iL z_7)), (0, .ref (ad 47)), (1, .int (iI a1)), (2, .int (iI a2)), (3, .int (iI a3)), (4, .int (iI x4))]) hx hb dX5_isAhead_99 hl (k := 7) rfl (by show iI _ + iI 1 = _; rw [iI_add]) (by decide) rfl (fun ls hl => ?_)
                refine lv_goto (tgt := 16) hx hb dX5_isAhead_102 (by decide) ?_
                exact ih_16 (x5 + 1) _ _ _ (by omega) (by omega) hP hS (lv_sub hl [3, 4, 5, 6, 7, 0] rfl)
              · refine lv_lload hx hb dX5_isAhead_58 (lv_at hl 1 rfl) ?_
                refine lv_lload hx hb dX5_isAhead_60 (lv_at hl 0 rfl) ?_
                refine gl_cmp hx hb dX5_isAhead_62 (fun x_11 hx_11 => ?_)
                refine gi_zle (tgt := 70) hx hb dX5_isAhead_63 (by decide) (by omega) (fun c_12 => ?_) (fun c_12 => ?_)
                · refine lv_iconst (v := iI 0) hx hb dX5_isAhead_70 rfl ?_
                  refine lv_aload_n hx hb dX5_isAhead_71 rfl (lv_at hl 2 rfl) ?_
                  refine rwG_results_laws C hP mF_X5_43 dX5_isAhead_72 ?_
                  refine rwG_laws_keyDown C hP mF_X5_189 dX5_isAhead_75 ?_
                  refine lv_iload hx hb dX5_isAhead_78 (lv_at hl 7 rfl) ?_
                  refine rwL_laws_keyDown C hP (by omega) (by omega) dX5_isAhead_80 ?_
                  have r_13 : 0 ≤ (f 5 x5) ∧ (f 5 x5) ≤ 1 := hP.2.2 5 x5
                  refine lv_iconst (v := iI 1) hx hb dX5_isAhead_81 rfl ?_
                  refine gi_cne (tgt := 89) hx hb dX5_isAhead_82 (by decide) (by omega) (by decide) (fun c_14 => ?_) (fun c_14 => ?_)
                  · refine lv_iconst (v := iI 0) hx hb dX5_isAhead_89 rfl ?_
                    refine gi_cne (tgt := 97) hx hb dX5_isAhead_90 (by decide) (by decide) (by decide) (fun c_15 => ?_) (fun c_15 => ?_)
                    · exfalso; omega
                    · refine lv_iconst (v := iI 1) hx hb dX5_isAhead_93 rfl ?_
                      refine lv_goto (tgt := 98) hx hb dX5_isAhead_94 (by decide) ?_
                      exact g_zret hQ C hr hlocks (by decide) hP hS dX5_isAhead_98 ⟨1, rfl, rfl, rfl, rfl, (by first | omega | (split <;> omega))⟩
                  · refine lv_iconst (v := iI 1) hx hb dX5_isAhead_85 rfl ?_
                    refine lv_goto (tgt := 90) hx hb dX5_isAhead_86 (by decide) ?_
                    refine gi_cne (tgt := 97) hx hb dX5_isAhead_90 (by decide) (by decide) (by decide) (fun c_16 => ?_) (fun c_16 => ?_)
                    · refine lv_iconst (v := iI 0) hx hb dX5_isAhead_97 rfl ?_
                      exact g_zret hQ C hr hlocks (by decide) hP hS dX5_isAhead_98 ⟨0, rfl, rfl, rfl, rfl, (by first | omega | (split <;> omega))⟩
                    · exfalso; omega
                · refine lv_iconst (v := iI 1) hx hb dX5_isAhead_66 rfl ?_
                  refine lv_goto (tgt := 71) hx hb dX5_isAhead_67 (by decide) ?_
                  refine lv_aload_n hx hb dX5_isAhead_71 rfl (lv_at hl 2 rfl) ?_
                  refine rwG_results_laws C hP mF_X5_43 dX5_isAhead_72 ?_
                  refine rwG_laws_keyDown C hP mF_X5_189 dX5_isAhead_75 ?_
                  refine lv_iload hx hb dX5_isAhead_78 (lv_at hl 7 rfl) ?_
                  refine rwL_laws_keyDown C hP (by omega) (by omega) dX5_isAhead_80 ?_
                  have r_17 : 0 ≤ (f 5 x5) ∧ (f 5 x5) ≤ 1 := hP.2.2 5 x5
                  refine lv_iconst (v := iI 1) hx hb dX5_isAhead_81 rfl ?_
                  refine gi_cne (tgt := 89) hx hb dX5_isAhead_82 (by decide) (by omega) (by decide) (fun c_18 => ?_) (fun c_18 => ?_)
                  · refine lv_iconst (v := iI 0) hx hb dX5_isAhead_89 rfl ?_
                    refine gi_cne (tgt := 97) hx hb dX5_isAhead_90 (by decide) (by decide) (by decide) (fun c_19 => ?_) (fun c_19 => ?_)
                    · refine lv_iconst (v := iI 0) hx hb dX5_isAhead_97 rfl ?_
                      exact g_zret hQ C hr hlocks (by decide) hP hS dX5_isAhead_98 ⟨0, rfl, rfl, rfl, rfl, (by first | omega | (split <;> omega))⟩
                    · exfalso; omega
                  · refine lv_iconst (v := iI 1) hx hb dX5_isAhead_85 rfl ?_
                    refine lv_goto (tgt := 90) hx hb dX5_isAhead_86 (by decide) ?_
                    refine gi_cne (tgt := 97) hx hb dX5_isAhead_90 (by decide) (by decide) (by decide) (fun c_20 => ?_) (fun c_20 => ?_)
                    · exfalso; omega
                    · refine lv_iconst (v := iI 1) hx hb dX5_isAhead_93 rfl ?_
                      refine lv_goto (tgt := 98) hx hb dX5_isAhead_94 (by decide) ?_
                      exact g_zret hQ C hr hlocks (by decide) hP hS dX5_isAhead_98 ⟨1, rfl, rfl, rfl, rfl, (by first | omega | (split <;> omega))⟩
        exact L_5 5 0 _ _ _ (by omega) (by omega) hP hS (lv_sub hl [1, 2, 3, 4, 5, 0] rfl)
  exact L_2 5 a1 _ _ _ (by omega) (by omega) hP hS (lv_sub hl [1, 2, 3, 4, 0] rfl)

set_option maxHeartbeats 4000000 in
set_option maxRecDepth 100000 in
theorem c_X5_manyAhead (l : Launch) (D : va_G) (k : Nat → ClassId) (A : Nat → Prop) (ad : Nat → Nat) (hD : rwD A k ad) (v : gV) (f g : gF) (a1 : Int) (a2 : Int) (h_a1 : inR a1) (h_a2 : inR a2) (h1 : 0 ≤ a1 ∧ a1 ≤ 3) (h2 : 0 ≤ a2 ∧ a2 ≤ 15) : GM l D k A (rwT k ad) yX5_manyAhead cX5_manyAhead 5 (some .int) 3 73 [.ref (ad 47), .int (iI a1), .int (iI a2)] v f g (fun r v1 f1 g1 => ∃ (z : Int), r = some (.int (iI z)) ∧ v = v1 ∧ f = f1 ∧ g = g1 ∧ (0 ≤ z ∧ z ≤ 16)) := by
  refine GM.of (by decide) (Nat.le_of_ble_eq_true rfl) ?_
  intro p e s m args below meth c Q ls hQ C hml hr hlocks hP hl
  have hx := C.1
  have hb := C.2.1
  have hok := hP.2
  have hS : va_S A s.heap s.heap [] := va_S.rf
  have hl : lv_has ls 5 [(0, .ref (ad 47)), (1, .int (iI a1)), (2, .int (iI a2))] := hl
  have r_1 : 0 ≤ (v 21) ∧ (v 21) ≤ 16 := hok.1 21
  refine lv_iconst (v := iI 0) hx hb dX5_manyAhead_0 rfl ?_
  refine lv_istore_n (lv' := [(3, .int (iI 0)), (0, .ref (ad 47)), (1, .int (iI a1)), (2, .int (iI a2))]) hx hb dX5_manyAhead_1 rfl hl (by decide) rfl (fun ls hl => ?_)
  refine lv_iconst (v := iI 0) hx hb dX5_manyAhead_2 rfl ?_
  refine lv_istore (lv' := [(4, .int (iI 0)), (3, .int (iI 0)), (0, .ref (ad 47)), (1, .int (iI a1)), (2, .int (iI a2))]) hx hb dX5_manyAhead_3 hl (by decide) rfl (fun ls hl => ?_)
  have L_2 : ∀ (n : Nat) (x3 : Int) (x4 : Int) (H : Heap) (locs : List Loc) (ls : Array Slot), 16 - x4 < (n : Int) → (0 ≤ x4 ∧ x4 ≤ (v 21)) → (0 ≤ x3 ∧ x3 ≤ x4) → gWd D (rwT k ad) v f g H → va_S A s.heap H locs → lv_has ls 5 [(0, .ref (ad 47)), (1, .int (iI a1)), (2, .int (iI a2)), (3, .int (iI x3)), (4, .int (iI x4))] → W p l e (gRm 3 73) s m args below meth c H locs 0 0 Q (F0 m 5 ls []) := by
    intro n
    induction n with
    | zero =>
      intro x3 x4 H locs ls hn_2 i2_0 i2_1 hP hS hl
      exfalso; omega
    | succ n ih_5 =>
      intro x3 x4 H locs ls hn_2 i2_0 i2_1 hP hS hl
      refine lv_iload hx hb dX5_manyAhead_5 (lv_at hl 4 rfl) ?_
      refine lv_aload_n hx hb dX5_manyAhead_7 rfl (lv_at hl 0 rfl) ?_
      refine rwG_results_field C hP mF_X5_51 dX5_manyAhead_8 ?_
      refine rwG_field_climbers C hP mF_X5_157 dX5_manyAhead_11 ?_
      refine gi_cge (tgt := 50) hx hb dX5_manyAhead_14 (by decide) (by omega) (by omega) (fun c_3 => ?_) (fun c_3 => ?_)
      · refine lv_iload_n hx hb dX5_manyAhead_50 rfl (lv_at hl 3 rfl) ?_
        exact g_iret hQ C hr hlocks hP hS dX5_manyAhead_51 ⟨x3, rfl, rfl, rfl, rfl, (by first | omega | (split <;> omega))⟩
      · refine lv_aload_n hx hb dX5_manyAhead_17 rfl (lv_at hl 0 rfl) ?_
        refine rwG_results_field C hP mF_X5_51 dX5_manyAhead_18 ?_
        refine lv_iload_n hx hb dX5_manyAhead_21 rfl (lv_at hl 1 rfl) ?_
        refine lv_iload hx hb dX5_manyAhead_22 (lv_at hl 4 rfl) ?_
        refine g_cv (As := [.int (iI a1), .int (iI x4)]) (rest := []) (n := 2) C hml (c_X2_isIn l D k A ad hD v f g a1 x4 (by omega) (by omega)) mM_X5_166 mI_X2_isIn mE_X2_isIn mN_X2 mC_X2_isIn (by decide +kernel) 27 (ci := 2) rfl rfl hP hS (fun _ h => h) ⟨Nat.le_of_ble_eq_true rfl, Nat.le_of_ble_eq_true rfl⟩ ⟨Nat.zero_le _, Nat.zero_le _⟩ hl.1 rfl rfl (Nat.le_of_ble_eq_true rfl) dX5_manyAhead_24 (fun r_4 v_4 f_4 g_4 H locs hq_4 hP _ hS => ?_)
        obtain ⟨z_4, rfl, rfl, rfl, rfl, p0_4⟩ := hq_4
        show W p l e (gRm 3 73) s m args below meth c _ _ 0 0 Q (F0 m 27 ls [.int (iI z_4)])
        replace p0_4 : z_4 = (if (0 ≤ x4 ∧ x4 < (v 21)) ∧ a1 ≤ (f 18) x4 then 1 else 0) := p0_4
        have w_4 := gif (P := (0 ≤ x4 ∧ x4 < (v 21)) ∧ a1 ≤ (f 18) x4) p0_4
        have hz_4 : inR z_4 := (by first | omega | (rw [p0_4]; split <;> omega))
        refine gi_zeq (tgt := 44) hx hb dX5_manyAhead_27 (by decide) (by omega) (fun c_5 => ?_) (fun c_5 => ?_)
        · refine lv_iinc (v := iI (x4 + 1)) (lv' := [(4, .int (iI (x4 + 1))), (0, .ref (ad 47)), (1, .int (iI a1)), (2, .int (iI a2)), (3, .int (iI x3))]) hx hb dX5_manyAhead_44 hl (k := 4) rfl (by show iI _ + iI 1 = _; rw [iI_add]) (by decide) rfl (fun ls hl => ?_)
          refine lv_goto (tgt := 5) hx hb dX5_manyAhead_47 (by decide) ?_
          exact ih_5 x3 (x4 + 1) _ _ _ (by omega) (by omega) (by omega) hP hS (lv_sub hl [1, 2, 3, 4, 0] rfl)
        · refine lv_aload_n hx hb dX5_manyAhead_30 rfl (lv_at hl 0 rfl) ?_
          refine lv_iload_n hx hb dX5_manyAhead_31 rfl (lv_at hl 1 rfl) ?_
          refine lv_iload hx hb dX5_manyAhead_32 (lv_at hl 4 rfl) ?_
          refine lv_iload_n hx hb dX5_manyAhead_34 rfl (lv_at hl 2 rfl) ?_
          refine g_cv (As := [.int (iI a1), .int (iI x4), .int (iI a2)]) (rest := []) (n := 3) C hml (c_X5_isAhead l D k A ad hD v f g a1 x4 a2 (by omega) (by omega) (by omega) (show 0 ≤ a1 ∧ a1 ≤ 3 from by omega) (show 0 ≤ x4 ∧ x4 ≤ 15 from by omega) (show 0 ≤ a2 ∧ a2 ≤ 15 from by omega)) mM_X5_177 mI_X5_isAhead mE_X5_isAhead mN_X5 mC_X5_isAhead (by decide +kernel) 47 (ci := 5) rfl rfl hP hS (fun _ h => h) ⟨Nat.le_of_ble_eq_true rfl, Nat.le_of_ble_eq_true rfl⟩ ⟨Nat.zero_le _, Nat.zero_le _⟩ hl.1 rfl rfl (Nat.le_of_ble_eq_true rfl) dX5_manyAhead_35 (fun r_6 v_6 f_6 g_6 H locs hq_6 hP _ hS => ?_)
          obtain ⟨z_6, rfl, rfl, rfl, rfl, p0_6⟩ := hq_6
          show W p l e (gRm 3 73) s m args below meth c _ _ 0 0 Q (F0 m 38 ls [.int (iI z_6)])
          replace p0_6 : 0 ≤ z_6 ∧ z_6 ≤ 1 := p0_6
          refine gi_zeq (tgt := 44) hx hb dX5_manyAhead_38 (by decide) (by omega) (fun c_7 => ?_) (fun c_7 => ?_)
          · refine lv_iinc (v := iI (x4 + 1)) (lv' := [(4, .int (iI (x4 + 1))), (0, .ref (ad 47)), (1, .int (iI a1)), (2, .int (iI a2)), (3, .int (iI x3))]) hx hb dX5_manyAhead_44 hl (k := 4) rfl (by show iI _ + iI 1 = _; rw [iI_add]) (by decide) rfl (fun ls hl => ?_)
            refine lv_goto (tgt := 5) hx hb dX5_manyAhead_47 (by decide) ?_
            exact ih_5 x3 (x4 + 1) _ _ _ (by omega) (by omega) (by omega) hP hS (lv_sub hl [1, 2, 3, 4, 0] rfl)
          · refine lv_iinc (v := iI (x3 + 1)) (lv' := [(3, .int (iI (x3 + 1))), (0, .ref (ad 47)), (1, .int (iI a1)), (2, .int (iI a2)), (4, .int (iI x4))]) hx hb dX5_manyAhead_41 hl (k := 3) rfl (by show iI _ + iI 1 = _; rw [iI_add]) (by decide) rfl (fun ls hl => ?_)
            refine lv_iinc (v := iI (x4 + 1)) (lv' := [(4, .int (iI (x4 + 1))), (3, .int (iI (x3 + 1))), (0, .ref (ad 47)), (1, .int (iI a1)), (2, .int (iI a2))]) hx hb dX5_manyAhead_44 hl (k := 4) rfl (by show iI _ + iI 1 = _; rw [iI_add]) (by decide) rfl (fun ls hl => ?_)
            refine lv_goto (tgt := 5) hx hb dX5_manyAhead_47 (by decide) ?_
            exact ih_5 (x3 + 1) (x4 + 1) _ _ _ (by omega) (by omega) (by omega) hP hS (lv_sub hl [2, 3, 4, 1, 0] rfl)
  exact L_2 17 0 0 _ _ _ (by omega) (by omega) (by omega) hP hS (lv_sub hl [2, 3, 4, 1, 0] rfl)

set_option maxHeartbeats 4000000 in
set_option maxRecDepth 100000 in
theorem c_X5_workRanks (l : Launch) (D : va_G) (k : Nat → ClassId) (A : Nat → Prop) (ad : Nat → Nat) (hD : rwD A k ad) (v : gV) (f g : gF) (a1 : Int) (a2 : Int) (h_a1 : inR a1) (h_a2 : inR a2) (hs : shOk (v 1) (f 1)) (h1 : 0 ≤ a1 ∧ a1 ≤ 3) : GM l D k A (rwT k ad) yX5_workRanks cX5_workRanks 5 none 4 109 [.ref (ad 47), .int (iI a1), .int (iI a2)] v f g (fun r v1 f1 g1 => ∃ (a34_ : Int → Int) (a35_ : Int → Int) (a36_ : Int → Int) (a37_ : Int → Int) (a38_ : Int → Int) (a39_ : Int → Int) (a41_ : Int → Int) (b0_ : Int → Int) (b2_ : Int → Int) (b3_ : Int → Int), r = none ∧ v = v1 ∧ (va_up (va_up (va_up (va_up (va_up (va_up (va_up f 34 a34_) 35 a35_) 36 a36_) 37 a37_) 38 a38_) 39 a39_) 41 a41_) = f1 ∧ (va_up (va_up (va_up g 0 b0_) 2 b2_) 3 b3_) = g1) := by
  refine GM.of (by decide) (Nat.le_of_ble_eq_true rfl) ?_
  intro p e s m args below meth c Q ls hQ C hml hr hlocks hP hl
  have hx := C.1
  have hb := C.2.1
  have hok := hP.2
  have hS : va_S A s.heap s.heap [] := va_S.rf
  have hl : lv_has ls 5 [(0, .ref (ad 47)), (1, .int (iI a1)), (2, .int (iI a2))] := hl
  have hP : gWd D (rwT k ad) v (va_up (va_up (va_up (va_up (va_up (va_up (va_up f 34 (f 34)) 35 (f 35)) 36 (f 36)) 37 (f 37)) 38 (f 38)) 39 (f 39)) 41 (f 41)) (va_up (va_up (va_up g 0 (g 0)) 2 (g 2)) 3 (g 3)) s.heap := by rw [va_id, va_id, va_id, va_id, va_id, va_id, va_id, va_id, va_id, va_id]; exact hP
  have r_1 : 0 ≤ (v 21) ∧ (v 21) ≤ 16 := hok.1 21
  refine lv_aload_n hx hb dX5_workRanks_0 rfl (lv_at hl 0 rfl) ?_
  refine lv_iload_n hx hb dX5_workRanks_1 rfl (lv_at hl 2 rfl) ?_
  refine g_cv (As := [.int (iI a2)]) (rest := []) (n := 1) C hml (c_X5_survey l D k A ad hD v (va_up (va_up (va_up (va_up (va_up (va_up (va_up f 34 (f 34)) 35 (f 35)) 36 (f 36)) 37 (f 37)) 38 (f 38)) 39 (f 39)) 41 (f 41)) (va_up (va_up (va_up g 0 (g 0)) 2 (g 2)) 3 (g 3)) a2 (by omega)) mM_X5_154 mI_X5_survey mE_X5_survey mN_X5 mC_X5_survey (by decide +kernel) 47 (ci := 5) rfl rfl hP hS (fun _ h => h) ⟨Nat.le_of_ble_eq_true rfl, Nat.le_of_ble_eq_true rfl⟩ ⟨Nat.zero_le _, Nat.zero_le _⟩ hl.1 rfl rfl (Nat.le_of_ble_eq_true rfl) dX5_workRanks_2 (fun r_2 v_2 f_2 g_2 H locs hq_2 hP _ hS => ?_)
  obtain ⟨a34_2, a35_2, a36_2, a37_2, a38_2, rfl, rfl, rfl, rfl⟩ := hq_2
  show W p l e (gRm 4 109) s m args below meth c _ _ 0 0 Q (F0 m 5 ls [])
  have hP : gWd D (rwT k ad) v (va_up (va_up (va_up (va_up (va_up (va_up (va_up f 34 a34_2) 35 a35_2) 36 a36_2) 37 a37_2) 38 a38_2) 39 (f 39)) 41 (f 41)) (va_up (va_up (va_up g 0 (g 0)) 2 (g 2)) 3 (g 3)) H := ⟨hP.1, (gF_up (V := rwV) (F := rwF) (gF_up (V := rwV) (F := rwF) (gF_up (V := rwV) (F := rwF) (gF_up (V := rwV) (F := rwF) (gF_up (V := rwV) (F := rwF) (gF_up (V := rwV) (F := rwF) (gF_up (V := rwV) (F := rwF) ⟨hok.1, hok.2⟩ 34 (hP.2.2 34)) 35 (hP.2.2 35)) 36 (hP.2.2 36)) 37 (hP.2.2 37)) 38 (hP.2.2 38)) 39 (hP.2.2 39)) 41 (hP.2.2 41))⟩
  refine lv_iconst (v := iI 0) hx hb dX5_workRanks_5 rfl ?_
  refine lv_istore_n (lv' := [(3, .int (iI 0)), (0, .ref (ad 47)), (1, .int (iI a1)), (2, .int (iI a2))]) hx hb dX5_workRanks_6 rfl hl (by decide) rfl (fun ls hl => ?_)
  have L_3 : ∀ (n : Nat) (x3 : Int) (c39_3 : Int → Int) (d0_3 : Int → Int) (d2_3 : Int → Int) (d3_3 : Int → Int) (H : Heap) (locs : List Loc) (ls : Array Slot), 16 - x3 < (n : Int) → (0 ≤ x3 ∧ x3 ≤ (v 21)) → gWd D (rwT k ad) v (va_up (va_up (va_up (va_up (va_up (va_up (va_up f 34 a34_2) 35 a35_2) 36 a36_2) 37 a37_2) 38 a38_2) 39 c39_3) 41 (f 41)) (va_up (va_up (va_up g 0 d0_3) 2 d2_3) 3 d3_3) H → va_S A s.heap H locs → lv_has ls 5 [(0, .ref (ad 47)), (1, .int (iI a1)), (2, .int (iI a2)), (3, .int (iI x3))] → W p l e (gRm 4 109) s m args below meth c H locs 0 0 Q (F0 m 7 ls []) := by
    intro n
    induction n with
    | zero =>
      intro x3 c39_3 d0_3 d2_3 d3_3 H locs ls hn_3 i3_0 hP hS hl
      exfalso; omega
    | succ n ih_7 =>
      intro x3 c39_3 d0_3 d2_3 d3_3 H locs ls hn_3 i3_0 hP hS hl
      refine lv_iload_n hx hb dX5_workRanks_7 rfl (lv_at hl 3 rfl) ?_
      refine lv_aload_n hx hb dX5_workRanks_8 rfl (lv_at hl 0 rfl) ?_
      refine rwG_results_field C hP mF_X5_51 dX5_workRanks_9 ?_
      refine rwG_field_climbers C hP mF_X5_157 dX5_workRanks_12 ?_
      refine gi_cge (tgt := 62) hx hb dX5_workRanks_15 (by decide) (by omega) (by omega) (fun c_4 => ?_) (fun c_4 => ?_)
      · refine lv_iconst (v := iI 0) hx hb dX5_workRanks_62 rfl ?_
        refine lv_istore_n (lv' := [(3, .int (iI 0)), (0, .ref (ad 47)), (1, .int (iI a1)), (2, .int (iI a2))]) hx hb dX5_workRanks_63 rfl hl (by decide) rfl (fun ls hl => ?_)
        have L_5 : ∀ (n : Nat) (x3 : Int) (c41_5 : Int → Int) (H : Heap) (locs : List Loc) (ls : Array Slot), 16 - x3 < (n : Int) → (0 ≤ x3 ∧ x3 ≤ (v 21)) → gWd D (rwT k ad) v (va_up (va_up (va_up (va_up (va_up (va_up (va_up f 34 a34_2) 35 a35_2) 36 a36_2) 37 a37_2) 38 a38_2) 39 c39_3) 41 c41_5) (va_up (va_up (va_up g 0 d0_3) 2 d2_3) 3 d3_3) H → va_S A s.heap H locs → lv_has ls 5 [(0, .ref (ad 47)), (1, .int (iI a1)), (2, .int (iI a2)), (3, .int (iI x3))] → W p l e (gRm 4 109) s m args below meth c H locs 0 0 Q (F0 m 64 ls []) := by
          intro n
          induction n with
          | zero =>
            intro x3 c41_5 H locs ls hn_5 i5_0 hP hS hl
            exfalso; omega
          | succ n ih_64 =>
            intro x3 c41_5 H locs ls hn_5 i5_0 hP hS hl
            refine lv_iload_n hx hb dX5_workRanks_64 rfl (lv_at hl 3 rfl) ?_
            refine lv_aload_n hx hb dX5_workRanks_65 rfl (lv_at hl 0 rfl) ?_
            refine rwG_results_field C hP mF_X5_51 dX5_workRanks_66 ?_
            refine rwG_field_climbers C hP mF_X5_157 dX5_workRanks_69 ?_
            refine gi_cge (tgt := 111) hx hb dX5_workRanks_72 (by decide) (by omega) (by omega) (fun c_6 => ?_) (fun c_6 => ?_)
            · exact g_vret hQ C hr hlocks hP hS dX5_workRanks_111 ⟨a34_2, a35_2, a36_2, a37_2, a38_2, c39_3, c41_5, d0_3, d2_3, d3_3, rfl, rfl, rfl, rfl⟩
            · refine lv_aload_n hx hb dX5_workRanks_75 rfl (lv_at hl 0 rfl) ?_
              refine rwG_results_ranks C hP mF_X5_40 dX5_workRanks_76 ?_
              refine lv_iload_n hx hb dX5_workRanks_79 rfl (lv_at hl 3 rfl) ?_
              refine lv_aload_n hx hb dX5_workRanks_80 rfl (lv_at hl 0 rfl) ?_
              refine rwG_results_field C hP mF_X5_51 dX5_workRanks_81 ?_
              refine lv_iload_n hx hb dX5_workRanks_84 rfl (lv_at hl 1 rfl) ?_
              refine lv_iload_n hx hb dX5_workRanks_85 rfl (lv_at hl 3 rfl) ?_
              refine g_cv (As := [.int (iI a1), .int (iI x3)]) (rest := [.int (iI x3), .ref (ad 57)]) (n := 2) C hml (c_X2_isIn l D k A ad hD v (va_up (va_up (va_up (va_up (va_up (va_up (va_up f 34 a34_2) 35 a35_2) 36 a36_2) 37 a37_2) 38 a38_2) 39 c39_3) 41 c41_5) (va_up (va_up (va_up g 0 d0_3) 2 d2_3) 3 d3_3) a1 x3 (by omega) (by omega)) mM_X5_166 mI_X2_isIn mE_X2_isIn mN_X2 mC_X2_isIn (by decide +kernel) 27 (ci := 2) rfl rfl hP hS (fun _ h => h) ⟨Nat.le_of_ble_eq_true rfl, Nat.le_of_ble_eq_true rfl⟩ ⟨Nat.zero_le _, Nat.zero_le _⟩ hl.1 rfl rfl (Nat.le_of_ble_eq_true rfl) dX5_workRanks_86 (fun r_7 v_7 f_7 g_7 H locs hq_7 hP _ hS => ?_)
              obtain ⟨z_7, rfl, rfl, rfl, rfl, p0_7⟩ := hq_7
              show W p l e (gRm 4 109) s m args below meth c _ _ 0 0 Q (F0 m 89 ls [.int (iI z_7), .int (iI x3), .ref (ad 57)])
              replace p0_7 : z_7 = (if (0 ≤ x3 ∧ x3 < (v 21)) ∧ a1 ≤ (f 18) x3 then 1 else 0) := p0_7
              have w_7 := gif (P := (0 ≤ x3 ∧ x3 < (v 21)) ∧ a1 ≤ (f 18) x3) p0_7
              have hz_7 : inR z_7 := (by first | omega | (rw [p0_7]; split <;> omega))
              refine gi_zeq (tgt := 103) hx hb dX5_workRanks_89 (by decide) (by omega) (fun c_8 => ?_) (fun c_8 => ?_)
              · refine lv_iconst (v := iI (-1)) hx hb dX5_workRanks_103 rfl ?_
                refine rwS_results_ranks (f1 := (va_up (va_up (va_up (va_up (va_up (va_up (va_up f 34 a34_2) 35 a35_2) 36 a36_2) 37 a37_2) 38 a38_2) 39 c39_3) 41 (u1 c41_5 x3 (-1)))) C hP hD hS (by omega) (by omega) (by decide) rfl (Or.inr (gF_up (V := rwV) (F := rwF) (gF_up (V := rwV) (F := rwF) (gF_up (V := rwV) (F := rwF) (gF_up (V := rwV) (F := rwF) (gF_up (V := rwV) (F := rwF) (gF_up (V := rwV) (F := rwF) (gF_up (V := rwV) (F := rwF) ⟨hok.1, hok.2⟩ 34 (hP.2.2 34)) 35 (hP.2.2 35)) 36 (hP.2.2 36)) 37 (hP.2.2 37)) 38 (hP.2.2 38)) 39 (hP.2.2 39)) 41 (u1_rng (hP.2.2 41) (show (-1) ≤ (-1) ∧ (-1) ≤ 17 from (by decide))))) dX5_workRanks_104 (fun H locs hP hS => ?_)
                refine lv_iinc (v := iI (x3 + 1)) (lv' := [(3, .int (iI (x3 + 1))), (0, .ref (ad 47)), (1, .int (iI a1)), (2, .int (iI a2))]) hx hb dX5_workRanks_105 hl (k := 3) rfl (by show iI _ + iI 1 = _; rw [iI_add]) (by decide) rfl (fun ls hl => ?_)
                refine lv_goto (tgt := 64) hx hb dX5_workRanks_108 (by decide) ?_
                exact ih_64 (x3 + 1) (u1 c41_5 x3 (-1)) _ _ _ (by omega) (by omega) hP hS (lv_sub hl [1, 2, 3, 0] rfl)
              · refine lv_iconst (v := iI 1) hx hb dX5_workRanks_92 rfl ?_
                refine lv_aload_n hx hb dX5_workRanks_93 rfl (lv_at hl 0 rfl) ?_
                refine lv_iload_n hx hb dX5_workRanks_94 rfl (lv_at hl 1 rfl) ?_
                refine lv_iload_n hx hb dX5_workRanks_95 rfl (lv_at hl 3 rfl) ?_
                refine g_cv (As := [.int (iI a1), .int (iI x3)]) (rest := [.int (iI 1), .int (iI x3), .ref (ad 57)]) (n := 2) C hml (c_X5_manyAhead l D k A ad hD v (va_up (va_up (va_up (va_up (va_up (va_up (va_up f 34 a34_2) 35 a35_2) 36 a36_2) 37 a37_2) 38 a38_2) 39 c39_3) 41 c41_5) (va_up (va_up (va_up g 0 d0_3) 2 d2_3) 3 d3_3) a1 x3 (by omega) (by omega) (show 0 ≤ a1 ∧ a1 ≤ 3 from by omega) (show 0 ≤ x3 ∧ x3 ≤ 15 from by omega)) mM_X5_174 mI_X5_manyAhead mE_X5_manyAhead mN_X5 mC_X5_manyAhead (by decide +kernel) 47 (ci := 5) rfl rfl hP hS (fun _ h => h) ⟨Nat.le_of_ble_eq_true rfl, Nat.le_of_ble_eq_true rfl⟩ ⟨Nat.zero_le _, Nat.zero_le _⟩ hl.1 rfl rfl (Nat.le_of_ble_eq_true rfl) dX5_workRanks_96 (fun r_9 v_9 f_9 g_9 H locs hq_9 hP _ hS => ?_)
                obtain ⟨z_9, rfl, rfl, rfl, rfl, p0_9⟩ := hq_9
                show W p l e (gRm 4 109) s m args below meth c _ _ 0 0 Q (F0 m 99 ls [.int (iI z_9), .int (iI 1), .int (iI x3), .ref (ad 57)])
                replace p0_9 : 0 ≤ z_9 ∧ z_9 ≤ 16 := p0_9
                refine gi_add (z := (1 + z_9)) hx hb dX5_workRanks_99 rfl ?_
                refine lv_goto (tgt := 104) hx hb dX5_workRanks_100 (by decide) ?_
                refine rwS_results_ranks (f1 := (va_up (va_up (va_up (va_up (va_up (va_up (va_up f 34 a34_2) 35 a35_2) 36 a36_2) 37 a37_2) 38 a38_2) 39 c39_3) 41 (u1 c41_5 x3 (1 + z_9)))) C hP hD hS (by omega) (by omega) (by omega) rfl (Or.inr (gF_up (V := rwV) (F := rwF) (gF_up (V := rwV) (F := rwF) (gF_up (V := rwV) (F := rwF) (gF_up (V := rwV) (F := rwF) (gF_up (V := rwV) (F := rwF) (gF_up (V := rwV) (F := rwF) (gF_up (V := rwV) (F := rwF) ⟨hok.1, hok.2⟩ 34 (hP.2.2 34)) 35 (hP.2.2 35)) 36 (hP.2.2 36)) 37 (hP.2.2 37)) 38 (hP.2.2 38)) 39 (hP.2.2 39)) 41 (u1_rng (hP.2.2 41) (show (-1) ≤ (1 + z_9) ∧ (1 + z_9) ≤ 17 from (by omega))))) dX5_workRanks_104 (fun H locs hP hS => ?_)
                refine lv_iinc (v := iI (x3 + 1)) (lv' := [(3, .int (iI (x3 + 1))), (0, .ref (ad 47)), (1, .int (iI a1)), (2, .int (iI a2))]) hx hb dX5_workRanks_105 hl (k := 3) rfl (by show iI _ + iI 1 = _; rw [iI_add]) (by decide) rfl (fun ls hl => ?_)
                refine lv_goto (tgt := 64) hx hb dX5_workRanks_108 (by decide) ?_
                exact ih_64 (x3 + 1) (u1 c41_5 x3 (1 + z_9)) _ _ _ (by omega) (by omega) hP hS (lv_sub hl [1, 2, 3, 0] rfl)
        exact L_5 17 0 (f 41) _ _ _ (by omega) (by omega) hP hS (lv_sub hl [1, 2, 3, 0] rfl)
      · refine lv_aload_n hx hb dX5_workRanks_18 rfl (lv_at hl 0 rfl) ?_
        refine lv_iload_n hx hb dX5_workRanks_19 rfl (lv_at hl 1 rfl) ?_
        refine g_cv (As := [.int (iI a1)]) (rest := []) (n := 1) C hml (c_X5_lowestAsked l D k A ad hD v (va_up (va_up (va_up (va_up (va_up (va_up (va_up f 34 a34_2) 35 a35_2) 36 a36_2) 37 a37_2) 38 a38_2) 39 c39_3) 41 (f 41)) (va_up (va_up (va_up g 0 d0_3) 2 d2_3) 3 d3_3) a1 (by omega) (show 0 ≤ a1 from by omega)) mM_X5_162 mI_X5_lowestAsked mE_X5_lowestAsked mN_X5 mC_X5_lowestAsked (by decide +kernel) 47 (ci := 5) rfl rfl hP hS (fun _ h => h) ⟨Nat.le_of_ble_eq_true rfl, Nat.le_of_ble_eq_true rfl⟩ ⟨Nat.zero_le _, Nat.zero_le _⟩ hl.1 rfl rfl (Nat.le_of_ble_eq_true rfl) dX5_workRanks_20 (fun r_10 v_10 f_10 g_10 H locs hq_10 hP _ hS => ?_)
        obtain ⟨z_10, rfl, rfl, rfl, rfl, p0_10, p1_10⟩ := hq_10
        show W p l e (gRm 4 109) s m args below meth c _ _ 0 0 Q (F0 m 23 ls [.int (iI z_10)])
        replace p0_10 : z_10 = (if (v 4) = 0 then a1 else 0) := p0_10
        replace p1_10 : 0 ≤ z_10 ∧ z_10 ≤ a1 := p1_10
        have hz_10 : inR z_10 := (by first | omega | (rw [p0_10]; split <;> omega))
        refine lv_istore (lv' := [(4, .int (iI z_10)), (0, .ref (ad 47)), (1, .int (iI a1)), (2, .int (iI a2)), (3, .int (iI x3))]) hx hb dX5_workRanks_23 hl (by decide) rfl (fun ls hl => ?_)
        have L_11 : ∀ (n : Nat) (x4 : Int) (c39_11 : Int → Int) (d0_11 : Int → Int) (d2_11 : Int → Int) (d3_11 : Int → Int) (H : Heap) (locs : List Loc) (ls : Array Slot), a1 + 1 - x4 < (n : Int) → (0 ≤ x4 ∧ x4 ≤ a1 + 1) → gWd D (rwT k ad) v (va_up (va_up (va_up (va_up (va_up (va_up (va_up f 34 a34_2) 35 a35_2) 36 a36_2) 37 a37_2) 38 a38_2) 39 c39_11) 41 (f 41)) (va_up (va_up (va_up g 0 d0_11) 2 d2_11) 3 d3_11) H → va_S A s.heap H locs → lv_has ls 5 [(0, .ref (ad 47)), (1, .int (iI a1)), (2, .int (iI a2)), (3, .int (iI x3)), (4, .int (iI x4))] → W p l e (gRm 4 109) s m args below meth c H locs 0 0 Q (F0 m 25 ls []) := by
          intro n
          induction n with
          | zero =>
            intro x4 c39_11 d0_11 d2_11 d3_11 H locs ls hn_11 i11_0 hP hS hl
            exfalso; omega
          | succ n ih_25 =>
            intro x4 c39_11 d0_11 d2_11 d3_11 H locs ls hn_11 i11_0 hP hS hl
            refine lv_iload hx hb dX5_workRanks_25 (lv_at hl 4 rfl) ?_
            refine lv_iload_n hx hb dX5_workRanks_27 rfl (lv_at hl 1 rfl) ?_
            refine gi_cgt (tgt := 56) hx hb dX5_workRanks_28 (by decide) (by omega) (by omega) (fun c_12 => ?_) (fun c_12 => ?_)
            · refine lv_iinc (v := iI (x3 + 1)) (lv' := [(3, .int (iI (x3 + 1))), (0, .ref (ad 47)), (1, .int (iI a1)), (2, .int (iI a2)), (4, .int (iI x4))]) hx hb dX5_workRanks_56 hl (k := 3) rfl (by show iI _ + iI 1 = _; rw [iI_add]) (by decide) rfl (fun ls hl => ?_)
              refine lv_goto (tgt := 7) hx hb dX5_workRanks_59 (by decide) ?_
              exact ih_7 (x3 + 1) c39_11 d0_11 d2_11 d3_11 _ _ _ (by omega) (by omega) hP hS (lv_sub hl [1, 2, 3, 0] rfl)
            · refine lv_aload_n hx hb dX5_workRanks_31 rfl (lv_at hl 0 rfl) ?_
              refine rwG_results_field C hP mF_X5_51 dX5_workRanks_32 ?_
              refine lv_iload_n hx hb dX5_workRanks_35 rfl (lv_at hl 1 rfl) ?_
              refine lv_iload_n hx hb dX5_workRanks_36 rfl (lv_at hl 3 rfl) ?_
              refine g_cv (As := [.int (iI a1), .int (iI x3)]) (rest := []) (n := 2) C hml (c_X2_isIn l D k A ad hD v (va_up (va_up (va_up (va_up (va_up (va_up (va_up f 34 a34_2) 35 a35_2) 36 a36_2) 37 a37_2) 38 a38_2) 39 c39_11) 41 (f 41)) (va_up (va_up (va_up g 0 d0_11) 2 d2_11) 3 d3_11) a1 x3 (by omega) (by omega)) mM_X5_166 mI_X2_isIn mE_X2_isIn mN_X2 mC_X2_isIn (by decide +kernel) 27 (ci := 2) rfl rfl hP hS (fun _ h => h) ⟨Nat.le_of_ble_eq_true rfl, Nat.le_of_ble_eq_true rfl⟩ ⟨Nat.zero_le _, Nat.zero_le _⟩ hl.1 rfl rfl (Nat.le_of_ble_eq_true rfl) dX5_workRanks_37 (fun r_13 v_13 f_13 g_13 H locs hq_13 hP _ hS => ?_)
              obtain ⟨z_13, rfl, rfl, rfl, rfl, p0_13⟩ := hq_13
              show W p l e (gRm 4 109) s m args below meth c _ _ 0 0 Q (F0 m 40 ls [.int (iI z_13)])
              replace p0_13 : z_13 = (if (0 ≤ x3 ∧ x3 < (v 21)) ∧ a1 ≤ (f 18) x3 then 1 else 0) := p0_13
              have w_13 := gif (P := (0 ≤ x3 ∧ x3 < (v 21)) ∧ a1 ≤ (f 18) x3) p0_13
              have hz_13 : inR z_13 := (by first | omega | (rw [p0_13]; split <;> omega))
              refine gi_zeq (tgt := 56) hx hb dX5_workRanks_40 (by decide) (by omega) (fun c_14 => ?_) (fun c_14 => ?_)
              · refine lv_iinc (v := iI (x3 + 1)) (lv' := [(3, .int (iI (x3 + 1))), (0, .ref (ad 47)), (1, .int (iI a1)), (2, .int (iI a2)), (4, .int (iI x4))]) hx hb dX5_workRanks_56 hl (k := 3) rfl (by show iI _ + iI 1 = _; rw [iI_add]) (by decide) rfl (fun ls hl => ?_)
                refine lv_goto (tgt := 7) hx hb dX5_workRanks_59 (by decide) ?_
                exact ih_7 (x3 + 1) c39_11 d0_11 d2_11 d3_11 _ _ _ (by omega) (by omega) hP hS (lv_sub hl [1, 2, 3, 0] rfl)
              · refine lv_aload_n hx hb dX5_workRanks_43 rfl (lv_at hl 0 rfl) ?_
                refine lv_iload hx hb dX5_workRanks_44 (lv_at hl 4 rfl) ?_
                refine lv_iload_n hx hb dX5_workRanks_46 rfl (lv_at hl 3 rfl) ?_
                refine g_cv (As := [.int (iI x4), .int (iI x3)]) (rest := []) (n := 2) C hml (c_X5_workKeys l D k A ad hD v (va_up (va_up (va_up (va_up (va_up (va_up (va_up f 34 a34_2) 35 a35_2) 36 a36_2) 37 a37_2) 38 a38_2) 39 c39_11) 41 (f 41)) (va_up (va_up (va_up g 0 d0_11) 2 d2_11) 3 d3_11) x4 x3 (by omega) (by omega) (show shOk (v 1) (f 1) from hs) (show 0 ≤ x4 ∧ x4 ≤ 3 from by omega) (show 0 ≤ x3 ∧ x3 ≤ 15 from by omega)) mM_X5_170 mI_X5_workKeys mE_X5_workKeys mN_X5 mC_X5_workKeys (by decide +kernel) 47 (ci := 5) rfl rfl hP hS (fun _ h => h) ⟨Nat.le_of_ble_eq_true rfl, Nat.le_of_ble_eq_true rfl⟩ ⟨Nat.zero_le _, Nat.zero_le _⟩ hl.1 rfl rfl (Nat.le_of_ble_eq_true rfl) dX5_workRanks_47 (fun r_15 v_15 f_15 g_15 H locs hq_15 hP _ hS => ?_)
                obtain ⟨a39_15, b0_15, b2_15, b3_15, rfl, rfl, rfl, rfl⟩ := hq_15
                show W p l e (gRm 4 109) s m args below meth c _ _ 0 0 Q (F0 m 50 ls [])
                have hP : gWd D (rwT k ad) v (va_up (va_up (va_up (va_up (va_up (va_up (va_up f 34 a34_2) 35 a35_2) 36 a36_2) 37 a37_2) 38 a38_2) 39 a39_15) 41 (f 41)) (va_up (va_up (va_up g 0 b0_15) 2 b2_15) 3 b3_15) H := ⟨hP.1, (gF_up (V := rwV) (F := rwF) (gF_up (V := rwV) (F := rwF) (gF_up (V := rwV) (F := rwF) (gF_up (V := rwV) (F := rwF) (gF_up (V := rwV) (F := rwF) (gF_up (V := rwV) (F := rwF) (gF_up (V := rwV) (F := rwF) ⟨hok.1, hok.2⟩ 34 (hP.2.2 34)) 35 (hP.2.2 35)) 36 (hP.2.2 36)) 37 (hP.2.2 37)) 38 (hP.2.2 38)) 39 (hP.2.2 39)) 41 (hP.2.2 41))⟩
                refine lv_iinc (v := iI (x4 + 1)) (lv' := [(4, .int (iI (x4 + 1))), (0, .ref (ad 47)), (1, .int (iI a1)), (2, .int (iI a2)), (3, .int (iI x3))]) hx hb dX5_workRanks_50 hl (k := 4) rfl (by show iI _ + iI 1 = _; rw [iI_add]) (by decide) rfl (fun ls hl => ?_)
                refine lv_goto (tgt := 25) hx hb dX5_workRanks_53 (by decide) ?_
                exact ih_25 (x4 + 1) a39_15 b0_15 b2_15 b3_15 _ _ _ (by omega) (by omega) hP hS (lv_sub hl [1, 2, 3, 4, 0] rfl)
        exact L_11 5 z_10 c39_3 d0_3 d2_3 d3_3 _ _ _ (by omega) (by omega) hP hS (lv_sub hl [1, 2, 3, 4, 0] rfl)
  exact L_3 17 0 (f 39) (g 0) (g 2) (g 3) _ _ _ (by omega) (by omega) hP hS (lv_sub hl [1, 2, 3, 0] rfl)

set_option maxHeartbeats 4000000 in
set_option maxRecDepth 100000 in
theorem c_X5_manyStartAhead (l : Launch) (D : va_G) (k : Nat → ClassId) (A : Nat → Prop) (ad : Nat → Nat) (hD : rwD A k ad) (v : gV) (f g : gF) (a1 : Int) (a2 : Int) (h_a1 : inR a1) (h_a2 : inR a2) (h1 : 0 ≤ a1 ∧ a1 ≤ 3) (h2 : 0 ≤ a2 ∧ a2 ≤ 15) : GM l D k A (rwT k ad) yX5_manyStartAhead cX5_manyStartAhead 5 (some .int) 2 43 [.ref (ad 47), .int (iI a1), .int (iI a2)] v f g (fun r v1 f1 g1 => ∃ (z : Int), r = some (.int (iI z)) ∧ v = v1 ∧ f = f1 ∧ g = g1 ∧ (0 ≤ z ∧ z ≤ 16)) := by
  refine GM.of (by decide) (Nat.le_of_ble_eq_true rfl) ?_
  intro p e s m args below meth c Q ls hQ C hml hr hlocks hP hl
  have hx := C.1
  have hb := C.2.1
  have hok := hP.2
  have hS : va_S A s.heap s.heap [] := va_S.rf
  have hl : lv_has ls 5 [(0, .ref (ad 47)), (1, .int (iI a1)), (2, .int (iI a2))] := hl
  have r_1 : 0 ≤ (v 21) ∧ (v 21) ≤ 16 := hok.1 21
  refine lv_iconst (v := iI 0) hx hb dX5_manyStartAhead_0 rfl ?_
  refine lv_istore_n (lv' := [(3, .int (iI 0)), (0, .ref (ad 47)), (1, .int (iI a1)), (2, .int (iI a2))]) hx hb dX5_manyStartAhead_1 rfl hl (by decide) rfl (fun ls hl => ?_)
  refine lv_iconst (v := iI 0) hx hb dX5_manyStartAhead_2 rfl ?_
  refine lv_istore (lv' := [(4, .int (iI 0)), (3, .int (iI 0)), (0, .ref (ad 47)), (1, .int (iI a1)), (2, .int (iI a2))]) hx hb dX5_manyStartAhead_3 hl (by decide) rfl (fun ls hl => ?_)
  have L_2 : ∀ (n : Nat) (x3 : Int) (x4 : Int) (H : Heap) (locs : List Loc) (ls : Array Slot), 16 - x4 < (n : Int) → (0 ≤ x4 ∧ x4 ≤ (v 21)) → (0 ≤ x3 ∧ x3 ≤ x4) → gWd D (rwT k ad) v f g H → va_S A s.heap H locs → lv_has ls 5 [(0, .ref (ad 47)), (1, .int (iI a1)), (2, .int (iI a2)), (3, .int (iI x3)), (4, .int (iI x4))] → W p l e (gRm 2 43) s m args below meth c H locs 0 0 Q (F0 m 5 ls []) := by
    intro n
    induction n with
    | zero =>
      intro x3 x4 H locs ls hn_2 i2_0 i2_1 hP hS hl
      exfalso; omega
    | succ n ih_5 =>
      intro x3 x4 H locs ls hn_2 i2_0 i2_1 hP hS hl
      refine lv_iload hx hb dX5_manyStartAhead_5 (lv_at hl 4 rfl) ?_
      refine lv_aload_n hx hb dX5_manyStartAhead_7 rfl (lv_at hl 0 rfl) ?_
      refine rwG_results_field C hP mF_X5_51 dX5_manyStartAhead_8 ?_
      refine rwG_field_climbers C hP mF_X5_157 dX5_manyStartAhead_11 ?_
      refine gi_cge (tgt := 77) hx hb dX5_manyStartAhead_14 (by decide) (by omega) (by omega) (fun c_3 => ?_) (fun c_3 => ?_)
      · refine lv_iload_n hx hb dX5_manyStartAhead_77 rfl (lv_at hl 3 rfl) ?_
        exact g_iret hQ C hr hlocks hP hS dX5_manyStartAhead_78 ⟨x3, rfl, rfl, rfl, rfl, (by first | omega | (split <;> omega))⟩
      · refine lv_aload_n hx hb dX5_manyStartAhead_17 rfl (lv_at hl 0 rfl) ?_
        refine rwG_results_field C hP mF_X5_51 dX5_manyStartAhead_18 ?_
        refine lv_iload_n hx hb dX5_manyStartAhead_21 rfl (lv_at hl 1 rfl) ?_
        refine lv_iload hx hb dX5_manyStartAhead_22 (lv_at hl 4 rfl) ?_
        refine g_cv (As := [.int (iI a1), .int (iI x4)]) (rest := []) (n := 2) C hml (c_X2_isIn l D k A ad hD v f g a1 x4 (by omega) (by omega)) mM_X5_166 mI_X2_isIn mE_X2_isIn mN_X2 mC_X2_isIn (by decide +kernel) 27 (ci := 2) rfl rfl hP hS (fun _ h => h) ⟨Nat.le_of_ble_eq_true rfl, Nat.le_of_ble_eq_true rfl⟩ ⟨Nat.zero_le _, Nat.zero_le _⟩ hl.1 rfl rfl (Nat.le_of_ble_eq_true rfl) dX5_manyStartAhead_24 (fun r_4 v_4 f_4 g_4 H locs hq_4 hP _ hS => ?_)
        obtain ⟨z_4, rfl, rfl, rfl, rfl, p0_4⟩ := hq_4
        show W p l e (gRm 2 43) s m args below meth c _ _ 0 0 Q (F0 m 27 ls [.int (iI z_4)])
        replace p0_4 : z_4 = (if (0 ≤ x4 ∧ x4 < (v 21)) ∧ a1 ≤ (f 18) x4 then 1 else 0) := p0_4
        have w_4 := gif (P := (0 ≤ x4 ∧ x4 < (v 21)) ∧ a1 ≤ (f 18) x4) p0_4
        have hz_4 : inR z_4 := (by first | omega | (rw [p0_4]; split <;> omega))
        refine gi_zeq (tgt := 71) hx hb dX5_manyStartAhead_27 (by decide) (by omega) (fun c_5 => ?_) (fun c_5 => ?_)
        · refine lv_iinc (v := iI (x4 + 1)) (lv' := [(4, .int (iI (x4 + 1))), (0, .ref (ad 47)), (1, .int (iI a1)), (2, .int (iI a2)), (3, .int (iI x3))]) hx hb dX5_manyStartAhead_71 hl (k := 4) rfl (by show iI _ + iI 1 = _; rw [iI_add]) (by decide) rfl (fun ls hl => ?_)
          refine lv_goto (tgt := 5) hx hb dX5_manyStartAhead_74 (by decide) ?_
          exact ih_5 x3 (x4 + 1) _ _ _ (by omega) (by omega) (by omega) hP hS (lv_sub hl [1, 2, 3, 4, 0] rfl)
        · refine lv_aload_n hx hb dX5_manyStartAhead_30 rfl (lv_at hl 0 rfl) ?_
          refine rwG_results_ranks C hP mF_X5_40 dX5_manyStartAhead_31 ?_
          refine lv_iload hx hb dX5_manyStartAhead_34 (lv_at hl 4 rfl) ?_
          refine rwL_results_ranks C hP (by omega) (by omega) dX5_manyStartAhead_36 ?_
          have r_6 : (-1) ≤ (f 41 x4) ∧ (f 41 x4) ≤ 17 := hP.2.2 41 x4
          refine lv_aload_n hx hb dX5_manyStartAhead_37 rfl (lv_at hl 0 rfl) ?_
          refine rwG_results_ranks C hP mF_X5_40 dX5_manyStartAhead_38 ?_
          refine lv_iload_n hx hb dX5_manyStartAhead_41 rfl (lv_at hl 2 rfl) ?_
          refine rwL_results_ranks C hP (by omega) (by omega) dX5_manyStartAhead_42 ?_
          have r_7 : (-1) ≤ (f 41 a2) ∧ (f 41 a2) ≤ 17 := hP.2.2 41 a2
          refine gi_cgt (tgt := 68) hx hb dX5_manyStartAhead_43 (by decide) (by omega) (by omega) (fun c_8 => ?_) (fun c_8 => ?_)
          · refine lv_iinc (v := iI (x3 + 1)) (lv' := [(3, .int (iI (x3 + 1))), (0, .ref (ad 47)), (1, .int (iI a1)), (2, .int (iI a2)), (4, .int (iI x4))]) hx hb dX5_manyStartAhead_68 hl (k := 3) rfl (by show iI _ + iI 1 = _; rw [iI_add]) (by decide) rfl (fun ls hl => ?_)
            refine lv_iinc (v := iI (x4 + 1)) (lv' := [(4, .int (iI (x4 + 1))), (3, .int (iI (x3 + 1))), (0, .ref (ad 47)), (1, .int (iI a1)), (2, .int (iI a2))]) hx hb dX5_manyStartAhead_71 hl (k := 4) rfl (by show iI _ + iI 1 = _; rw [iI_add]) (by decide) rfl (fun ls hl => ?_)
            refine lv_goto (tgt := 5) hx hb dX5_manyStartAhead_74 (by decide) ?_
            exact ih_5 (x3 + 1) (x4 + 1) _ _ _ (by omega) (by omega) (by omega) hP hS (lv_sub hl [2, 3, 4, 1, 0] rfl)
          · refine lv_aload_n hx hb dX5_manyStartAhead_46 rfl (lv_at hl 0 rfl) ?_
            refine rwG_results_ranks C hP mF_X5_40 dX5_manyStartAhead_47 ?_
            refine lv_iload hx hb dX5_manyStartAhead_50 (lv_at hl 4 rfl) ?_
            refine rwL_results_ranks C hP (by omega) (by omega) dX5_manyStartAhead_52 ?_
            refine lv_aload_n hx hb dX5_manyStartAhead_53 rfl (lv_at hl 0 rfl) ?_
            refine rwG_results_ranks C hP mF_X5_40 dX5_manyStartAhead_54 ?_
            refine lv_iload_n hx hb dX5_manyStartAhead_57 rfl (lv_at hl 2 rfl) ?_
            refine rwL_results_ranks C hP (by omega) (by omega) dX5_manyStartAhead_58 ?_
            refine gi_cne (tgt := 71) hx hb dX5_manyStartAhead_59 (by decide) (by omega) (by omega) (fun c_9 => ?_) (fun c_9 => ?_)
            · refine lv_iinc (v := iI (x4 + 1)) (lv' := [(4, .int (iI (x4 + 1))), (0, .ref (ad 47)), (1, .int (iI a1)), (2, .int (iI a2)), (3, .int (iI x3))]) hx hb dX5_manyStartAhead_71 hl (k := 4) rfl (by show iI _ + iI 1 = _; rw [iI_add]) (by decide) rfl (fun ls hl => ?_)
              refine lv_goto (tgt := 5) hx hb dX5_manyStartAhead_74 (by decide) ?_
              exact ih_5 x3 (x4 + 1) _ _ _ (by omega) (by omega) (by omega) hP hS (lv_sub hl [1, 2, 3, 4, 0] rfl)
            · refine lv_iload hx hb dX5_manyStartAhead_62 (lv_at hl 4 rfl) ?_
              refine lv_iload_n hx hb dX5_manyStartAhead_64 rfl (lv_at hl 2 rfl) ?_
              refine gi_cle (tgt := 71) hx hb dX5_manyStartAhead_65 (by decide) (by omega) (by omega) (fun c_10 => ?_) (fun c_10 => ?_)
              · refine lv_iinc (v := iI (x4 + 1)) (lv' := [(4, .int (iI (x4 + 1))), (0, .ref (ad 47)), (1, .int (iI a1)), (2, .int (iI a2)), (3, .int (iI x3))]) hx hb dX5_manyStartAhead_71 hl (k := 4) rfl (by show iI _ + iI 1 = _; rw [iI_add]) (by decide) rfl (fun ls hl => ?_)
                refine lv_goto (tgt := 5) hx hb dX5_manyStartAhead_74 (by decide) ?_
                exact ih_5 x3 (x4 + 1) _ _ _ (by omega) (by omega) (by omega) hP hS (lv_sub hl [1, 2, 3, 4, 0] rfl)
              · refine lv_iinc (v := iI (x3 + 1)) (lv' := [(3, .int (iI (x3 + 1))), (0, .ref (ad 47)), (1, .int (iI a1)), (2, .int (iI a2)), (4, .int (iI x4))]) hx hb dX5_manyStartAhead_68 hl (k := 3) rfl (by show iI _ + iI 1 = _; rw [iI_add]) (by decide) rfl (fun ls hl => ?_)
                refine lv_iinc (v := iI (x4 + 1)) (lv' := [(4, .int (iI (x4 + 1))), (3, .int (iI (x3 + 1))), (0, .ref (ad 47)), (1, .int (iI a1)), (2, .int (iI a2))]) hx hb dX5_manyStartAhead_71 hl (k := 4) rfl (by show iI _ + iI 1 = _; rw [iI_add]) (by decide) rfl (fun ls hl => ?_)
                refine lv_goto (tgt := 5) hx hb dX5_manyStartAhead_74 (by decide) ?_
                exact ih_5 (x3 + 1) (x4 + 1) _ _ _ (by omega) (by omega) (by omega) hP hS (lv_sub hl [2, 3, 4, 1, 0] rfl)
  exact L_2 17 0 0 _ _ _ (by omega) (by omega) (by omega) hP hS (lv_sub hl [2, 3, 4, 1, 0] rfl)

set_option maxHeartbeats 4000000 in
set_option maxRecDepth 100000 in
theorem c_X5_starter (l : Launch) (D : va_G) (k : Nat → ClassId) (A : Nat → Prop) (ad : Nat → Nat) (hD : rwD A k ad) (v : gV) (f g : gF) (a1 : Int) (a2 : Int) (h_a1 : inR a1) (h_a2 : inR a2) (h1 : 0 ≤ a1 ∧ a1 ≤ 3) : GM l D k A (rwT k ad) yX5_starter cX5_starter 4 (some .int) 3 67 [.ref (ad 47), .int (iI a1), .int (iI a2)] v f g (fun r v1 f1 g1 => ∃ (z : Int), r = some (.int (iI z)) ∧ v = v1 ∧ f = f1 ∧ g = g1 ∧ ((-1) ≤ z ∧ z ≤ 15)) := by
  refine GM.of (by decide) (Nat.le_of_ble_eq_true rfl) ?_
  intro p e s m args below meth c Q ls hQ C hml hr hlocks hP hl
  have hx := C.1
  have hb := C.2.1
  have hok := hP.2
  have hS : va_S A s.heap s.heap [] := va_S.rf
  have hl : lv_has ls 4 [(0, .ref (ad 47)), (1, .int (iI a1)), (2, .int (iI a2))] := hl
  have r_1 : 0 ≤ (v 21) ∧ (v 21) ≤ 16 := hok.1 21
  refine lv_iconst (v := iI 0) hx hb dX5_starter_0 rfl ?_
  refine lv_istore_n (lv' := [(3, .int (iI 0)), (0, .ref (ad 47)), (1, .int (iI a1)), (2, .int (iI a2))]) hx hb dX5_starter_1 rfl hl (by decide) rfl (fun ls hl => ?_)
  have L_2 : ∀ (n : Nat) (x3 : Int) (H : Heap) (locs : List Loc) (ls : Array Slot), 16 - x3 < (n : Int) → (0 ≤ x3 ∧ x3 ≤ (v 21)) → gWd D (rwT k ad) v f g H → va_S A s.heap H locs → lv_has ls 4 [(0, .ref (ad 47)), (1, .int (iI a1)), (2, .int (iI a2)), (3, .int (iI x3))] → W p l e (gRm 3 67) s m args below meth c H locs 0 0 Q (F0 m 2 ls []) := by
    intro n
    induction n with
    | zero =>
      intro x3 H locs ls hn_2 i2_0 hP hS hl
      exfalso; omega
    | succ n ih_2 =>
      intro x3 H locs ls hn_2 i2_0 hP hS hl
      refine lv_iload_n hx hb dX5_starter_2 rfl (lv_at hl 3 rfl) ?_
      refine lv_aload_n hx hb dX5_starter_3 rfl (lv_at hl 0 rfl) ?_
      refine rwG_results_field C hP mF_X5_51 dX5_starter_4 ?_
      refine rwG_field_climbers C hP mF_X5_157 dX5_starter_7 ?_
      refine gi_cge (tgt := 43) hx hb dX5_starter_10 (by decide) (by omega) (by omega) (fun c_3 => ?_) (fun c_3 => ?_)
      · refine lv_iconst (v := iI (-1)) hx hb dX5_starter_43 rfl ?_
        exact g_iret hQ C hr hlocks hP hS dX5_starter_44 ⟨(-1), rfl, rfl, rfl, rfl, (by first | omega | (split <;> omega))⟩
      · refine lv_aload_n hx hb dX5_starter_13 rfl (lv_at hl 0 rfl) ?_
        refine rwG_results_field C hP mF_X5_51 dX5_starter_14 ?_
        refine lv_iload_n hx hb dX5_starter_17 rfl (lv_at hl 1 rfl) ?_
        refine lv_iload_n hx hb dX5_starter_18 rfl (lv_at hl 3 rfl) ?_
        refine g_cv (As := [.int (iI a1), .int (iI x3)]) (rest := []) (n := 2) C hml (c_X2_isIn l D k A ad hD v f g a1 x3 (by omega) (by omega)) mM_X5_166 mI_X2_isIn mE_X2_isIn mN_X2 mC_X2_isIn (by decide +kernel) 27 (ci := 2) rfl rfl hP hS (fun _ h => h) ⟨Nat.le_of_ble_eq_true rfl, Nat.le_of_ble_eq_true rfl⟩ ⟨Nat.zero_le _, Nat.zero_le _⟩ hl.1 rfl rfl (Nat.le_of_ble_eq_true rfl) dX5_starter_19 (fun r_4 v_4 f_4 g_4 H locs hq_4 hP _ hS => ?_)
        obtain ⟨z_4, rfl, rfl, rfl, rfl, p0_4⟩ := hq_4
        show W p l e (gRm 3 67) s m args below meth c _ _ 0 0 Q (F0 m 22 ls [.int (iI z_4)])
        replace p0_4 : z_4 = (if (0 ≤ x3 ∧ x3 < (v 21)) ∧ a1 ≤ (f 18) x3 then 1 else 0) := p0_4
        have w_4 := gif (P := (0 ≤ x3 ∧ x3 < (v 21)) ∧ a1 ≤ (f 18) x3) p0_4
        have hz_4 : inR z_4 := (by first | omega | (rw [p0_4]; split <;> omega))
        refine gi_zeq (tgt := 37) hx hb dX5_starter_22 (by decide) (by omega) (fun c_5 => ?_) (fun c_5 => ?_)
        · refine lv_iinc (v := iI (x3 + 1)) (lv' := [(3, .int (iI (x3 + 1))), (0, .ref (ad 47)), (1, .int (iI a1)), (2, .int (iI a2))]) hx hb dX5_starter_37 hl (k := 3) rfl (by show iI _ + iI 1 = _; rw [iI_add]) (by decide) rfl (fun ls hl => ?_)
          refine lv_goto (tgt := 2) hx hb dX5_starter_40 (by decide) ?_
          exact ih_2 (x3 + 1) _ _ _ (by omega) (by omega) hP hS (lv_sub hl [1, 2, 3, 0] rfl)
        · refine lv_aload_n hx hb dX5_starter_25 rfl (lv_at hl 0 rfl) ?_
          refine lv_iload_n hx hb dX5_starter_26 rfl (lv_at hl 1 rfl) ?_
          refine lv_iload_n hx hb dX5_starter_27 rfl (lv_at hl 3 rfl) ?_
          refine g_cv (As := [.int (iI a1), .int (iI x3)]) (rest := []) (n := 2) C hml (c_X5_manyStartAhead l D k A ad hD v f g a1 x3 (by omega) (by omega) (show 0 ≤ a1 ∧ a1 ≤ 3 from by omega) (show 0 ≤ x3 ∧ x3 ≤ 15 from by omega)) mM_X5_192 mI_X5_manyStartAhead mE_X5_manyStartAhead mN_X5 mC_X5_manyStartAhead (by decide +kernel) 47 (ci := 5) rfl rfl hP hS (fun _ h => h) ⟨Nat.le_of_ble_eq_true rfl, Nat.le_of_ble_eq_true rfl⟩ ⟨Nat.zero_le _, Nat.zero_le _⟩ hl.1 rfl rfl (Nat.le_of_ble_eq_true rfl) dX5_starter_28 (fun r_6 v_6 f_6 g_6 H locs hq_6 hP _ hS => ?_)
          obtain ⟨z_6, rfl, rfl, rfl, rfl, p0_6⟩ := hq_6
          show W p l e (gRm 3 67) s m args below meth c _ _ 0 0 Q (F0 m 31 ls [.int (iI z_6)])
          replace p0_6 : 0 ≤ z_6 ∧ z_6 ≤ 16 := p0_6
          refine lv_iload_n hx hb dX5_starter_31 rfl (lv_at hl 2 rfl) ?_
          refine gi_cne (tgt := 37) hx hb dX5_starter_32 (by decide) (by omega) (by omega) (fun c_7 => ?_) (fun c_7 => ?_)
          · refine lv_iinc (v := iI (x3 + 1)) (lv' := [(3, .int (iI (x3 + 1))), (0, .ref (ad 47)), (1, .int (iI a1)), (2, .int (iI a2))]) hx hb dX5_starter_37 hl (k := 3) rfl (by show iI _ + iI 1 = _; rw [iI_add]) (by decide) rfl (fun ls hl => ?_)
            refine lv_goto (tgt := 2) hx hb dX5_starter_40 (by decide) ?_
            exact ih_2 (x3 + 1) _ _ _ (by omega) (by omega) hP hS (lv_sub hl [1, 2, 3, 0] rfl)
          · refine lv_iload_n hx hb dX5_starter_35 rfl (lv_at hl 3 rfl) ?_
            exact g_iret hQ C hr hlocks hP hS dX5_starter_36 ⟨x3, rfl, rfl, rfl, rfl, (by first | omega | (split <;> omega))⟩
  exact L_2 17 0 _ _ _ (by omega) (by omega) hP hS (lv_sub hl [1, 2, 3, 0] rfl)

set_option maxHeartbeats 4000000 in
set_option maxRecDepth 100000 in
theorem c_X5_workPoints (l : Launch) (D : va_G) (k : Nat → ClassId) (A : Nat → Prop) (ad : Nat → Nat) (hD : rwD A k ad) (v : gV) (f g : gF) (a1 : Int) (a2 : Int) (h_a1 : inR a1) (h_a2 : inR a2) (hs : shOk (v 1) (f 1)) (h1 : 0 ≤ a1 ∧ a1 ≤ 3) : GM l D k A (rwT k ad) yX5_workPoints cX5_workPoints 5 none 3 85 [.ref (ad 47), .int (iI a1), .int (iI a2)] v f g (fun r v1 f1 g1 => ∃ (a34_ : Int → Int) (a35_ : Int → Int) (a36_ : Int → Int) (a37_ : Int → Int) (a38_ : Int → Int) (a39_ : Int → Int) (a40_ : Int → Int) (b0_ : Int → Int), r = none ∧ v = v1 ∧ (va_up (va_up (va_up (va_up (va_up (va_up (va_up f 34 a34_) 35 a35_) 36 a36_) 37 a37_) 38 a38_) 39 a39_) 40 a40_) = f1 ∧ (va_up g 0 b0_) = g1) := by
  refine GM.of (by decide) (Nat.le_of_ble_eq_true rfl) ?_
  intro p e s m args below meth c Q ls hQ C hml hr hlocks hP hl
  have hx := C.1
  have hb := C.2.1
  have hok := hP.2
  have hS : va_S A s.heap s.heap [] := va_S.rf
  have hl : lv_has ls 5 [(0, .ref (ad 47)), (1, .int (iI a1)), (2, .int (iI a2))] := hl
  have hP : gWd D (rwT k ad) v (va_up (va_up (va_up (va_up (va_up (va_up (va_up f 34 (f 34)) 35 (f 35)) 36 (f 36)) 37 (f 37)) 38 (f 38)) 39 (f 39)) 40 (f 40)) (va_up g 0 (g 0)) s.heap := by rw [va_id, va_id, va_id, va_id, va_id, va_id, va_id, va_id]; exact hP
  have r_1 : 0 ≤ (v 21) ∧ (v 21) ≤ 16 := hok.1 21
  refine lv_aload_n hx hb dX5_workPoints_0 rfl (lv_at hl 0 rfl) ?_
  refine lv_iload_n hx hb dX5_workPoints_1 rfl (lv_at hl 2 rfl) ?_
  refine g_cv (As := [.int (iI a2)]) (rest := []) (n := 1) C hml (c_X5_survey l D k A ad hD v (va_up (va_up (va_up (va_up (va_up (va_up (va_up f 34 (f 34)) 35 (f 35)) 36 (f 36)) 37 (f 37)) 38 (f 38)) 39 (f 39)) 40 (f 40)) (va_up g 0 (g 0)) a2 (by omega)) mM_X5_154 mI_X5_survey mE_X5_survey mN_X5 mC_X5_survey (by decide +kernel) 47 (ci := 5) rfl rfl hP hS (fun _ h => h) ⟨Nat.le_of_ble_eq_true rfl, Nat.le_of_ble_eq_true rfl⟩ ⟨Nat.zero_le _, Nat.zero_le _⟩ hl.1 rfl rfl (Nat.le_of_ble_eq_true rfl) dX5_workPoints_2 (fun r_2 v_2 f_2 g_2 H locs hq_2 hP _ hS => ?_)
  obtain ⟨a34_2, a35_2, a36_2, a37_2, a38_2, rfl, rfl, rfl, rfl⟩ := hq_2
  show W p l e (gRm 3 85) s m args below meth c _ _ 0 0 Q (F0 m 5 ls [])
  have hP : gWd D (rwT k ad) v (va_up (va_up (va_up (va_up (va_up (va_up (va_up f 34 a34_2) 35 a35_2) 36 a36_2) 37 a37_2) 38 a38_2) 39 (f 39)) 40 (f 40)) (va_up g 0 (g 0)) H := ⟨hP.1, (gF_up (V := rwV) (F := rwF) (gF_up (V := rwV) (F := rwF) (gF_up (V := rwV) (F := rwF) (gF_up (V := rwV) (F := rwF) (gF_up (V := rwV) (F := rwF) (gF_up (V := rwV) (F := rwF) (gF_up (V := rwV) (F := rwF) ⟨hok.1, hok.2⟩ 34 (hP.2.2 34)) 35 (hP.2.2 35)) 36 (hP.2.2 36)) 37 (hP.2.2 37)) 38 (hP.2.2 38)) 39 (hP.2.2 39)) 40 (hP.2.2 40))⟩
  refine lv_iconst (v := iI 0) hx hb dX5_workPoints_5 rfl ?_
  refine lv_istore_n (lv' := [(3, .int (iI 0)), (0, .ref (ad 47)), (1, .int (iI a1)), (2, .int (iI a2))]) hx hb dX5_workPoints_6 rfl hl (by decide) rfl (fun ls hl => ?_)
  have L_3 : ∀ (n : Nat) (x3 : Int) (c39_3 : Int → Int) (c40_3 : Int → Int) (d0_3 : Int → Int) (H : Heap) (locs : List Loc) (ls : Array Slot), 16 - x3 < (n : Int) → (0 ≤ x3 ∧ x3 ≤ (v 21)) → gWd D (rwT k ad) v (va_up (va_up (va_up (va_up (va_up (va_up (va_up f 34 a34_2) 35 a35_2) 36 a36_2) 37 a37_2) 38 a38_2) 39 c39_3) 40 c40_3) (va_up g 0 d0_3) H → va_S A s.heap H locs → lv_has ls 5 [(0, .ref (ad 47)), (1, .int (iI a1)), (2, .int (iI a2)), (3, .int (iI x3))] → W p l e (gRm 3 85) s m args below meth c H locs 0 0 Q (F0 m 7 ls []) := by
    intro n
    induction n with
    | zero =>
      intro x3 c39_3 c40_3 d0_3 H locs ls hn_3 i3_0 hP hS hl
      exfalso; omega
    | succ n ih_7 =>
      intro x3 c39_3 c40_3 d0_3 H locs ls hn_3 i3_0 hP hS hl
      refine lv_iload_n hx hb dX5_workPoints_7 rfl (lv_at hl 3 rfl) ?_
      refine lv_aload_n hx hb dX5_workPoints_8 rfl (lv_at hl 0 rfl) ?_
      refine rwG_results_field C hP mF_X5_51 dX5_workPoints_9 ?_
      refine rwG_field_climbers C hP mF_X5_157 dX5_workPoints_12 ?_
      refine gi_cge (tgt := 77) hx hb dX5_workPoints_15 (by decide) (by omega) (by omega) (fun c_4 => ?_) (fun c_4 => ?_)
      · exact g_vret hQ C hr hlocks hP hS dX5_workPoints_77 ⟨a34_2, a35_2, a36_2, a37_2, a38_2, c39_3, c40_3, d0_3, rfl, rfl, rfl, rfl⟩
      · refine lv_iconst (v := iI 0) hx hb dX5_workPoints_18 rfl ?_
        refine lv_istore (lv' := [(4, .int (iI 0)), (0, .ref (ad 47)), (1, .int (iI a1)), (2, .int (iI a2)), (3, .int (iI x3))]) hx hb dX5_workPoints_19 hl (by decide) rfl (fun ls hl => ?_)
        have L_5 : ∀ (n : Nat) (x4 : Int) (c39_5 : Int → Int) (c40_5 : Int → Int) (d0_5 : Int → Int) (H : Heap) (locs : List Loc) (ls : Array Slot), 5 - x4 < (n : Int) → (0 ≤ x4 ∧ x4 ≤ 5) → gWd D (rwT k ad) v (va_up (va_up (va_up (va_up (va_up (va_up (va_up f 34 a34_2) 35 a35_2) 36 a36_2) 37 a37_2) 38 a38_2) 39 c39_5) 40 c40_5) (va_up g 0 d0_5) H → va_S A s.heap H locs → lv_has ls 5 [(0, .ref (ad 47)), (1, .int (iI a1)), (2, .int (iI a2)), (3, .int (iI x3)), (4, .int (iI x4))] → W p l e (gRm 3 85) s m args below meth c H locs 0 0 Q (F0 m 21 ls []) := by
          intro n
          induction n with
          | zero =>
            intro x4 c39_5 c40_5 d0_5 H locs ls hn_5 i5_0 hP hS hl
            exfalso; omega
          | succ n ih_21 =>
            intro x4 c39_5 c40_5 d0_5 H locs ls hn_5 i5_0 hP hS hl
            refine lv_iload hx hb dX5_workPoints_21 (lv_at hl 4 rfl) ?_
            refine lv_aload_n hx hb dX5_workPoints_23 rfl (lv_at hl 0 rfl) ?_
            refine rwG_results_laws C hP mF_X5_43 dX5_workPoints_24 ?_
            refine lv_iload_n hx hb dX5_workPoints_27 rfl (lv_at hl 1 rfl) ?_
            refine lv_iconst (v := iI 0) hx hb dX5_workPoints_28 rfl ?_
            refine g_cv (As := [.int (iI a1), .int (iI 0)]) (rest := [.int (iI x4)]) (n := 2) C hml (c_X4_shapeOf l D k A ad hD v (va_up (va_up (va_up (va_up (va_up (va_up (va_up f 34 a34_2) 35 a35_2) 36 a36_2) 37 a37_2) 38 a38_2) 39 c39_5) 40 c40_5) (va_up g 0 d0_5) a1 0 (by omega) (by decide)) mM_X5_126 mI_X4_shapeOf mE_X4_shapeOf mN_X4 mC_X4_shapeOf (by decide +kernel) 2 (ci := 4) rfl rfl hP hS (fun _ h => h) ⟨Nat.le_of_ble_eq_true rfl, Nat.le_of_ble_eq_true rfl⟩ ⟨Nat.zero_le _, Nat.zero_le _⟩ hl.1 rfl rfl (Nat.le_of_ble_eq_true rfl) dX5_workPoints_29 (fun r_6 v_6 f_6 g_6 H locs hq_6 hP _ hS => ?_)
            obtain ⟨z_6, rfl, rfl, rfl, rfl, p0_6, p1_6⟩ := hq_6
            show W p l e (gRm 3 85) s m args below meth c _ _ 0 0 Q (F0 m 32 ls [.int (iI z_6), .int (iI x4)])
            replace p0_6 : z_6 = (if (0 ≤ a1 ∧ a1 < (v 1)) ∧ 0 ≤ (0 : Int) ∧ (0 : Int) < 4 then (f 1) (a1 * 4 + (0 : Int)) else 0) := p0_6
            replace p1_6 : 0 ≤ z_6 ∧ z_6 ≤ 999999 := p1_6
            have hz_6 : inR z_6 := (by first | omega | (rw [p0_6]; split <;> omega))
            have q_6 := sh0 hs p0_6
            refine gi_cge (tgt := 71) hx hb dX5_workPoints_32 (by decide) (by omega) (by omega) (fun c_7 => ?_) (fun c_7 => ?_)
            · refine lv_iinc (v := iI (x3 + 1)) (lv' := [(3, .int (iI (x3 + 1))), (0, .ref (ad 47)), (1, .int (iI a1)), (2, .int (iI a2)), (4, .int (iI x4))]) hx hb dX5_workPoints_71 hl (k := 3) rfl (by show iI _ + iI 1 = _; rw [iI_add]) (by decide) rfl (fun ls hl => ?_)
              refine lv_goto (tgt := 7) hx hb dX5_workPoints_74 (by decide) ?_
              exact ih_7 (x3 + 1) c39_5 c40_5 d0_5 _ _ _ (by omega) (by omega) hP hS (lv_sub hl [1, 2, 3, 0] rfl)
            · refine lv_aload_n hx hb dX5_workPoints_35 rfl (lv_at hl 0 rfl) ?_
              refine lv_iload_n hx hb dX5_workPoints_36 rfl (lv_at hl 1 rfl) ?_
              refine lv_iload_n hx hb dX5_workPoints_37 rfl (lv_at hl 3 rfl) ?_
              refine lv_iload hx hb dX5_workPoints_38 (lv_at hl 4 rfl) ?_
              refine g_cv (As := [.int (iI a1), .int (iI x3), .int (iI x4)]) (rest := []) (n := 3) C hml (c_X5_workFacts l D k A ad hD v (va_up (va_up (va_up (va_up (va_up (va_up (va_up f 34 a34_2) 35 a35_2) 36 a36_2) 37 a37_2) 38 a38_2) 39 c39_5) 40 c40_5) (va_up g 0 d0_5) a1 x3 x4 (by omega) (by omega) (by omega) (show 0 ≤ a1 ∧ a1 ≤ 3 from by omega) (show 0 ≤ x3 ∧ x3 ≤ 15 from by omega) (show 0 ≤ x4 ∧ x4 ≤ 4 from by omega)) mM_X5_131 mI_X5_workFacts mE_X5_workFacts mN_X5 mC_X5_workFacts (by decide +kernel) 47 (ci := 5) rfl rfl hP hS (fun _ h => h) ⟨Nat.le_of_ble_eq_true rfl, Nat.le_of_ble_eq_true rfl⟩ ⟨Nat.zero_le _, Nat.zero_le _⟩ hl.1 rfl rfl (Nat.le_of_ble_eq_true rfl) dX5_workPoints_40 (fun r_8 v_8 f_8 g_8 H locs hq_8 hP _ hS => ?_)
              obtain ⟨a39_8, rfl, rfl, rfl, rfl⟩ := hq_8
              show W p l e (gRm 3 85) s m args below meth c _ _ 0 0 Q (F0 m 43 ls [])
              have hP : gWd D (rwT k ad) v (va_up (va_up (va_up (va_up (va_up (va_up (va_up f 34 a34_2) 35 a35_2) 36 a36_2) 37 a37_2) 38 a38_2) 39 a39_8) 40 c40_5) (va_up g 0 d0_5) H := ⟨hP.1, (gF_up (V := rwV) (F := rwF) (gF_up (V := rwV) (F := rwF) (gF_up (V := rwV) (F := rwF) (gF_up (V := rwV) (F := rwF) (gF_up (V := rwV) (F := rwF) (gF_up (V := rwV) (F := rwF) (gF_up (V := rwV) (F := rwF) ⟨hok.1, hok.2⟩ 34 (hP.2.2 34)) 35 (hP.2.2 35)) 36 (hP.2.2 36)) 37 (hP.2.2 37)) 38 (hP.2.2 38)) 39 (hP.2.2 39)) 40 (hP.2.2 40))⟩
              refine lv_aload_n hx hb dX5_workPoints_43 rfl (lv_at hl 0 rfl) ?_
              refine rwG_results_points C hP mF_X5_30 dX5_workPoints_44 ?_
              refine lv_iload_n hx hb dX5_workPoints_47 rfl (lv_at hl 3 rfl) ?_
              refine lv_iconst (v := iI 5) hx hb dX5_workPoints_48 rfl ?_
              refine gi_mul (z := (x3 * 5)) hx hb dX5_workPoints_49 rfl ?_
              refine lv_iload hx hb dX5_workPoints_50 (lv_at hl 4 rfl) ?_
              refine gi_add (z := ((x3 * 5) + x4)) hx hb dX5_workPoints_52 rfl ?_
              refine lv_aload_n hx hb dX5_workPoints_53 rfl (lv_at hl 0 rfl) ?_
              refine rwG_results_laws C hP mF_X5_43 dX5_workPoints_54 ?_
              refine lv_aload_n hx hb dX5_workPoints_57 rfl (lv_at hl 0 rfl) ?_
              refine rwG_results_facts C hP mF_X5_27 dX5_workPoints_58 ?_
              refine g_cv (As := [.ref (ad 53)]) (rest := [.int (iI ((x3 * 5) + x4)), .ref (ad 54)]) (n := 1) C hml (c_X4_pointsFor l D k A ad hD v (va_up (va_up (va_up (va_up (va_up (va_up (va_up f 34 a34_2) 35 a35_2) 36 a36_2) 37 a37_2) 38 a38_2) 39 a39_8) 40 c40_5) (va_up g 0 d0_5)) mM_X5_135 mI_X4_pointsFor mE_X4_pointsFor mN_X4 mC_X4_pointsFor (by decide +kernel) 2 (ci := 4) rfl rfl hP hS (fun _ h => h) ⟨Nat.le_of_ble_eq_true rfl, Nat.le_of_ble_eq_true rfl⟩ ⟨Nat.zero_le _, Nat.zero_le _⟩ hl.1 rfl rfl (Nat.le_of_ble_eq_true rfl) dX5_workPoints_61 (fun r_9 v_9 f_9 g_9 H locs hq_9 hP _ hS => ?_)
              obtain ⟨z_9, b0_9, rfl, rfl, rfl, rfl, p0_9⟩ := hq_9
              show W p l e (gRm 3 85) s m args below meth c _ _ 0 0 Q (F0 m 64 ls [.int (iI z_9), .int (iI ((x3 * 5) + x4)), .ref (ad 54)])
              have hP : gWd D (rwT k ad) v (va_up (va_up (va_up (va_up (va_up (va_up (va_up f 34 a34_2) 35 a35_2) 36 a36_2) 37 a37_2) 38 a38_2) 39 a39_8) 40 c40_5) (va_up g 0 b0_9) H := ⟨hP.1, (gF_up (V := rwV) (F := rwF) (gF_up (V := rwV) (F := rwF) (gF_up (V := rwV) (F := rwF) (gF_up (V := rwV) (F := rwF) (gF_up (V := rwV) (F := rwF) (gF_up (V := rwV) (F := rwF) (gF_up (V := rwV) (F := rwF) ⟨hok.1, hok.2⟩ 34 (hP.2.2 34)) 35 (hP.2.2 35)) 36 (hP.2.2 36)) 37 (hP.2.2 37)) 38 (hP.2.2 38)) 39 (hP.2.2 39)) 40 (hP.2.2 40))⟩
              replace p0_9 : (-2147483648) ≤ z_9 ∧ z_9 ≤ 2147483647 := p0_9
              refine rwS_results_points (f1 := (va_up (va_up (va_up (va_up (va_up (va_up (va_up f 34 a34_2) 35 a35_2) 36 a36_2) 37 a37_2) 38 a38_2) 39 a39_8) 40 (u1 c40_5 ((x3 * 5) + x4) z_9))) C hP hD hS (by omega) (by omega) (by omega) rfl (Or.inr (gF_up (V := rwV) (F := rwF) (gF_up (V := rwV) (F := rwF) (gF_up (V := rwV) (F := rwF) (gF_up (V := rwV) (F := rwF) (gF_up (V := rwV) (F := rwF) (gF_up (V := rwV) (F := rwF) (gF_up (V := rwV) (F := rwF) ⟨hok.1, hok.2⟩ 34 (hP.2.2 34)) 35 (hP.2.2 35)) 36 (hP.2.2 36)) 37 (hP.2.2 37)) 38 (hP.2.2 38)) 39 (hP.2.2 39)) 40 (u1_rng (hP.2.2 40) (show (-2147483648) ≤ z_9 ∧ z_9 ≤ 2147483647 from (by omega))))) dX5_workPoints_64 (fun H locs hP hS => ?_)
              refine lv_iinc (v := iI (x4 + 1)) (lv' := [(4, .int (iI (x4 + 1))), (0, .ref (ad 47)), (1, .int (iI a1)), (2, .int (iI a2)), (3, .int (iI x3))]) hx hb dX5_workPoints_65 hl (k := 4) rfl (by show iI _ + iI 1 = _; rw [iI_add]) (by decide) rfl (fun ls hl => ?_)
              refine lv_goto (tgt := 21) hx hb dX5_workPoints_68 (by decide) ?_
              exact ih_21 (x4 + 1) a39_8 (u1 c40_5 ((x3 * 5) + x4) z_9) b0_9 _ _ _ (by omega) (by omega) hP hS (lv_sub hl [1, 2, 3, 4, 0] rfl)
        exact L_5 6 0 c39_3 c40_3 d0_3 _ _ _ (by omega) (by omega) hP hS (lv_sub hl [1, 2, 3, 4, 0] rfl)
  exact L_3 17 0 (f 39) (f 40) (g 0) _ _ _ (by omega) (by omega) hP hS (lv_sub hl [1, 2, 3, 0] rfl)

set_option maxHeartbeats 4000000 in
set_option maxRecDepth 100000 in
theorem c_X5_together (l : Launch) (D : va_G) (k : Nat → ClassId) (A : Nat → Prop) (ad : Nat → Nat) (hD : rwD A k ad) (v : gV) (f g : gF) (a1 : Int) (a2 : Int) (h_a1 : inR a1) (h_a2 : inR a2) (h1 : 0 ≤ a1 ∧ a1 ≤ 15) : GM l D k A (rwT k ad) yX5_together cX5_together 6 (some .long) 0 0 [.ref (ad 47), .int (iI a1), .int (iI a2)] v f g (fun r v1 f1 g1 => ∃ (z : Int), r = some (.long (iL z)) ∧ v = v1 ∧ f = f1 ∧ g = g1) := by
  refine GM.of (by decide) (Nat.le_of_ble_eq_true rfl) ?_
  intro p e s m args below meth c Q ls hQ C hml hr hlocks hP hl
  have hx := C.1
  have hb := C.2.1
  have hok := hP.2
  have hS : va_S A s.heap s.heap [] := va_S.rf
  have hl : lv_has ls 6 [(0, .ref (ad 47)), (1, .int (iI a1)), (2, .int (iI a2))] := hl
  refine lv_lconst (v := iL 0) hx hb dX5_together_0 (by decide) ?_
  refine lv_lstore_n (lv' := [(3, .long (iL 0)), (0, .ref (ad 47)), (1, .int (iI a1)), (2, .int (iI a2))]) hx hb dX5_together_1 rfl hl (by decide) rfl (fun ls hl => ?_)
  refine lv_iconst (v := iI 0) hx hb dX5_together_2 rfl ?_
  refine lv_istore (lv' := [(5, .int (iI 0)), (3, .long (iL 0)), (0, .ref (ad 47)), (1, .int (iI a1)), (2, .int (iI a2))]) hx hb dX5_together_3 hl (by decide) rfl (fun ls hl => ?_)
  have L_1 : ∀ (n : Nat) (y3 : Int) (x5 : Int) (H : Heap) (locs : List Loc) (ls : Array Slot), 5 - x5 < (n : Int) → (0 ≤ x5 ∧ x5 ≤ 5) → gWd D (rwT k ad) v f g H → va_S A s.heap H locs → lv_has ls 6 [(0, .ref (ad 47)), (1, .int (iI a1)), (2, .int (iI a2)), (3, .long (iL y3)), (5, .int (iI x5))] → W p l e (gRm 0 0) s m args below meth c H locs 0 0 Q (F0 m 5 ls []) := by
    intro n
    induction n with
    | zero =>
      intro y3 x5 H locs ls hn_1 i1_0 hP hS hl
      exfalso; omega
    | succ n ih_5 =>
      intro y3 x5 H locs ls hn_1 i1_0 hP hS hl
      refine lv_iload hx hb dX5_together_5 (lv_at hl 4 rfl) ?_
      refine lv_iconst (v := iI 5) hx hb dX5_together_7 rfl ?_
      refine gi_cge (tgt := 42) hx hb dX5_together_8 (by decide) (by omega) (by decide) (fun c_2 => ?_) (fun c_2 => ?_)
      · refine lv_lload_n hx hb dX5_together_42 rfl (lv_at hl 3 rfl) ?_
        exact g_lret hQ C hr hlocks hP hS dX5_together_43 ⟨y3, rfl, rfl, rfl, rfl⟩
      · refine lv_iload_n hx hb dX5_together_11 rfl (lv_at hl 2 rfl) ?_
        refine lv_iload hx hb dX5_together_12 (lv_at hl 4 rfl) ?_
        obtain ⟨x_3, ex_3, hx_3⟩ : ∃ z : Int, iI a2 >>> (iI x5 &&& 31) = iI z ∧ inR z := ⟨(iI a2 >>> (iI x5 &&& 31)).toInt, (iI_of _).symm, iI_rng _⟩
        refine gi_shr (z := x_3) hx hb dX5_together_14 ex_3 ?_
        refine lv_iconst (v := iI 1) hx hb dX5_together_15 rfl ?_
        obtain ⟨x_4, ex_4, hx_4⟩ := gAnd x_3 1 1 (by decide) (by decide)
        refine gi_and (z := x_4) hx hb dX5_together_16 ex_4 ?_
        refine lv_iconst (v := iI 1) hx hb dX5_together_17 rfl ?_
        refine gi_cne (tgt := 36) hx hb dX5_together_18 (by decide) (by omega) (by decide) (fun c_5 => ?_) (fun c_5 => ?_)
        · refine lv_iinc (v := iI (x5 + 1)) (lv' := [(5, .int (iI (x5 + 1))), (0, .ref (ad 47)), (1, .int (iI a1)), (2, .int (iI a2)), (3, .long (iL y3))]) hx hb dX5_together_36 hl (k := 4) rfl (by show iI _ + iI 1 = _; rw [iI_add]) (by decide) rfl (fun ls hl => ?_)
          refine lv_goto (tgt := 5) hx hb dX5_together_39 (by decide) ?_
          exact ih_5 y3 (x5 + 1) _ _ _ (by omega) (by omega) hP hS (lv_sub hl [1, 2, 3, 4, 0] rfl)
        · refine lv_lload_n hx hb dX5_together_21 rfl (lv_at hl 3 rfl) ?_
          refine lv_aload_n hx hb dX5_together_22 rfl (lv_at hl 0 rfl) ?_
          refine rwG_results_points C hP mF_X5_30 dX5_together_23 ?_
          refine lv_iload_n hx hb dX5_together_26 rfl (lv_at hl 1 rfl) ?_
          refine lv_iconst (v := iI 5) hx hb dX5_together_27 rfl ?_
          refine gi_mul (z := (a1 * 5)) hx hb dX5_together_28 rfl ?_
          refine lv_iload hx hb dX5_together_29 (lv_at hl 4 rfl) ?_
          refine gi_add (z := ((a1 * 5) + x5)) hx hb dX5_together_31 rfl ?_
          refine rwL_results_points C hP (by omega) (by omega) dX5_together_32 ?_
          have r_6 : (-2147483648) ≤ (f 40 ((a1 * 5) + x5)) ∧ (f 40 ((a1 * 5) + x5)) ≤ 2147483647 := hP.2.2 40 ((a1 * 5) + x5)
          refine gi_i2l hx hb (by omega) dX5_together_33 ?_
          refine gl_add (z := (y3 + (f 40 ((a1 * 5) + x5)))) hx hb dX5_together_34 rfl ?_
          refine lv_lstore_n (lv' := [(3, .long (iL (y3 + (f 40 ((a1 * 5) + x5))))), (0, .ref (ad 47)), (1, .int (iI a1)), (2, .int (iI a2)), (5, .int (iI x5))]) hx hb dX5_together_35 rfl hl (by decide) rfl (fun ls hl => ?_)
          refine lv_iinc (v := iI (x5 + 1)) (lv' := [(5, .int (iI (x5 + 1))), (3, .long (iL (y3 + (f 40 ((a1 * 5) + x5))))), (0, .ref (ad 47)), (1, .int (iI a1)), (2, .int (iI a2))]) hx hb dX5_together_36 hl (k := 4) rfl (by show iI _ + iI 1 = _; rw [iI_add]) (by decide) rfl (fun ls hl => ?_)
          refine lv_goto (tgt := 5) hx hb dX5_together_39 (by decide) ?_
          exact ih_5 (y3 + (f 40 ((a1 * 5) + x5))) (x5 + 1) _ _ _ (by omega) (by omega) hP hS (lv_sub hl [2, 3, 4, 1, 0] rfl)
  exact L_1 6 0 0 _ _ _ (by omega) (by omega) hP hS (lv_sub hl [2, 3, 4, 1, 0] rfl)

set_option maxHeartbeats 4000000 in
set_option maxRecDepth 100000 in
theorem c_X5_pairsParted (l : Launch) (D : va_G) (k : Nat → ClassId) (A : Nat → Prop) (ad : Nat → Nat) (hD : rwD A k ad) (v : gV) (f g : gF) (a1 : Int) (a2 : Int) (h_a1 : inR a1) (h_a2 : inR a2) (h1 : 0 ≤ a1 ∧ a1 ≤ 3) : GM l D k A (rwT k ad) yX5_pairsParted cX5_pairsParted 6 (some .int) 2 43 [.ref (ad 47), .int (iI a1), .int (iI a2)] v f g (fun r v1 f1 g1 => ∃ (z : Int), r = some (.int (iI z)) ∧ v = v1 ∧ f = f1 ∧ g = g1 ∧ (0 ≤ z ∧ z ≤ 256)) := by
  refine GM.of (by decide) (Nat.le_of_ble_eq_true rfl) ?_
  intro p e s m args below meth c Q ls hQ C hml hr hlocks hP hl
  have hx := C.1
  have hb := C.2.1
  have hok := hP.2
  have hS : va_S A s.heap s.heap [] := va_S.rf
  have hl : lv_has ls 6 [(0, .ref (ad 47)), (1, .int (iI a1)), (2, .int (iI a2))] := hl
  have r_1 : 0 ≤ (v 21) ∧ (v 21) ≤ 16 := hok.1 21
  refine lv_iconst (v := iI 0) hx hb dX5_pairsParted_0 rfl ?_
  refine lv_istore_n (lv' := [(3, .int (iI 0)), (0, .ref (ad 47)), (1, .int (iI a1)), (2, .int (iI a2))]) hx hb dX5_pairsParted_1 rfl hl (by decide) rfl (fun ls hl => ?_)
  refine lv_iconst (v := iI 0) hx hb dX5_pairsParted_2 rfl ?_
  refine lv_istore (lv' := [(4, .int (iI 0)), (3, .int (iI 0)), (0, .ref (ad 47)), (1, .int (iI a1)), (2, .int (iI a2))]) hx hb dX5_pairsParted_3 hl (by decide) rfl (fun ls hl => ?_)
  have L_2 : ∀ (n : Nat) (x3 : Int) (x4 : Int) (H : Heap) (locs : List Loc) (ls : Array Slot), 16 - x4 < (n : Int) → (0 ≤ x4 ∧ x4 ≤ (v 21)) → (0 ≤ x3 ∧ x3 ≤ x4 * 16) → gWd D (rwT k ad) v f g H → va_S A s.heap H locs → lv_has ls 6 [(0, .ref (ad 47)), (1, .int (iI a1)), (2, .int (iI a2)), (3, .int (iI x3)), (4, .int (iI x4))] → W p l e (gRm 2 43) s m args below meth c H locs 0 0 Q (F0 m 5 ls []) := by
    intro n
    induction n with
    | zero =>
      intro x3 x4 H locs ls hn_2 i2_0 i2_1 hP hS hl
      exfalso; omega
    | succ n ih_5 =>
      intro x3 x4 H locs ls hn_2 i2_0 i2_1 hP hS hl
      refine lv_iload hx hb dX5_pairsParted_5 (lv_at hl 4 rfl) ?_
      refine lv_aload_n hx hb dX5_pairsParted_7 rfl (lv_at hl 0 rfl) ?_
      refine rwG_results_field C hP mF_X5_51 dX5_pairsParted_8 ?_
      refine rwG_field_climbers C hP mF_X5_157 dX5_pairsParted_11 ?_
      refine gi_cge (tgt := 86) hx hb dX5_pairsParted_14 (by decide) (by omega) (by omega) (fun c_3 => ?_) (fun c_3 => ?_)
      · refine lv_iload_n hx hb dX5_pairsParted_86 rfl (lv_at hl 3 rfl) ?_
        exact g_iret hQ C hr hlocks hP hS dX5_pairsParted_87 ⟨x3, rfl, rfl, rfl, rfl, (by first | omega | (split <;> omega))⟩
      · refine lv_iconst (v := iI 0) hx hb dX5_pairsParted_17 rfl ?_
        refine lv_istore (lv' := [(5, .int (iI 0)), (0, .ref (ad 47)), (1, .int (iI a1)), (2, .int (iI a2)), (3, .int (iI x3)), (4, .int (iI x4))]) hx hb dX5_pairsParted_18 hl (by decide) rfl (fun ls hl => ?_)
        have L_4 : ∀ (n : Nat) (x3 : Int) (x5 : Int) (H : Heap) (locs : List Loc) (ls : Array Slot), 16 - x5 < (n : Int) → (0 ≤ x5 ∧ x5 ≤ x4) → (0 ≤ x3 ∧ x3 ≤ x4 * 16 + x5) → gWd D (rwT k ad) v f g H → va_S A s.heap H locs → lv_has ls 6 [(0, .ref (ad 47)), (1, .int (iI a1)), (2, .int (iI a2)), (3, .int (iI x3)), (4, .int (iI x4)), (5, .int (iI x5))] → W p l e (gRm 2 43) s m args below meth c H locs 0 0 Q (F0 m 20 ls []) := by
          intro n
          induction n with
          | zero =>
            intro x3 x5 H locs ls hn_4 i4_0 i4_1 hP hS hl
            exfalso; omega
          | succ n ih_20 =>
            intro x3 x5 H locs ls hn_4 i4_0 i4_1 hP hS hl
            refine lv_iload hx hb dX5_pairsParted_20 (lv_at hl 5 rfl) ?_
            refine lv_iload hx hb dX5_pairsParted_22 (lv_at hl 4 rfl) ?_
            refine gi_cge (tgt := 80) hx hb dX5_pairsParted_24 (by decide) (by omega) (by omega) (fun c_5 => ?_) (fun c_5 => ?_)
            · refine lv_iinc (v := iI (x4 + 1)) (lv' := [(4, .int (iI (x4 + 1))), (0, .ref (ad 47)), (1, .int (iI a1)), (2, .int (iI a2)), (3, .int (iI x3)), (5, .int (iI x5))]) hx hb dX5_pairsParted_80 hl (k := 4) rfl (by show iI _ + iI 1 = _; rw [iI_add]) (by decide) rfl (fun ls hl => ?_)
              refine lv_goto (tgt := 5) hx hb dX5_pairsParted_83 (by decide) ?_
              exact ih_5 x3 (x4 + 1) _ _ _ (by omega) (by omega) (by omega) hP hS (lv_sub hl [1, 2, 3, 4, 0] rfl)
            · refine lv_aload_n hx hb dX5_pairsParted_27 rfl (lv_at hl 0 rfl) ?_
              refine rwG_results_field C hP mF_X5_51 dX5_pairsParted_28 ?_
              refine lv_iload_n hx hb dX5_pairsParted_31 rfl (lv_at hl 1 rfl) ?_
              refine lv_iload hx hb dX5_pairsParted_32 (lv_at hl 4 rfl) ?_
              refine g_cv (As := [.int (iI a1), .int (iI x4)]) (rest := []) (n := 2) C hml (c_X2_isIn l D k A ad hD v f g a1 x4 (by omega) (by omega)) mM_X5_166 mI_X2_isIn mE_X2_isIn mN_X2 mC_X2_isIn (by decide +kernel) 27 (ci := 2) rfl rfl hP hS (fun _ h => h) ⟨Nat.le_of_ble_eq_true rfl, Nat.le_of_ble_eq_true rfl⟩ ⟨Nat.zero_le _, Nat.zero_le _⟩ hl.1 rfl rfl (Nat.le_of_ble_eq_true rfl) dX5_pairsParted_34 (fun r_6 v_6 f_6 g_6 H locs hq_6 hP _ hS => ?_)
              obtain ⟨z_6, rfl, rfl, rfl, rfl, p0_6⟩ := hq_6
              show W p l e (gRm 2 43) s m args below meth c _ _ 0 0 Q (F0 m 37 ls [.int (iI z_6)])
              replace p0_6 : z_6 = (if (0 ≤ x4 ∧ x4 < (v 21)) ∧ a1 ≤ (f 18) x4 then 1 else 0) := p0_6
              have w_6 := gif (P := (0 ≤ x4 ∧ x4 < (v 21)) ∧ a1 ≤ (f 18) x4) p0_6
              have hz_6 : inR z_6 := (by first | omega | (rw [p0_6]; split <;> omega))
              refine gi_zeq (tgt := 74) hx hb dX5_pairsParted_37 (by decide) (by omega) (fun c_7 => ?_) (fun c_7 => ?_)
              · refine lv_iinc (v := iI (x5 + 1)) (lv' := [(5, .int (iI (x5 + 1))), (0, .ref (ad 47)), (1, .int (iI a1)), (2, .int (iI a2)), (3, .int (iI x3)), (4, .int (iI x4))]) hx hb dX5_pairsParted_74 hl (k := 5) rfl (by show iI _ + iI 1 = _; rw [iI_add]) (by decide) rfl (fun ls hl => ?_)
                refine lv_goto (tgt := 20) hx hb dX5_pairsParted_77 (by decide) ?_
                exact ih_20 x3 (x5 + 1) _ _ _ (by omega) (by omega) (by omega) hP hS (lv_sub hl [1, 2, 3, 4, 5, 0] rfl)
              · refine lv_aload_n hx hb dX5_pairsParted_40 rfl (lv_at hl 0 rfl) ?_
                refine rwG_results_field C hP mF_X5_51 dX5_pairsParted_41 ?_
                refine lv_iload_n hx hb dX5_pairsParted_44 rfl (lv_at hl 1 rfl) ?_
                refine lv_iload hx hb dX5_pairsParted_45 (lv_at hl 5 rfl) ?_
                refine g_cv (As := [.int (iI a1), .int (iI x5)]) (rest := []) (n := 2) C hml (c_X2_isIn l D k A ad hD v f g a1 x5 (by omega) (by omega)) mM_X5_166 mI_X2_isIn mE_X2_isIn mN_X2 mC_X2_isIn (by decide +kernel) 27 (ci := 2) rfl rfl hP hS (fun _ h => h) ⟨Nat.le_of_ble_eq_true rfl, Nat.le_of_ble_eq_true rfl⟩ ⟨Nat.zero_le _, Nat.zero_le _⟩ hl.1 rfl rfl (Nat.le_of_ble_eq_true rfl) dX5_pairsParted_47 (fun r_8 v_8 f_8 g_8 H locs hq_8 hP _ hS => ?_)
                obtain ⟨z_8, rfl, rfl, rfl, rfl, p0_8⟩ := hq_8
                show W p l e (gRm 2 43) s m args below meth c _ _ 0 0 Q (F0 m 50 ls [.int (iI z_8)])
                replace p0_8 : z_8 = (if (0 ≤ x5 ∧ x5 < (v 21)) ∧ a1 ≤ (f 18) x5 then 1 else 0) := p0_8
                have w_8 := gif (P := (0 ≤ x5 ∧ x5 < (v 21)) ∧ a1 ≤ (f 18) x5) p0_8
                have hz_8 : inR z_8 := (by first | omega | (rw [p0_8]; split <;> omega))
                refine gi_zeq (tgt := 74) hx hb dX5_pairsParted_50 (by decide) (by omega) (fun c_9 => ?_) (fun c_9 => ?_)
                · refine lv_iinc (v := iI (x5 + 1)) (lv' := [(5, .int (iI (x5 + 1))), (0, .ref (ad 47)), (1, .int (iI a1)), (2, .int (iI a2)), (3, .int (iI x3)), (4, .int (iI x4))]) hx hb dX5_pairsParted_74 hl (k := 5) rfl (by show iI _ + iI 1 = _; rw [iI_add]) (by decide) rfl (fun ls hl => ?_)
                  refine lv_goto (tgt := 20) hx hb dX5_pairsParted_77 (by decide) ?_
                  exact ih_20 x3 (x5 + 1) _ _ _ (by omega) (by omega) (by omega) hP hS (lv_sub hl [1, 2, 3, 4, 5, 0] rfl)
                · refine lv_aload_n hx hb dX5_pairsParted_53 rfl (lv_at hl 0 rfl) ?_
                  refine lv_iload hx hb dX5_pairsParted_54 (lv_at hl 4 rfl) ?_
                  refine lv_iload_n hx hb dX5_pairsParted_56 rfl (lv_at hl 2 rfl) ?_
                  refine g_cv (As := [.int (iI x4), .int (iI a2)]) (rest := []) (n := 2) C hml (c_X5_together l D k A ad hD v f g x4 a2 (by omega) (by omega) (show 0 ≤ x4 ∧ x4 ≤ 15 from by omega)) mM_X5_195 mI_X5_together mE_X5_together mN_X5 mC_X5_together (by decide +kernel) 47 (ci := 5) rfl rfl hP hS (fun _ h => h) ⟨Nat.le_of_ble_eq_true rfl, Nat.le_of_ble_eq_true rfl⟩ ⟨Nat.zero_le _, Nat.zero_le _⟩ hl.1 rfl rfl (Nat.le_of_ble_eq_true rfl) dX5_pairsParted_57 (fun r_10 v_10 f_10 g_10 H locs hq_10 hP _ hS => ?_)
                  obtain ⟨z_10, rfl, rfl, rfl, rfl⟩ := hq_10
                  show W p l e (gRm 2 43) s m args below meth c _ _ 0 0 Q (F0 m 60 ls [.long (iL z_10)])
                  refine lv_aload_n hx hb dX5_pairsParted_60 rfl (lv_at hl 0 rfl) ?_
                  refine lv_iload hx hb dX5_pairsParted_61 (lv_at hl 5 rfl) ?_
                  refine lv_iload_n hx hb dX5_pairsParted_63 rfl (lv_at hl 2 rfl) ?_
                  refine g_cv (As := [.int (iI x5), .int (iI a2)]) (rest := [.long (iL z_10)]) (n := 2) C hml (c_X5_together l D k A ad hD v f g x5 a2 (by omega) (by omega) (show 0 ≤ x5 ∧ x5 ≤ 15 from by omega)) mM_X5_195 mI_X5_together mE_X5_together mN_X5 mC_X5_together (by decide +kernel) 47 (ci := 5) rfl rfl hP hS (fun _ h => h) ⟨Nat.le_of_ble_eq_true rfl, Nat.le_of_ble_eq_true rfl⟩ ⟨Nat.zero_le _, Nat.zero_le _⟩ hl.1 rfl rfl (Nat.le_of_ble_eq_true rfl) dX5_pairsParted_64 (fun r_11 v_11 f_11 g_11 H locs hq_11 hP _ hS => ?_)
                  obtain ⟨z_11, rfl, rfl, rfl, rfl⟩ := hq_11
                  show W p l e (gRm 2 43) s m args below meth c _ _ 0 0 Q (F0 m 67 ls [.long (iL z_11), .long (iL z_10)])
                  refine gl_cmp hx hb dX5_pairsParted_67 (fun x_12 hx_12 => ?_)
                  refine gi_zeq (tgt := 74) hx hb dX5_pairsParted_68 (by decide) (by omega) (fun c_13 => ?_) (fun c_13 => ?_)
                  · refine lv_iinc (v := iI (x5 + 1)) (lv' := [(5, .int (iI (x5 + 1))), (0, .ref (ad 47)), (1, .int (iI a1)), (2, .int (iI a2)), (3, .int (iI x3)), (4, .int (iI x4))]) hx hb dX5_pairsParted_74 hl (k := 5) rfl (by show iI _ + iI 1 = _; rw [iI_add]) (by decide) rfl (fun ls hl => ?_)
                    refine lv_goto (tgt := 20) hx hb dX5_pairsParted_77 (by decide) ?_
                    exact ih_20 x3 (x5 + 1) _ _ _ (by omega) (by omega) (by omega) hP hS (lv_sub hl [1, 2, 3, 4, 5, 0] rfl)
                  · refine lv_iinc (v := iI (x3 + 1)) (lv' := [(3, .int (iI (x3 + 1))), (0, .ref (ad 47)), (1, .int (iI a1)), (2, .int (iI a2)), (4, .int (iI x4)), (5, .int (iI x5))]) hx hb dX5_pairsParted_71 hl (k := 3) rfl (by show iI _ + iI 1 = _; rw [iI_add]) (by decide) rfl (fun ls hl => ?_)
                    refine lv_iinc (v := iI (x5 + 1)) (lv' := [(5, .int (iI (x5 + 1))), (3, .int (iI (x3 + 1))), (0, .ref (ad 47)), (1, .int (iI a1)), (2, .int (iI a2)), (4, .int (iI x4))]) hx hb dX5_pairsParted_74 hl (k := 5) rfl (by show iI _ + iI 1 = _; rw [iI_add]) (by decide) rfl (fun ls hl => ?_)
                    refine lv_goto (tgt := 20) hx hb dX5_pairsParted_77 (by decide) ?_
                    exact ih_20 (x3 + 1) (x5 + 1) _ _ _ (by omega) (by omega) (by omega) hP hS (lv_sub hl [2, 3, 4, 1, 5, 0] rfl)
        exact L_4 17 x3 0 _ _ _ (by omega) (by omega) (by omega) hP hS (lv_sub hl [1, 2, 3, 4, 5, 0] rfl)
  exact L_2 17 0 0 _ _ _ (by omega) (by omega) (by omega) hP hS (lv_sub hl [2, 3, 4, 1, 0] rfl)

set_option maxHeartbeats 4000000 in
set_option maxRecDepth 100000 in
theorem c_X5_bestSet (l : Launch) (D : va_G) (k : Nat → ClassId) (A : Nat → Prop) (ad : Nat → Nat) (hD : rwD A k ad) (v : gV) (f g : gF) (a1 : Int) (a2 : Int) (a3 : Int) (h_a1 : inR a1) (h_a2 : inR a2) (h_a3 : inR a3) (h1 : 0 ≤ a1 ∧ a1 ≤ 3) (h2 : 1 ≤ a2 ∧ a2 ≤ 5) : GM l D k A (rwT k ad) yX5_bestSet cX5_bestSet 8 (some .int) 3 68 [.ref (ad 47), .int (iI a1), .int (iI a2), .int (iI a3)] v f g (fun r v1 f1 g1 => ∃ (z : Int), r = some (.int (iI z)) ∧ v = v1 ∧ f = f1 ∧ g = g1 ∧ ((-1) ≤ z ∧ z ≤ 31)) := by
  refine GM.of (by decide) (Nat.le_of_ble_eq_true rfl) ?_
  intro p e s m args below meth c Q ls hQ C hml hr hlocks hP hl
  have hx := C.1
  have hb := C.2.1
  have hok := hP.2
  have hS : va_S A s.heap s.heap [] := va_S.rf
  have hl : lv_has ls 8 [(0, .ref (ad 47)), (1, .int (iI a1)), (2, .int (iI a2)), (3, .int (iI a3))] := hl
  refine lv_iconst (v := iI (-1)) hx hb dX5_bestSet_0 rfl ?_
  refine lv_istore (lv' := [(4, .int (iI (-1))), (0, .ref (ad 47)), (1, .int (iI a1)), (2, .int (iI a2)), (3, .int (iI a3))]) hx hb dX5_bestSet_1 hl (by decide) rfl (fun ls hl => ?_)
  refine lv_iconst (v := iI (-1)) hx hb dX5_bestSet_3 rfl ?_
  refine lv_istore (lv' := [(5, .int (iI (-1))), (4, .int (iI (-1))), (0, .ref (ad 47)), (1, .int (iI a1)), (2, .int (iI a2)), (3, .int (iI a3))]) hx hb dX5_bestSet_4 hl (by decide) rfl (fun ls hl => ?_)
  refine lv_iconst (v := iI 1) hx hb dX5_bestSet_6 rfl ?_
  refine lv_istore (lv' := [(6, .int (iI 1)), (5, .int (iI (-1))), (4, .int (iI (-1))), (0, .ref (ad 47)), (1, .int (iI a1)), (2, .int (iI a2)), (3, .int (iI a3))]) hx hb dX5_bestSet_7 hl (by decide) rfl (fun ls hl => ?_)
  have L_1 : ∀ (n : Nat) (x4 : Int) (x5 : Int) (x6 : Int) (H : Heap) (locs : List Loc) (ls : Array Slot), 32 - x6 < (n : Int) → (1 ≤ x6 ∧ x6 ≤ 32) → ((-1) ≤ x4 ∧ x4 ≤ 31) → ((-1) ≤ x5 ∧ x5 ≤ 256) → gWd D (rwT k ad) v f g H → va_S A s.heap H locs → lv_has ls 8 [(0, .ref (ad 47)), (1, .int (iI a1)), (2, .int (iI a2)), (3, .int (iI a3)), (4, .int (iI x4)), (5, .int (iI x5)), (6, .int (iI x6))] → W p l e (gRm 3 68) s m args below meth c H locs 0 0 Q (F0 m 9 ls []) := by
    intro n
    induction n with
    | zero =>
      intro x4 x5 x6 H locs ls hn_1 i1_0 i1_1 i1_2 hP hS hl
      exfalso; omega
    | succ n ih_9 =>
      intro x4 x5 x6 H locs ls hn_1 i1_0 i1_1 i1_2 hP hS hl
      refine lv_iload hx hb dX5_bestSet_9 (lv_at hl 6 rfl) ?_
      refine lv_iconst (v := iI 1) hx hb dX5_bestSet_11 rfl ?_
      refine lv_iload_n hx hb dX5_bestSet_12 rfl (lv_at hl 2 rfl) ?_
      obtain ⟨x_2, ex_2, hx_2⟩ := gShl1 a2 (by omega)
      refine gi_shl (z := x_2) hx hb dX5_bestSet_13 ex_2 ?_
      refine gi_cge (tgt := 56) hx hb dX5_bestSet_14 (by decide) (by omega) (by omega) (fun c_3 => ?_) (fun c_3 => ?_)
      · refine lv_iload hx hb dX5_bestSet_56 (lv_at hl 4 rfl) ?_
        exact g_iret hQ C hr hlocks hP hS dX5_bestSet_58 ⟨x4, rfl, rfl, rfl, rfl, (by first | omega | (split <;> omega))⟩
      · refine lv_iload hx hb dX5_bestSet_17 (lv_at hl 6 rfl) ?_
        refine g_cs (As := [.int (iI x6)]) (rest := []) (n := 1) C hml (c_J6_bitCount_0f7a4 l D k A ad hD v f g x6 (by omega)) mM_X5_199 mS_J6_bitCount_0f7a4 mN_J6 mC_J6_bitCount_0f7a4 (by decide +kernel) hP hS (fun _ h => h) ⟨Nat.le_of_ble_eq_true rfl, Nat.le_of_ble_eq_true rfl⟩ ⟨Nat.zero_le _, Nat.zero_le _⟩ hl.1 rfl rfl (Nat.le_of_ble_eq_true rfl) dX5_bestSet_19 (fun r_4 v_4 f_4 g_4 H locs hq_4 hP _ hS => ?_)
        obtain ⟨z_4, rfl, rfl, rfl, rfl, p0_4⟩ := hq_4
        show W p l e (gRm 3 68) s m args below meth c _ _ 0 0 Q (F0 m 22 ls [.int (iI z_4)])
        replace p0_4 : (-2147483648) ≤ z_4 ∧ z_4 ≤ 2147483647 := p0_4
        refine lv_iload_n hx hb dX5_bestSet_22 rfl (lv_at hl 3 rfl) ?_
        refine gi_cne (tgt := 50) hx hb dX5_bestSet_23 (by decide) (by omega) (by omega) (fun c_5 => ?_) (fun c_5 => ?_)
        · refine lv_iinc (v := iI (x6 + 1)) (lv' := [(6, .int (iI (x6 + 1))), (0, .ref (ad 47)), (1, .int (iI a1)), (2, .int (iI a2)), (3, .int (iI a3)), (4, .int (iI x4)), (5, .int (iI x5))]) hx hb dX5_bestSet_50 hl (k := 6) rfl (by show iI _ + iI 1 = _; rw [iI_add]) (by decide) rfl (fun ls hl => ?_)
          refine lv_goto (tgt := 9) hx hb dX5_bestSet_53 (by decide) ?_
          exact ih_9 x4 x5 (x6 + 1) _ _ _ (by omega) (by omega) (by omega) (by omega) hP hS (lv_sub hl [1, 2, 3, 4, 5, 6, 0] rfl)
        · refine lv_aload_n hx hb dX5_bestSet_26 rfl (lv_at hl 0 rfl) ?_
          refine lv_iload_n hx hb dX5_bestSet_27 rfl (lv_at hl 1 rfl) ?_
          refine lv_iload hx hb dX5_bestSet_28 (lv_at hl 6 rfl) ?_
          refine g_cv (As := [.int (iI a1), .int (iI x6)]) (rest := []) (n := 2) C hml (c_X5_pairsParted l D k A ad hD v f g a1 x6 (by omega) (by omega) (show 0 ≤ a1 ∧ a1 ≤ 3 from by omega)) mM_X5_204 mI_X5_pairsParted mE_X5_pairsParted mN_X5 mC_X5_pairsParted (by decide +kernel) 47 (ci := 5) rfl rfl hP hS (fun _ h => h) ⟨Nat.le_of_ble_eq_true rfl, Nat.le_of_ble_eq_true rfl⟩ ⟨Nat.zero_le _, Nat.zero_le _⟩ hl.1 rfl rfl (Nat.le_of_ble_eq_true rfl) dX5_bestSet_30 (fun r_6 v_6 f_6 g_6 H locs hq_6 hP _ hS => ?_)
          obtain ⟨z_6, rfl, rfl, rfl, rfl, p0_6⟩ := hq_6
          show W p l e (gRm 3 68) s m args below meth c _ _ 0 0 Q (F0 m 33 ls [.int (iI z_6)])
          replace p0_6 : 0 ≤ z_6 ∧ z_6 ≤ 256 := p0_6
          refine lv_istore (lv' := [(7, .int (iI z_6)), (0, .ref (ad 47)), (1, .int (iI a1)), (2, .int (iI a2)), (3, .int (iI a3)), (4, .int (iI x4)), (5, .int (iI x5)), (6, .int (iI x6))]) hx hb dX5_bestSet_33 hl (by decide) rfl (fun ls hl => ?_)
          refine lv_iload hx hb dX5_bestSet_35 (lv_at hl 0 rfl) ?_
          refine lv_iload hx hb dX5_bestSet_37 (lv_at hl 6 rfl) ?_
          refine gi_cle (tgt := 50) hx hb dX5_bestSet_39 (by decide) (by omega) (by omega) (fun c_7 => ?_) (fun c_7 => ?_)
          · refine lv_iinc (v := iI (x6 + 1)) (lv' := [(6, .int (iI (x6 + 1))), (7, .int (iI z_6)), (0, .ref (ad 47)), (1, .int (iI a1)), (2, .int (iI a2)), (3, .int (iI a3)), (4, .int (iI x4)), (5, .int (iI x5))]) hx hb dX5_bestSet_50 hl (k := 7) rfl (by show iI _ + iI 1 = _; rw [iI_add]) (by decide) rfl (fun ls hl => ?_)
            refine lv_goto (tgt := 9) hx hb dX5_bestSet_53 (by decide) ?_
            exact ih_9 x4 x5 (x6 + 1) _ _ _ (by omega) (by omega) (by omega) (by omega) hP hS (lv_sub hl [2, 3, 4, 5, 6, 7, 0] rfl)
          · refine lv_iload hx hb dX5_bestSet_42 (lv_at hl 0 rfl) ?_
            refine lv_istore (lv' := [(5, .int (iI z_6)), (7, .int (iI z_6)), (0, .ref (ad 47)), (1, .int (iI a1)), (2, .int (iI a2)), (3, .int (iI a3)), (4, .int (iI x4)), (6, .int (iI x6))]) hx hb dX5_bestSet_44 hl (by decide) rfl (fun ls hl => ?_)
            refine lv_iload hx hb dX5_bestSet_46 (lv_at hl 7 rfl) ?_
            refine lv_istore (lv' := [(4, .int (iI x6)), (5, .int (iI z_6)), (7, .int (iI z_6)), (0, .ref (ad 47)), (1, .int (iI a1)), (2, .int (iI a2)), (3, .int (iI a3)), (6, .int (iI x6))]) hx hb dX5_bestSet_48 hl (by decide) rfl (fun ls hl => ?_)
            refine lv_iinc (v := iI (x6 + 1)) (lv' := [(6, .int (iI (x6 + 1))), (4, .int (iI x6)), (5, .int (iI z_6)), (7, .int (iI z_6)), (0, .ref (ad 47)), (1, .int (iI a1)), (2, .int (iI a2)), (3, .int (iI a3))]) hx hb dX5_bestSet_50 hl (k := 7) rfl (by show iI _ + iI 1 = _; rw [iI_add]) (by decide) rfl (fun ls hl => ?_)
            refine lv_goto (tgt := 9) hx hb dX5_bestSet_53 (by decide) ?_
            exact ih_9 x6 z_6 (x6 + 1) _ _ _ (by omega) (by omega) (by omega) (by omega) hP hS (lv_sub hl [4, 5, 6, 7, 1, 2, 0] rfl)
  exact L_1 33 (-1) (-1) 1 _ _ _ (by omega) (by omega) (by omega) (by omega) hP hS (lv_sub hl [3, 4, 5, 6, 2, 1, 0] rfl)
