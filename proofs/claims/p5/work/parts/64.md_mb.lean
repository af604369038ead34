set_option maxHeartbeats 4000000 in
set_option maxRecDepth 100000 in
theorem m_bitCount (l : Launch) (D : va_G) (k : Nat → ClassId) (A : Nat → Prop) (ad : Nat → Nat) (hD : mdD A k ad) (v : gV) (f g : gF) (a1 : Int) (h_a1 : inR a1) : GM l D k A (mdT k ad) yJ6_bitCount_0f7a4 cJ6_bitCount_0f7a4 1 (some .int) 0 0 [.int (iI a1)] v f g (fun r v1 f1 g1 => ∃ (z : Int), r = some (.int (iI z)) ∧ v = v1 ∧ f = f1 ∧ g = g1 ∧ ((-2147483648) ≤ z ∧ z ≤ 2147483647)) := by
  refine GM.of (by decide) (Nat.le_of_ble_eq_true rfl) ?_
  intro p e s m args below meth c Q ls hQ C hml hr hlocks hP hl
  have hx := C.1
  have hb := C.2.1
  have hok := hP.2
  have hS : va_S A s.heap s.heap [] := va_S.rf
  have hl : lv_has ls 1 [(0, .int (iI a1))] := hl
  refine lv_iload_n hx hb dJ6_bitCount_0f7a4_0 rfl (lv_at hl 0 rfl) ?_
  refine lv_iload_n hx hb dJ6_bitCount_0f7a4_1 rfl (lv_at hl 0 rfl) ?_
  refine lv_iconst (v := iI 1) hx hb dJ6_bitCount_0f7a4_2 rfl ?_
  obtain ⟨x_1, ex_1, hx_1⟩ : ∃ z : Int, ((iI a1).toUInt32 >>> ((iI 1).toUInt32 &&& Int32.toUInt32 31)).toInt32 = iI z ∧ inR z := ⟨(((iI a1).toUInt32 >>> ((iI 1).toUInt32 &&& Int32.toUInt32 31)).toInt32).toInt, (iI_of _).symm, iI_rng _⟩
  refine gi_ushr (z := x_1) hx hb dJ6_bitCount_0f7a4_3 ex_1 ?_
  refine lv_ldcw (v := iI 1431655765) hx hb C.2.2.2.1 (C.2.2.1 _ (show Cond.constant RJ6 265 (iI 1431655765) ∈ gWs from mD_J6_265)) dJ6_bitCount_0f7a4_4 ?_
  obtain ⟨x_2, ex_2, hx_2⟩ : ∃ z : Int, iI x_1 &&& iI 1431655765 = iI z ∧ inR z := ⟨(iI x_1 &&& iI 1431655765).toInt, (iI_of _).symm, iI_rng _⟩
  refine gi_and (z := x_2) hx hb dJ6_bitCount_0f7a4_7 ex_2 ?_
  refine gi_sub (z := (a1 - x_2)) hx hb dJ6_bitCount_0f7a4_8 rfl ?_
  obtain ⟨x_3, ex_3, hx_3⟩ : ∃ z : Int, iI (a1 - x_2) = iI z ∧ inR z := ⟨(iI (a1 - x_2)).toInt, (iI_of _).symm, iI_rng _⟩
  refine gi_norm ex_3 ?_
  refine lv_istore_n (lv' := [(0, .int (iI x_3))]) hx hb dJ6_bitCount_0f7a4_9 rfl hl (by decide) rfl (fun ls hl => ?_)
  refine lv_iload_n hx hb dJ6_bitCount_0f7a4_10 rfl (lv_at hl 0 rfl) ?_
  refine lv_ldcw (v := iI 858993459) hx hb C.2.2.2.1 (C.2.2.1 _ (show Cond.constant RJ6 266 (iI 858993459) ∈ gWs from mD_J6_266)) dJ6_bitCount_0f7a4_11 ?_
  obtain ⟨x_4, ex_4, hx_4⟩ : ∃ z : Int, iI x_3 &&& iI 858993459 = iI z ∧ inR z := ⟨(iI x_3 &&& iI 858993459).toInt, (iI_of _).symm, iI_rng _⟩
  refine gi_and (z := x_4) hx hb dJ6_bitCount_0f7a4_14 ex_4 ?_
  refine lv_iload_n hx hb dJ6_bitCount_0f7a4_15 rfl (lv_at hl 0 rfl) ?_
  refine lv_iconst (v := iI 2) hx hb dJ6_bitCount_0f7a4_16 rfl ?_
  obtain ⟨x_5, ex_5, hx_5⟩ : ∃ z : Int, ((iI x_3).toUInt32 >>> ((iI 2).toUInt32 &&& Int32.toUInt32 31)).toInt32 = iI z ∧ inR z := ⟨(((iI x_3).toUInt32 >>> ((iI 2).toUInt32 &&& Int32.toUInt32 31)).toInt32).toInt, (iI_of _).symm, iI_rng _⟩
  refine gi_ushr (z := x_5) hx hb dJ6_bitCount_0f7a4_17 ex_5 ?_
  refine lv_ldcw (v := iI 858993459) hx hb C.2.2.2.1 (C.2.2.1 _ (show Cond.constant RJ6 266 (iI 858993459) ∈ gWs from mD_J6_266)) dJ6_bitCount_0f7a4_18 ?_
  obtain ⟨x_6, ex_6, hx_6⟩ : ∃ z : Int, iI x_5 &&& iI 858993459 = iI z ∧ inR z := ⟨(iI x_5 &&& iI 858993459).toInt, (iI_of _).symm, iI_rng _⟩
  refine gi_and (z := x_6) hx hb dJ6_bitCount_0f7a4_21 ex_6 ?_
  refine gi_add (z := (x_4 + x_6)) hx hb dJ6_bitCount_0f7a4_22 rfl ?_
  obtain ⟨x_7, ex_7, hx_7⟩ : ∃ z : Int, iI (x_4 + x_6) = iI z ∧ inR z := ⟨(iI (x_4 + x_6)).toInt, (iI_of _).symm, iI_rng _⟩
  refine gi_norm ex_7 ?_
  refine lv_istore_n (lv' := [(0, .int (iI x_7))]) hx hb dJ6_bitCount_0f7a4_23 rfl hl (by decide) rfl (fun ls hl => ?_)
  refine lv_iload_n hx hb dJ6_bitCount_0f7a4_24 rfl (lv_at hl 0 rfl) ?_
  refine lv_iload_n hx hb dJ6_bitCount_0f7a4_25 rfl (lv_at hl 0 rfl) ?_
  refine lv_iconst (v := iI 4) hx hb dJ6_bitCount_0f7a4_26 rfl ?_
  obtain ⟨x_8, ex_8, hx_8⟩ : ∃ z : Int, ((iI x_7).toUInt32 >>> ((iI 4).toUInt32 &&& Int32.toUInt32 31)).toInt32 = iI z ∧ inR z := ⟨(((iI x_7).toUInt32 >>> ((iI 4).toUInt32 &&& Int32.toUInt32 31)).toInt32).toInt, (iI_of _).symm, iI_rng _⟩
  refine gi_ushr (z := x_8) hx hb dJ6_bitCount_0f7a4_27 ex_8 ?_
  refine gi_add (z := (x_7 + x_8)) hx hb dJ6_bitCount_0f7a4_28 rfl ?_
  obtain ⟨x_9, ex_9, hx_9⟩ : ∃ z : Int, iI (x_7 + x_8) = iI z ∧ inR z := ⟨(iI (x_7 + x_8)).toInt, (iI_of _).symm, iI_rng _⟩
  refine gi_norm ex_9 ?_
  refine lv_ldcw (v := iI 252645135) hx hb C.2.2.2.1 (C.2.2.1 _ (show Cond.constant RJ6 267 (iI 252645135) ∈ gWs from mD_J6_267)) dJ6_bitCount_0f7a4_29 ?_
  obtain ⟨x_10, ex_10, hx_10⟩ : ∃ z : Int, iI x_9 &&& iI 252645135 = iI z ∧ inR z := ⟨(iI x_9 &&& iI 252645135).toInt, (iI_of _).symm, iI_rng _⟩
  refine gi_and (z := x_10) hx hb dJ6_bitCount_0f7a4_32 ex_10 ?_
  refine lv_istore_n (lv' := [(0, .int (iI x_10))]) hx hb dJ6_bitCount_0f7a4_33 rfl hl (by decide) rfl (fun ls hl => ?_)
  refine lv_iload_n hx hb dJ6_bitCount_0f7a4_34 rfl (lv_at hl 0 rfl) ?_
  refine lv_iload_n hx hb dJ6_bitCount_0f7a4_35 rfl (lv_at hl 0 rfl) ?_
  refine lv_bipush (v := iI 8) hx hb dJ6_bitCount_0f7a4_36 (by decide) ?_
  obtain ⟨x_11, ex_11, hx_11⟩ : ∃ z : Int, ((iI x_10).toUInt32 >>> ((iI 8).toUInt32 &&& Int32.toUInt32 31)).toInt32 = iI z ∧ inR z := ⟨(((iI x_10).toUInt32 >>> ((iI 8).toUInt32 &&& Int32.toUInt32 31)).toInt32).toInt, (iI_of _).symm, iI_rng _⟩
  refine gi_ushr (z := x_11) hx hb dJ6_bitCount_0f7a4_38 ex_11 ?_
  refine gi_add (z := (x_10 + x_11)) hx hb dJ6_bitCount_0f7a4_39 rfl ?_
  obtain ⟨x_12, ex_12, hx_12⟩ : ∃ z : Int, iI (x_10 + x_11) = iI z ∧ inR z := ⟨(iI (x_10 + x_11)).toInt, (iI_of _).symm, iI_rng _⟩
  refine gi_norm ex_12 ?_
  refine lv_istore_n (lv' := [(0, .int (iI x_12))]) hx hb dJ6_bitCount_0f7a4_40 rfl hl (by decide) rfl (fun ls hl => ?_)
  refine lv_iload_n hx hb dJ6_bitCount_0f7a4_41 rfl (lv_at hl 0 rfl) ?_
  refine lv_iload_n hx hb dJ6_bitCount_0f7a4_42 rfl (lv_at hl 0 rfl) ?_
  refine lv_bipush (v := iI 16) hx hb dJ6_bitCount_0f7a4_43 (by decide) ?_
  obtain ⟨x_13, ex_13, hx_13⟩ : ∃ z : Int, ((iI x_12).toUInt32 >>> ((iI 16).toUInt32 &&& Int32.toUInt32 31)).toInt32 = iI z ∧ inR z := ⟨(((iI x_12).toUInt32 >>> ((iI 16).toUInt32 &&& Int32.toUInt32 31)).toInt32).toInt, (iI_of _).symm, iI_rng _⟩
  refine gi_ushr (z := x_13) hx hb dJ6_bitCount_0f7a4_45 ex_13 ?_
  refine gi_add (z := (x_12 + x_13)) hx hb dJ6_bitCount_0f7a4_46 rfl ?_
  obtain ⟨x_14, ex_14, hx_14⟩ : ∃ z : Int, iI (x_12 + x_13) = iI z ∧ inR z := ⟨(iI (x_12 + x_13)).toInt, (iI_of _).symm, iI_rng _⟩
  refine gi_norm ex_14 ?_
  refine lv_istore_n (lv' := [(0, .int (iI x_14))]) hx hb dJ6_bitCount_0f7a4_47 rfl hl (by decide) rfl (fun ls hl => ?_)
  refine lv_iload_n hx hb dJ6_bitCount_0f7a4_48 rfl (lv_at hl 0 rfl) ?_
  refine lv_bipush (v := iI 63) hx hb dJ6_bitCount_0f7a4_49 (by decide) ?_
  obtain ⟨x_15, ex_15, hx_15⟩ : ∃ z : Int, iI x_14 &&& iI 63 = iI z ∧ inR z := ⟨(iI x_14 &&& iI 63).toInt, (iI_of _).symm, iI_rng _⟩
  refine gi_and (z := x_15) hx hb dJ6_bitCount_0f7a4_51 ex_15 ?_
  exact g_iret hQ C hr hlocks hP hS dJ6_bitCount_0f7a4_52 ⟨x_15, rfl, rfl, rfl, rfl, (by first | omega | (split <;> omega))⟩

set_option maxHeartbeats 4000000 in
set_option maxRecDepth 100000 in
theorem m_X11_factsOf (l : Launch) (D : va_G) (k : Nat → ClassId) (A : Nat → Prop) (ad : Nat → Nat) (hD : mdD A k ad) (v : gV) (f g : gF) (a1 : Int) (a2 : Int) (a3 : Int) (a4 : Int) (h_a1 : inR a1) (h_a2 : inR a2) (h_a3 : inR a3) (h_a4 : inR a4) (h1 : 0 ≤ a1 ∧ a1 ≤ 3) (h2 : 0 ≤ a2 ∧ a2 ≤ 4) : GM l D k A (mdT k ad) yX11_factsOf cX11_factsOf 11 none 1 24 [.ref (ad 0), .int (iI a1), .int (iI a2), .int (iI a3), .int (iI a4)] v f g (fun r v1 f1 g1 => ∃ (a37_ : Int → Int), r = none ∧ v = v1 ∧ (va_up f 37 a37_) = f1 ∧ g = g1) := by
  refine GM.of (by decide) (Nat.le_of_ble_eq_true rfl) ?_
  intro p e s m args below meth c Q ls hQ C hml hr hlocks hP hl
  have hx := C.1
  have hb := C.2.1
  have hok := hP.2
  have hS : va_S A s.heap s.heap [] := va_S.rf
  have hl : lv_has ls 11 [(0, .ref (ad 0)), (1, .int (iI a1)), (2, .int (iI a2)), (3, .int (iI a3)), (4, .int (iI a4))] := hl
  have hP : gWd D (mdT k ad) v (va_up f 37 (f 37)) g s.heap := by rw [va_id]; exact hP
  have r_1 : 0 ≤ (v 25) ∧ (v 25) ≤ 300 := hok.1 25
  refine lv_iconst (v := iI (-1)) hx hb dX11_factsOf_0 rfl ?_
  refine lv_istore (lv' := [(5, .int (iI (-1))), (0, .ref (ad 0)), (1, .int (iI a1)), (2, .int (iI a2)), (3, .int (iI a3)), (4, .int (iI a4))]) hx hb dX11_factsOf_1 hl (by decide) rfl (fun ls hl => ?_)
  refine lv_iconst (v := iI (-1)) hx hb dX11_factsOf_3 rfl ?_
  refine lv_istore (lv' := [(6, .int (iI (-1))), (5, .int (iI (-1))), (0, .ref (ad 0)), (1, .int (iI a1)), (2, .int (iI a2)), (3, .int (iI a3)), (4, .int (iI a4))]) hx hb dX11_factsOf_4 hl (by decide) rfl (fun ls hl => ?_)
  refine lv_iconst (v := iI 0) hx hb dX11_factsOf_6 rfl ?_
  refine lv_istore (lv' := [(7, .int (iI 0)), (6, .int (iI (-1))), (5, .int (iI (-1))), (0, .ref (ad 0)), (1, .int (iI a1)), (2, .int (iI a2)), (3, .int (iI a3)), (4, .int (iI a4))]) hx hb dX11_factsOf_7 hl (by decide) rfl (fun ls hl => ?_)
  refine lv_iconst (v := iI 0) hx hb dX11_factsOf_9 rfl ?_
  refine lv_istore (lv' := [(8, .int (iI 0)), (7, .int (iI 0)), (6, .int (iI (-1))), (5, .int (iI (-1))), (0, .ref (ad 0)), (1, .int (iI a1)), (2, .int (iI a2)), (3, .int (iI a3)), (4, .int (iI a4))]) hx hb dX11_factsOf_10 hl (by decide) rfl (fun ls hl => ?_)
  refine lv_iconst (v := iI 0) hx hb dX11_factsOf_12 rfl ?_
  refine lv_istore (lv' := [(9, .int (iI 0)), (8, .int (iI 0)), (7, .int (iI 0)), (6, .int (iI (-1))), (5, .int (iI (-1))), (0, .ref (ad 0)), (1, .int (iI a1)), (2, .int (iI a2)), (3, .int (iI a3)), (4, .int (iI a4))]) hx hb dX11_factsOf_13 hl (by decide) rfl (fun ls hl => ?_)
  have L_2 : ∀ (n : Nat) (x5 : Int) (x6 : Int) (x7 : Int) (x8 : Int) (x9 : Int) (H : Heap) (locs : List Loc) (ls : Array Slot), 300 - x9 < (n : Int) → (0 ≤ x9 ∧ x9 ≤ (v 25)) → ((-1) ≤ x5 ∧ x5 ≤ 60) → ((-1) ≤ x6 ∧ x6 ≤ 299) → (0 ≤ x7 ∧ x7 ≤ x9) → (0 ≤ x8 ∧ x8 ≤ 300) → gWd D (mdT k ad) v (va_up f 37 (f 37)) g H → va_S A s.heap H locs → lv_has ls 11 [(0, .ref (ad 0)), (1, .int (iI a1)), (2, .int (iI a2)), (3, .int (iI a3)), (4, .int (iI a4)), (5, .int (iI x5)), (6, .int (iI x6)), (7, .int (iI x7)), (8, .int (iI x8)), (9, .int (iI x9))] → W p l e (gRm 1 24) s m args below meth c H locs 0 0 Q (F0 m 15 ls []) := by
    intro n
    induction n with
    | zero =>
      intro x5 x6 x7 x8 x9 H locs ls hn_2 i2_0 i2_1 i2_2 i2_3 i2_4 hP hS hl
      exfalso; omega
    | succ n ih_15 =>
      intro x5 x6 x7 x8 x9 H locs ls hn_2 i2_0 i2_1 i2_2 i2_3 i2_4 hP hS hl
      refine lv_iload hx hb dX11_factsOf_15 (lv_at hl 9 rfl) ?_
      refine lv_aload_n hx hb dX11_factsOf_17 rfl (lv_at hl 0 rfl) ?_
      refine mdG_tried C hP mF_X11_319 dX11_factsOf_18 ?_
      refine gi_cge (tgt := 112) hx hb dX11_factsOf_21 (by decide) (by omega) (by omega) (fun c_3 => ?_) (fun c_3 => ?_)
      · refine lv_iconst (v := iI 0) hx hb dX11_factsOf_112 rfl ?_
        refine lv_istore (lv' := [(9, .int (iI 0)), (0, .ref (ad 0)), (1, .int (iI a1)), (2, .int (iI a2)), (3, .int (iI a3)), (4, .int (iI a4)), (5, .int (iI x5)), (6, .int (iI x6)), (7, .int (iI x7)), (8, .int (iI x8))]) hx hb dX11_factsOf_113 hl (by decide) rfl (fun ls hl => ?_)
        have L_4 : ∀ (n : Nat) (x9 : Int) (c37_4 : Int → Int) (H : Heap) (locs : List Loc) (ls : Array Slot), 6 - x9 < (n : Int) → (0 ≤ x9 ∧ x9 ≤ 6) → (∀ j, 0 ≤ j → j < x9 → c37_4 j = 0) → gWd D (mdT k ad) v (va_up f 37 c37_4) g H → va_S A s.heap H locs → lv_has ls 11 [(0, .ref (ad 0)), (1, .int (iI a1)), (2, .int (iI a2)), (3, .int (iI a3)), (4, .int (iI a4)), (5, .int (iI x5)), (6, .int (iI x6)), (7, .int (iI x7)), (8, .int (iI x8)), (9, .int (iI x9))] → W p l e (gRm 1 24) s m args below meth c H locs 0 0 Q (F0 m 115 ls []) := by
          intro n
          induction n with
          | zero =>
            intro x9 c37_4 H locs ls hn_4 i4_0 i4_1 hP hS hl
            exfalso; omega
          | succ n ih_115 =>
            intro x9 c37_4 H locs ls hn_4 i4_0 i4_1 hP hS hl
            have hz1 := i4_1
            refine lv_iload hx hb dX11_factsOf_115 (lv_at hl 9 rfl) ?_
            refine lv_bipush (v := iI 6) hx hb dX11_factsOf_117 (by decide) ?_
            refine gi_cge (tgt := 136) hx hb dX11_factsOf_119 (by decide) (by omega) (by decide) (fun c_5 => ?_) (fun c_5 => ?_)
            · refine lv_iload hx hb dX11_factsOf_136 (lv_at hl 6 rfl) ?_
              refine gi_zge (tgt := 142) hx hb dX11_factsOf_138 (by decide) (by omega) (fun c_6 => ?_) (fun c_6 => ?_)
              · refine lv_iload_n hx hb dX11_factsOf_142 rfl (lv_at hl 1 rfl) ?_
                refine lv_iload_n hx hb dX11_factsOf_143 rfl (lv_at hl 2 rfl) ?_
                refine g_cs (As := [.int (iI a1), .int (iI a2)]) (rest := []) (n := 2) C hml (m_X11_at l D k A ad hD v (va_up f 37 c37_4) g a1 a2 (by omega) (by omega) (show 0 ≤ a1 ∧ a1 ≤ 3 from by omega) (show 0 ≤ a2 ∧ a2 ≤ 4 from by omega)) mM_X11_335 mS_X11_at mN_X11 mC_X11_at (by decide +kernel) hP hS (fun _ h => h) ⟨Nat.le_of_ble_eq_true rfl, Nat.le_of_ble_eq_true rfl⟩ ⟨Nat.zero_le _, Nat.zero_le _⟩ hl.1 rfl rfl (Nat.le_of_ble_eq_true rfl) dX11_factsOf_144 (fun r_7 v_7 f_7 g_7 H locs hq_7 hP _ hS => ?_)
                obtain ⟨z_7, rfl, rfl, rfl, rfl, p0_7⟩ := hq_7
                show W p l e (gRm 1 24) s m args below meth c _ _ 0 0 Q (F0 m 147 ls [.int (iI z_7)])
                replace p0_7 : z_7 = (5 * a1 + a2) := p0_7
                have hz_7 : inR z_7 := (by first | omega | (rw [p0_7]; split <;> omega))
                refine lv_istore (lv' := [(9, .int (iI z_7)), (0, .ref (ad 0)), (1, .int (iI a1)), (2, .int (iI a2)), (3, .int (iI a3)), (4, .int (iI a4)), (5, .int (iI x5)), (6, .int (iI x6)), (7, .int (iI x7)), (8, .int (iI x8))]) hx hb dX11_factsOf_147 hl (by decide) rfl (fun ls hl => ?_)
                refine lv_aload_n hx hb dX11_factsOf_149 rfl (lv_at hl 1 rfl) ?_
                refine mdG_facts C hP mF_X11_133 dX11_factsOf_150 ?_
                refine lv_iconst (v := iI 0) hx hb dX11_factsOf_153 rfl ?_
                refine lv_iload hx hb dX11_factsOf_154 (lv_at hl 6 rfl) ?_
                refine lv_aload_n hx hb dX11_factsOf_156 rfl (lv_at hl 1 rfl) ?_
                refine mdG_holds C hP mF_X11_73 dX11_factsOf_157 ?_
                refine lv_iload hx hb dX11_factsOf_160 (lv_at hl 0 rfl) ?_
                refine mdL_holds C hP (by omega) (by omega) dX11_factsOf_162 ?_
                show W p l e (gRm 1 24) s m args below meth c _ _ 0 0 Q (F0 m 163 ls [.int (iI (f 18 z_7)), .int (iI x5), .int (iI 0), .ref (ad 38)])
                have r_8 : 0 ≤ (f 18 z_7) ∧ (f 18 z_7) ≤ 60 := hP.2.2 18 z_7
                refine gi_cne (tgt := 170) hx hb dX11_factsOf_163 (by decide) (by omega) (by omega) (fun c_9 => ?_) (fun c_9 => ?_)
                · refine lv_iconst (v := iI 0) hx hb dX11_factsOf_170 rfl ?_
                  refine mdS_facts (f1 := (va_up f 37 (u1 c37_4 0 0))) C hP hD hS (by decide) (by decide) (by decide) rfl (Or.inr (gF_up (V := mdV) (F := mdF) ⟨hok.1, hok.2⟩ 37 (u1_rng (hP.2.2 37) (show (-2000000) ≤ 0 ∧ 0 ≤ 2000000 from (by decide))))) dX11_factsOf_171 (fun H locs hP hS => ?_)
                  refine lv_iconst (v := iI 0) hx hb dX11_factsOf_172 rfl ?_
                  refine lv_istore (lv' := [(10, .int (iI 0)), (9, .int (iI z_7)), (0, .ref (ad 0)), (1, .int (iI a1)), (2, .int (iI a2)), (3, .int (iI a3)), (4, .int (iI a4)), (5, .int (iI x5)), (6, .int (iI x6)), (7, .int (iI x7)), (8, .int (iI x8))]) hx hb dX11_factsOf_173 hl (by decide) rfl (fun ls hl => ?_)
                  have L_10 : ∀ (n : Nat) (x10 : Int) (c37_10 : Int → Int) (H : Heap) (locs : List Loc) (ls : Array Slot), 3 - x10 < (n : Int) → (0 ≤ x10 ∧ x10 ≤ 3) → (0 ≤ c37_10 1 ∧ c37_10 1 ≤ x10) → gWd D (mdT k ad) v (va_up f 37 c37_10) g H → va_S A s.heap H locs → lv_has ls 11 [(0, .ref (ad 0)), (1, .int (iI a1)), (2, .int (iI a2)), (3, .int (iI a3)), (4, .int (iI a4)), (5, .int (iI x5)), (6, .int (iI x6)), (7, .int (iI x7)), (8, .int (iI x8)), (9, .int (iI z_7)), (10, .int (iI x10))] → W p l e (gRm 1 24) s m args below meth c H locs 0 0 Q (F0 m 175 ls []) := by
                    intro n
                    induction n with
                    | zero =>
                      intro x10 c37_10 H locs ls hn_10 i10_0 i10_1 hP hS hl
                      exfalso; omega
                    | succ n ih_175 =>
                      intro x10 c37_10 H locs ls hn_10 i10_0 i10_1 hP hS hl
                      refine lv_iload hx hb dX11_factsOf_175 (lv_at hl 10 rfl) ?_
                      refine lv_iconst (v := iI 3) hx hb dX11_factsOf_177 rfl ?_
                      refine gi_cge (tgt := 233) hx hb dX11_factsOf_178 (by decide) (by omega) (by decide) (fun c_11 => ?_) (fun c_11 => ?_)
                      · refine lv_aload_n hx hb dX11_factsOf_233 rfl (lv_at hl 0 rfl) ?_
                        refine mdG_facts C hP mF_X11_133 dX11_factsOf_234 ?_
                        refine lv_iconst (v := iI 2) hx hb dX11_factsOf_237 rfl ?_
                        refine lv_iload hx hb dX11_factsOf_238 (lv_at hl 5 rfl) ?_
                        refine mdS_facts (f1 := (va_up f 37 (u1 c37_10 2 x5))) C hP hD hS (by decide) (by decide) (by omega) rfl (Or.inr (gF_up (V := mdV) (F := mdF) ⟨hok.1, hok.2⟩ 37 (u1_rng (hP.2.2 37) (show (-2000000) ≤ x5 ∧ x5 ≤ 2000000 from (by omega))))) dX11_factsOf_240 (fun H locs hP hS => ?_)
                        refine lv_aload_n hx hb dX11_factsOf_241 rfl (lv_at hl 0 rfl) ?_
                        refine mdG_facts C hP mF_X11_133 dX11_factsOf_242 ?_
                        refine lv_iconst (v := iI 3) hx hb dX11_factsOf_245 rfl ?_
                        refine lv_iload hx hb dX11_factsOf_246 (lv_at hl 8 rfl) ?_
                        refine mdS_facts (f1 := (va_up f 37 (u1 (u1 c37_10 2 x5) 3 x8))) C hP hD hS (by decide) (by decide) (by omega) rfl (Or.inr (gF_up (V := mdV) (F := mdF) ⟨hok.1, hok.2⟩ 37 (u1_rng (hP.2.2 37) (show (-2000000) ≤ x8 ∧ x8 ≤ 2000000 from (by omega))))) dX11_factsOf_248 (fun H locs hP hS => ?_)
                        refine lv_aload_n hx hb dX11_factsOf_249 rfl (lv_at hl 0 rfl) ?_
                        refine mdG_facts C hP mF_X11_133 dX11_factsOf_250 ?_
                        refine lv_iconst (v := iI 4) hx hb dX11_factsOf_253 rfl ?_
                        refine lv_aload_n hx hb dX11_factsOf_254 rfl (lv_at hl 0 rfl) ?_
                        refine mdG_how C hP mF_X11_112 dX11_factsOf_255 ?_
                        refine lv_iload hx hb dX11_factsOf_258 (lv_at hl 6 rfl) ?_
                        refine mdL_how C hP (by omega) (by omega) dX11_factsOf_260 ?_
                        show W p l e (gRm 1 24) s m args below meth c _ _ 0 0 Q (F0 m 261 ls [.int (iI (f 30 x6)), .int (iI 4), .ref (ad 38)])
                        have r_12 : 0 ≤ (f 30 x6) ∧ (f 30 x6) ≤ 4 := hP.2.2 30 x6
                        refine gi_zne (tgt := 268) hx hb dX11_factsOf_261 (by decide) (by omega) (fun c_13 => ?_) (fun c_13 => ?_)
                        · refine lv_aload_n hx hb dX11_factsOf_268 rfl (lv_at hl 0 rfl) ?_
                          refine mdG_to C hP mF_X11_106 dX11_factsOf_269 ?_
                          refine lv_iload hx hb dX11_factsOf_272 (lv_at hl 6 rfl) ?_
                          refine mdL_to C hP (by omega) (by omega) dX11_factsOf_274 ?_
                          show W p l e (gRm 1 24) s m args below meth c _ _ 0 0 Q (F0 m 275 ls [.int (iI (f 28 x6)), .int (iI 4), .ref (ad 38)])
                          have r_14 : (-1) ≤ (f 28 x6) ∧ (f 28 x6) ≤ 1000999 := hP.2.2 28 x6
                          refine lv_aload_n hx hb dX11_factsOf_275 rfl (lv_at hl 0 rfl) ?_
                          refine mdG_from C hP mF_X11_103 dX11_factsOf_276 ?_
                          refine lv_iload hx hb dX11_factsOf_279 (lv_at hl 6 rfl) ?_
                          refine mdL_from C hP (by omega) (by omega) dX11_factsOf_281 ?_
                          show W p l e (gRm 1 24) s m args below meth c _ _ 0 0 Q (F0 m 282 ls [.int (iI (f 27 x6)), .int (iI (f 28 x6)), .int (iI 4), .ref (ad 38)])
                          have r_15 : 0 ≤ (f 27 x6) ∧ (f 27 x6) ≤ 1000000 := hP.2.2 27 x6
                          refine gi_sub (z := ((f 28 x6) - (f 27 x6))) hx hb dX11_factsOf_282 rfl ?_
                          refine mdS_facts (f1 := (va_up f 37 (u1 (u1 (u1 c37_10 2 x5) 3 x8) 4 ((f 28 x6) - (f 27 x6))))) C hP hD hS (by decide) (by decide) (by omega) rfl (Or.inr (gF_up (V := mdV) (F := mdF) ⟨hok.1, hok.2⟩ 37 (u1_rng (hP.2.2 37) (show (-2000000) ≤ ((f 28 x6) - (f 27 x6)) ∧ ((f 28 x6) - (f 27 x6)) ≤ 2000000 from (by omega))))) dX11_factsOf_283 (fun H locs hP hS => ?_)
                          refine lv_aload_n hx hb dX11_factsOf_284 rfl (lv_at hl 0 rfl) ?_
                          refine mdG_facts C hP mF_X11_133 dX11_factsOf_285 ?_
                          refine lv_iconst (v := iI 5) hx hb dX11_factsOf_288 rfl ?_
                          refine lv_aload_n hx hb dX11_factsOf_289 rfl (lv_at hl 0 rfl) ?_
                          refine mdG_facts C hP mF_X11_133 dX11_factsOf_290 ?_
                          refine lv_iconst (v := iI 0) hx hb dX11_factsOf_293 rfl ?_
                          refine mdL_facts C hP (by decide) (by decide) dX11_factsOf_294 ?_
                          show W p l e (gRm 1 24) s m args below meth c _ _ 0 0 Q (F0 m 295 ls [.int (iI ((u1 (u1 (u1 c37_10 2 x5) 3 x8) 4 ((f 28 x6) - (f 27 x6))) 0)), .int (iI 5), .ref (ad 38)])
                          have r_16 : (-2000000) ≤ ((u1 (u1 (u1 c37_10 2 x5) 3 x8) 4 ((f 28 x6) - (f 27 x6))) 0) ∧ ((u1 (u1 (u1 c37_10 2 x5) 3 x8) 4 ((f 28 x6) - (f 27 x6))) 0) ≤ 2000000 := hP.2.2 37 0
                          refine lv_iconst (v := iI 1) hx hb dX11_factsOf_295 rfl ?_
                          refine gi_cne (tgt := 309) hx hb dX11_factsOf_296 (by decide) (by omega) (by decide) (fun c_17 => ?_) (fun c_17 => ?_)
                          · refine lv_iconst (v := iI 0) hx hb dX11_factsOf_309 rfl ?_
                            refine mdS_facts (f1 := (va_up f 37 (u1 (u1 (u1 (u1 c37_10 2 x5) 3 x8) 4 ((f 28 x6) - (f 27 x6))) 5 0))) C hP hD hS (by decide) (by decide) (by decide) rfl (Or.inr (gF_up (V := mdV) (F := mdF) ⟨hok.1, hok.2⟩ 37 (u1_rng (hP.2.2 37) (show (-2000000) ≤ 0 ∧ 0 ≤ 2000000 from (by decide))))) dX11_factsOf_310 (fun H locs hP hS => ?_)
                            exact g_vret hQ C hr hlocks hP hS dX11_factsOf_311 ⟨(u1 (u1 (u1 (u1 c37_10 2 x5) 3 x8) 4 ((f 28 x6) - (f 27 x6))) 5 0), rfl, rfl, rfl, rfl⟩
                          · refine lv_iload hx hb dX11_factsOf_299 (lv_at hl 8 rfl) ?_
                            refine lv_iconst (v := iI 1) hx hb dX11_factsOf_301 rfl ?_
                            refine gi_cne (tgt := 309) hx hb dX11_factsOf_302 (by decide) (by omega) (by decide) (fun c_18 => ?_) (fun c_18 => ?_)
                            · refine lv_iconst (v := iI 0) hx hb dX11_factsOf_309 rfl ?_
                              refine mdS_facts (f1 := (va_up f 37 (u1 (u1 (u1 (u1 c37_10 2 x5) 3 x8) 4 ((f 28 x6) - (f 27 x6))) 5 0))) C hP hD hS (by decide) (by decide) (by decide) rfl (Or.inr (gF_up (V := mdV) (F := mdF) ⟨hok.1, hok.2⟩ 37 (u1_rng (hP.2.2 37) (show (-2000000) ≤ 0 ∧ 0 ≤ 2000000 from (by decide))))) dX11_factsOf_310 (fun H locs hP hS => ?_)
                              exact g_vret hQ C hr hlocks hP hS dX11_factsOf_311 ⟨(u1 (u1 (u1 (u1 c37_10 2 x5) 3 x8) 4 ((f 28 x6) - (f 27 x6))) 5 0), rfl, rfl, rfl, rfl⟩
                            · refine lv_iconst (v := iI 1) hx hb dX11_factsOf_305 rfl ?_
                              refine lv_goto (tgt := 310) hx hb dX11_factsOf_306 (by decide) ?_
                              refine mdS_facts (f1 := (va_up f 37 (u1 (u1 (u1 (u1 c37_10 2 x5) 3 x8) 4 ((f 28 x6) - (f 27 x6))) 5 1))) C hP hD hS (by decide) (by decide) (by decide) rfl (Or.inr (gF_up (V := mdV) (F := mdF) ⟨hok.1, hok.2⟩ 37 (u1_rng (hP.2.2 37) (show (-2000000) ≤ 1 ∧ 1 ≤ 2000000 from (by decide))))) dX11_factsOf_310 (fun H locs hP hS => ?_)
                              exact g_vret hQ C hr hlocks hP hS dX11_factsOf_311 ⟨(u1 (u1 (u1 (u1 c37_10 2 x5) 3 x8) 4 ((f 28 x6) - (f 27 x6))) 5 1), rfl, rfl, rfl, rfl⟩
                        · refine lv_iconst (v := iI 0) hx hb dX11_factsOf_264 rfl ?_
                          refine lv_goto (tgt := 283) hx hb dX11_factsOf_265 (by decide) ?_
                          refine mdS_facts (f1 := (va_up f 37 (u1 (u1 (u1 c37_10 2 x5) 3 x8) 4 0))) C hP hD hS (by decide) (by decide) (by decide) rfl (Or.inr (gF_up (V := mdV) (F := mdF) ⟨hok.1, hok.2⟩ 37 (u1_rng (hP.2.2 37) (show (-2000000) ≤ 0 ∧ 0 ≤ 2000000 from (by decide))))) dX11_factsOf_283 (fun H locs hP hS => ?_)
                          refine lv_aload_n hx hb dX11_factsOf_284 rfl (lv_at hl 0 rfl) ?_
                          refine mdG_facts C hP mF_X11_133 dX11_factsOf_285 ?_
                          refine lv_iconst (v := iI 5) hx hb dX11_factsOf_288 rfl ?_
                          refine lv_aload_n hx hb dX11_factsOf_289 rfl (lv_at hl 0 rfl) ?_
                          refine mdG_facts C hP mF_X11_133 dX11_factsOf_290 ?_
                          refine lv_iconst (v := iI 0) hx hb dX11_factsOf_293 rfl ?_
                          refine mdL_facts C hP (by decide) (by decide) dX11_factsOf_294 ?_
                          show W p l e (gRm 1 24) s m args below meth c _ _ 0 0 Q (F0 m 295 ls [.int (iI ((u1 (u1 (u1 c37_10 2 x5) 3 x8) 4 0) 0)), .int (iI 5), .ref (ad 38)])
                          have r_19 : (-2000000) ≤ ((u1 (u1 (u1 c37_10 2 x5) 3 x8) 4 0) 0) ∧ ((u1 (u1 (u1 c37_10 2 x5) 3 x8) 4 0) 0) ≤ 2000000 := hP.2.2 37 0
                          refine lv_iconst (v := iI 1) hx hb dX11_factsOf_295 rfl ?_
                          refine gi_cne (tgt := 309) hx hb dX11_factsOf_296 (by decide) (by omega) (by decide) (fun c_20 => ?_) (fun c_20 => ?_)
                          · refine lv_iconst (v := iI 0) hx hb dX11_factsOf_309 rfl ?_
                            refine mdS_facts (f1 := (va_up f 37 (u1 (u1 (u1 (u1 c37_10 2 x5) 3 x8) 4 0) 5 0))) C hP hD hS (by decide) (by decide) (by decide) rfl (Or.inr (gF_up (V := mdV) (F := mdF) ⟨hok.1, hok.2⟩ 37 (u1_rng (hP.2.2 37) (show (-2000000) ≤ 0 ∧ 0 ≤ 2000000 from (by decide))))) dX11_factsOf_310 (fun H locs hP hS => ?_)
                            exact g_vret hQ C hr hlocks hP hS dX11_factsOf_311 ⟨(u1 (u1 (u1 (u1 c37_10 2 x5) 3 x8) 4 0) 5 0), rfl, rfl, rfl, rfl⟩
                          · refine lv_iload hx hb dX11_factsOf_299 (lv_at hl 8 rfl) ?_
                            refine lv_iconst (v := iI 1) hx hb dX11_factsOf_301 rfl ?_
                            refine gi_cne (tgt := 309) hx hb dX11_factsOf_302 (by decide) (by omega) (by decide) (fun c_21 => ?_) (fun c_21 => ?_)
                            · refine lv_iconst (v := iI 0) hx hb dX11_factsOf_309 rfl ?_
                              refine mdS_facts (f1 := (va_up f 37 (u1 (u1 (u1 (u1 c37_10 2 x5) 3 x8) 4 0) 5 0))) C hP hD hS (by decide) (by decide) (by decide) rfl (Or.inr (gF_up (V := mdV) (F := mdF) ⟨hok.1, hok.2⟩ 37 (u1_rng (hP.2.2 37) (show (-2000000) ≤ 0 ∧ 0 ≤ 2000000 from (by decide))))) dX11_factsOf_310 (fun H locs hP hS => ?_)
                              exact g_vret hQ C hr hlocks hP hS dX11_factsOf_311 ⟨(u1 (u1 (u1 (u1 c37_10 2 x5) 3 x8) 4 0) 5 0), rfl, rfl, rfl, rfl⟩
                            · refine lv_iconst (v := iI 1) hx hb dX11_factsOf_305 rfl ?_
                              refine lv_goto (tgt := 310) hx hb dX11_factsOf_306 (by decide) ?_
                              refine mdS_facts (f1 := (va_up f 37 (u1 (u1 (u1 (u1 c37_10 2 x5) 3 x8) 4 0) 5 1))) C hP hD hS (by decide) (by decide) (by decide) rfl (Or.inr (gF_up (V := mdV) (F := mdF) ⟨hok.1, hok.2⟩ 37 (u1_rng (hP.2.2 37) (show (-2000000) ≤ 1 ∧ 1 ≤ 2000000 from (by decide))))) dX11_factsOf_310 (fun H locs hP hS => ?_)
                              exact g_vret hQ C hr hlocks hP hS dX11_factsOf_311 ⟨(u1 (u1 (u1 (u1 c37_10 2 x5) 3 x8) 4 0) 5 1), rfl, rfl, rfl, rfl⟩
                      · refine lv_aload_n hx hb dX11_factsOf_181 rfl (lv_at hl 0 rfl) ?_
                        refine mdG_facts C hP mF_X11_133 dX11_factsOf_182 ?_
                        refine lv_iconst (v := iI 1) hx hb dX11_factsOf_185 rfl ?_
                        refine lv_dup2_11 hx hb dX11_factsOf_186 rfl rfl ?_
                        refine mdL_facts C hP (by decide) (by decide) dX11_factsOf_187 ?_
                        show W p l e (gRm 1 24) s m args below meth c _ _ 0 0 Q (F0 m 188 ls [.int (iI (c37_10 1)), .int (iI 1), .ref (ad 38)])
                        have r_22 : (-2000000) ≤ (c37_10 1) ∧ (c37_10 1) ≤ 2000000 := hP.2.2 37 1
                        refine lv_aload_n hx hb dX11_factsOf_188 rfl (lv_at hl 0 rfl) ?_
                        refine mdG_zones C hP mF_X11_76 dX11_factsOf_189 ?_
                        refine lv_iconst (v := iI 3) hx hb dX11_factsOf_192 rfl ?_
                        refine lv_iload hx hb dX11_factsOf_193 (lv_at hl 9 rfl) ?_
                        refine gi_mul (z := (3 * z_7)) hx hb dX11_factsOf_195 rfl ?_
                        refine lv_iload hx hb dX11_factsOf_196 (lv_at hl 10 rfl) ?_
                        refine gi_add (z := ((3 * z_7) + x10)) hx hb dX11_factsOf_198 rfl ?_
                        refine mdL_zones C hP (by omega) (by omega) dX11_factsOf_199 ?_
                        show W p l e (gRm 1 24) s m args below meth c _ _ 0 0 Q (F0 m 200 ls [.int (iI (f 19 ((3 * z_7) + x10))), .int (iI (c37_10 1)), .int (iI 1), .ref (ad 38)])
                        have r_23 : 0 ≤ (f 19 ((3 * z_7) + x10)) ∧ (f 19 ((3 * z_7) + x10)) ≤ 60 := hP.2.2 19 ((3 * z_7) + x10)
                        refine gi_zle (tgt := 224) hx hb dX11_factsOf_200 (by decide) (by omega) (fun c_24 => ?_) (fun c_24 => ?_)
                        · refine lv_iconst (v := iI 0) hx hb dX11_factsOf_224 rfl ?_
                          refine gi_add (z := (c37_10 1)) hx hb dX11_factsOf_225 (by omega) ?_
                          refine mdS_facts (f1 := (va_up f 37 (u1 c37_10 1 (c37_10 1)))) C hP hD hS (by decide) (by decide) (by omega) rfl (Or.inr (gF_up (V := mdV) (F := mdF) ⟨hok.1, hok.2⟩ 37 (u1_rng (hP.2.2 37) (show (-2000000) ≤ (c37_10 1) ∧ (c37_10 1) ≤ 2000000 from (by omega))))) dX11_factsOf_226 (fun H locs hP hS => ?_)
                          refine lv_iinc (v := iI (x10 + 1)) (lv' := [(10, .int (iI (x10 + 1))), (0, .ref (ad 0)), (1, .int (iI a1)), (2, .int (iI a2)), (3, .int (iI a3)), (4, .int (iI a4)), (5, .int (iI x5)), (6, .int (iI x6)), (7, .int (iI x7)), (8, .int (iI x8)), (9, .int (iI z_7))]) hx hb dX11_factsOf_227 hl (k := 10) rfl (by show iI _ + iI 1 = _; rw [iI_add]) (by decide) rfl (fun ls hl => ?_)
                          refine lv_goto (tgt := 175) hx hb dX11_factsOf_230 (by decide) ?_
                          exact ih_175 (x10 + 1) (u1 c37_10 1 (c37_10 1)) _ _ _ (by omega) (by omega) (by rw [u1_s]; omega) hP hS (lv_sub hl [1, 2, 3, 4, 5, 6, 7, 8, 9, 10, 0] rfl)
                        · refine lv_aload_n hx hb dX11_factsOf_203 rfl (lv_at hl 0 rfl) ?_
                          refine mdG_zones C hP mF_X11_76 dX11_factsOf_204 ?_
                          refine lv_iconst (v := iI 3) hx hb dX11_factsOf_207 rfl ?_
                          refine lv_iload hx hb dX11_factsOf_208 (lv_at hl 9 rfl) ?_
                          refine gi_mul (z := (3 * z_7)) hx hb dX11_factsOf_210 rfl ?_
                          refine lv_iload hx hb dX11_factsOf_211 (lv_at hl 10 rfl) ?_
                          refine gi_add (z := ((3 * z_7) + x10)) hx hb dX11_factsOf_213 rfl ?_
                          refine mdL_zones C hP (by omega) (by omega) dX11_factsOf_214 ?_
                          show W p l e (gRm 1 24) s m args below meth c _ _ 0 0 Q (F0 m 215 ls [.int (iI (f 19 ((3 * z_7) + x10))), .int (iI (c37_10 1)), .int (iI 1), .ref (ad 38)])
                          refine lv_iload hx hb dX11_factsOf_215 (lv_at hl 5 rfl) ?_
                          refine gi_cgt (tgt := 224) hx hb dX11_factsOf_217 (by decide) (by omega) (by omega) (fun c_25 => ?_) (fun c_25 => ?_)
                          · refine lv_iconst (v := iI 0) hx hb dX11_factsOf_224 rfl ?_
                            refine gi_add (z := (c37_10 1)) hx hb dX11_factsOf_225 (by omega) ?_
                            refine mdS_facts (f1 := (va_up f 37 (u1 c37_10 1 (c37_10 1)))) C hP hD hS (by decide) (by decide) (by omega) rfl (Or.inr (gF_up (V := mdV) (F := mdF) ⟨hok.1, hok.2⟩ 37 (u1_rng (hP.2.2 37) (show (-2000000) ≤ (c37_10 1) ∧ (c37_10 1) ≤ 2000000 from (by omega))))) dX11_factsOf_226 (fun H locs hP hS => ?_)
                            refine lv_iinc (v := iI (x10 + 1)) (lv' := [(10, .int (iI (x10 + 1))), (0, .ref (ad 0)), (1, .int (iI a1)), (2, .int (iI a2)), (3, .int (iI a3)), (4, .int (iI a4)), (5, .int (iI x5)), (6, .int (iI x6)), (7, .int (iI x7)), (8, .int (iI x8)), (9, .int (iI z_7))]) hx hb dX11_factsOf_227 hl (k := 10) rfl (by show iI _ + iI 1 = _; rw [iI_add]) (by decide) rfl (fun ls hl => ?_)
                            refine lv_goto (tgt := 175) hx hb dX11_factsOf_230 (by decide) ?_
                            exact ih_175 (x10 + 1) (u1 c37_10 1 (c37_10 1)) _ _ _ (by omega) (by omega) (by rw [u1_s]; omega) hP hS (lv_sub hl [1, 2, 3, 4, 5, 6, 7, 8, 9, 10, 0] rfl)
                          · refine lv_iconst (v := iI 1) hx hb dX11_factsOf_220 rfl ?_
                            refine lv_goto (tgt := 225) hx hb dX11_factsOf_221 (by decide) ?_
                            refine gi_add (z := ((c37_10 1) + 1)) hx hb dX11_factsOf_225 rfl ?_
                            refine mdS_facts (f1 := (va_up f 37 (u1 c37_10 1 ((c37_10 1) + 1)))) C hP hD hS (by decide) (by decide) (by omega) rfl (Or.inr (gF_up (V := mdV) (F := mdF) ⟨hok.1, hok.2⟩ 37 (u1_rng (hP.2.2 37) (show (-2000000) ≤ ((c37_10 1) + 1) ∧ ((c37_10 1) + 1) ≤ 2000000 from (by omega))))) dX11_factsOf_226 (fun H locs hP hS => ?_)
                            refine lv_iinc (v := iI (x10 + 1)) (lv' := [(10, .int (iI (x10 + 1))), (0, .ref (ad 0)), (1, .int (iI a1)), (2, .int (iI a2)), (3, .int (iI a3)), (4, .int (iI a4)), (5, .int (iI x5)), (6, .int (iI x6)), (7, .int (iI x7)), (8, .int (iI x8)), (9, .int (iI z_7))]) hx hb dX11_factsOf_227 hl (k := 10) rfl (by show iI _ + iI 1 = _; rw [iI_add]) (by decide) rfl (fun ls hl => ?_)
                            refine lv_goto (tgt := 175) hx hb dX11_factsOf_230 (by decide) ?_
                            exact ih_175 (x10 + 1) (u1 c37_10 1 ((c37_10 1) + 1)) _ _ _ (by omega) (by omega) (by rw [u1_s]; omega) hP hS (lv_sub hl [1, 2, 3, 4, 5, 6, 7, 8, 9, 10, 0] rfl)
                  exact L_10 4 0 (u1 c37_4 0 0) _ _ _ (by omega) (by omega) (by rw [u1_n (by decide), hz1 1 (by omega) (by omega)]; decide) hP hS (lv_sub hl [2, 3, 4, 5, 6, 7, 8, 9, 10, 1, 0] rfl)
                · refine lv_iconst (v := iI 1) hx hb dX11_factsOf_166 rfl ?_
                  refine lv_goto (tgt := 171) hx hb dX11_factsOf_167 (by decide) ?_
                  refine mdS_facts (f1 := (va_up f 37 (u1 c37_4 0 1))) C hP hD hS (by decide) (by decide) (by decide) rfl (Or.inr (gF_up (V := mdV) (F := mdF) ⟨hok.1, hok.2⟩ 37 (u1_rng (hP.2.2 37) (show (-2000000) ≤ 1 ∧ 1 ≤ 2000000 from (by decide))))) dX11_factsOf_171 (fun H locs hP hS => ?_)
                  refine lv_iconst (v := iI 0) hx hb dX11_factsOf_172 rfl ?_
                  refine lv_istore (lv' := [(10, .int (iI 0)), (9, .int (iI z_7)), (0, .ref (ad 0)), (1, .int (iI a1)), (2, .int (iI a2)), (3, .int (iI a3)), (4, .int (iI a4)), (5, .int (iI x5)), (6, .int (iI x6)), (7, .int (iI x7)), (8, .int (iI x8))]) hx hb dX11_factsOf_173 hl (by decide) rfl (fun ls hl => ?_)
                  have L_26 : ∀ (n : Nat) (x10 : Int) (c37_26 : Int → Int) (H : Heap) (locs : List Loc) (ls : Array Slot), 3 - x10 < (n : Int) → (0 ≤ x10 ∧ x10 ≤ 3) → (0 ≤ c37_26 1 ∧ c37_26 1 ≤ x10) → gWd D (mdT k ad) v (va_up f 37 c37_26) g H → va_S A s.heap H locs → lv_has ls 11 [(0, .ref (ad 0)), (1, .int (iI a1)), (2, .int (iI a2)), (3, .int (iI a3)), (4, .int (iI a4)), (5, .int (iI x5)), (6, .int (iI x6)), (7, .int (iI x7)), (8, .int (iI x8)), (9, .int (iI z_7)), (10, .int (iI x10))] → W p l e (gRm 1 24) s m args below meth c H locs 0 0 Q (F0 m 175 ls []) := by
                    intro n
                    induction n with
                    | zero =>
                      intro x10 c37_26 H locs ls hn_26 i26_0 i26_1 hP hS hl
                      exfalso; omega
                    | succ n ih_175 =>
                      intro x10 c37_26 H locs ls hn_26 i26_0 i26_1 hP hS hl
                      refine lv_iload hx hb dX11_factsOf_175 (lv_at hl 10 rfl) ?_
                      refine lv_iconst (v := iI 3) hx hb dX11_factsOf_177 rfl ?_
                      refine gi_cge (tgt := 233) hx hb dX11_factsOf_178 (by decide) (by omega) (by decide) (fun c_27 => ?_) (fun c_27 => ?_)
                      · refine lv_aload_n hx hb dX11_factsOf_233 rfl (lv_at hl 0 rfl) ?_
                        refine mdG_facts C hP mF_X11_133 dX11_factsOf_234 ?_
                        refine lv_iconst (v := iI 2) hx hb dX11_factsOf_237 rfl ?_
                        refine lv_iload hx hb dX11_factsOf_238 (lv_at hl 5 rfl) ?_
                        refine mdS_facts (f1 := (va_up f 37 (u1 c37_26 2 x5))) C hP hD hS (by decide) (by decide) (by omega) rfl (Or.inr (gF_up (V := mdV) (F := mdF) ⟨hok.1, hok.2⟩ 37 (u1_rng (hP.2.2 37) (show (-2000000) ≤ x5 ∧ x5 ≤ 2000000 from (by omega))))) dX11_factsOf_240 (fun H locs hP hS => ?_)
                        refine lv_aload_n hx hb dX11_factsOf_241 rfl (lv_at hl 0 rfl) ?_
                        refine mdG_facts C hP mF_X11_133 dX11_factsOf_242 ?_
                        refine lv_iconst (v := iI 3) hx hb dX11_factsOf_245 rfl ?_
                        refine lv_iload hx hb dX11_factsOf_246 (lv_at hl 8 rfl) ?_
                        refine mdS_facts (f1 := (va_up f 37 (u1 (u1 c37_26 2 x5) 3 x8))) C hP hD hS (by decide) (by decide) (by omega) rfl (Or.inr (gF_up (V := mdV) (F := mdF) ⟨hok.1, hok.2⟩ 37 (u1_rng (hP.2.2 37) (show (-2000000) ≤ x8 ∧ x8 ≤ 2000000 from (by omega))))) dX11_factsOf_248 (fun H locs hP hS => ?_)
                        refine lv_aload_n hx hb dX11_factsOf_249 rfl (lv_at hl 0 rfl) ?_
                        refine mdG_facts C hP mF_X11_133 dX11_factsOf_250 ?_
                        refine lv_iconst (v := iI 4) hx hb dX11_factsOf_253 rfl ?_
                        refine lv_aload_n hx hb dX11_factsOf_254 rfl (lv_at hl 0 rfl) ?_
                        refine mdG_how C hP mF_X11_112 dX11_factsOf_255 ?_
                        refine lv_iload hx hb dX11_factsOf_258 (lv_at hl 6 rfl) ?_
                        refine mdL_how C hP (by omega) (by omega) dX11_factsOf_260 ?_
                        show W p l e (gRm 1 24) s m args below meth c _ _ 0 0 Q (F0 m 261 ls [.int (iI (f 30 x6)), .int (iI 4), .ref (ad 38)])
                        have r_28 : 0 ≤ (f 30 x6) ∧ (f 30 x6) ≤ 4 := hP.2.2 30 x6
                        refine gi_zne (tgt := 268) hx hb dX11_factsOf_261 (by decide) (by omega) (fun c_29 => ?_) (fun c_29 => ?_)
                        · refine lv_aload_n hx hb dX11_factsOf_268 rfl (lv_at hl 0 rfl) ?_
                          refine mdG_to C hP mF_X11_106 dX11_factsOf_269 ?_
                          refine lv_iload hx hb dX11_factsOf_272 (lv_at hl 6 rfl) ?_
                          refine mdL_to C hP (by omega) (by omega) dX11_factsOf_274 ?_
                          show W p l e (gRm 1 24) s m args below meth c _ _ 0 0 Q (F0 m 275 ls [.int (iI (f 28 x6)), .int (iI 4), .ref (ad 38)])
                          have r_30 : (-1) ≤ (f 28 x6) ∧ (f 28 x6) ≤ 1000999 := hP.2.2 28 x6
                          refine lv_aload_n hx hb dX11_factsOf_275 rfl (lv_at hl 0 rfl) ?_
                          refine mdG_from C hP mF_X11_103 dX11_factsOf_276 ?_
                          refine lv_iload hx hb dX11_factsOf_279 (lv_at hl 6 rfl) ?_
                          refine mdL_from C hP (by omega) (by omega) dX11_factsOf_281 ?_
                          show W p l e (gRm 1 24) s m args below meth c _ _ 0 0 Q (F0 m 282 ls [.int (iI (f 27 x6)), .int (iI (f 28 x6)), .int (iI 4), .ref (ad 38)])
                          have r_31 : 0 ≤ (f 27 x6) ∧ (f 27 x6) ≤ 1000000 := hP.2.2 27 x6
                          refine gi_sub (z := ((f 28 x6) - (f 27 x6))) hx hb dX11_factsOf_282 rfl ?_
                          refine mdS_facts (f1 := (va_up f 37 (u1 (u1 (u1 c37_26 2 x5) 3 x8) 4 ((f 28 x6) - (f 27 x6))))) C hP hD hS (by decide) (by decide) (by omega) rfl (Or.inr (gF_up (V := mdV) (F := mdF) ⟨hok.1, hok.2⟩ 37 (u1_rng (hP.2.2 37) (show (-2000000) ≤ ((f 28 x6) - (f 27 x6)) ∧ ((f 28 x6) - (f 27 x6)) ≤ 2000000 from (by omega))))) dX11_factsOf_283 (fun H locs hP hS => ?_)
                          refine lv_aload_n hx hb dX11_factsOf_284 rfl (lv_at hl 0 rfl) ?_
                          refine mdG_facts C hP mF_X11_133 dX11_factsOf_285 ?_
                          refine lv_iconst (v := iI 5) hx hb dX11_factsOf_288 rfl ?_
                          refine lv_aload_n hx hb dX11_factsOf_289 rfl (lv_at hl 0 rfl) ?_
                          refine mdG_facts C hP mF_X11_133 dX11_factsOf_290 ?_
                          refine lv_iconst (v := iI 0) hx hb dX11_factsOf_293 rfl ?_
                          refine mdL_facts C hP (by decide) (by decide) dX11_factsOf_294 ?_
                          show W p l e (gRm 1 24) s m args below meth c _ _ 0 0 Q (F0 m 295 ls [.int (iI ((u1 (u1 (u1 c37_26 2 x5) 3 x8) 4 ((f 28 x6) - (f 27 x6))) 0)), .int (iI 5), .ref (ad 38)])
                          have r_32 : (-2000000) ≤ ((u1 (u1 (u1 c37_26 2 x5) 3 x8) 4 ((f 28 x6) - (f 27 x6))) 0) ∧ ((u1 (u1 (u1 c37_26 2 x5) 3 x8) 4 ((f 28 x6) - (f 27 x6))) 0) ≤ 2000000 := hP.2.2 37 0
                          refine lv_iconst (v := iI 1) hx hb dX11_factsOf_295 rfl ?_
                          refine gi_cne (tgt := 309) hx hb dX11_factsOf_296 (by decide) (by omega) (by decide) (fun c_33 => ?_) (fun c_33 => ?_)
                          · refine lv_iconst (v := iI 0) hx hb dX11_factsOf_309 rfl ?_
                            refine mdS_facts (f1 := (va_up f 37 (u1 (u1 (u1 (u1 c37_26 2 x5) 3 x8) 4 ((f 28 x6) - (f 27 x6))) 5 0))) C hP hD hS (by decide) (by decide) (by decide) rfl (Or.inr (gF_up (V := mdV) (F := mdF) ⟨hok.1, hok.2⟩ 37 (u1_rng (hP.2.2 37) (show (-2000000) ≤ 0 ∧ 0 ≤ 2000000 from (by decide))))) dX11_factsOf_310 (fun H locs hP hS => ?_)
                            exact g_vret hQ C hr hlocks hP hS dX11_factsOf_311 ⟨(u1 (u1 (u1 (u1 c37_26 2 x5) 3 x8) 4 ((f 28 x6) - (f 27 x6))) 5 0), rfl, rfl, rfl, rfl⟩
                          · refine lv_iload hx hb dX11_factsOf_299 (lv_at hl 8 rfl) ?_
                            refine lv_iconst (v := iI 1) hx hb dX11_factsOf_301 rfl ?_
                            refine gi_cne (tgt := 309) hx hb dX11_factsOf_302 (by decide) (by omega) (by decide) (fun c_34 => ?_) (fun c_34 => ?_)
                            · refine lv_iconst (v := iI 0) hx hb dX11_factsOf_309 rfl ?_
                              refine mdS_facts (f1 := (va_up f 37 (u1 (u1 (u1 (u1 c37_26 2 x5) 3 x8) 4 ((f 28 x6) - (f 27 x6))) 5 0))) C hP hD hS (by decide) (by decide) (by decide) rfl (Or.inr (gF_up (V := mdV) (F := mdF) ⟨hok.1, hok.2⟩ 37 (u1_rng (hP.2.2 37) (show (-2000000) ≤ 0 ∧ 0 ≤ 2000000 from (by decide))))) dX11_factsOf_310 (fun H locs hP hS => ?_)
                              exact g_vret hQ C hr hlocks hP hS dX11_factsOf_311 ⟨(u1 (u1 (u1 (u1 c37_26 2 x5) 3 x8) 4 ((f 28 x6) - (f 27 x6))) 5 0), rfl, rfl, rfl, rfl⟩
                            · refine lv_iconst (v := iI 1) hx hb dX11_factsOf_305 rfl ?_
                              refine lv_goto (tgt := 310) hx hb dX11_factsOf_306 (by decide) ?_
                              refine mdS_facts (f1 := (va_up f 37 (u1 (u1 (u1 (u1 c37_26 2 x5) 3 x8) 4 ((f 28 x6) - (f 27 x6))) 5 1))) C hP hD hS (by decide) (by decide) (by decide) rfl (Or.inr (gF_up (V := mdV) (F := mdF) ⟨hok.1, hok.2⟩ 37 (u1_rng (hP.2.2 37) (show (-2000000) ≤ 1 ∧ 1 ≤ 2000000 from (by decide))))) dX11_factsOf_310 (fun H locs hP hS => ?_)
                              exact g_vret hQ C hr hlocks hP hS dX11_factsOf_311 ⟨(u1 (u1 (u1 (u1 c37_26 2 x5) 3 x8) 4 ((f 28 x6) - (f 27 x6))) 5 1), rfl, rfl, rfl, rfl⟩
                        · refine lv_iconst (v := iI 0) hx hb dX11_factsOf_264 rfl ?_
                          refine lv_goto (tgt := 283) hx hb dX11_factsOf_265 (by decide) ?_
                          refine mdS_facts (f1 := (va_up f 37 (u1 (u1 (u1 c37_26 2 x5) 3 x8) 4 0))) C hP hD hS (by decide) (by decide) (by decide) rfl (Or.inr (gF_up (V := mdV) (F := mdF) ⟨hok.1, hok.2⟩ 37 (u1_rng (hP.2.2 37) (show (-2000000) ≤ 0 ∧ 0 ≤ 2000000 from (by decide))))) dX11_factsOf_283 (fun H locs hP hS => ?_)
                          refine lv_aload_n hx hb dX11_factsOf_284 rfl (lv_at hl 0 rfl) ?_
                          refine mdG_facts C hP mF_X11_133 dX11_factsOf_285 ?_
                          refine lv_iconst (v := iI 5) hx hb dX11_factsOf_288 rfl ?_
                          refine lv_aload_n hx hb dX11_factsOf_289 rfl (lv_at hl 0 rfl) ?_
                          refine mdG_facts C hP mF_X11_133 dX11_factsOf_290 ?_
                          refine lv_iconst (v := iI 0) hx hb dX11_factsOf_293 rfl ?_
                          refine mdL_facts C hP (by decide) (by decide) dX11_factsOf_294 ?_
                          show W p l e (gRm 1 24) s m args below meth c _ _ 0 0 Q (F0 m 295 ls [.int (iI ((u1 (u1 (u1 c37_26 2 x5) 3 x8) 4 0) 0)), .int (iI 5), .ref (ad 38)])
                          have r_35 : (-2000000) ≤ ((u1 (u1 (u1 c37_26 2 x5) 3 x8) 4 0) 0) ∧ ((u1 (u1 (u1 c37_26 2 x5) 3 x8) 4 0) 0) ≤ 2000000 := hP.2.2 37 0
                          refine lv_iconst (v := iI 1) hx hb dX11_factsOf_295 rfl ?_
                          refine gi_cne (tgt := 309) hx hb dX11_factsOf_296 (by decide) (by omega) (by decide) (fun c_36 => ?_) (fun c_36 => ?_)
                          · refine lv_iconst (v := iI 0) hx hb dX11_factsOf_309 rfl ?_
                            refine mdS_facts (f1 := (va_up f 37 (u1 (u1 (u1 (u1 c37_26 2 x5) 3 x8) 4 0) 5 0))) C hP hD hS (by decide) (by decide) (by decide) rfl (Or.inr (gF_up (V := mdV) (F := mdF) ⟨hok.1, hok.2⟩ 37 (u1_rng (hP.2.2 37) (show (-2000000) ≤ 0 ∧ 0 ≤ 2000000 from (by decide))))) dX11_factsOf_310 (fun H locs hP hS => ?_)
                            exact g_vret hQ C hr hlocks hP hS dX11_factsOf_311 ⟨(u1 (u1 (u1 (u1 c37_26 2 x5) 3 x8) 4 0) 5 0), rfl, rfl, rfl, rfl⟩
                          · refine lv_iload hx hb dX11_factsOf_299 (lv_at hl 8 rfl) ?_
                            refine lv_iconst (v := iI 1) hx hb dX11_factsOf_301 rfl ?_
                            refine gi_cne (tgt := 309) hx hb dX11_factsOf_302 (by decide) (by omega) (by decide) (fun c_37 => ?_) (fun c_37 => ?_)
                            · refine lv_iconst (v := iI 0) hx hb dX11_factsOf_309 rfl ?_
                              refine mdS_facts (f1 := (va_up f 37 (u1 (u1 (u1 (u1 c37_26 2 x5) 3 x8) 4 0) 5 0))) C hP hD hS (by decide) (by decide) (by decide) rfl (Or.inr (gF_up (V := mdV) (F := mdF) ⟨hok.1, hok.2⟩ 37 (u1_rng (hP.2.2 37) (show (-2000000) ≤ 0 ∧ 0 ≤ 2000000 from (by decide))))) dX11_factsOf_310 (fun H locs hP hS => ?_)
                              exact g_vret hQ C hr hlocks hP hS dX11_factsOf_311 ⟨(u1 (u1 (u1 (u1 c37_26 2 x5) 3 x8) 4 0) 5 0), rfl, rfl, rfl, rfl⟩
                            · refine lv_iconst (v := iI 1) hx hb dX11_factsOf_305 rfl ?_
                              refine lv_goto (tgt := 310) hx hb dX11_factsOf_306 (by decide) ?_
                              refine mdS_facts (f1 := (va_up f 37 (u1 (u1 (u1 (u1 c37_26 2 x5) 3 x8) 4 0) 5 1))) C hP hD hS (by decide) (by decide) (by decide) rfl (Or.inr (gF_up (V := mdV) (F := mdF) ⟨hok.1, hok.2⟩ 37 (u1_rng (hP.2.2 37) (show (-2000000) ≤ 1 ∧ 1 ≤ 2000000 from (by decide))))) dX11_factsOf_310 (fun H locs hP hS => ?_)
                              exact g_vret hQ C hr hlocks hP hS dX11_factsOf_311 ⟨(u1 (u1 (u1 (u1 c37_26 2 x5) 3 x8) 4 0) 5 1), rfl, rfl, rfl, rfl⟩
                      · refine lv_aload_n hx hb dX11_factsOf_181 rfl (lv_at hl 0 rfl) ?_
                        refine mdG_facts C hP mF_X11_133 dX11_factsOf_182 ?_
                        refine lv_iconst (v := iI 1) hx hb dX11_factsOf_185 rfl ?_
                        refine lv_dup2_11 hx hb dX11_factsOf_186 rfl rfl ?_
                        refine mdL_facts C hP (by decide) (by decide) dX11_factsOf_187 ?_
                        show W p l e (gRm 1 24) s m args below meth c _ _ 0 0 Q (F0 m 188 ls [.int (iI (c37_26 1)), .int (iI 1), .ref (ad 38)])
                        have r_38 : (-2000000) ≤ (c37_26 1) ∧ (c37_26 1) ≤ 2000000 := hP.2.2 37 1
                        refine lv_aload_n hx hb dX11_factsOf_188 rfl (lv_at hl 0 rfl) ?_
                        refine mdG_zones C hP mF_X11_76 dX11_factsOf_189 ?_
                        refine lv_iconst (v := iI 3) hx hb dX11_factsOf_192 rfl ?_
                        refine lv_iload hx hb dX11_factsOf_193 (lv_at hl 9 rfl) ?_
                        refine gi_mul (z := (3 * z_7)) hx hb dX11_factsOf_195 rfl ?_
                        refine lv_iload hx hb dX11_factsOf_196 (lv_at hl 10 rfl) ?_
                        refine gi_add (z := ((3 * z_7) + x10)) hx hb dX11_factsOf_198 rfl ?_
                        refine mdL_zones C hP (by omega) (by omega) dX11_factsOf_199 ?_
                        show W p l e (gRm 1 24) s m args below meth c _ _ 0 0 Q (F0 m 200 ls [.int (iI (f 19 ((3 * z_7) + x10))), .int (iI (c37_26 1)), .int (iI 1), .ref (ad 38)])
                        have r_39 : 0 ≤ (f 19 ((3 * z_7) + x10)) ∧ (f 19 ((3 * z_7) + x10)) ≤ 60 := hP.2.2 19 ((3 * z_7) + x10)
                        refine gi_zle (tgt := 224) hx hb dX11_factsOf_200 (by decide) (by omega) (fun c_40 => ?_) (fun c_40 => ?_)
                        · refine lv_iconst (v := iI 0) hx hb dX11_factsOf_224 rfl ?_
                          refine gi_add (z := (c37_26 1)) hx hb dX11_factsOf_225 (by omega) ?_
                          refine mdS_facts (f1 := (va_up f 37 (u1 c37_26 1 (c37_26 1)))) C hP hD hS (by decide) (by decide) (by omega) rfl (Or.inr (gF_up (V := mdV) (F := mdF) ⟨hok.1, hok.2⟩ 37 (u1_rng (hP.2.2 37) (show (-2000000) ≤ (c37_26 1) ∧ (c37_26 1) ≤ 2000000 from (by omega))))) dX11_factsOf_226 (fun H locs hP hS => ?_)
                          refine lv_iinc (v := iI (x10 + 1)) (lv' := [(10, .int (iI (x10 + 1))), (0, .ref (ad 0)), (1, .int (iI a1)), (2, .int (iI a2)), (3, .int (iI a3)), (4, .int (iI a4)), (5, .int (iI x5)), (6, .int (iI x6)), (7, .int (iI x7)), (8, .int (iI x8)), (9, .int (iI z_7))]) hx hb dX11_factsOf_227 hl (k := 10) rfl (by show iI _ + iI 1 = _; rw [iI_add]) (by decide) rfl (fun ls hl => ?_)
                          refine lv_goto (tgt := 175) hx hb dX11_factsOf_230 (by decide) ?_
                          exact ih_175 (x10 + 1) (u1 c37_26 1 (c37_26 1)) _ _ _ (by omega) (by omega) (by rw [u1_s]; omega) hP hS (lv_sub hl [1, 2, 3, 4, 5, 6, 7, 8, 9, 10, 0] rfl)
                        · refine lv_aload_n hx hb dX11_factsOf_203 rfl (lv_at hl 0 rfl) ?_
                          refine mdG_zones C hP mF_X11_76 dX11_factsOf_204 ?_
                          refine lv_iconst (v := iI 3) hx hb dX11_factsOf_207 rfl ?_
                          refine lv_iload hx hb dX11_factsOf_208 (lv_at hl 9 rfl) ?_
                          refine gi_mul (z := (3 * z_7)) hx hb dX11_factsOf_210 rfl ?_
                          refine lv_iload hx hb dX11_factsOf_211 (lv_at hl 10 rfl) ?_
                          refine gi_add (z := ((3 * z_7) + x10)) hx hb dX11_factsOf_213 rfl ?_
                          refine mdL_zones C hP (by omega) (by omega) dX11_factsOf_214 ?_
                          show W p l e (gRm 1 24) s m args below meth c _ _ 0 0 Q (F0 m 215 ls [.int (iI (f 19 ((3 * z_7) + x10))), .int (iI (c37_26 1)), .int (iI 1), .ref (ad 38)])
                          refine lv_iload hx hb dX11_factsOf_215 (lv_at hl 5 rfl) ?_
                          refine gi_cgt (tgt := 224) hx hb dX11_factsOf_217 (by decide) (by omega) (by omega) (fun c_41 => ?_) (fun c_41 => ?_)
                          · refine lv_iconst (v := iI 0) hx hb dX11_factsOf_224 rfl ?_
                            refine gi_add (z := (c37_26 1)) hx hb dX11_factsOf_225 (by omega) ?_
                            refine mdS_facts (f1 := (va_up f 37 (u1 c37_26 1 (c37_26 1)))) C hP hD hS (by decide) (by decide) (by omega) rfl (Or.inr (gF_up (V := mdV) (F := mdF) ⟨hok.1, hok.2⟩ 37 (u1_rng (hP.2.2 37) (show (-2000000) ≤ (c37_26 1) ∧ (c37_26 1) ≤ 2000000 from (by omega))))) dX11_factsOf_226 (fun H locs hP hS => ?_)
                            refine lv_iinc (v := iI (x10 + 1)) (lv' := [(10, .int (iI (x10 + 1))), (0, .ref (ad 0)), (1, .int (iI a1)), (2, .int (iI a2)), (3, .int (iI a3)), (4, .int (iI a4)), (5, .int (iI x5)), (6, .int (iI x6)), (7, .int (iI x7)), (8, .int (iI x8)), (9, .int (iI z_7))]) hx hb dX11_factsOf_227 hl (k := 10) rfl (by show iI _ + iI 1 = _; rw [iI_add]) (by decide) rfl (fun ls hl => ?_)
                            refine lv_goto (tgt := 175) hx hb dX11_factsOf_230 (by decide) ?_
                            exact ih_175 (x10 + 1) (u1 c37_26 1 (c37_26 1)) _ _ _ (by omega) (by omega) (by rw [u1_s]; omega) hP hS (lv_sub hl [1, 2, 3, 4, 5, 6, 7, 8, 9, 10, 0] rfl)
                          · refine lv_iconst (v := iI 1) hx hb dX11_factsOf_220 rfl ?_
                            refine lv_goto (tgt := 225) hx hb dX11_factsOf_221 (by decide) ?_
                            refine gi_add (z := ((c37_26 1) + 1)) hx hb dX11_factsOf_225 rfl ?_
                            refine mdS_facts (f1 := (va_up f 37 (u1 c37_26 1 ((c37_26 1) + 1)))) C hP hD hS (by decide) (by decide) (by omega) rfl (Or.inr (gF_up (V := mdV) (F := mdF) ⟨hok.1, hok.2⟩ 37 (u1_rng (hP.2.2 37) (show (-2000000) ≤ ((c37_26 1) + 1) ∧ ((c37_26 1) + 1) ≤ 2000000 from (by omega))))) dX11_factsOf_226 (fun H locs hP hS => ?_)
                            refine lv_iinc (v := iI (x10 + 1)) (lv' := [(10, .int (iI (x10 + 1))), (0, .ref (ad 0)), (1, .int (iI a1)), (2, .int (iI a2)), (3, .int (iI a3)), (4, .int (iI a4)), (5, .int (iI x5)), (6, .int (iI x6)), (7, .int (iI x7)), (8, .int (iI x8)), (9, .int (iI z_7))]) hx hb dX11_factsOf_227 hl (k := 10) rfl (by show iI _ + iI 1 = _; rw [iI_add]) (by decide) rfl (fun ls hl => ?_)
                            refine lv_goto (tgt := 175) hx hb dX11_factsOf_230 (by decide) ?_
                            exact ih_175 (x10 + 1) (u1 c37_26 1 ((c37_26 1) + 1)) _ _ _ (by omega) (by omega) (by rw [u1_s]; omega) hP hS (lv_sub hl [1, 2, 3, 4, 5, 6, 7, 8, 9, 10, 0] rfl)
                  exact L_26 4 0 (u1 c37_4 0 1) _ _ _ (by omega) (by omega) (by rw [u1_n (by decide), hz1 1 (by omega) (by omega)]; decide) hP hS (lv_sub hl [2, 3, 4, 5, 6, 7, 8, 9, 10, 1, 0] rfl)
              · exact g_vret hQ C hr hlocks hP hS dX11_factsOf_141 ⟨c37_4, rfl, rfl, rfl, rfl⟩
            · refine lv_aload_n hx hb dX11_factsOf_122 rfl (lv_at hl 0 rfl) ?_
              refine mdG_facts C hP mF_X11_133 dX11_factsOf_123 ?_
              refine lv_iload hx hb dX11_factsOf_126 (lv_at hl 9 rfl) ?_
              refine lv_iconst (v := iI 0) hx hb dX11_factsOf_128 rfl ?_
              refine mdS_facts (f1 := (va_up f 37 (u1 c37_4 x9 0))) C hP hD hS (by omega) (by omega) (by decide) rfl (Or.inr (gF_up (V := mdV) (F := mdF) ⟨hok.1, hok.2⟩ 37 (u1_rng (hP.2.2 37) (show (-2000000) ≤ 0 ∧ 0 ≤ 2000000 from (by decide))))) dX11_factsOf_129 (fun H locs hP hS => ?_)
              refine lv_iinc (v := iI (x9 + 1)) (lv' := [(9, .int (iI (x9 + 1))), (0, .ref (ad 0)), (1, .int (iI a1)), (2, .int (iI a2)), (3, .int (iI a3)), (4, .int (iI a4)), (5, .int (iI x5)), (6, .int (iI x6)), (7, .int (iI x7)), (8, .int (iI x8))]) hx hb dX11_factsOf_130 hl (k := 9) rfl (by show iI _ + iI 1 = _; rw [iI_add]) (by decide) rfl (fun ls hl => ?_)
              refine lv_goto (tgt := 115) hx hb dX11_factsOf_133 (by decide) ?_
              exact ih_115 (x9 + 1) (u1 c37_4 x9 0) _ _ _ (by omega) (by omega) (fun j h0 h1 => by have := i4_1 j h0; unfold u1; split <;> omega) hP hS (lv_sub hl [1, 2, 3, 4, 5, 6, 7, 8, 9, 0] rfl)
        exact L_4 7 0 (f 37) _ _ _ (by omega) (by omega) (fun j h0 h1 => by omega) hP hS (lv_sub hl [1, 2, 3, 4, 5, 6, 7, 8, 9, 0] rfl)
      · refine lv_aload_n hx hb dX11_factsOf_24 rfl (lv_at hl 0 rfl) ?_
        refine mdG_who C hP mF_X11_94 dX11_factsOf_25 ?_
        refine lv_iload hx hb dX11_factsOf_28 (lv_at hl 9 rfl) ?_
        refine mdL_who C hP (by omega) (by omega) dX11_factsOf_30 ?_
        show W p l e (gRm 1 24) s m args below meth c _ _ 0 0 Q (F0 m 31 ls [.int (iI (f 24 x9))])
        have r_42 : 0 ≤ (f 24 x9) ∧ (f 24 x9) ≤ 15 := hP.2.2 24 x9
        refine lv_iload_n hx hb dX11_factsOf_31 rfl (lv_at hl 3 rfl) ?_
        refine gi_cne (tgt := 106) hx hb dX11_factsOf_32 (by decide) (by omega) (by omega) (fun c_43 => ?_) (fun c_43 => ?_)
        · refine lv_iinc (v := iI (x9 + 1)) (lv' := [(9, .int (iI (x9 + 1))), (0, .ref (ad 0)), (1, .int (iI a1)), (2, .int (iI a2)), (3, .int (iI a3)), (4, .int (iI a4)), (5, .int (iI x5)), (6, .int (iI x6)), (7, .int (iI x7)), (8, .int (iI x8))]) hx hb dX11_factsOf_106 hl (k := 9) rfl (by show iI _ + iI 1 = _; rw [iI_add]) (by decide) rfl (fun ls hl => ?_)
          refine lv_goto (tgt := 15) hx hb dX11_factsOf_109 (by decide) ?_
          exact ih_15 x5 x6 x7 x8 (x9 + 1) _ _ _ (by omega) (by omega) (by omega) (by omega) (by omega) (by omega) hP hS (lv_sub hl [1, 2, 3, 4, 5, 6, 7, 8, 9, 0] rfl)
        · refine lv_aload_n hx hb dX11_factsOf_35 rfl (lv_at hl 0 rfl) ?_
          refine mdG_where C hP mF_X11_97 dX11_factsOf_36 ?_
          refine lv_iload hx hb dX11_factsOf_39 (lv_at hl 9 rfl) ?_
          refine mdL_where C hP (by omega) (by omega) dX11_factsOf_41 ?_
          show W p l e (gRm 1 24) s m args below meth c _ _ 0 0 Q (F0 m 42 ls [.int (iI (f 25 x9))])
          have r_44 : 0 ≤ (f 25 x9) ∧ (f 25 x9) ≤ 3 := hP.2.2 25 x9
          refine lv_iload_n hx hb dX11_factsOf_42 rfl (lv_at hl 1 rfl) ?_
          refine gi_cne (tgt := 106) hx hb dX11_factsOf_43 (by decide) (by omega) (by omega) (fun c_45 => ?_) (fun c_45 => ?_)
          · refine lv_iinc (v := iI (x9 + 1)) (lv' := [(9, .int (iI (x9 + 1))), (0, .ref (ad 0)), (1, .int (iI a1)), (2, .int (iI a2)), (3, .int (iI a3)), (4, .int (iI a4)), (5, .int (iI x5)), (6, .int (iI x6)), (7, .int (iI x7)), (8, .int (iI x8))]) hx hb dX11_factsOf_106 hl (k := 9) rfl (by show iI _ + iI 1 = _; rw [iI_add]) (by decide) rfl (fun ls hl => ?_)
            refine lv_goto (tgt := 15) hx hb dX11_factsOf_109 (by decide) ?_
            exact ih_15 x5 x6 x7 x8 (x9 + 1) _ _ _ (by omega) (by omega) (by omega) (by omega) (by omega) (by omega) hP hS (lv_sub hl [1, 2, 3, 4, 5, 6, 7, 8, 9, 0] rfl)
          · refine lv_aload_n hx hb dX11_factsOf_46 rfl (lv_at hl 0 rfl) ?_
            refine mdG_which C hP mF_X11_100 dX11_factsOf_47 ?_
            refine lv_iload hx hb dX11_factsOf_50 (lv_at hl 9 rfl) ?_
            refine mdL_which C hP (by omega) (by omega) dX11_factsOf_52 ?_
            show W p l e (gRm 1 24) s m args below meth c _ _ 0 0 Q (F0 m 53 ls [.int (iI (f 26 x9))])
            have r_46 : 0 ≤ (f 26 x9) ∧ (f 26 x9) ≤ 4 := hP.2.2 26 x9
            refine lv_iload_n hx hb dX11_factsOf_53 rfl (lv_at hl 2 rfl) ?_
            refine gi_cne (tgt := 106) hx hb dX11_factsOf_54 (by decide) (by omega) (by omega) (fun c_47 => ?_) (fun c_47 => ?_)
            · refine lv_iinc (v := iI (x9 + 1)) (lv' := [(9, .int (iI (x9 + 1))), (0, .ref (ad 0)), (1, .int (iI a1)), (2, .int (iI a2)), (3, .int (iI a3)), (4, .int (iI a4)), (5, .int (iI x5)), (6, .int (iI x6)), (7, .int (iI x7)), (8, .int (iI x8))]) hx hb dX11_factsOf_106 hl (k := 9) rfl (by show iI _ + iI 1 = _; rw [iI_add]) (by decide) rfl (fun ls hl => ?_)
              refine lv_goto (tgt := 15) hx hb dX11_factsOf_109 (by decide) ?_
              exact ih_15 x5 x6 x7 x8 (x9 + 1) _ _ _ (by omega) (by omega) (by omega) (by omega) (by omega) (by omega) hP hS (lv_sub hl [1, 2, 3, 4, 5, 6, 7, 8, 9, 0] rfl)
            · refine lv_aload_n hx hb dX11_factsOf_57 rfl (lv_at hl 0 rfl) ?_
              refine mdG_how C hP mF_X11_112 dX11_factsOf_58 ?_
              refine lv_iload hx hb dX11_factsOf_61 (lv_at hl 9 rfl) ?_
              refine mdL_how C hP (by omega) (by omega) dX11_factsOf_63 ?_
              show W p l e (gRm 1 24) s m args below meth c _ _ 0 0 Q (F0 m 64 ls [.int (iI (f 30 x9))])
              have r_48 : 0 ≤ (f 30 x9) ∧ (f 30 x9) ≤ 4 := hP.2.2 30 x9
              refine lv_iconst (v := iI 4) hx hb dX11_factsOf_64 rfl ?_
              refine gi_cne (tgt := 71) hx hb dX11_factsOf_65 (by decide) (by omega) (by decide) (fun c_49 => ?_) (fun c_49 => ?_)
              · refine lv_iinc (v := iI (x7 + 1)) (lv' := [(7, .int (iI (x7 + 1))), (0, .ref (ad 0)), (1, .int (iI a1)), (2, .int (iI a2)), (3, .int (iI a3)), (4, .int (iI a4)), (5, .int (iI x5)), (6, .int (iI x6)), (8, .int (iI x8)), (9, .int (iI x9))]) hx hb dX11_factsOf_71 hl (k := 7) rfl (by show iI _ + iI 1 = _; rw [iI_add]) (by decide) rfl (fun ls hl => ?_)
                refine lv_aload_n hx hb dX11_factsOf_74 rfl (lv_at hl 1 rfl) ?_
                refine lv_iload hx hb dX11_factsOf_75 (lv_at hl 9 rfl) ?_
                refine lv_iload hx hb dX11_factsOf_77 (lv_at hl 5 rfl) ?_
                refine g_cv (As := [.int (iI x9), .int (iI a4)]) (rest := []) (n := 2) C hml (m_X11_holdOf l D k A ad hD v (va_up f 37 (f 37)) g x9 a4 (by omega) (by omega) (show 0 ≤ x9 ∧ x9 ≤ 299 from by omega)) mM_X11_367 mI_X11_holdOf mE_X11_holdOf mN_X11 mC_X11_holdOf (by decide +kernel) 0 (ci := 11) rfl rfl hP hS (fun _ h => h) ⟨Nat.le_of_ble_eq_true rfl, Nat.le_of_ble_eq_true rfl⟩ ⟨Nat.zero_le _, Nat.zero_le _⟩ hl.1 rfl rfl (Nat.le_of_ble_eq_true rfl) dX11_factsOf_79 (fun r_50 v_50 f_50 g_50 H locs hq_50 hP _ hS => ?_)
                obtain ⟨z_50, rfl, rfl, rfl, rfl, p0_50⟩ := hq_50
                show W p l e (gRm 1 24) s m args below meth c _ _ 0 0 Q (F0 m 82 ls [.int (iI z_50)])
                replace p0_50 : 0 ≤ z_50 ∧ z_50 ≤ 60 := p0_50
                refine lv_istore (lv' := [(10, .int (iI z_50)), (7, .int (iI (x7 + 1))), (0, .ref (ad 0)), (1, .int (iI a1)), (2, .int (iI a2)), (3, .int (iI a3)), (4, .int (iI a4)), (5, .int (iI x5)), (6, .int (iI x6)), (8, .int (iI x8)), (9, .int (iI x9))]) hx hb dX11_factsOf_82 hl (by decide) rfl (fun ls hl => ?_)
                refine lv_iload hx hb dX11_factsOf_84 (lv_at hl 0 rfl) ?_
                refine lv_iload hx hb dX11_factsOf_86 (lv_at hl 7 rfl) ?_
                refine gi_cgt (tgt := 94) hx hb dX11_factsOf_88 (by decide) (by omega) (by omega) (fun c_51 => ?_) (fun c_51 => ?_)
                · refine lv_iload hx hb dX11_factsOf_94 (lv_at hl 0 rfl) ?_
                  refine lv_istore (lv' := [(5, .int (iI z_50)), (10, .int (iI z_50)), (7, .int (iI (x7 + 1))), (0, .ref (ad 0)), (1, .int (iI a1)), (2, .int (iI a2)), (3, .int (iI a3)), (4, .int (iI a4)), (6, .int (iI x6)), (8, .int (iI x8)), (9, .int (iI x9))]) hx hb dX11_factsOf_96 hl (by decide) rfl (fun ls hl => ?_)
                  refine lv_iload hx hb dX11_factsOf_98 (lv_at hl 10 rfl) ?_
                  refine lv_istore (lv' := [(6, .int (iI x9)), (5, .int (iI z_50)), (10, .int (iI z_50)), (7, .int (iI (x7 + 1))), (0, .ref (ad 0)), (1, .int (iI a1)), (2, .int (iI a2)), (3, .int (iI a3)), (4, .int (iI a4)), (8, .int (iI x8)), (9, .int (iI x9))]) hx hb dX11_factsOf_100 hl (by decide) rfl (fun ls hl => ?_)
                  refine lv_iload hx hb dX11_factsOf_102 (lv_at hl 3 rfl) ?_
                  refine lv_istore (lv' := [(8, .int (iI (x7 + 1))), (6, .int (iI x9)), (5, .int (iI z_50)), (10, .int (iI z_50)), (7, .int (iI (x7 + 1))), (0, .ref (ad 0)), (1, .int (iI a1)), (2, .int (iI a2)), (3, .int (iI a3)), (4, .int (iI a4)), (9, .int (iI x9))]) hx hb dX11_factsOf_104 hl (by decide) rfl (fun ls hl => ?_)
                  refine lv_iinc (v := iI (x9 + 1)) (lv' := [(9, .int (iI (x9 + 1))), (8, .int (iI (x7 + 1))), (6, .int (iI x9)), (5, .int (iI z_50)), (10, .int (iI z_50)), (7, .int (iI (x7 + 1))), (0, .ref (ad 0)), (1, .int (iI a1)), (2, .int (iI a2)), (3, .int (iI a3)), (4, .int (iI a4))]) hx hb dX11_factsOf_106 hl (k := 10) rfl (by show iI _ + iI 1 = _; rw [iI_add]) (by decide) rfl (fun ls hl => ?_)
                  refine lv_goto (tgt := 15) hx hb dX11_factsOf_109 (by decide) ?_
                  exact ih_15 z_50 x9 (x7 + 1) (x7 + 1) (x9 + 1) _ _ _ (by omega) (by omega) (by omega) (by omega) (by omega) (by omega) hP hS (lv_sub hl [6, 7, 8, 9, 10, 3, 2, 5, 1, 0] rfl)
                · refine lv_goto (tgt := 106) hx hb dX11_factsOf_91 (by decide) ?_
                  refine lv_iinc (v := iI (x9 + 1)) (lv' := [(9, .int (iI (x9 + 1))), (10, .int (iI z_50)), (7, .int (iI (x7 + 1))), (0, .ref (ad 0)), (1, .int (iI a1)), (2, .int (iI a2)), (3, .int (iI a3)), (4, .int (iI a4)), (5, .int (iI x5)), (6, .int (iI x6)), (8, .int (iI x8))]) hx hb dX11_factsOf_106 hl (k := 10) rfl (by show iI _ + iI 1 = _; rw [iI_add]) (by decide) rfl (fun ls hl => ?_)
                  refine lv_goto (tgt := 15) hx hb dX11_factsOf_109 (by decide) ?_
                  exact ih_15 x5 x6 (x7 + 1) x8 (x9 + 1) _ _ _ (by omega) (by omega) (by omega) (by omega) (by omega) (by omega) hP hS (lv_sub hl [3, 4, 5, 6, 7, 8, 9, 2, 10, 0] rfl)
              · refine lv_goto (tgt := 106) hx hb dX11_factsOf_68 (by decide) ?_
                refine lv_iinc (v := iI (x9 + 1)) (lv' := [(9, .int (iI (x9 + 1))), (0, .ref (ad 0)), (1, .int (iI a1)), (2, .int (iI a2)), (3, .int (iI a3)), (4, .int (iI a4)), (5, .int (iI x5)), (6, .int (iI x6)), (7, .int (iI x7)), (8, .int (iI x8))]) hx hb dX11_factsOf_106 hl (k := 9) rfl (by show iI _ + iI 1 = _; rw [iI_add]) (by decide) rfl (fun ls hl => ?_)
                refine lv_goto (tgt := 15) hx hb dX11_factsOf_109 (by decide) ?_
                exact ih_15 x5 x6 x7 x8 (x9 + 1) _ _ _ (by omega) (by omega) (by omega) (by omega) (by omega) (by omega) hP hS (lv_sub hl [1, 2, 3, 4, 5, 6, 7, 8, 9, 0] rfl)
  exact L_2 301 (-1) (-1) 0 0 0 _ _ _ (by omega) (by omega) (by omega) (by omega) (by omega) (by omega) hP hS (lv_sub hl [5, 6, 7, 8, 9, 4, 3, 2, 1, 0] rfl)

set_option maxHeartbeats 4000000 in
set_option maxRecDepth 100000 in
theorem m_X11_cut (l : Launch) (D : va_G) (k : Nat → ClassId) (A : Nat → Prop) (ad : Nat → Nat) (hD : mdD A k ad) (v : gV) (f g : gF) (a1 : Int) : GM l D k A (mdT k ad) yX11_cut cX11_cut 2 (some .long) 1 40 [.long (iL a1)] v f g (fun r v1 f1 g1 => ∃ (z : Int), r = some (.long (iL z)) ∧ v = v1 ∧ f = f1 ∧ g = g1) := by
  refine GM.of (by decide) (Nat.le_of_ble_eq_true rfl) ?_
  intro p e s m args below meth c Q ls hQ C hml hr hlocks hP hl
  have hx := C.1
  have hb := C.2.1
  have hok := hP.2
  have hS : va_S A s.heap s.heap [] := va_S.rf
  have hl : lv_has ls 2 [(0, .long (iL a1))] := hl
  refine lv_ldc2 (v := iL (-1000000000)) hx hb C.2.2.2.1 (C.2.2.1 _ (show Cond.constantLong RX11 370 (iL (-1000000000)) ∈ gWs from mD_X11_370)) dX11_cut_0 ?_
  refine lv_ldc2 (v := iL 1000000000) hx hb C.2.2.2.1 (C.2.2.1 _ (show Cond.constantLong RX11 372 (iL 1000000000) ∈ gWs from mD_X11_372)) dX11_cut_3 ?_
  refine lv_lload_n hx hb dX11_cut_6 rfl (lv_at hl 0 rfl) ?_
  refine gl_min C hml hl.1 mM_X11_374 (Nat.le_of_ble_eq_true rfl) (Nat.le_of_ble_eq_true rfl) dX11_cut_7 (fun x_1 ex_1 => ?_)
  refine gl_max C hml hl.1 mM_X11_377 (Nat.le_of_ble_eq_true rfl) (Nat.le_of_ble_eq_true rfl) dX11_cut_10 (fun x_2 ex_2 => ?_)
  exact g_lret hQ C hr hlocks hP hS dX11_cut_13 ⟨x_2, rfl, rfl, rfl, rfl⟩

set_option maxHeartbeats 4000000 in
set_option maxRecDepth 100000 in
theorem m_X11_pointsOf (l : Launch) (D : va_G) (k : Nat → ClassId) (A : Nat → Prop) (ad : Nat → Nat) (hD : mdD A k ad) (v : gV) (f g : gF) (a1 : Int) (a2 : Int) (a3 : Int) (a4 : Int) (h_a1 : inR a1) (h_a2 : inR a2) (h_a3 : inR a3) (h_a4 : inR a4) (hrp : rpOk (v 13) (f 9)) (h1 : 0 ≤ a1 ∧ a1 ≤ 3) (h2 : 0 ≤ a2 ∧ a2 ≤ 4) : GM l D k A (mdT k ad) yX11_pointsOf cX11_pointsOf 7 (some .int) 2 61 [.ref (ad 0), .int (iI a1), .int (iI a2), .int (iI a3), .int (iI a4)] v f g (fun r v1 f1 g1 => ∃ (z : Int) (a37_ : Int → Int) (b1_ : Int → Int), r = some (.int (iI z)) ∧ v = v1 ∧ (va_up f 37 a37_) = f1 ∧ (va_up g 1 b1_) = g1 ∧ ((-2147483648) ≤ z ∧ z ≤ 2147483647)) := by
  refine GM.of (by decide) (Nat.le_of_ble_eq_true rfl) ?_
  intro p e s m args below meth c Q ls hQ C hml hr hlocks hP hl
  have hx := C.1
  have hb := C.2.1
  have hok := hP.2
  have hS : va_S A s.heap s.heap [] := va_S.rf
  have hl : lv_has ls 7 [(0, .ref (ad 0)), (1, .int (iI a1)), (2, .int (iI a2)), (3, .int (iI a3)), (4, .int (iI a4))] := hl
  have hP : gWd D (mdT k ad) v (va_up f 37 (f 37)) (va_up g 1 (g 1)) s.heap := by rw [va_id, va_id]; exact hP
  have r_1 : 0 ≤ (v 13) ∧ (v 13) ≤ 40 := hok.1 13
  refine lv_aload_n hx hb dX11_pointsOf_0 rfl (lv_at hl 0 rfl) ?_
  refine lv_iload_n hx hb dX11_pointsOf_1 rfl (lv_at hl 1 rfl) ?_
  refine lv_iload_n hx hb dX11_pointsOf_2 rfl (lv_at hl 2 rfl) ?_
  refine lv_iload_n hx hb dX11_pointsOf_3 rfl (lv_at hl 3 rfl) ?_
  refine lv_iload hx hb dX11_pointsOf_4 (lv_at hl 4 rfl) ?_
  refine g_cv (As := [.int (iI a1), .int (iI a2), .int (iI a3), .int (iI a4)]) (rest := []) (n := 4) C hml (m_X11_factsOf l D k A ad hD v (va_up f 37 (f 37)) (va_up g 1 (g 1)) a1 a2 a3 a4 (by omega) (by omega) (by omega) (by omega) (show 0 ≤ a1 ∧ a1 ≤ 3 from by omega) (show 0 ≤ a2 ∧ a2 ≤ 4 from by omega)) mM_X11_379 mI_X11_factsOf mE_X11_factsOf mN_X11 mC_X11_factsOf (by decide +kernel) 0 (ci := 11) rfl rfl hP hS (fun _ h => h) ⟨Nat.le_of_ble_eq_true rfl, Nat.le_of_ble_eq_true rfl⟩ ⟨Nat.zero_le _, Nat.zero_le _⟩ hl.1 rfl rfl (Nat.le_of_ble_eq_true rfl) dX11_pointsOf_6 (fun r_2 v_2 f_2 g_2 H locs hq_2 hP _ hS => ?_)
  obtain ⟨a37_2, rfl, rfl, rfl, rfl⟩ := hq_2
  show W p l e (gRm 2 61) s m args below meth c _ _ 0 0 Q (F0 m 9 ls [])
  have hP : gWd D (mdT k ad) v (va_up f 37 a37_2) (va_up g 1 (g 1)) H := ⟨hP.1, (gF_up (V := mdV) (F := mdF) ⟨hok.1, hok.2⟩ 37 (hP.2.2 37))⟩
  refine lv_iconst (v := iI 0) hx hb dX11_pointsOf_9 rfl ?_
  refine lv_istore (lv' := [(5, .int (iI 0)), (0, .ref (ad 0)), (1, .int (iI a1)), (2, .int (iI a2)), (3, .int (iI a3)), (4, .int (iI a4))]) hx hb dX11_pointsOf_10 hl (by decide) rfl (fun ls hl => ?_)
  refine lv_iconst (v := iI 0) hx hb dX11_pointsOf_12 rfl ?_
  refine lv_istore (lv' := [(6, .int (iI 0)), (5, .int (iI 0)), (0, .ref (ad 0)), (1, .int (iI a1)), (2, .int (iI a2)), (3, .int (iI a3)), (4, .int (iI a4))]) hx hb dX11_pointsOf_13 hl (by decide) rfl (fun ls hl => ?_)
  have L_3 : ∀ (n : Nat) (x5 : Int) (x6 : Int) (d1_3 : Int → Int) (H : Heap) (locs : List Loc) (ls : Array Slot), 40 - x6 < (n : Int) → (0 ≤ x6 ∧ x6 ≤ (v 13)) → (x5 = rdp (f 9) x6.toNat) → (0 ≤ x5 ∧ x5 ≤ x6) → gWd D (mdT k ad) v (va_up f 37 a37_2) (va_up g 1 d1_3) H → va_S A s.heap H locs → lv_has ls 7 [(0, .ref (ad 0)), (1, .int (iI a1)), (2, .int (iI a2)), (3, .int (iI a3)), (4, .int (iI a4)), (5, .int (iI x5)), (6, .int (iI x6))] → W p l e (gRm 2 61) s m args below meth c H locs 0 0 Q (F0 m 15 ls []) := by
    intro n
    induction n with
    | zero =>
      intro x5 x6 d1_3 H locs ls hn_3 i3_0 i3_1 i3_2 hP hS hl
      exfalso; omega
    | succ n ih_15 =>
      intro x5 x6 d1_3 H locs ls hn_3 i3_0 i3_1 i3_2 hP hS hl
      refine lv_iload hx hb dX11_pointsOf_15 (lv_at hl 6 rfl) ?_
      refine lv_aload_n hx hb dX11_pointsOf_17 rfl (lv_at hl 0 rfl) ?_
      refine mdG_parts C hP mF_X11_304 dX11_pointsOf_18 ?_
      refine gi_cge (tgt := 221) hx hb dX11_pointsOf_21 (by decide) (by omega) (by omega) (fun c_4 => ?_) (fun c_4 => ?_)
      · refine lv_aload_n hx hb dX11_pointsOf_221 rfl (lv_at hl 0 rfl) ?_
        refine mdG_pile C hP mF_X11_136 dX11_pointsOf_222 ?_
        refine lv_iconst (v := iI 0) hx hb dX11_pointsOf_225 rfl ?_
        refine mdL_pile C hP (by decide) (by decide) dX11_pointsOf_226 ?_
        show W p l e (gRm 2 61) s m args below meth c _ _ 0 0 Q (F0 m 227 ls [.long (iL (d1_3 0))])
        refine gl_l2i hx hb dX11_pointsOf_227 (fun x_5 ex_5 hx_5 => ?_)
        exact g_iret hQ C hr hlocks hP hS dX11_pointsOf_228 ⟨x_5, a37_2, d1_3, rfl, rfl, rfl, rfl, (by first | omega | (split <;> omega))⟩
      · refine lv_aload_n hx hb dX11_pointsOf_24 rfl (lv_at hl 0 rfl) ?_
        refine mdG_part C hP mF_X11_45 dX11_pointsOf_25 ?_
        refine lv_iload hx hb dX11_pointsOf_28 (lv_at hl 6 rfl) ?_
        refine mdL_part C hP (by omega) (by omega) dX11_pointsOf_30 ?_
        show W p l e (gRm 2 61) s m args below meth c _ _ 0 0 Q (F0 m 31 ls [.int (iI (f 9 x6))])
        have r_6 : 0 ≤ (f 9 x6) ∧ (f 9 x6) ≤ 11 := hP.2.2 9 x6
        have q_7 := rpStep hrp x6 (by omega) (by omega)
        refine lv_bipush (v := iI 7) hx hb dX11_pointsOf_31 (by decide) ?_
        refine gi_cge (tgt := 85) hx hb dX11_pointsOf_33 (by decide) (by omega) (by decide) (fun c_8 => ?_) (fun c_8 => ?_)
        · refine lv_aload_n hx hb dX11_pointsOf_85 rfl (lv_at hl 0 rfl) ?_
          refine mdG_part C hP mF_X11_45 dX11_pointsOf_86 ?_
          refine lv_iload hx hb dX11_pointsOf_89 (lv_at hl 6 rfl) ?_
          refine mdL_part C hP (by omega) (by omega) dX11_pointsOf_91 ?_
          show W p l e (gRm 2 61) s m args below meth c _ _ 0 0 Q (F0 m 92 ls [.int (iI (f 9 x6))])
          have q_9 := rpStep hrp x6 (by omega) (by omega)
          refine lv_bipush (v := iI 10) hx hb dX11_pointsOf_92 (by decide) ?_
          refine gi_cne (tgt := 119) hx hb dX11_pointsOf_94 (by decide) (by omega) (by decide) (fun c_10 => ?_) (fun c_10 => ?_)
          · refine lv_iinc (v := iI (x5 + (-1))) (lv' := [(5, .int (iI (x5 + (-1)))), (0, .ref (ad 0)), (1, .int (iI a1)), (2, .int (iI a2)), (3, .int (iI a3)), (4, .int (iI a4)), (6, .int (iI x6))]) hx hb dX11_pointsOf_119 hl (k := 5) rfl (by show iI _ + iI (-1) = _; rw [iI_add]) (by decide) rfl (fun ls hl => ?_)
            refine lv_aload_n hx hb dX11_pointsOf_122 rfl (lv_at hl 1 rfl) ?_
            refine mdG_pile C hP mF_X11_136 dX11_pointsOf_123 ?_
            refine lv_iload hx hb dX11_pointsOf_126 (lv_at hl 0 rfl) ?_
            refine lv_iconst (v := iI 1) hx hb dX11_pointsOf_128 rfl ?_
            refine gi_sub (z := ((x5 + (-1)) - 1)) hx hb dX11_pointsOf_129 rfl ?_
            refine lv_aload_n hx hb dX11_pointsOf_130 rfl (lv_at hl 1 rfl) ?_
            refine mdG_part C hP mF_X11_45 dX11_pointsOf_131 ?_
            refine lv_iload hx hb dX11_pointsOf_134 (lv_at hl 6 rfl) ?_
            refine mdL_part C hP (by omega) (by omega) dX11_pointsOf_136 ?_
            show W p l e (gRm 2 61) s m args below meth c _ _ 0 0 Q (F0 m 137 ls [.int (iI (f 9 x6)), .int (iI ((x5 + (-1)) - 1)), .ref (ad 39)])
            have q_11 := rpStep hrp x6 (by omega) (by omega)
            refine lv_bipush (v := iI 7) hx hb dX11_pointsOf_137 (by decide) ?_
            refine gi_cne (tgt := 162) hx hb dX11_pointsOf_139 (by decide) (by omega) (by decide) (fun c_12 => ?_) (fun c_12 => ?_)
            · refine lv_aload_n hx hb dX11_pointsOf_162 rfl (lv_at hl 1 rfl) ?_
              refine mdG_part C hP mF_X11_45 dX11_pointsOf_163 ?_
              refine lv_iload hx hb dX11_pointsOf_166 (lv_at hl 6 rfl) ?_
              refine mdL_part C hP (by omega) (by omega) dX11_pointsOf_168 ?_
              show W p l e (gRm 2 61) s m args below meth c _ _ 0 0 Q (F0 m 169 ls [.int (iI (f 9 x6)), .int (iI ((x5 + (-1)) - 1)), .ref (ad 39)])
              have q_13 := rpStep hrp x6 (by omega) (by omega)
              refine lv_bipush (v := iI 8) hx hb dX11_pointsOf_169 (by decide) ?_
              refine gi_cne (tgt := 194) hx hb dX11_pointsOf_171 (by decide) (by omega) (by decide) (fun c_14 => ?_) (fun c_14 => ?_)
              · refine lv_aload_n hx hb dX11_pointsOf_194 rfl (lv_at hl 1 rfl) ?_
                refine mdG_pile C hP mF_X11_136 dX11_pointsOf_195 ?_
                refine lv_iload hx hb dX11_pointsOf_198 (lv_at hl 0 rfl) ?_
                refine lv_iconst (v := iI 1) hx hb dX11_pointsOf_200 rfl ?_
                refine gi_sub (z := ((x5 + (-1)) - 1)) hx hb dX11_pointsOf_201 rfl ?_
                refine mdL_pile C hP (by omega) (by omega) dX11_pointsOf_202 ?_
                show W p l e (gRm 2 61) s m args below meth c _ _ 0 0 Q (F0 m 203 ls [.long (iL (d1_3 ((x5 + (-1)) - 1))), .int (iI ((x5 + (-1)) - 1)), .ref (ad 39)])
                refine lv_aload_n hx hb dX11_pointsOf_203 rfl (lv_at hl 1 rfl) ?_
                refine mdG_pile C hP mF_X11_136 dX11_pointsOf_204 ?_
                refine lv_iload hx hb dX11_pointsOf_207 (lv_at hl 0 rfl) ?_
                refine mdL_pile C hP (by omega) (by omega) dX11_pointsOf_209 ?_
                show W p l e (gRm 2 61) s m args below meth c _ _ 0 0 Q (F0 m 210 ls [.long (iL (d1_3 (x5 + (-1)))), .long (iL (d1_3 ((x5 + (-1)) - 1))), .int (iI ((x5 + (-1)) - 1)), .ref (ad 39)])
                refine gl_mul (z := ((d1_3 ((x5 + (-1)) - 1)) * (d1_3 (x5 + (-1))))) hx hb dX11_pointsOf_210 rfl ?_
                refine g_cs (As := [.long (iL ((d1_3 ((x5 + (-1)) - 1)) * (d1_3 (x5 + (-1)))))]) (rest := [.int (iI ((x5 + (-1)) - 1)), .ref (ad 39)]) (n := 1) C hml (m_X11_cut l D k A ad hD v (va_up f 37 a37_2) (va_up g 1 d1_3) ((d1_3 ((x5 + (-1)) - 1)) * (d1_3 (x5 + (-1))))) mM_X11_383 mS_X11_cut mN_X11 mC_X11_cut (by decide +kernel) hP hS (fun _ h => h) ⟨Nat.le_of_ble_eq_true rfl, Nat.le_of_ble_eq_true rfl⟩ ⟨Nat.zero_le _, Nat.zero_le _⟩ hl.1 rfl rfl (Nat.le_of_ble_eq_true rfl) dX11_pointsOf_211 (fun r_15 v_15 f_15 g_15 H locs hq_15 hP _ hS => ?_)
                obtain ⟨z_15, rfl, rfl, rfl, rfl⟩ := hq_15
                show W p l e (gRm 2 61) s m args below meth c _ _ 0 0 Q (F0 m 214 ls [.long (iL z_15), .int (iI ((x5 + (-1)) - 1)), .ref (ad 39)])
                refine mdS_pile (g1 := (va_up g 1 (u1 d1_3 ((x5 + (-1)) - 1) z_15))) C hP hD hS (by omega) (by omega) rfl dX11_pointsOf_214 (fun H locs hP hS => ?_)
                refine lv_iinc (v := iI (x6 + 1)) (lv' := [(6, .int (iI (x6 + 1))), (5, .int (iI (x5 + (-1)))), (0, .ref (ad 0)), (1, .int (iI a1)), (2, .int (iI a2)), (3, .int (iI a3)), (4, .int (iI a4))]) hx hb dX11_pointsOf_215 hl (k := 6) rfl (by show iI _ + iI 1 = _; rw [iI_add]) (by decide) rfl (fun ls hl => ?_)
                refine lv_goto (tgt := 15) hx hb dX11_pointsOf_218 (by decide) ?_
                exact ih_15 (x5 + (-1)) (x6 + 1) (u1 d1_3 ((x5 + (-1)) - 1) z_15) _ _ _ (by omega) (by omega) (by omega) (by omega) hP hS (lv_sub hl [2, 3, 4, 5, 6, 1, 0] rfl)
              · refine lv_aload_n hx hb dX11_pointsOf_174 rfl (lv_at hl 1 rfl) ?_
                refine mdG_pile C hP mF_X11_136 dX11_pointsOf_175 ?_
                refine lv_iload hx hb dX11_pointsOf_178 (lv_at hl 0 rfl) ?_
                refine lv_iconst (v := iI 1) hx hb dX11_pointsOf_180 rfl ?_
                refine gi_sub (z := ((x5 + (-1)) - 1)) hx hb dX11_pointsOf_181 rfl ?_
                refine mdL_pile C hP (by omega) (by omega) dX11_pointsOf_182 ?_
                show W p l e (gRm 2 61) s m args below meth c _ _ 0 0 Q (F0 m 183 ls [.long (iL (d1_3 ((x5 + (-1)) - 1))), .int (iI ((x5 + (-1)) - 1)), .ref (ad 39)])
                refine lv_aload_n hx hb dX11_pointsOf_183 rfl (lv_at hl 1 rfl) ?_
                refine mdG_pile C hP mF_X11_136 dX11_pointsOf_184 ?_
                refine lv_iload hx hb dX11_pointsOf_187 (lv_at hl 0 rfl) ?_
                refine mdL_pile C hP (by omega) (by omega) dX11_pointsOf_189 ?_
                show W p l e (gRm 2 61) s m args below meth c _ _ 0 0 Q (F0 m 190 ls [.long (iL (d1_3 (x5 + (-1)))), .long (iL (d1_3 ((x5 + (-1)) - 1))), .int (iI ((x5 + (-1)) - 1)), .ref (ad 39)])
                refine gl_sub (z := ((d1_3 ((x5 + (-1)) - 1)) - (d1_3 (x5 + (-1))))) hx hb dX11_pointsOf_190 rfl ?_
                refine lv_goto (tgt := 211) hx hb dX11_pointsOf_191 (by decide) ?_
                refine g_cs (As := [.long (iL ((d1_3 ((x5 + (-1)) - 1)) - (d1_3 (x5 + (-1)))))]) (rest := [.int (iI ((x5 + (-1)) - 1)), .ref (ad 39)]) (n := 1) C hml (m_X11_cut l D k A ad hD v (va_up f 37 a37_2) (va_up g 1 d1_3) ((d1_3 ((x5 + (-1)) - 1)) - (d1_3 (x5 + (-1))))) mM_X11_383 mS_X11_cut mN_X11 mC_X11_cut (by decide +kernel) hP hS (fun _ h => h) ⟨Nat.le_of_ble_eq_true rfl, Nat.le_of_ble_eq_true rfl⟩ ⟨Nat.zero_le _, Nat.zero_le _⟩ hl.1 rfl rfl (Nat.le_of_ble_eq_true rfl) dX11_pointsOf_211 (fun r_16 v_16 f_16 g_16 H locs hq_16 hP _ hS => ?_)
                obtain ⟨z_16, rfl, rfl, rfl, rfl⟩ := hq_16
                show W p l e (gRm 2 61) s m args below meth c _ _ 0 0 Q (F0 m 214 ls [.long (iL z_16), .int (iI ((x5 + (-1)) - 1)), .ref (ad 39)])
                refine mdS_pile (g1 := (va_up g 1 (u1 d1_3 ((x5 + (-1)) - 1) z_16))) C hP hD hS (by omega) (by omega) rfl dX11_pointsOf_214 (fun H locs hP hS => ?_)
                refine lv_iinc (v := iI (x6 + 1)) (lv' := [(6, .int (iI (x6 + 1))), (5, .int (iI (x5 + (-1)))), (0, .ref (ad 0)), (1, .int (iI a1)), (2, .int (iI a2)), (3, .int (iI a3)), (4, .int (iI a4))]) hx hb dX11_pointsOf_215 hl (k := 6) rfl (by show iI _ + iI 1 = _; rw [iI_add]) (by decide) rfl (fun ls hl => ?_)
                refine lv_goto (tgt := 15) hx hb dX11_pointsOf_218 (by decide) ?_
                exact ih_15 (x5 + (-1)) (x6 + 1) (u1 d1_3 ((x5 + (-1)) - 1) z_16) _ _ _ (by omega) (by omega) (by omega) (by omega) hP hS (lv_sub hl [2, 3, 4, 5, 6, 1, 0] rfl)
            · refine lv_aload_n hx hb dX11_pointsOf_142 rfl (lv_at hl 1 rfl) ?_
              refine mdG_pile C hP mF_X11_136 dX11_pointsOf_143 ?_
              refine lv_iload hx hb dX11_pointsOf_146 (lv_at hl 0 rfl) ?_
              refine lv_iconst (v := iI 1) hx hb dX11_pointsOf_148 rfl ?_
              refine gi_sub (z := ((x5 + (-1)) - 1)) hx hb dX11_pointsOf_149 rfl ?_
              refine mdL_pile C hP (by omega) (by omega) dX11_pointsOf_150 ?_
              show W p l e (gRm 2 61) s m args below meth c _ _ 0 0 Q (F0 m 151 ls [.long (iL (d1_3 ((x5 + (-1)) - 1))), .int (iI ((x5 + (-1)) - 1)), .ref (ad 39)])
              refine lv_aload_n hx hb dX11_pointsOf_151 rfl (lv_at hl 1 rfl) ?_
              refine mdG_pile C hP mF_X11_136 dX11_pointsOf_152 ?_
              refine lv_iload hx hb dX11_pointsOf_155 (lv_at hl 0 rfl) ?_
              refine mdL_pile C hP (by omega) (by omega) dX11_pointsOf_157 ?_
              show W p l e (gRm 2 61) s m args below meth c _ _ 0 0 Q (F0 m 158 ls [.long (iL (d1_3 (x5 + (-1)))), .long (iL (d1_3 ((x5 + (-1)) - 1))), .int (iI ((x5 + (-1)) - 1)), .ref (ad 39)])
              refine gl_add (z := ((d1_3 ((x5 + (-1)) - 1)) + (d1_3 (x5 + (-1))))) hx hb dX11_pointsOf_158 rfl ?_
              refine lv_goto (tgt := 211) hx hb dX11_pointsOf_159 (by decide) ?_
              refine g_cs (As := [.long (iL ((d1_3 ((x5 + (-1)) - 1)) + (d1_3 (x5 + (-1)))))]) (rest := [.int (iI ((x5 + (-1)) - 1)), .ref (ad 39)]) (n := 1) C hml (m_X11_cut l D k A ad hD v (va_up f 37 a37_2) (va_up g 1 d1_3) ((d1_3 ((x5 + (-1)) - 1)) + (d1_3 (x5 + (-1))))) mM_X11_383 mS_X11_cut mN_X11 mC_X11_cut (by decide +kernel) hP hS (fun _ h => h) ⟨Nat.le_of_ble_eq_true rfl, Nat.le_of_ble_eq_true rfl⟩ ⟨Nat.zero_le _, Nat.zero_le _⟩ hl.1 rfl rfl (Nat.le_of_ble_eq_true rfl) dX11_pointsOf_211 (fun r_17 v_17 f_17 g_17 H locs hq_17 hP _ hS => ?_)
              obtain ⟨z_17, rfl, rfl, rfl, rfl⟩ := hq_17
              show W p l e (gRm 2 61) s m args below meth c _ _ 0 0 Q (F0 m 214 ls [.long (iL z_17), .int (iI ((x5 + (-1)) - 1)), .ref (ad 39)])
              refine mdS_pile (g1 := (va_up g 1 (u1 d1_3 ((x5 + (-1)) - 1) z_17))) C hP hD hS (by omega) (by omega) rfl dX11_pointsOf_214 (fun H locs hP hS => ?_)
              refine lv_iinc (v := iI (x6 + 1)) (lv' := [(6, .int (iI (x6 + 1))), (5, .int (iI (x5 + (-1)))), (0, .ref (ad 0)), (1, .int (iI a1)), (2, .int (iI a2)), (3, .int (iI a3)), (4, .int (iI a4))]) hx hb dX11_pointsOf_215 hl (k := 6) rfl (by show iI _ + iI 1 = _; rw [iI_add]) (by decide) rfl (fun ls hl => ?_)
              refine lv_goto (tgt := 15) hx hb dX11_pointsOf_218 (by decide) ?_
              exact ih_15 (x5 + (-1)) (x6 + 1) (u1 d1_3 ((x5 + (-1)) - 1) z_17) _ _ _ (by omega) (by omega) (by omega) (by omega) hP hS (lv_sub hl [2, 3, 4, 5, 6, 1, 0] rfl)
          · refine lv_aload_n hx hb dX11_pointsOf_97 rfl (lv_at hl 0 rfl) ?_
            refine mdG_pile C hP mF_X11_136 dX11_pointsOf_98 ?_
            refine lv_iload hx hb dX11_pointsOf_101 (lv_at hl 5 rfl) ?_
            refine lv_iconst (v := iI 1) hx hb dX11_pointsOf_103 rfl ?_
            refine gi_sub (z := (x5 - 1)) hx hb dX11_pointsOf_104 rfl ?_
            refine lv_aload_n hx hb dX11_pointsOf_105 rfl (lv_at hl 0 rfl) ?_
            refine mdG_pile C hP mF_X11_136 dX11_pointsOf_106 ?_
            refine lv_iload hx hb dX11_pointsOf_109 (lv_at hl 5 rfl) ?_
            refine lv_iconst (v := iI 1) hx hb dX11_pointsOf_111 rfl ?_
            refine gi_sub (z := (x5 - 1)) hx hb dX11_pointsOf_112 rfl ?_
            refine mdL_pile C hP (by omega) (by omega) dX11_pointsOf_113 ?_
            show W p l e (gRm 2 61) s m args below meth c _ _ 0 0 Q (F0 m 114 ls [.long (iL (d1_3 (x5 - 1))), .int (iI (x5 - 1)), .ref (ad 39)])
            refine gl_neg (z := (-(d1_3 (x5 - 1)))) hx hb dX11_pointsOf_114 rfl ?_
            refine mdS_pile (g1 := (va_up g 1 (u1 d1_3 (x5 - 1) (-(d1_3 (x5 - 1)))))) C hP hD hS (by omega) (by omega) rfl dX11_pointsOf_115 (fun H locs hP hS => ?_)
            refine lv_goto (tgt := 215) hx hb dX11_pointsOf_116 (by decide) ?_
            refine lv_iinc (v := iI (x6 + 1)) (lv' := [(6, .int (iI (x6 + 1))), (0, .ref (ad 0)), (1, .int (iI a1)), (2, .int (iI a2)), (3, .int (iI a3)), (4, .int (iI a4)), (5, .int (iI x5))]) hx hb dX11_pointsOf_215 hl (k := 6) rfl (by show iI _ + iI 1 = _; rw [iI_add]) (by decide) rfl (fun ls hl => ?_)
            refine lv_goto (tgt := 15) hx hb dX11_pointsOf_218 (by decide) ?_
            exact ih_15 x5 (x6 + 1) (u1 d1_3 (x5 - 1) (-(d1_3 (x5 - 1)))) _ _ _ (by omega) (by omega) (by omega) (by omega) hP hS (lv_sub hl [1, 2, 3, 4, 5, 6, 0] rfl)
        · refine lv_aload_n hx hb dX11_pointsOf_36 rfl (lv_at hl 0 rfl) ?_
          refine mdG_pile C hP mF_X11_136 dX11_pointsOf_37 ?_
          refine lv_iload hx hb dX11_pointsOf_40 (lv_at hl 5 rfl) ?_
          refine lv_aload_n hx hb dX11_pointsOf_42 rfl (lv_at hl 0 rfl) ?_
          refine mdG_part C hP mF_X11_45 dX11_pointsOf_43 ?_
          refine lv_iload hx hb dX11_pointsOf_46 (lv_at hl 6 rfl) ?_
          refine mdL_part C hP (by omega) (by omega) dX11_pointsOf_48 ?_
          show W p l e (gRm 2 61) s m args below meth c _ _ 0 0 Q (F0 m 49 ls [.int (iI (f 9 x6)), .int (iI x5), .ref (ad 39)])
          have q_18 := rpStep hrp x6 (by omega) (by omega)
          refine gi_zne (tgt := 63) hx hb dX11_pointsOf_49 (by decide) (by omega) (fun c_19 => ?_) (fun c_19 => ?_)
          · refine lv_aload_n hx hb dX11_pointsOf_63 rfl (lv_at hl 0 rfl) ?_
            refine mdG_facts C hP mF_X11_133 dX11_pointsOf_64 ?_
            refine lv_aload_n hx hb dX11_pointsOf_67 rfl (lv_at hl 0 rfl) ?_
            refine mdG_part C hP mF_X11_45 dX11_pointsOf_68 ?_
            refine lv_iload hx hb dX11_pointsOf_71 (lv_at hl 6 rfl) ?_
            refine mdL_part C hP (by omega) (by omega) dX11_pointsOf_73 ?_
            show W p l e (gRm 2 61) s m args below meth c _ _ 0 0 Q (F0 m 74 ls [.int (iI (f 9 x6)), .ref (ad 38), .int (iI x5), .ref (ad 39)])
            have q_20 := rpStep hrp x6 (by omega) (by omega)
            refine lv_iconst (v := iI 1) hx hb dX11_pointsOf_74 rfl ?_
            refine gi_sub (z := ((f 9 x6) - 1)) hx hb dX11_pointsOf_75 rfl ?_
            refine mdL_facts C hP (by omega) (by omega) dX11_pointsOf_76 ?_
            show W p l e (gRm 2 61) s m args below meth c _ _ 0 0 Q (F0 m 77 ls [.int (iI (a37_2 ((f 9 x6) - 1))), .int (iI x5), .ref (ad 39)])
            have r_21 : (-2000000) ≤ (a37_2 ((f 9 x6) - 1)) ∧ (a37_2 ((f 9 x6) - 1)) ≤ 2000000 := hP.2.2 37 ((f 9 x6) - 1)
            refine gi_i2l hx hb (by omega) dX11_pointsOf_77 ?_
            refine mdS_pile (g1 := (va_up g 1 (u1 d1_3 x5 (a37_2 ((f 9 x6) - 1))))) C hP hD hS (by omega) (by omega) rfl dX11_pointsOf_78 (fun H locs hP hS => ?_)
            refine lv_iinc (v := iI (x5 + 1)) (lv' := [(5, .int (iI (x5 + 1))), (0, .ref (ad 0)), (1, .int (iI a1)), (2, .int (iI a2)), (3, .int (iI a3)), (4, .int (iI a4)), (6, .int (iI x6))]) hx hb dX11_pointsOf_79 hl (k := 5) rfl (by show iI _ + iI 1 = _; rw [iI_add]) (by decide) rfl (fun ls hl => ?_)
            refine lv_goto (tgt := 215) hx hb dX11_pointsOf_82 (by decide) ?_
            refine lv_iinc (v := iI (x6 + 1)) (lv' := [(6, .int (iI (x6 + 1))), (5, .int (iI (x5 + 1))), (0, .ref (ad 0)), (1, .int (iI a1)), (2, .int (iI a2)), (3, .int (iI a3)), (4, .int (iI a4))]) hx hb dX11_pointsOf_215 hl (k := 6) rfl (by show iI _ + iI 1 = _; rw [iI_add]) (by decide) rfl (fun ls hl => ?_)
            refine lv_goto (tgt := 15) hx hb dX11_pointsOf_218 (by decide) ?_
            exact ih_15 (x5 + 1) (x6 + 1) (u1 d1_3 x5 (a37_2 ((f 9 x6) - 1))) _ _ _ (by omega) (by omega) (by omega) (by omega) hP hS (lv_sub hl [2, 3, 4, 5, 6, 1, 0] rfl)
          · refine lv_aload_n hx hb dX11_pointsOf_52 rfl (lv_at hl 0 rfl) ?_
            refine mdG_partNumber C hP mF_X11_48 dX11_pointsOf_53 ?_
            refine lv_iload hx hb dX11_pointsOf_56 (lv_at hl 6 rfl) ?_
            refine mdL_partNumber C hP (by omega) (by omega) dX11_pointsOf_58 ?_
            show W p l e (gRm 2 61) s m args below meth c _ _ 0 0 Q (F0 m 59 ls [.int (iI (f 10 x6)), .int (iI x5), .ref (ad 39)])
            have r_22 : 0 ≤ (f 10 x6) ∧ (f 10 x6) ≤ 999999 := hP.2.2 10 x6
            refine gi_i2l hx hb (by omega) dX11_pointsOf_59 ?_
            refine lv_goto (tgt := 78) hx hb dX11_pointsOf_60 (by decide) ?_
            refine mdS_pile (g1 := (va_up g 1 (u1 d1_3 x5 (f 10 x6)))) C hP hD hS (by omega) (by omega) rfl dX11_pointsOf_78 (fun H locs hP hS => ?_)
            refine lv_iinc (v := iI (x5 + 1)) (lv' := [(5, .int (iI (x5 + 1))), (0, .ref (ad 0)), (1, .int (iI a1)), (2, .int (iI a2)), (3, .int (iI a3)), (4, .int (iI a4)), (6, .int (iI x6))]) hx hb dX11_pointsOf_79 hl (k := 5) rfl (by show iI _ + iI 1 = _; rw [iI_add]) (by decide) rfl (fun ls hl => ?_)
            refine lv_goto (tgt := 215) hx hb dX11_pointsOf_82 (by decide) ?_
            refine lv_iinc (v := iI (x6 + 1)) (lv' := [(6, .int (iI (x6 + 1))), (5, .int (iI (x5 + 1))), (0, .ref (ad 0)), (1, .int (iI a1)), (2, .int (iI a2)), (3, .int (iI a3)), (4, .int (iI a4))]) hx hb dX11_pointsOf_215 hl (k := 6) rfl (by show iI _ + iI 1 = _; rw [iI_add]) (by decide) rfl (fun ls hl => ?_)
            refine lv_goto (tgt := 15) hx hb dX11_pointsOf_218 (by decide) ?_
            exact ih_15 (x5 + 1) (x6 + 1) (u1 d1_3 x5 (f 10 x6)) _ _ _ (by omega) (by omega) (by omega) (by omega) hP hS (lv_sub hl [2, 3, 4, 5, 6, 1, 0] rfl)
  exact L_3 41 0 0 (g 1) _ _ _ (by omega) (by omega) rfl (by omega) hP hS (lv_sub hl [2, 3, 4, 5, 6, 1, 0] rfl)

set_option maxHeartbeats 4000000 in
set_option maxRecDepth 100000 in
theorem m_X11_of (l : Launch) (D : va_G) (k : Nat → ClassId) (A : Nat → Prop) (ad : Nat → Nat) (hD : mdD A k ad) (v : gV) (f g : gF) (a1 : Int) (a2 : Int) (a3 : Int) (a4 : Int) (a5 : Int) (h_a1 : inR a1) (h_a2 : inR a2) (h_a3 : inR a3) (h_a4 : inR a4) (h_a5 : inR a5) (hrp : 0 < (v 12) → rpOk (v 13) (f 9)) : GM l D k A (mdT k ad) yX11_of cX11_of 7 (some .int) 3 87 [.ref (ad 0), .int (iI a1), .int (iI a2), .int (iI a3), .int (iI a4), .int (iI a5)] v f g (fun r v1 f1 g1 => ∃ (z : Int) (w0 : Int) (w1 : Int) (a37_ : Int → Int) (b1_ : Int → Int), r = some (.int (iI z)) ∧ (va_up (va_up v 0 w0) 1 w1) = v1 ∧ (va_up f 37 a37_) = f1 ∧ (va_up g 1 b1_) = g1 ∧ ((-2147483648) ≤ z ∧ z ≤ 2147483647)) := by
  refine GM.of (by decide) (Nat.le_of_ble_eq_true rfl) ?_
  intro p e s m args below meth c Q ls hQ C hml hr hlocks hP hl
  have hx := C.1
  have hb := C.2.1
  have hok := hP.2
  have hS : va_S A s.heap s.heap [] := va_S.rf
  have hl : lv_has ls 7 [(0, .ref (ad 0)), (1, .int (iI a1)), (2, .int (iI a2)), (3, .int (iI a3)), (4, .int (iI a4)), (5, .int (iI a5))] := hl
  have hP : gWd D (mdT k ad) (va_up (va_up v 0 (v 0)) 1 (v 1)) (va_up f 37 (f 37)) (va_up g 1 (g 1)) s.heap := by rw [va_id, va_id, va_id, va_id]; exact hP
  refine lv_aload_n hx hb dX11_of_0 rfl (lv_at hl 0 rfl) ?_
  refine lv_iconst (v := iI 0) hx hb dX11_of_1 rfl ?_
  refine mdP_thrown (v1 := (va_up (va_up v 0 (v 0)) 1 0)) C hP hD hS mF_X11_146 (by decide) rfl (Or.inr (gF_up (V := mdV) (F := mdF) (gR_up (V := mdV) (F := mdF) (gR_up (V := mdV) (F := mdF) ⟨hok.1, hok.2⟩ 0 (hP.2.1 0)) 1 (show 0 ≤ 0 ∧ 0 ≤ 0 from by decide)) 37 (hP.2.2 37))) dX11_of_2 (fun H locs hP hS => ?_)
  refine lv_aload_n hx hb dX11_of_5 rfl (lv_at hl 0 rfl) ?_
  refine lv_iconst (v := iI 0) hx hb dX11_of_6 rfl ?_
  refine mdP_status (v1 := (va_up (va_up v 0 0) 1 0)) C hP hD hS mF_X11_149 (by decide) rfl (Or.inr (gF_up (V := mdV) (F := mdF) (gR_up (V := mdV) (F := mdF) (gR_up (V := mdV) (F := mdF) ⟨hok.1, hok.2⟩ 0 (show 0 ≤ 0 ∧ 0 ≤ 10 from by decide)) 1 (hP.2.1 1)) 37 (hP.2.2 37))) dX11_of_7 (fun H locs hP hS => ?_)
  refine lv_aload_n hx hb dX11_of_10 rfl (lv_at hl 0 rfl) ?_
  refine lv_iload_n hx hb dX11_of_11 rfl (lv_at hl 1 rfl) ?_
  refine lv_iload_n hx hb dX11_of_12 rfl (lv_at hl 2 rfl) ?_
  refine g_cv (As := [.int (iI a1), .int (iI a2)]) (rest := []) (n := 2) C hml (m_X11_isRoute l D k A ad hD (va_up (va_up v 0 0) 1 0) (va_up f 37 (f 37)) (va_up g 1 (g 1)) a1 a2 (by omega) (by omega)) mM_X11_328 mI_X11_isRoute mE_X11_isRoute mN_X11 mC_X11_isRoute (by decide +kernel) 0 (ci := 11) rfl rfl hP hS (fun _ h => h) ⟨Nat.le_of_ble_eq_true rfl, Nat.le_of_ble_eq_true rfl⟩ ⟨Nat.zero_le _, Nat.zero_le _⟩ hl.1 rfl rfl (Nat.le_of_ble_eq_true rfl) dX11_of_13 (fun r_1 v_1 f_1 g_1 H locs hq_1 hP _ hS => ?_)
  obtain ⟨z_1, rfl, rfl, rfl, rfl, p0_1, p1_1⟩ := hq_1
  show W p l e (gRm 3 87) s m args below meth c _ _ 0 0 Q (F0 m 16 ls [.int (iI z_1)])
  replace p0_1 : z_1 = (if (0 ≤ a1 ∧ a1 < (v 12)) ∧ 0 ≤ a2 ∧ a2 < (f 1) a1 then 1 else 0) := p0_1
  have w_1 := gif (P := (0 ≤ a1 ∧ a1 < (v 12)) ∧ 0 ≤ a2 ∧ a2 < (f 1) a1) p0_1
  replace p1_1 : z_1 = 1 → a2 ≤ 4 ∧ a1 ≤ 3 := p1_1
  have hz_1 : inR z_1 := (by first | omega | (rw [p0_1]; split <;> omega))
  refine gi_zeq (tgt := 27) hx hb dX11_of_16 (by decide) (by omega) (fun c_2 => ?_) (fun c_2 => ?_)
  · refine lv_aload_n hx hb dX11_of_27 rfl (lv_at hl 0 rfl) ?_
    refine lv_iconst (v := iI 1) hx hb dX11_of_28 rfl ?_
    refine g_cv (As := [.int (iI 1)]) (rest := []) (n := 1) C hml (m_X11_refuse l D k A ad hD (va_up (va_up v 0 0) 1 0) (va_up f 37 (f 37)) (va_up g 1 (g 1)) 1 (by decide) (show 0 ≤ (1 : Int) ∧ (1 : Int) ≤ 10 from by omega)) mM_X11_295 mI_X11_refuse mE_X11_refuse mN_X11 mC_X11_refuse (by decide +kernel) 0 (ci := 11) rfl rfl hP hS (fun _ h => h) ⟨Nat.le_of_ble_eq_true rfl, Nat.le_of_ble_eq_true rfl⟩ ⟨Nat.zero_le _, Nat.zero_le _⟩ hl.1 rfl rfl (Nat.le_of_ble_eq_true rfl) dX11_of_29 (fun r_3 v_3 f_3 g_3 H locs hq_3 hP _ hS => ?_)
    obtain ⟨rfl, rfl, rfl, rfl⟩ := hq_3
    show W p l e (gRm 3 87) s m args below meth c _ _ 0 0 Q (F0 m 32 ls [.int (iI (-1))])
    have hP : gWd D (mdT k ad) (va_up (va_up v 0 (1 : Int)) 1 0) (va_up f 37 (f 37)) (va_up g 1 (g 1)) H := ⟨hP.1, (gF_up (V := mdV) (F := mdF) (gR_up (V := mdV) (F := mdF) (gR_up (V := mdV) (F := mdF) ⟨hok.1, hok.2⟩ 0 (hP.2.1 0)) 1 (hP.2.1 1)) 37 (hP.2.2 37))⟩
    exact g_iret hQ C hr hlocks hP hS dX11_of_32 ⟨(-1), (1 : Int), 0, (f 37), (g 1), rfl, rfl, rfl, rfl, (by first | omega | (split <;> omega))⟩
  · refine lv_aload_n hx hb dX11_of_19 rfl (lv_at hl 0 rfl) ?_
    refine lv_iload_n hx hb dX11_of_20 rfl (lv_at hl 3 rfl) ?_
    refine g_cv (As := [.int (iI a3)]) (rest := []) (n := 1) C hml (m_X11_isClimber l D k A ad hD (va_up (va_up v 0 0) 1 0) (va_up f 37 (f 37)) (va_up g 1 (g 1)) a3 (by omega)) mM_X11_349 mI_X11_isClimber mE_X11_isClimber mN_X11 mC_X11_isClimber (by decide +kernel) 0 (ci := 11) rfl rfl hP hS (fun _ h => h) ⟨Nat.le_of_ble_eq_true rfl, Nat.le_of_ble_eq_true rfl⟩ ⟨Nat.zero_le _, Nat.zero_le _⟩ hl.1 rfl rfl (Nat.le_of_ble_eq_true rfl) dX11_of_21 (fun r_4 v_4 f_4 g_4 H locs hq_4 hP _ hS => ?_)
    obtain ⟨z_4, rfl, rfl, rfl, rfl, p0_4, p1_4⟩ := hq_4
    show W p l e (gRm 3 87) s m args below meth c _ _ 0 0 Q (F0 m 24 ls [.int (iI z_4)])
    replace p0_4 : z_4 = (if 0 ≤ a3 ∧ a3 < (v 22) then 1 else 0) := p0_4
    have w_4 := gif (P := 0 ≤ a3 ∧ a3 < (v 22)) p0_4
    replace p1_4 : z_4 = 1 → 0 ≤ a3 ∧ a3 ≤ 15 := p1_4
    have hz_4 : inR z_4 := (by first | omega | (rw [p0_4]; split <;> omega))
    refine gi_zne (tgt := 33) hx hb dX11_of_24 (by decide) (by omega) (fun c_5 => ?_) (fun c_5 => ?_)
    · refine lv_iload hx hb dX11_of_33 (lv_at hl 4 rfl) ?_
      refine g_cs (As := [.int (iI a4)]) (rest := []) (n := 1) C hml (m_X11_isDay l D k A ad hD (va_up (va_up v 0 0) 1 0) (va_up f 37 (f 37)) (va_up g 1 (g 1)) a4 (by omega)) mM_X11_364 mS_X11_isDay mN_X11 mC_X11_isDay (by decide +kernel) hP hS (fun _ h => h) ⟨Nat.le_of_ble_eq_true rfl, Nat.le_of_ble_eq_true rfl⟩ ⟨Nat.zero_le _, Nat.zero_le _⟩ hl.1 rfl rfl (Nat.le_of_ble_eq_true rfl) dX11_of_35 (fun r_6 v_6 f_6 g_6 H locs hq_6 hP _ hS => ?_)
      obtain ⟨z_6, rfl, rfl, rfl, rfl, p0_6⟩ := hq_6
      show W p l e (gRm 3 87) s m args below meth c _ _ 0 0 Q (F0 m 38 ls [.int (iI z_6)])
      replace p0_6 : z_6 = (if 0 ≤ a4 ∧ a4 ≤ 999 then 1 else 0) := p0_6
      have w_6 := gif (P := 0 ≤ a4 ∧ a4 ≤ 999) p0_6
      have hz_6 : inR z_6 := (by first | omega | (rw [p0_6]; split <;> omega))
      refine gi_zeq (tgt := 53) hx hb dX11_of_38 (by decide) (by omega) (fun c_7 => ?_) (fun c_7 => ?_)
      · refine lv_aload_n hx hb dX11_of_53 rfl (lv_at hl 0 rfl) ?_
        refine lv_iconst (v := iI 2) hx hb dX11_of_54 rfl ?_
        refine g_cv (As := [.int (iI 2)]) (rest := []) (n := 1) C hml (m_X11_refuse l D k A ad hD (va_up (va_up v 0 0) 1 0) (va_up f 37 (f 37)) (va_up g 1 (g 1)) 2 (by decide) (show 0 ≤ (2 : Int) ∧ (2 : Int) ≤ 10 from by omega)) mM_X11_295 mI_X11_refuse mE_X11_refuse mN_X11 mC_X11_refuse (by decide +kernel) 0 (ci := 11) rfl rfl hP hS (fun _ h => h) ⟨Nat.le_of_ble_eq_true rfl, Nat.le_of_ble_eq_true rfl⟩ ⟨Nat.zero_le _, Nat.zero_le _⟩ hl.1 rfl rfl (Nat.le_of_ble_eq_true rfl) dX11_of_55 (fun r_8 v_8 f_8 g_8 H locs hq_8 hP _ hS => ?_)
        obtain ⟨rfl, rfl, rfl, rfl⟩ := hq_8
        show W p l e (gRm 3 87) s m args below meth c _ _ 0 0 Q (F0 m 58 ls [.int (iI (-1))])
        have hP : gWd D (mdT k ad) (va_up (va_up v 0 (2 : Int)) 1 0) (va_up f 37 (f 37)) (va_up g 1 (g 1)) H := ⟨hP.1, (gF_up (V := mdV) (F := mdF) (gR_up (V := mdV) (F := mdF) (gR_up (V := mdV) (F := mdF) ⟨hok.1, hok.2⟩ 0 (hP.2.1 0)) 1 (hP.2.1 1)) 37 (hP.2.2 37))⟩
        exact g_iret hQ C hr hlocks hP hS dX11_of_58 ⟨(-1), (2 : Int), 0, (f 37), (g 1), rfl, rfl, rfl, rfl, (by first | omega | (split <;> omega))⟩
      · refine lv_iload hx hb dX11_of_41 (lv_at hl 5 rfl) ?_
        refine gi_zlt (tgt := 53) hx hb dX11_of_43 (by decide) (by omega) (fun c_9 => ?_) (fun c_9 => ?_)
        · refine lv_aload_n hx hb dX11_of_53 rfl (lv_at hl 0 rfl) ?_
          refine lv_iconst (v := iI 2) hx hb dX11_of_54 rfl ?_
          refine g_cv (As := [.int (iI 2)]) (rest := []) (n := 1) C hml (m_X11_refuse l D k A ad hD (va_up (va_up v 0 0) 1 0) (va_up f 37 (f 37)) (va_up g 1 (g 1)) 2 (by decide) (show 0 ≤ (2 : Int) ∧ (2 : Int) ≤ 10 from by omega)) mM_X11_295 mI_X11_refuse mE_X11_refuse mN_X11 mC_X11_refuse (by decide +kernel) 0 (ci := 11) rfl rfl hP hS (fun _ h => h) ⟨Nat.le_of_ble_eq_true rfl, Nat.le_of_ble_eq_true rfl⟩ ⟨Nat.zero_le _, Nat.zero_le _⟩ hl.1 rfl rfl (Nat.le_of_ble_eq_true rfl) dX11_of_55 (fun r_10 v_10 f_10 g_10 H locs hq_10 hP _ hS => ?_)
          obtain ⟨rfl, rfl, rfl, rfl⟩ := hq_10
          show W p l e (gRm 3 87) s m args below meth c _ _ 0 0 Q (F0 m 58 ls [.int (iI (-1))])
          have hP : gWd D (mdT k ad) (va_up (va_up v 0 (2 : Int)) 1 0) (va_up f 37 (f 37)) (va_up g 1 (g 1)) H := ⟨hP.1, (gF_up (V := mdV) (F := mdF) (gR_up (V := mdV) (F := mdF) (gR_up (V := mdV) (F := mdF) ⟨hok.1, hok.2⟩ 0 (hP.2.1 0)) 1 (hP.2.1 1)) 37 (hP.2.2 37))⟩
          exact g_iret hQ C hr hlocks hP hS dX11_of_58 ⟨(-1), (2 : Int), 0, (f 37), (g 1), rfl, rfl, rfl, rfl, (by first | omega | (split <;> omega))⟩
        · refine lv_iload hx hb dX11_of_46 (lv_at hl 5 rfl) ?_
          refine lv_bipush (v := iI 6) hx hb dX11_of_48 (by decide) ?_
          refine gi_cle (tgt := 59) hx hb dX11_of_50 (by decide) (by omega) (by decide) (fun c_11 => ?_) (fun c_11 => ?_)
          · refine lv_aload_n hx hb dX11_of_59 rfl (lv_at hl 0 rfl) ?_
            refine lv_iload_n hx hb dX11_of_60 rfl (lv_at hl 1 rfl) ?_
            refine lv_iload_n hx hb dX11_of_61 rfl (lv_at hl 2 rfl) ?_
            refine lv_iload_n hx hb dX11_of_62 rfl (lv_at hl 3 rfl) ?_
            refine lv_iload hx hb dX11_of_63 (lv_at hl 4 rfl) ?_
            refine g_cv (As := [.int (iI a1), .int (iI a2), .int (iI a3), .int (iI a4)]) (rest := []) (n := 4) C hml (m_X11_pointsOf l D k A ad hD (va_up (va_up v 0 0) 1 0) (va_up f 37 (f 37)) (va_up g 1 (g 1)) a1 a2 a3 a4 (by omega) (by omega) (by omega) (by omega) (show rpOk (v 13) (f 9) from hrp (by omega)) (show 0 ≤ a1 ∧ a1 ≤ 3 from by omega) (show 0 ≤ a2 ∧ a2 ≤ 4 from by omega)) mM_X11_387 mI_X11_pointsOf mE_X11_pointsOf mN_X11 mC_X11_pointsOf (by decide +kernel) 0 (ci := 11) rfl rfl hP hS (fun _ h => h) ⟨Nat.le_of_ble_eq_true rfl, Nat.le_of_ble_eq_true rfl⟩ ⟨Nat.zero_le _, Nat.zero_le _⟩ hl.1 rfl rfl (Nat.le_of_ble_eq_true rfl) dX11_of_65 (fun r_12 v_12 f_12 g_12 H locs hq_12 hP _ hS => ?_)
            obtain ⟨z_12, a37_12, b1_12, rfl, rfl, rfl, rfl, p0_12⟩ := hq_12
            show W p l e (gRm 3 87) s m args below meth c _ _ 0 0 Q (F0 m 68 ls [.int (iI z_12)])
            have hP : gWd D (mdT k ad) (va_up (va_up v 0 0) 1 0) (va_up f 37 a37_12) (va_up g 1 b1_12) H := ⟨hP.1, (gF_up (V := mdV) (F := mdF) (gR_up (V := mdV) (F := mdF) (gR_up (V := mdV) (F := mdF) ⟨hok.1, hok.2⟩ 0 (hP.2.1 0)) 1 (hP.2.1 1)) 37 (hP.2.2 37))⟩
            replace p0_12 : (-2147483648) ≤ z_12 ∧ z_12 ≤ 2147483647 := p0_12
            refine lv_istore (lv' := [(6, .int (iI z_12)), (0, .ref (ad 0)), (1, .int (iI a1)), (2, .int (iI a2)), (3, .int (iI a3)), (4, .int (iI a4)), (5, .int (iI a5))]) hx hb dX11_of_68 hl (by decide) rfl (fun ls hl => ?_)
            refine lv_iload hx hb dX11_of_70 (lv_at hl 6 rfl) ?_
            refine lv_bipush (v := iI 6) hx hb dX11_of_72 (by decide) ?_
            refine gi_cne (tgt := 82) hx hb dX11_of_74 (by decide) (by omega) (by decide) (fun c_13 => ?_) (fun c_13 => ?_)
            · refine lv_aload_n hx hb dX11_of_82 rfl (lv_at hl 1 rfl) ?_
              refine mdG_facts C hP mF_X11_133 dX11_of_83 ?_
              refine lv_iload hx hb dX11_of_86 (lv_at hl 6 rfl) ?_
              refine mdL_facts C hP (by omega) (by omega) dX11_of_88 ?_
              show W p l e (gRm 3 87) s m args below meth c _ _ 0 0 Q (F0 m 89 ls [.int (iI (a37_12 a5))])
              have r_14 : (-2000000) ≤ (a37_12 a5) ∧ (a37_12 a5) ≤ 2000000 := hP.2.2 37 a5
              exact g_iret hQ C hr hlocks hP hS dX11_of_89 ⟨(a37_12 a5), 0, 0, a37_12, b1_12, rfl, rfl, rfl, rfl, (by first | omega | (split <;> omega))⟩
            · refine lv_iload hx hb dX11_of_77 (lv_at hl 0 rfl) ?_
              refine lv_goto (tgt := 89) hx hb dX11_of_79 (by decide) ?_
              exact g_iret hQ C hr hlocks hP hS dX11_of_89 ⟨z_12, 0, 0, a37_12, b1_12, rfl, rfl, rfl, rfl, (by first | omega | (split <;> omega))⟩
          · refine lv_aload_n hx hb dX11_of_53 rfl (lv_at hl 0 rfl) ?_
            refine lv_iconst (v := iI 2) hx hb dX11_of_54 rfl ?_
            refine g_cv (As := [.int (iI 2)]) (rest := []) (n := 1) C hml (m_X11_refuse l D k A ad hD (va_up (va_up v 0 0) 1 0) (va_up f 37 (f 37)) (va_up g 1 (g 1)) 2 (by decide) (show 0 ≤ (2 : Int) ∧ (2 : Int) ≤ 10 from by omega)) mM_X11_295 mI_X11_refuse mE_X11_refuse mN_X11 mC_X11_refuse (by decide +kernel) 0 (ci := 11) rfl rfl hP hS (fun _ h => h) ⟨Nat.le_of_ble_eq_true rfl, Nat.le_of_ble_eq_true rfl⟩ ⟨Nat.zero_le _, Nat.zero_le _⟩ hl.1 rfl rfl (Nat.le_of_ble_eq_true rfl) dX11_of_55 (fun r_15 v_15 f_15 g_15 H locs hq_15 hP _ hS => ?_)
            obtain ⟨rfl, rfl, rfl, rfl⟩ := hq_15
            show W p l e (gRm 3 87) s m args below meth c _ _ 0 0 Q (F0 m 58 ls [.int (iI (-1))])
            have hP : gWd D (mdT k ad) (va_up (va_up v 0 (2 : Int)) 1 0) (va_up f 37 (f 37)) (va_up g 1 (g 1)) H := ⟨hP.1, (gF_up (V := mdV) (F := mdF) (gR_up (V := mdV) (F := mdF) (gR_up (V := mdV) (F := mdF) ⟨hok.1, hok.2⟩ 0 (hP.2.1 0)) 1 (hP.2.1 1)) 37 (hP.2.2 37))⟩
            exact g_iret hQ C hr hlocks hP hS dX11_of_58 ⟨(-1), (2 : Int), 0, (f 37), (g 1), rfl, rfl, rfl, rfl, (by first | omega | (split <;> omega))⟩
    · refine lv_aload_n hx hb dX11_of_27 rfl (lv_at hl 0 rfl) ?_
      refine lv_iconst (v := iI 1) hx hb dX11_of_28 rfl ?_
      refine g_cv (As := [.int (iI 1)]) (rest := []) (n := 1) C hml (m_X11_refuse l D k A ad hD (va_up (va_up v 0 0) 1 0) (va_up f 37 (f 37)) (va_up g 1 (g 1)) 1 (by decide) (show 0 ≤ (1 : Int) ∧ (1 : Int) ≤ 10 from by omega)) mM_X11_295 mI_X11_refuse mE_X11_refuse mN_X11 mC_X11_refuse (by decide +kernel) 0 (ci := 11) rfl rfl hP hS (fun _ h => h) ⟨Nat.le_of_ble_eq_true rfl, Nat.le_of_ble_eq_true rfl⟩ ⟨Nat.zero_le _, Nat.zero_le _⟩ hl.1 rfl rfl (Nat.le_of_ble_eq_true rfl) dX11_of_29 (fun r_16 v_16 f_16 g_16 H locs hq_16 hP _ hS => ?_)
      obtain ⟨rfl, rfl, rfl, rfl⟩ := hq_16
      show W p l e (gRm 3 87) s m args below meth c _ _ 0 0 Q (F0 m 32 ls [.int (iI (-1))])
      have hP : gWd D (mdT k ad) (va_up (va_up v 0 (1 : Int)) 1 0) (va_up f 37 (f 37)) (va_up g 1 (g 1)) H := ⟨hP.1, (gF_up (V := mdV) (F := mdF) (gR_up (V := mdV) (F := mdF) (gR_up (V := mdV) (F := mdF) ⟨hok.1, hok.2⟩ 0 (hP.2.1 0)) 1 (hP.2.1 1)) 37 (hP.2.2 37))⟩
      exact g_iret hQ C hr hlocks hP hS dX11_of_32 ⟨(-1), (1 : Int), 0, (f 37), (g 1), rfl, rfl, rfl, rfl, (by first | omega | (split <;> omega))⟩

set_option maxHeartbeats 4000000 in
set_option maxRecDepth 100000 in
theorem m_X11_keyOf (l : Launch) (D : va_G) (k : Nat → ClassId) (A : Nat → Prop) (ad : Nat → Nat) (hD : mdD A k ad) (v : gV) (f g : gF) (a1 : Int) (a2 : Int) (a3 : Int) (a4 : Int) (h_a1 : inR a1) (h_a2 : inR a2) (h_a3 : inR a3) (h_a4 : inR a4) (hrp : rpOk (v 13) (f 9)) (h1 : 0 ≤ a1 ∧ a1 ≤ 3) (h4 : 0 ≤ a4 ∧ a4 < 4) : GM l D k A (mdT k ad) yX11_keyOf cX11_keyOf 11 (some .long) 3 87 [.ref (ad 0), .int (iI a1), .int (iI a2), .int (iI a3), .int (iI a4)] v f g (fun r v1 f1 g1 => ∃ (z : Int) (a37_ : Int → Int) (b1_ : Int → Int), r = some (.long (iL z)) ∧ v = v1 ∧ (va_up f 37 a37_) = f1 ∧ (va_up g 1 b1_) = g1) := by
  refine GM.of (by decide) (Nat.le_of_ble_eq_true rfl) ?_
  intro p e s m args below meth c Q ls hQ C hml hr hlocks hP hl
  have hx := C.1
  have hb := C.2.1
  have hok := hP.2
  have hS : va_S A s.heap s.heap [] := va_S.rf
  have hl : lv_has ls 11 [(0, .ref (ad 0)), (1, .int (iI a1)), (2, .int (iI a2)), (3, .int (iI a3)), (4, .int (iI a4))] := hl
  have hP : gWd D (mdT k ad) v (va_up f 37 (f 37)) (va_up g 1 (g 1)) s.heap := by rw [va_id, va_id]; exact hP
  have hro : 0 ≤ f 1 a1 ∧ f 1 a1 ≤ 5 := hok.2 1 a1
  refine lv_lconst (v := iL 0) hx hb dX11_keyOf_0 (by decide) ?_
  refine lv_lstore (lv' := [(5, .long (iL 0)), (0, .ref (ad 0)), (1, .int (iI a1)), (2, .int (iI a2)), (3, .int (iI a3)), (4, .int (iI a4))]) hx hb dX11_keyOf_1 hl (by decide) rfl (fun ls hl => ?_)
  refine lv_ldc2 (v := iL (-1000000000)) hx hb C.2.2.2.1 (C.2.2.1 _ (show Cond.constantLong RX11 370 (iL (-1000000000)) ∈ gWs from mD_X11_370)) dX11_keyOf_3 ?_
  refine lv_lstore (lv' := [(7, .long (iL (-1000000000))), (5, .long (iL 0)), (0, .ref (ad 0)), (1, .int (iI a1)), (2, .int (iI a2)), (3, .int (iI a3)), (4, .int (iI a4))]) hx hb dX11_keyOf_6 hl (by decide) rfl (fun ls hl => ?_)
  refine lv_iconst (v := iI 0) hx hb dX11_keyOf_8 rfl ?_
  refine lv_istore (lv' := [(9, .int (iI 0)), (7, .long (iL (-1000000000))), (5, .long (iL 0)), (0, .ref (ad 0)), (1, .int (iI a1)), (2, .int (iI a2)), (3, .int (iI a3)), (4, .int (iI a4))]) hx hb dX11_keyOf_9 hl (by decide) rfl (fun ls hl => ?_)
  have L_1 : ∀ (n : Nat) (y5 : Int) (y7 : Int) (x9 : Int) (c37_1 : Int → Int) (d1_1 : Int → Int) (H : Heap) (locs : List Loc) (ls : Array Slot), 5 - x9 < (n : Int) → (0 ≤ x9 ∧ x9 ≤ (f 1) a1) → gWd D (mdT k ad) v (va_up f 37 c37_1) (va_up g 1 d1_1) H → va_S A s.heap H locs → lv_has ls 11 [(0, .ref (ad 0)), (1, .int (iI a1)), (2, .int (iI a2)), (3, .int (iI a3)), (4, .int (iI a4)), (5, .long (iL y5)), (7, .long (iL y7)), (9, .int (iI x9))] → W p l e (gRm 3 87) s m args below meth c H locs 0 0 Q (F0 m 11 ls []) := by
    intro n
    induction n with
    | zero =>
      intro y5 y7 x9 c37_1 d1_1 H locs ls hn_1 i1_0 hP hS hl
      exfalso; omega
    | succ n ih_11 =>
      intro y5 y7 x9 c37_1 d1_1 H locs ls hn_1 i1_0 hP hS hl
      refine lv_iload hx hb dX11_keyOf_11 (lv_at hl 7 rfl) ?_
      refine lv_aload_n hx hb dX11_keyOf_13 rfl (lv_at hl 0 rfl) ?_
      refine mdG_routes C hP mF_X11_20 dX11_keyOf_14 ?_
      refine lv_iload_n hx hb dX11_keyOf_17 rfl (lv_at hl 1 rfl) ?_
      refine mdL_routes C hP (by omega) (by omega) dX11_keyOf_18 ?_
      show W p l e (gRm 3 87) s m args below meth c _ _ 0 0 Q (F0 m 19 ls [.int (iI (f 1 a1)), .int (iI x9)])
      have r_2 : 0 ≤ (f 1 a1) ∧ (f 1 a1) ≤ 5 := hP.2.2 1 a1
      refine gi_cge (tgt := 98) hx hb dX11_keyOf_19 (by decide) (by omega) (by omega) (fun c_3 => ?_) (fun c_3 => ?_)
      · refine lv_aload_n hx hb dX11_keyOf_98 rfl (lv_at hl 0 rfl) ?_
        refine mdG_key C hP mF_X11_57 dX11_keyOf_99 ?_
        refine lv_iload hx hb dX11_keyOf_102 (lv_at hl 4 rfl) ?_
        refine mdL_key C hP (by omega) (by omega) dX11_keyOf_104 ?_
        show W p l e (gRm 3 87) s m args below meth c _ _ 0 0 Q (F0 m 105 ls [.int (iI (f 13 a4))])
        have r_4 : 0 ≤ (f 13 a4) ∧ (f 13 a4) ≤ 3 := hP.2.2 13 a4
        refine lv_iconst (v := iI 1) hx hb dX11_keyOf_105 rfl ?_
        refine gi_cne (tgt := 114) hx hb dX11_keyOf_106 (by decide) (by omega) (by decide) (fun c_5 => ?_) (fun c_5 => ?_)
        · refine lv_lload hx hb dX11_keyOf_114 (lv_at hl 5 rfl) ?_
          exact g_lret hQ C hr hlocks hP hS dX11_keyOf_116 ⟨y5, c37_1, d1_1, rfl, rfl, rfl, rfl⟩
        · refine lv_lload hx hb dX11_keyOf_109 (lv_at hl 6 rfl) ?_
          refine lv_goto (tgt := 116) hx hb dX11_keyOf_111 (by decide) ?_
          exact g_lret hQ C hr hlocks hP hS dX11_keyOf_116 ⟨y7, c37_1, d1_1, rfl, rfl, rfl, rfl⟩
      · refine lv_aload_n hx hb dX11_keyOf_22 rfl (lv_at hl 0 rfl) ?_
        refine lv_iload_n hx hb dX11_keyOf_23 rfl (lv_at hl 1 rfl) ?_
        refine lv_iload hx hb dX11_keyOf_24 (lv_at hl 7 rfl) ?_
        refine lv_iload_n hx hb dX11_keyOf_26 rfl (lv_at hl 2 rfl) ?_
        refine lv_iload_n hx hb dX11_keyOf_27 rfl (lv_at hl 3 rfl) ?_
        refine g_cv (As := [.int (iI a1), .int (iI x9), .int (iI a2), .int (iI a3)]) (rest := []) (n := 4) C hml (m_X11_pointsOf l D k A ad hD v (va_up f 37 c37_1) (va_up g 1 d1_1) a1 x9 a2 a3 (by omega) (by omega) (by omega) (by omega) (show rpOk (v 13) (f 9) from hrp) (show 0 ≤ a1 ∧ a1 ≤ 3 from by omega) (show 0 ≤ x9 ∧ x9 ≤ 4 from by omega)) mM_X11_387 mI_X11_pointsOf mE_X11_pointsOf mN_X11 mC_X11_pointsOf (by decide +kernel) 0 (ci := 11) rfl rfl hP hS (fun _ h => h) ⟨Nat.le_of_ble_eq_true rfl, Nat.le_of_ble_eq_true rfl⟩ ⟨Nat.zero_le _, Nat.zero_le _⟩ hl.1 rfl rfl (Nat.le_of_ble_eq_true rfl) dX11_keyOf_28 (fun r_6 v_6 f_6 g_6 H locs hq_6 hP _ hS => ?_)
        obtain ⟨z_6, a37_6, b1_6, rfl, rfl, rfl, rfl, p0_6⟩ := hq_6
        show W p l e (gRm 3 87) s m args below meth c _ _ 0 0 Q (F0 m 31 ls [.int (iI z_6)])
        have hP : gWd D (mdT k ad) v (va_up f 37 a37_6) (va_up g 1 b1_6) H := ⟨hP.1, (gF_up (V := mdV) (F := mdF) ⟨hok.1, hok.2⟩ 37 (hP.2.2 37))⟩
        replace p0_6 : (-2147483648) ≤ z_6 ∧ z_6 ≤ 2147483647 := p0_6
        refine lv_istore (lv' := [(10, .int (iI z_6)), (0, .ref (ad 0)), (1, .int (iI a1)), (2, .int (iI a2)), (3, .int (iI a3)), (4, .int (iI a4)), (5, .long (iL y5)), (7, .long (iL y7)), (9, .int (iI x9))]) hx hb dX11_keyOf_31 hl (by decide) rfl (fun ls hl => ?_)
        refine lv_lload hx hb dX11_keyOf_33 (lv_at hl 7 rfl) ?_
        refine lv_iload hx hb dX11_keyOf_35 (lv_at hl 0 rfl) ?_
        refine gi_i2l hx hb (by omega) dX11_keyOf_37 ?_
        refine gl_max C hml hl.1 mM_X11_377 (Nat.le_of_ble_eq_true rfl) (Nat.le_of_ble_eq_true rfl) dX11_keyOf_38 (fun x_7 ex_7 => ?_)
        refine lv_lstore (lv' := [(7, .long (iL x_7)), (10, .int (iI z_6)), (0, .ref (ad 0)), (1, .int (iI a1)), (2, .int (iI a2)), (3, .int (iI a3)), (4, .int (iI a4)), (5, .long (iL y5)), (9, .int (iI x9))]) hx hb dX11_keyOf_41 hl (by decide) rfl (fun ls hl => ?_)
        refine lv_lload hx hb dX11_keyOf_43 (lv_at hl 7 rfl) ?_
        refine lv_aload_n hx hb dX11_keyOf_45 rfl (lv_at hl 2 rfl) ?_
        refine mdG_key C hP mF_X11_57 dX11_keyOf_46 ?_
        refine lv_iload hx hb dX11_keyOf_49 (lv_at hl 6 rfl) ?_
        refine mdL_key C hP (by omega) (by omega) dX11_keyOf_51 ?_
        show W p l e (gRm 3 87) s m args below meth c _ _ 0 0 Q (F0 m 52 ls [.int (iI (f 13 a4)), .long (iL y5)])
        have r_8 : 0 ≤ (f 13 a4) ∧ (f 13 a4) ≤ 3 := hP.2.2 13 a4
        refine gi_zne (tgt := 61) hx hb dX11_keyOf_52 (by decide) (by omega) (fun c_9 => ?_) (fun c_9 => ?_)
        · refine lv_aload_n hx hb dX11_keyOf_61 rfl (lv_at hl 2 rfl) ?_
          refine mdG_key C hP mF_X11_57 dX11_keyOf_62 ?_
          refine lv_iload hx hb dX11_keyOf_65 (lv_at hl 6 rfl) ?_
          refine mdL_key C hP (by omega) (by omega) dX11_keyOf_67 ?_
          show W p l e (gRm 3 87) s m args below meth c _ _ 0 0 Q (F0 m 68 ls [.int (iI (f 13 a4)), .long (iL y5)])
          refine lv_iconst (v := iI 2) hx hb dX11_keyOf_68 rfl ?_
          refine gi_cne (tgt := 82) hx hb dX11_keyOf_69 (by decide) (by omega) (by decide) (fun c_10 => ?_) (fun c_10 => ?_)
          · refine lv_aload_n hx hb dX11_keyOf_82 rfl (lv_at hl 2 rfl) ?_
            refine mdG_facts C hP mF_X11_133 dX11_keyOf_83 ?_
            refine lv_iconst (v := iI 1) hx hb dX11_keyOf_86 rfl ?_
            refine mdL_facts C hP (by decide) (by decide) dX11_keyOf_87 ?_
            show W p l e (gRm 3 87) s m args below meth c _ _ 0 0 Q (F0 m 88 ls [.int (iI (a37_6 1)), .long (iL y5)])
            have r_11 : (-2000000) ≤ (a37_6 1) ∧ (a37_6 1) ≤ 2000000 := hP.2.2 37 1
            refine gi_i2l hx hb (by omega) dX11_keyOf_88 ?_
            refine gl_add (z := (y5 + (a37_6 1))) hx hb dX11_keyOf_89 rfl ?_
            refine lv_lstore (lv' := [(5, .long (iL (y5 + (a37_6 1)))), (7, .long (iL x_7)), (10, .int (iI z_6)), (0, .ref (ad 0)), (1, .int (iI a1)), (2, .int (iI a2)), (3, .int (iI a3)), (4, .int (iI a4)), (9, .int (iI x9))]) hx hb dX11_keyOf_90 hl (by decide) rfl (fun ls hl => ?_)
            refine lv_iinc (v := iI (x9 + 1)) (lv' := [(9, .int (iI (x9 + 1))), (5, .long (iL (y5 + (a37_6 1)))), (7, .long (iL x_7)), (10, .int (iI z_6)), (0, .ref (ad 0)), (1, .int (iI a1)), (2, .int (iI a2)), (3, .int (iI a3)), (4, .int (iI a4))]) hx hb dX11_keyOf_92 hl (k := 8) rfl (by show iI _ + iI 1 = _; rw [iI_add]) (by decide) rfl (fun ls hl => ?_)
            refine lv_goto (tgt := 11) hx hb dX11_keyOf_95 (by decide) ?_
            exact ih_11 (y5 + (a37_6 1)) x_7 (x9 + 1) a37_6 b1_6 _ _ _ (by omega) (by omega) hP hS (lv_sub hl [4, 5, 6, 7, 8, 1, 2, 0] rfl)
          · refine lv_aload_n hx hb dX11_keyOf_72 rfl (lv_at hl 2 rfl) ?_
            refine mdG_facts C hP mF_X11_133 dX11_keyOf_73 ?_
            refine lv_iconst (v := iI 0) hx hb dX11_keyOf_76 rfl ?_
            refine mdL_facts C hP (by decide) (by decide) dX11_keyOf_77 ?_
            show W p l e (gRm 3 87) s m args below meth c _ _ 0 0 Q (F0 m 78 ls [.int (iI (a37_6 0)), .long (iL y5)])
            have r_12 : (-2000000) ≤ (a37_6 0) ∧ (a37_6 0) ≤ 2000000 := hP.2.2 37 0
            refine gi_i2l hx hb (by omega) dX11_keyOf_78 ?_
            refine lv_goto (tgt := 89) hx hb dX11_keyOf_79 (by decide) ?_
            refine gl_add (z := (y5 + (a37_6 0))) hx hb dX11_keyOf_89 rfl ?_
            refine lv_lstore (lv' := [(5, .long (iL (y5 + (a37_6 0)))), (7, .long (iL x_7)), (10, .int (iI z_6)), (0, .ref (ad 0)), (1, .int (iI a1)), (2, .int (iI a2)), (3, .int (iI a3)), (4, .int (iI a4)), (9, .int (iI x9))]) hx hb dX11_keyOf_90 hl (by decide) rfl (fun ls hl => ?_)
            refine lv_iinc (v := iI (x9 + 1)) (lv' := [(9, .int (iI (x9 + 1))), (5, .long (iL (y5 + (a37_6 0)))), (7, .long (iL x_7)), (10, .int (iI z_6)), (0, .ref (ad 0)), (1, .int (iI a1)), (2, .int (iI a2)), (3, .int (iI a3)), (4, .int (iI a4))]) hx hb dX11_keyOf_92 hl (k := 8) rfl (by show iI _ + iI 1 = _; rw [iI_add]) (by decide) rfl (fun ls hl => ?_)
            refine lv_goto (tgt := 11) hx hb dX11_keyOf_95 (by decide) ?_
            exact ih_11 (y5 + (a37_6 0)) x_7 (x9 + 1) a37_6 b1_6 _ _ _ (by omega) (by omega) hP hS (lv_sub hl [4, 5, 6, 7, 8, 1, 2, 0] rfl)
        · refine lv_iload hx hb dX11_keyOf_55 (lv_at hl 1 rfl) ?_
          refine gi_i2l hx hb (by omega) dX11_keyOf_57 ?_
          refine lv_goto (tgt := 89) hx hb dX11_keyOf_58 (by decide) ?_
          refine gl_add (z := (y5 + z_6)) hx hb dX11_keyOf_89 rfl ?_
          refine lv_lstore (lv' := [(5, .long (iL (y5 + z_6))), (7, .long (iL x_7)), (10, .int (iI z_6)), (0, .ref (ad 0)), (1, .int (iI a1)), (2, .int (iI a2)), (3, .int (iI a3)), (4, .int (iI a4)), (9, .int (iI x9))]) hx hb dX11_keyOf_90 hl (by decide) rfl (fun ls hl => ?_)
          refine lv_iinc (v := iI (x9 + 1)) (lv' := [(9, .int (iI (x9 + 1))), (5, .long (iL (y5 + z_6))), (7, .long (iL x_7)), (10, .int (iI z_6)), (0, .ref (ad 0)), (1, .int (iI a1)), (2, .int (iI a2)), (3, .int (iI a3)), (4, .int (iI a4))]) hx hb dX11_keyOf_92 hl (k := 8) rfl (by show iI _ + iI 1 = _; rw [iI_add]) (by decide) rfl (fun ls hl => ?_)
          refine lv_goto (tgt := 11) hx hb dX11_keyOf_95 (by decide) ?_
          exact ih_11 (y5 + z_6) x_7 (x9 + 1) a37_6 b1_6 _ _ _ (by omega) (by omega) hP hS (lv_sub hl [4, 5, 6, 7, 8, 1, 2, 0] rfl)
  exact L_1 6 0 (-1000000000) 0 (f 37) (g 1) _ _ _ (by omega) (by omega) hP hS (lv_sub hl [3, 4, 5, 6, 7, 2, 1, 0] rfl)

set_option maxHeartbeats 4000000 in
set_option maxRecDepth 100000 in
theorem m_X11_key (l : Launch) (D : va_G) (k : Nat → ClassId) (A : Nat → Prop) (ad : Nat → Nat) (hD : mdD A k ad) (v : gV) (f g : gF) (a1 : Int) (a2 : Int) (a3 : Int) (a4 : Int) (h_a1 : inR a1) (h_a2 : inR a2) (h_a3 : inR a3) (h_a4 : inR a4) (hrp : 0 < (v 12) → rpOk (v 13) (f 9)) : GM l D k A (mdT k ad) yX11_key cX11_key 5 (some .long) 4 117 [.ref (ad 0), .int (iI a1), .int (iI a2), .int (iI a3), .int (iI a4)] v f g (fun r v1 f1 g1 => ∃ (z : Int) (w0 : Int) (w1 : Int) (a37_ : Int → Int) (b1_ : Int → Int), r = some (.long (iL z)) ∧ (va_up (va_up v 0 w0) 1 w1) = v1 ∧ (va_up f 37 a37_) = f1 ∧ (va_up g 1 b1_) = g1) := by
  refine GM.of (by decide) (Nat.le_of_ble_eq_true rfl) ?_
  intro p e s m args below meth c Q ls hQ C hml hr hlocks hP hl
  have hx := C.1
  have hb := C.2.1
  have hok := hP.2
  have hS : va_S A s.heap s.heap [] := va_S.rf
  have hl : lv_has ls 5 [(0, .ref (ad 0)), (1, .int (iI a1)), (2, .int (iI a2)), (3, .int (iI a3)), (4, .int (iI a4))] := hl
  have hP : gWd D (mdT k ad) (va_up (va_up v 0 (v 0)) 1 (v 1)) (va_up f 37 (f 37)) (va_up g 1 (g 1)) s.heap := by rw [va_id, va_id, va_id, va_id]; exact hP
  have r_1 : 0 ≤ (v 14) ∧ (v 14) ≤ 4 := hok.1 14
  refine lv_aload_n hx hb dX11_key_0 rfl (lv_at hl 0 rfl) ?_
  refine lv_iconst (v := iI 0) hx hb dX11_key_1 rfl ?_
  refine mdP_thrown (v1 := (va_up (va_up v 0 (v 0)) 1 0)) C hP hD hS mF_X11_146 (by decide) rfl (Or.inr (gF_up (V := mdV) (F := mdF) (gR_up (V := mdV) (F := mdF) (gR_up (V := mdV) (F := mdF) ⟨hok.1, hok.2⟩ 0 (hP.2.1 0)) 1 (show 0 ≤ 0 ∧ 0 ≤ 0 from by decide)) 37 (hP.2.2 37))) dX11_key_2 (fun H locs hP hS => ?_)
  refine lv_aload_n hx hb dX11_key_5 rfl (lv_at hl 0 rfl) ?_
  refine lv_iconst (v := iI 0) hx hb dX11_key_6 rfl ?_
  refine mdP_status (v1 := (va_up (va_up v 0 0) 1 0)) C hP hD hS mF_X11_149 (by decide) rfl (Or.inr (gF_up (V := mdV) (F := mdF) (gR_up (V := mdV) (F := mdF) (gR_up (V := mdV) (F := mdF) ⟨hok.1, hok.2⟩ 0 (show 0 ≤ 0 ∧ 0 ≤ 10 from by decide)) 1 (hP.2.1 1)) 37 (hP.2.2 37))) dX11_key_7 (fun H locs hP hS => ?_)
  refine lv_aload_n hx hb dX11_key_10 rfl (lv_at hl 0 rfl) ?_
  refine lv_iload_n hx hb dX11_key_11 rfl (lv_at hl 1 rfl) ?_
  refine lv_iload_n hx hb dX11_key_12 rfl (lv_at hl 2 rfl) ?_
  refine g_cv (As := [.int (iI a1), .int (iI a2)]) (rest := []) (n := 2) C hml (m_X11_isIn l D k A ad hD (va_up (va_up v 0 0) 1 0) (va_up f 37 (f 37)) (va_up g 1 (g 1)) a1 a2 (by omega) (by omega)) mM_X11_391 mI_X11_isIn mE_X11_isIn mN_X11 mC_X11_isIn (by decide +kernel) 0 (ci := 11) rfl rfl hP hS (fun _ h => h) ⟨Nat.le_of_ble_eq_true rfl, Nat.le_of_ble_eq_true rfl⟩ ⟨Nat.zero_le _, Nat.zero_le _⟩ hl.1 rfl rfl (Nat.le_of_ble_eq_true rfl) dX11_key_13 (fun r_2 v_2 f_2 g_2 H locs hq_2 hP _ hS => ?_)
  obtain ⟨z_2, rfl, rfl, rfl, rfl, p0_2, p1_2⟩ := hq_2
  show W p l e (gRm 4 117) s m args below meth c _ _ 0 0 Q (F0 m 16 ls [.int (iI z_2)])
  replace p0_2 : z_2 = (if (0 ≤ a1 ∧ a1 < (v 12)) ∧ (0 ≤ a2 ∧ a2 < (v 22)) ∧ (f 21) (16 * a1 + a2) ≠ 0 then 1 else 0) := p0_2
  have w_2 := gif (P := (0 ≤ a1 ∧ a1 < (v 12)) ∧ (0 ≤ a2 ∧ a2 < (v 22)) ∧ (f 21) (16 * a1 + a2) ≠ 0) p0_2
  replace p1_2 : z_2 = 1 → (0 ≤ a1 ∧ a1 ≤ 3) ∧ (0 ≤ a2 ∧ a2 ≤ 15) := p1_2
  have hz_2 : inR z_2 := (by first | omega | (rw [p0_2]; split <;> omega))
  refine gi_zeq (tgt := 33) hx hb dX11_key_16 (by decide) (by omega) (fun c_3 => ?_) (fun c_3 => ?_)
  · refine lv_aload_n hx hb dX11_key_33 rfl (lv_at hl 0 rfl) ?_
    refine lv_iconst (v := iI 1) hx hb dX11_key_34 rfl ?_
    refine g_cv (As := [.int (iI 1)]) (rest := []) (n := 1) C hml (m_X11_refuse l D k A ad hD (va_up (va_up v 0 0) 1 0) (va_up f 37 (f 37)) (va_up g 1 (g 1)) 1 (by decide) (show 0 ≤ (1 : Int) ∧ (1 : Int) ≤ 10 from by omega)) mM_X11_295 mI_X11_refuse mE_X11_refuse mN_X11 mC_X11_refuse (by decide +kernel) 0 (ci := 11) rfl rfl hP hS (fun _ h => h) ⟨Nat.le_of_ble_eq_true rfl, Nat.le_of_ble_eq_true rfl⟩ ⟨Nat.zero_le _, Nat.zero_le _⟩ hl.1 rfl rfl (Nat.le_of_ble_eq_true rfl) dX11_key_35 (fun r_4 v_4 f_4 g_4 H locs hq_4 hP _ hS => ?_)
    obtain ⟨rfl, rfl, rfl, rfl⟩ := hq_4
    show W p l e (gRm 4 117) s m args below meth c _ _ 0 0 Q (F0 m 38 ls [.int (iI (-1))])
    have hP : gWd D (mdT k ad) (va_up (va_up v 0 (1 : Int)) 1 0) (va_up f 37 (f 37)) (va_up g 1 (g 1)) H := ⟨hP.1, (gF_up (V := mdV) (F := mdF) (gR_up (V := mdV) (F := mdF) (gR_up (V := mdV) (F := mdF) ⟨hok.1, hok.2⟩ 0 (hP.2.1 0)) 1 (hP.2.1 1)) 37 (hP.2.2 37))⟩
    refine gi_i2l hx hb (by decide) dX11_key_38 ?_
    exact g_lret hQ C hr hlocks hP hS dX11_key_39 ⟨(-1), (1 : Int), 0, (f 37), (g 1), rfl, rfl, rfl, rfl⟩
  · refine lv_iload hx hb dX11_key_19 (lv_at hl 4 rfl) ?_
    refine gi_zlt (tgt := 33) hx hb dX11_key_21 (by decide) (by omega) (fun c_5 => ?_) (fun c_5 => ?_)
    · refine lv_aload_n hx hb dX11_key_33 rfl (lv_at hl 0 rfl) ?_
      refine lv_iconst (v := iI 1) hx hb dX11_key_34 rfl ?_
      refine g_cv (As := [.int (iI 1)]) (rest := []) (n := 1) C hml (m_X11_refuse l D k A ad hD (va_up (va_up v 0 0) 1 0) (va_up f 37 (f 37)) (va_up g 1 (g 1)) 1 (by decide) (show 0 ≤ (1 : Int) ∧ (1 : Int) ≤ 10 from by omega)) mM_X11_295 mI_X11_refuse mE_X11_refuse mN_X11 mC_X11_refuse (by decide +kernel) 0 (ci := 11) rfl rfl hP hS (fun _ h => h) ⟨Nat.le_of_ble_eq_true rfl, Nat.le_of_ble_eq_true rfl⟩ ⟨Nat.zero_le _, Nat.zero_le _⟩ hl.1 rfl rfl (Nat.le_of_ble_eq_true rfl) dX11_key_35 (fun r_6 v_6 f_6 g_6 H locs hq_6 hP _ hS => ?_)
      obtain ⟨rfl, rfl, rfl, rfl⟩ := hq_6
      show W p l e (gRm 4 117) s m args below meth c _ _ 0 0 Q (F0 m 38 ls [.int (iI (-1))])
      have hP : gWd D (mdT k ad) (va_up (va_up v 0 (1 : Int)) 1 0) (va_up f 37 (f 37)) (va_up g 1 (g 1)) H := ⟨hP.1, (gF_up (V := mdV) (F := mdF) (gR_up (V := mdV) (F := mdF) (gR_up (V := mdV) (F := mdF) ⟨hok.1, hok.2⟩ 0 (hP.2.1 0)) 1 (hP.2.1 1)) 37 (hP.2.2 37))⟩
      refine gi_i2l hx hb (by decide) dX11_key_38 ?_
      exact g_lret hQ C hr hlocks hP hS dX11_key_39 ⟨(-1), (1 : Int), 0, (f 37), (g 1), rfl, rfl, rfl, rfl⟩
    · refine lv_iload hx hb dX11_key_24 (lv_at hl 4 rfl) ?_
      refine lv_aload_n hx hb dX11_key_26 rfl (lv_at hl 0 rfl) ?_
      refine mdG_keys C hP mF_X11_307 dX11_key_27 ?_
      show W p l e (gRm 4 117) s m args below meth c _ _ 0 0 Q (F0 m 30 ls [.int (iI (v 14)), .int (iI a4)])
      refine gi_clt (tgt := 40) hx hb dX11_key_30 (by decide) (by omega) (by omega) (fun c_7 => ?_) (fun c_7 => ?_)
      · refine lv_iload_n hx hb dX11_key_40 rfl (lv_at hl 3 rfl) ?_
        refine g_cs (As := [.int (iI a3)]) (rest := []) (n := 1) C hml (m_X11_isDay l D k A ad hD (va_up (va_up v 0 0) 1 0) (va_up f 37 (f 37)) (va_up g 1 (g 1)) a3 (by omega)) mM_X11_364 mS_X11_isDay mN_X11 mC_X11_isDay (by decide +kernel) hP hS (fun _ h => h) ⟨Nat.le_of_ble_eq_true rfl, Nat.le_of_ble_eq_true rfl⟩ ⟨Nat.zero_le _, Nat.zero_le _⟩ hl.1 rfl rfl (Nat.le_of_ble_eq_true rfl) dX11_key_41 (fun r_8 v_8 f_8 g_8 H locs hq_8 hP _ hS => ?_)
        obtain ⟨z_8, rfl, rfl, rfl, rfl, p0_8⟩ := hq_8
        show W p l e (gRm 4 117) s m args below meth c _ _ 0 0 Q (F0 m 44 ls [.int (iI z_8)])
        replace p0_8 : z_8 = (if 0 ≤ a3 ∧ a3 ≤ 999 then 1 else 0) := p0_8
        have w_8 := gif (P := 0 ≤ a3 ∧ a3 ≤ 999) p0_8
        have hz_8 : inR z_8 := (by first | omega | (rw [p0_8]; split <;> omega))
        refine gi_zne (tgt := 54) hx hb dX11_key_44 (by decide) (by omega) (fun c_9 => ?_) (fun c_9 => ?_)
        · refine lv_aload_n hx hb dX11_key_54 rfl (lv_at hl 0 rfl) ?_
          refine lv_iload_n hx hb dX11_key_55 rfl (lv_at hl 1 rfl) ?_
          refine lv_iload_n hx hb dX11_key_56 rfl (lv_at hl 2 rfl) ?_
          refine lv_iload_n hx hb dX11_key_57 rfl (lv_at hl 3 rfl) ?_
          refine lv_iload hx hb dX11_key_58 (lv_at hl 4 rfl) ?_
          refine g_cv (As := [.int (iI a1), .int (iI a2), .int (iI a3), .int (iI a4)]) (rest := []) (n := 4) C hml (m_X11_keyOf l D k A ad hD (va_up (va_up v 0 0) 1 0) (va_up f 37 (f 37)) (va_up g 1 (g 1)) a1 a2 a3 a4 (by omega) (by omega) (by omega) (by omega) (show rpOk (v 13) (f 9) from hrp (by omega)) (show 0 ≤ a1 ∧ a1 ≤ 3 from by omega) (show 0 ≤ a4 ∧ a4 < 4 from by omega)) mM_X11_393 mI_X11_keyOf mE_X11_keyOf mN_X11 mC_X11_keyOf (by decide +kernel) 0 (ci := 11) rfl rfl hP hS (fun _ h => h) ⟨Nat.le_of_ble_eq_true rfl, Nat.le_of_ble_eq_true rfl⟩ ⟨Nat.zero_le _, Nat.zero_le _⟩ hl.1 rfl rfl (Nat.le_of_ble_eq_true rfl) dX11_key_60 (fun r_10 v_10 f_10 g_10 H locs hq_10 hP _ hS => ?_)
          obtain ⟨z_10, a37_10, b1_10, rfl, rfl, rfl, rfl⟩ := hq_10
          show W p l e (gRm 4 117) s m args below meth c _ _ 0 0 Q (F0 m 63 ls [.long (iL z_10)])
          have hP : gWd D (mdT k ad) (va_up (va_up v 0 0) 1 0) (va_up f 37 a37_10) (va_up g 1 b1_10) H := ⟨hP.1, (gF_up (V := mdV) (F := mdF) (gR_up (V := mdV) (F := mdF) (gR_up (V := mdV) (F := mdF) ⟨hok.1, hok.2⟩ 0 (hP.2.1 0)) 1 (hP.2.1 1)) 37 (hP.2.2 37))⟩
          exact g_lret hQ C hr hlocks hP hS dX11_key_63 ⟨z_10, 0, 0, a37_10, b1_10, rfl, rfl, rfl, rfl⟩
        · refine lv_aload_n hx hb dX11_key_47 rfl (lv_at hl 0 rfl) ?_
          refine lv_iconst (v := iI 2) hx hb dX11_key_48 rfl ?_
          refine g_cv (As := [.int (iI 2)]) (rest := []) (n := 1) C hml (m_X11_refuse l D k A ad hD (va_up (va_up v 0 0) 1 0) (va_up f 37 (f 37)) (va_up g 1 (g 1)) 2 (by decide) (show 0 ≤ (2 : Int) ∧ (2 : Int) ≤ 10 from by omega)) mM_X11_295 mI_X11_refuse mE_X11_refuse mN_X11 mC_X11_refuse (by decide +kernel) 0 (ci := 11) rfl rfl hP hS (fun _ h => h) ⟨Nat.le_of_ble_eq_true rfl, Nat.le_of_ble_eq_true rfl⟩ ⟨Nat.zero_le _, Nat.zero_le _⟩ hl.1 rfl rfl (Nat.le_of_ble_eq_true rfl) dX11_key_49 (fun r_11 v_11 f_11 g_11 H locs hq_11 hP _ hS => ?_)
          obtain ⟨rfl, rfl, rfl, rfl⟩ := hq_11
          show W p l e (gRm 4 117) s m args below meth c _ _ 0 0 Q (F0 m 52 ls [.int (iI (-1))])
          have hP : gWd D (mdT k ad) (va_up (va_up v 0 (2 : Int)) 1 0) (va_up f 37 (f 37)) (va_up g 1 (g 1)) H := ⟨hP.1, (gF_up (V := mdV) (F := mdF) (gR_up (V := mdV) (F := mdF) (gR_up (V := mdV) (F := mdF) ⟨hok.1, hok.2⟩ 0 (hP.2.1 0)) 1 (hP.2.1 1)) 37 (hP.2.2 37))⟩
          refine gi_i2l hx hb (by decide) dX11_key_52 ?_
          exact g_lret hQ C hr hlocks hP hS dX11_key_53 ⟨(-1), (2 : Int), 0, (f 37), (g 1), rfl, rfl, rfl, rfl⟩
      · refine lv_aload_n hx hb dX11_key_33 rfl (lv_at hl 0 rfl) ?_
        refine lv_iconst (v := iI 1) hx hb dX11_key_34 rfl ?_
        refine g_cv (As := [.int (iI 1)]) (rest := []) (n := 1) C hml (m_X11_refuse l D k A ad hD (va_up (va_up v 0 0) 1 0) (va_up f 37 (f 37)) (va_up g 1 (g 1)) 1 (by decide) (show 0 ≤ (1 : Int) ∧ (1 : Int) ≤ 10 from by omega)) mM_X11_295 mI_X11_refuse mE_X11_refuse mN_X11 mC_X11_refuse (by decide +kernel) 0 (ci := 11) rfl rfl hP hS (fun _ h => h) ⟨Nat.le_of_ble_eq_true rfl, Nat.le_of_ble_eq_true rfl⟩ ⟨Nat.zero_le _, Nat.zero_le _⟩ hl.1 rfl rfl (Nat.le_of_ble_eq_true rfl) dX11_key_35 (fun r_12 v_12 f_12 g_12 H locs hq_12 hP _ hS => ?_)
        obtain ⟨rfl, rfl, rfl, rfl⟩ := hq_12
        show W p l e (gRm 4 117) s m args below meth c _ _ 0 0 Q (F0 m 38 ls [.int (iI (-1))])
        have hP : gWd D (mdT k ad) (va_up (va_up v 0 (1 : Int)) 1 0) (va_up f 37 (f 37)) (va_up g 1 (g 1)) H := ⟨hP.1, (gF_up (V := mdV) (F := mdF) (gR_up (V := mdV) (F := mdF) (gR_up (V := mdV) (F := mdF) ⟨hok.1, hok.2⟩ 0 (hP.2.1 0)) 1 (hP.2.1 1)) 37 (hP.2.2 37))⟩
        refine gi_i2l hx hb (by decide) dX11_key_38 ?_
        exact g_lret hQ C hr hlocks hP hS dX11_key_39 ⟨(-1), (1 : Int), 0, (f 37), (g 1), rfl, rfl, rfl, rfl⟩

set_option maxHeartbeats 4000000 in
set_option maxRecDepth 100000 in
theorem m_X11_isAhead (l : Launch) (D : va_G) (k : Nat → ClassId) (A : Nat → Prop) (ad : Nat → Nat) (hD : mdD A k ad) (v : gV) (f g : gF) (a1 : Int) (a2 : Int) (a3 : Int) (a4 : Int) (h_a1 : inR a1) (h_a2 : inR a2) (h_a3 : inR a3) (h_a4 : inR a4) (hrp : rpOk (v 13) (f 9)) (h1 : 0 ≤ a1 ∧ a1 ≤ 3) : GM l D k A (mdT k ad) yX11_isAhead cX11_isAhead 11 (some .boolean) 4 117 [.ref (ad 0), .int (iI a1), .int (iI a2), .int (iI a3), .int (iI a4)] v f g (fun r v1 f1 g1 => ∃ (z : Int) (a37_ : Int → Int) (b1_ : Int → Int), r = some (.int (iI z)) ∧ v = v1 ∧ (va_up f 37 a37_) = f1 ∧ (va_up g 1 b1_) = g1 ∧ (0 ≤ z ∧ z ≤ 1)) := by
  refine GM.of (by decide) (Nat.le_of_ble_eq_true rfl) ?_
  intro p e s m args below meth c Q ls hQ C hml hr hlocks hP hl
  have hx := C.1
  have hb := C.2.1
  have hok := hP.2
  have hS : va_S A s.heap s.heap [] := va_S.rf
  have hl : lv_has ls 11 [(0, .ref (ad 0)), (1, .int (iI a1)), (2, .int (iI a2)), (3, .int (iI a3)), (4, .int (iI a4))] := hl
  have hP : gWd D (mdT k ad) v (va_up f 37 (f 37)) (va_up g 1 (g 1)) s.heap := by rw [va_id, va_id]; exact hP
  have r_1 : 0 ≤ (v 14) ∧ (v 14) ≤ 4 := hok.1 14
  refine lv_iload_n hx hb dX11_isAhead_0 rfl (lv_at hl 1 rfl) ?_
  refine lv_istore (lv' := [(5, .int (iI a1)), (0, .ref (ad 0)), (1, .int (iI a1)), (2, .int (iI a2)), (3, .int (iI a3)), (4, .int (iI a4))]) hx hb dX11_isAhead_1 hl (by decide) rfl (fun ls hl => ?_)
  have L_2 : ∀ (n : Nat) (x5 : Int) (c37_2 : Int → Int) (d1_2 : Int → Int) (H : Heap) (locs : List Loc) (ls : Array Slot), x5 + 1 < (n : Int) → ((-1) ≤ x5 ∧ x5 ≤ a1) → gWd D (mdT k ad) v (va_up f 37 c37_2) (va_up g 1 d1_2) H → va_S A s.heap H locs → lv_has ls 11 [(0, .ref (ad 0)), (1, .int (iI a1)), (2, .int (iI a2)), (3, .int (iI a3)), (4, .int (iI a4)), (5, .int (iI x5))] → W p l e (gRm 4 117) s m args below meth c H locs 0 0 Q (F0 m 3 ls []) := by
    intro n
    induction n with
    | zero =>
      intro x5 c37_2 d1_2 H locs ls hn_2 i2_0 hP hS hl
      exfalso; omega
    | succ n ih_3 =>
      intro x5 c37_2 d1_2 H locs ls hn_2 i2_0 hP hS hl
      refine lv_iload hx hb dX11_isAhead_3 (lv_at hl 5 rfl) ?_
      refine gi_zlt (tgt := 120) hx hb dX11_isAhead_5 (by decide) (by omega) (fun c_3 => ?_) (fun c_3 => ?_)
      · refine lv_iconst (v := iI 0) hx hb dX11_isAhead_120 rfl ?_
        exact g_zret hQ C hr hlocks (by decide) hP hS dX11_isAhead_121 ⟨0, c37_2, d1_2, rfl, rfl, rfl, rfl, (by first | omega | (split <;> omega))⟩
      · refine lv_iconst (v := iI 0) hx hb dX11_isAhead_8 rfl ?_
        refine lv_istore (lv' := [(6, .int (iI 0)), (0, .ref (ad 0)), (1, .int (iI a1)), (2, .int (iI a2)), (3, .int (iI a3)), (4, .int (iI a4)), (5, .int (iI x5))]) hx hb dX11_isAhead_9 hl (by decide) rfl (fun ls hl => ?_)
        have L_4 : ∀ (n : Nat) (x6 : Int) (c37_4 : Int → Int) (d1_4 : Int → Int) (H : Heap) (locs : List Loc) (ls : Array Slot), 4 - x6 < (n : Int) → (0 ≤ x6 ∧ x6 ≤ (v 14)) → gWd D (mdT k ad) v (va_up f 37 c37_4) (va_up g 1 d1_4) H → va_S A s.heap H locs → lv_has ls 11 [(0, .ref (ad 0)), (1, .int (iI a1)), (2, .int (iI a2)), (3, .int (iI a3)), (4, .int (iI a4)), (5, .int (iI x5)), (6, .int (iI x6))] → W p l e (gRm 4 117) s m args below meth c H locs 0 0 Q (F0 m 11 ls []) := by
          intro n
          induction n with
          | zero =>
            intro x6 c37_4 d1_4 H locs ls hn_4 i4_0 hP hS hl
            exfalso; omega
          | succ n ih_11 =>
            intro x6 c37_4 d1_4 H locs ls hn_4 i4_0 hP hS hl
            refine lv_iload hx hb dX11_isAhead_11 (lv_at hl 6 rfl) ?_
            refine lv_aload_n hx hb dX11_isAhead_13 rfl (lv_at hl 0 rfl) ?_
            refine mdG_keys C hP mF_X11_307 dX11_isAhead_14 ?_
            refine gi_cge (tgt := 100) hx hb dX11_isAhead_17 (by decide) (by omega) (by omega) (fun c_5 => ?_) (fun c_5 => ?_)
            · refine lv_aload_n hx hb dX11_isAhead_100 rfl (lv_at hl 0 rfl) ?_
              refine mdG_goesBack C hP mF_X11_310 dX11_isAhead_101 ?_
              have r_6 : 0 ≤ (v 18) ∧ (v 18) ≤ 1 := hok.1 18
              refine gi_zeq (tgt := 114) hx hb dX11_isAhead_104 (by decide) (by omega) (fun c_7 => ?_) (fun c_7 => ?_)
              · refine lv_iconst (v := iI (-1)) hx hb dX11_isAhead_114 rfl ?_
                refine lv_istore (lv' := [(5, .int (iI (-1))), (0, .ref (ad 0)), (1, .int (iI a1)), (2, .int (iI a2)), (3, .int (iI a3)), (4, .int (iI a4)), (6, .int (iI x6))]) hx hb dX11_isAhead_115 hl (by decide) rfl (fun ls hl => ?_)
                refine lv_goto (tgt := 3) hx hb dX11_isAhead_117 (by decide) ?_
                exact ih_3 (-1) c37_4 d1_4 _ _ _ (by omega) (by omega) hP hS (lv_sub hl [1, 2, 3, 4, 5, 0] rfl)
              · refine lv_iload hx hb dX11_isAhead_107 (lv_at hl 5 rfl) ?_
                refine lv_iconst (v := iI 1) hx hb dX11_isAhead_109 rfl ?_
                refine gi_sub (z := (x5 - 1)) hx hb dX11_isAhead_110 rfl ?_
                refine lv_goto (tgt := 115) hx hb dX11_isAhead_111 (by decide) ?_
                refine lv_istore (lv' := [(5, .int (iI (x5 - 1))), (0, .ref (ad 0)), (1, .int (iI a1)), (2, .int (iI a2)), (3, .int (iI a3)), (4, .int (iI a4)), (6, .int (iI x6))]) hx hb dX11_isAhead_115 hl (by decide) rfl (fun ls hl => ?_)
                refine lv_goto (tgt := 3) hx hb dX11_isAhead_117 (by decide) ?_
                exact ih_3 (x5 - 1) c37_4 d1_4 _ _ _ (by omega) (by omega) hP hS (lv_sub hl [1, 2, 3, 4, 5, 0] rfl)
            · refine lv_aload_n hx hb dX11_isAhead_20 rfl (lv_at hl 0 rfl) ?_
              refine lv_iload hx hb dX11_isAhead_21 (lv_at hl 5 rfl) ?_
              refine lv_iload_n hx hb dX11_isAhead_23 rfl (lv_at hl 2 rfl) ?_
              refine lv_iload hx hb dX11_isAhead_24 (lv_at hl 4 rfl) ?_
              refine lv_iload hx hb dX11_isAhead_26 (lv_at hl 6 rfl) ?_
              refine g_cv (As := [.int (iI x5), .int (iI a2), .int (iI a4), .int (iI x6)]) (rest := []) (n := 4) C hml (m_X11_keyOf l D k A ad hD v (va_up f 37 c37_4) (va_up g 1 d1_4) x5 a2 a4 x6 (by omega) (by omega) (by omega) (by omega) (show rpOk (v 13) (f 9) from hrp) (show 0 ≤ x5 ∧ x5 ≤ 3 from by omega) (show 0 ≤ x6 ∧ x6 < 4 from by omega)) mM_X11_393 mI_X11_keyOf mE_X11_keyOf mN_X11 mC_X11_keyOf (by decide +kernel) 0 (ci := 11) rfl rfl hP hS (fun _ h => h) ⟨Nat.le_of_ble_eq_true rfl, Nat.le_of_ble_eq_true rfl⟩ ⟨Nat.zero_le _, Nat.zero_le _⟩ hl.1 rfl rfl (Nat.le_of_ble_eq_true rfl) dX11_isAhead_28 (fun r_8 v_8 f_8 g_8 H locs hq_8 hP _ hS => ?_)
              obtain ⟨z_8, a37_8, b1_8, rfl, rfl, rfl, rfl⟩ := hq_8
              show W p l e (gRm 4 117) s m args below meth c _ _ 0 0 Q (F0 m 31 ls [.long (iL z_8)])
              have hP : gWd D (mdT k ad) v (va_up f 37 a37_8) (va_up g 1 b1_8) H := ⟨hP.1, (gF_up (V := mdV) (F := mdF) ⟨hok.1, hok.2⟩ 37 (hP.2.2 37))⟩
              refine lv_lstore (lv' := [(7, .long (iL z_8)), (0, .ref (ad 0)), (1, .int (iI a1)), (2, .int (iI a2)), (3, .int (iI a3)), (4, .int (iI a4)), (5, .int (iI x5)), (6, .int (iI x6))]) hx hb dX11_isAhead_31 hl (by decide) rfl (fun ls hl => ?_)
              refine lv_aload_n hx hb dX11_isAhead_33 rfl (lv_at hl 1 rfl) ?_
              refine lv_iload hx hb dX11_isAhead_34 (lv_at hl 6 rfl) ?_
              refine lv_iload_n hx hb dX11_isAhead_36 rfl (lv_at hl 4 rfl) ?_
              refine lv_iload hx hb dX11_isAhead_37 (lv_at hl 5 rfl) ?_
              refine lv_iload hx hb dX11_isAhead_39 (lv_at hl 7 rfl) ?_
              refine g_cv (As := [.int (iI x5), .int (iI a3), .int (iI a4), .int (iI x6)]) (rest := []) (n := 4) C hml (m_X11_keyOf l D k A ad hD v (va_up f 37 a37_8) (va_up g 1 b1_8) x5 a3 a4 x6 (by omega) (by omega) (by omega) (by omega) (show rpOk (v 13) (f 9) from hrp) (show 0 ≤ x5 ∧ x5 ≤ 3 from by omega) (show 0 ≤ x6 ∧ x6 < 4 from by omega)) mM_X11_393 mI_X11_keyOf mE_X11_keyOf mN_X11 mC_X11_keyOf (by decide +kernel) 0 (ci := 11) rfl rfl hP hS (fun _ h => h) ⟨Nat.le_of_ble_eq_true rfl, Nat.le_of_ble_eq_true rfl⟩ ⟨Nat.zero_le _, Nat.zero_le _⟩ hl.1 rfl rfl (Nat.le_of_ble_eq_true rfl) dX11_isAhead_41 (fun r_9 v_9 f_9 g_9 H locs hq_9 hP _ hS => ?_)
              obtain ⟨z_9, a37_9, b1_9, rfl, rfl, rfl, rfl⟩ := hq_9
              show W p l e (gRm 4 117) s m args below meth c _ _ 0 0 Q (F0 m 44 ls [.long (iL z_9)])
              have hP : gWd D (mdT k ad) v (va_up f 37 a37_9) (va_up g 1 b1_9) H := ⟨hP.1, (gF_up (V := mdV) (F := mdF) ⟨hok.1, hok.2⟩ 37 (hP.2.2 37))⟩
              refine lv_lstore (lv' := [(9, .long (iL z_9)), (7, .long (iL z_8)), (0, .ref (ad 0)), (1, .int (iI a1)), (2, .int (iI a2)), (3, .int (iI a3)), (4, .int (iI a4)), (5, .int (iI x5)), (6, .int (iI x6))]) hx hb dX11_isAhead_44 hl (by decide) rfl (fun ls hl => ?_)
              refine lv_lload hx hb dX11_isAhead_46 (lv_at hl 1 rfl) ?_
              refine lv_lload hx hb dX11_isAhead_48 (lv_at hl 0 rfl) ?_
              refine gl_cmp hx hb dX11_isAhead_50 (fun x_10 hx_10 => ?_)
              refine gi_zeq (tgt := 94) hx hb dX11_isAhead_51 (by decide) (by omega) (fun c_11 => ?_) (fun c_11 => ?_)
              · refine lv_iinc (v := iI (x6 + 1)) (lv' := [(6, .int (iI (x6 + 1))), (9, .long (iL z_9)), (7, .long (iL z_8)), (0, .ref (ad 0)), (1, .int (iI a1)), (2, .int (iI a2)), (3, .int (iI a3)), (4, .int (iI a4)), (5, .int (iI x5))]) hx hb dX11_isAhead_94 hl (k := 8) rfl (by show iI _ + iI 1 = _; rw [iI_add]) (by decide) rfl (fun ls hl => ?_)
                refine lv_goto (tgt := 11) hx hb dX11_isAhead_97 (by decide) ?_
                exact ih_11 (x6 + 1) a37_9 b1_9 _ _ _ (by omega) (by omega) hP hS (lv_sub hl [3, 4, 5, 6, 7, 8, 0] rfl)
              · refine lv_aload_n hx hb dX11_isAhead_54 rfl (lv_at hl 2 rfl) ?_
                refine mdG_isUp C hP mF_X11_63 dX11_isAhead_55 ?_
                refine lv_iload hx hb dX11_isAhead_58 (lv_at hl 8 rfl) ?_
                refine mdL_isUp C hP (by omega) (by omega) dX11_isAhead_60 ?_
                show W p l e (gRm 4 117) s m args below meth c _ _ 0 0 Q (F0 m 61 ls [.int (iI (f 15 x6))])
                have r_12 : 0 ≤ (f 15 x6) ∧ (f 15 x6) ≤ 1 := hP.2.2 15 x6
                refine gi_zeq (tgt := 80) hx hb dX11_isAhead_61 (by decide) (by omega) (fun c_13 => ?_) (fun c_13 => ?_)
                · refine lv_lload hx hb dX11_isAhead_80 (lv_at hl 1 rfl) ?_
                  refine lv_lload hx hb dX11_isAhead_82 (lv_at hl 0 rfl) ?_
                  refine gl_cmp hx hb dX11_isAhead_84 (fun x_14 hx_14 => ?_)
                  refine gi_zle (tgt := 92) hx hb dX11_isAhead_85 (by decide) (by omega) (fun c_15 => ?_) (fun c_15 => ?_)
                  · refine lv_iconst (v := iI 0) hx hb dX11_isAhead_92 rfl ?_
                    exact g_zret hQ C hr hlocks (by decide) hP hS dX11_isAhead_93 ⟨0, a37_9, b1_9, rfl, rfl, rfl, rfl, (by first | omega | (split <;> omega))⟩
                  · refine lv_iconst (v := iI 1) hx hb dX11_isAhead_88 rfl ?_
                    refine lv_goto (tgt := 93) hx hb dX11_isAhead_89 (by decide) ?_
                    exact g_zret hQ C hr hlocks (by decide) hP hS dX11_isAhead_93 ⟨1, a37_9, b1_9, rfl, rfl, rfl, rfl, (by first | omega | (split <;> omega))⟩
                · refine lv_lload hx hb dX11_isAhead_64 (lv_at hl 1 rfl) ?_
                  refine lv_lload hx hb dX11_isAhead_66 (lv_at hl 0 rfl) ?_
                  refine gl_cmp hx hb dX11_isAhead_68 (fun x_16 hx_16 => ?_)
                  refine gi_zge (tgt := 76) hx hb dX11_isAhead_69 (by decide) (by omega) (fun c_17 => ?_) (fun c_17 => ?_)
                  · refine lv_iconst (v := iI 0) hx hb dX11_isAhead_76 rfl ?_
                    refine lv_goto (tgt := 93) hx hb dX11_isAhead_77 (by decide) ?_
                    exact g_zret hQ C hr hlocks (by decide) hP hS dX11_isAhead_93 ⟨0, a37_9, b1_9, rfl, rfl, rfl, rfl, (by first | omega | (split <;> omega))⟩
                  · refine lv_iconst (v := iI 1) hx hb dX11_isAhead_72 rfl ?_
                    refine lv_goto (tgt := 93) hx hb dX11_isAhead_73 (by decide) ?_
                    exact g_zret hQ C hr hlocks (by decide) hP hS dX11_isAhead_93 ⟨1, a37_9, b1_9, rfl, rfl, rfl, rfl, (by first | omega | (split <;> omega))⟩
        exact L_4 5 0 c37_2 d1_2 _ _ _ (by omega) (by omega) hP hS (lv_sub hl [1, 2, 3, 4, 5, 6, 0] rfl)
  exact L_2 5 a1 (f 37) (g 1) _ _ _ (by omega) (by omega) hP hS (lv_sub hl [1, 2, 3, 4, 5, 0] rfl)

set_option maxHeartbeats 4000000 in
set_option maxRecDepth 100000 in
theorem m_X11_rankOf (l : Launch) (D : va_G) (k : Nat → ClassId) (A : Nat → Prop) (ad : Nat → Nat) (hD : mdD A k ad) (v : gV) (f g : gF) (a1 : Int) (a2 : Int) (a3 : Int) (h_a1 : inR a1) (h_a2 : inR a2) (h_a3 : inR a3) (hrp : rpOk (v 13) (f 9)) (h1 : 0 ≤ a1 ∧ a1 ≤ 3) : GM l D k A (mdT k ad) yX11_rankOf cX11_rankOf 6 (some .int) 5 147 [.ref (ad 0), .int (iI a1), .int (iI a2), .int (iI a3)] v f g (fun r v1 f1 g1 => ∃ (z : Int) (a37_ : Int → Int) (b1_ : Int → Int), r = some (.int (iI z)) ∧ v = v1 ∧ (va_up f 37 a37_) = f1 ∧ (va_up g 1 b1_) = g1 ∧ (1 ≤ z ∧ z ≤ 17)) := by
  refine GM.of (by decide) (Nat.le_of_ble_eq_true rfl) ?_
  intro p e s m args below meth c Q ls hQ C hml hr hlocks hP hl
  have hx := C.1
  have hb := C.2.1
  have hok := hP.2
  have hS : va_S A s.heap s.heap [] := va_S.rf
  have hl : lv_has ls 6 [(0, .ref (ad 0)), (1, .int (iI a1)), (2, .int (iI a2)), (3, .int (iI a3))] := hl
  have hP : gWd D (mdT k ad) v (va_up f 37 (f 37)) (va_up g 1 (g 1)) s.heap := by rw [va_id, va_id]; exact hP
  have r_1 : 0 ≤ (v 22) ∧ (v 22) ≤ 16 := hok.1 22
  refine lv_iconst (v := iI 1) hx hb dX11_rankOf_0 rfl ?_
  refine lv_istore (lv' := [(4, .int (iI 1)), (0, .ref (ad 0)), (1, .int (iI a1)), (2, .int (iI a2)), (3, .int (iI a3))]) hx hb dX11_rankOf_1 hl (by decide) rfl (fun ls hl => ?_)
  refine lv_iconst (v := iI 0) hx hb dX11_rankOf_3 rfl ?_
  refine lv_istore (lv' := [(5, .int (iI 0)), (4, .int (iI 1)), (0, .ref (ad 0)), (1, .int (iI a1)), (2, .int (iI a2)), (3, .int (iI a3))]) hx hb dX11_rankOf_4 hl (by decide) rfl (fun ls hl => ?_)
  have L_2 : ∀ (n : Nat) (x4 : Int) (x5 : Int) (c37_2 : Int → Int) (d1_2 : Int → Int) (H : Heap) (locs : List Loc) (ls : Array Slot), 16 - x5 < (n : Int) → (0 ≤ x5 ∧ x5 ≤ (v 22)) → (1 ≤ x4 ∧ x4 ≤ x5 + 1) → gWd D (mdT k ad) v (va_up f 37 c37_2) (va_up g 1 d1_2) H → va_S A s.heap H locs → lv_has ls 6 [(0, .ref (ad 0)), (1, .int (iI a1)), (2, .int (iI a2)), (3, .int (iI a3)), (4, .int (iI x4)), (5, .int (iI x5))] → W p l e (gRm 5 147) s m args below meth c H locs 0 0 Q (F0 m 6 ls []) := by
    intro n
    induction n with
    | zero =>
      intro x4 x5 c37_2 d1_2 H locs ls hn_2 i2_0 i2_1 hP hS hl
      exfalso; omega
    | succ n ih_6 =>
      intro x4 x5 c37_2 d1_2 H locs ls hn_2 i2_0 i2_1 hP hS hl
      refine lv_iload hx hb dX11_rankOf_6 (lv_at hl 5 rfl) ?_
      refine lv_aload_n hx hb dX11_rankOf_8 rfl (lv_at hl 0 rfl) ?_
      refine mdG_climbers C hP mF_X11_313 dX11_rankOf_9 ?_
      refine gi_cge (tgt := 64) hx hb dX11_rankOf_12 (by decide) (by omega) (by omega) (fun c_3 => ?_) (fun c_3 => ?_)
      · refine lv_iload hx hb dX11_rankOf_64 (lv_at hl 4 rfl) ?_
        exact g_iret hQ C hr hlocks hP hS dX11_rankOf_66 ⟨x4, c37_2, d1_2, rfl, rfl, rfl, rfl, (by first | omega | (split <;> omega))⟩
      · refine lv_iload hx hb dX11_rankOf_15 (lv_at hl 4 rfl) ?_
        refine lv_iload hx hb dX11_rankOf_17 (lv_at hl 5 rfl) ?_
        refine lv_iload_n hx hb dX11_rankOf_19 rfl (lv_at hl 2 rfl) ?_
        refine gi_ceq (tgt := 54) hx hb dX11_rankOf_20 (by decide) (by omega) (by omega) (fun c_4 => ?_) (fun c_4 => ?_)
        · refine lv_iconst (v := iI 0) hx hb dX11_rankOf_54 rfl ?_
          refine gi_add (z := x4) hx hb dX11_rankOf_55 (by omega) ?_
          refine lv_istore (lv' := [(4, .int (iI x4)), (0, .ref (ad 0)), (1, .int (iI a1)), (2, .int (iI a2)), (3, .int (iI a3)), (5, .int (iI x5))]) hx hb dX11_rankOf_56 hl (by decide) rfl (fun ls hl => ?_)
          refine lv_iinc (v := iI (x5 + 1)) (lv' := [(5, .int (iI (x5 + 1))), (4, .int (iI x4)), (0, .ref (ad 0)), (1, .int (iI a1)), (2, .int (iI a2)), (3, .int (iI a3))]) hx hb dX11_rankOf_58 hl (k := 5) rfl (by show iI _ + iI 1 = _; rw [iI_add]) (by decide) rfl (fun ls hl => ?_)
          refine lv_goto (tgt := 6) hx hb dX11_rankOf_61 (by decide) ?_
          exact ih_6 x4 (x5 + 1) c37_2 d1_2 _ _ _ (by omega) (by omega) (by omega) hP hS (lv_sub hl [2, 3, 4, 5, 1, 0] rfl)
        · refine lv_aload_n hx hb dX11_rankOf_23 rfl (lv_at hl 0 rfl) ?_
          refine mdG_isIn C hP mF_X11_85 dX11_rankOf_24 ?_
          refine lv_bipush (v := iI 16) hx hb dX11_rankOf_27 (by decide) ?_
          refine lv_iload_n hx hb dX11_rankOf_29 rfl (lv_at hl 1 rfl) ?_
          refine gi_mul (z := (16 * a1)) hx hb dX11_rankOf_30 rfl ?_
          refine lv_iload hx hb dX11_rankOf_31 (lv_at hl 5 rfl) ?_
          refine gi_add (z := ((16 * a1) + x5)) hx hb dX11_rankOf_33 rfl ?_
          refine mdL_isIn C hP (by omega) (by omega) dX11_rankOf_34 ?_
          show W p l e (gRm 5 147) s m args below meth c _ _ 0 0 Q (F0 m 35 ls [.int (iI (f 21 ((16 * a1) + x5))), .int (iI x4)])
          have r_5 : 0 ≤ (f 21 ((16 * a1) + x5)) ∧ (f 21 ((16 * a1) + x5)) ≤ 1 := hP.2.2 21 ((16 * a1) + x5)
          refine gi_zeq (tgt := 54) hx hb dX11_rankOf_35 (by decide) (by omega) (fun c_6 => ?_) (fun c_6 => ?_)
          · refine lv_iconst (v := iI 0) hx hb dX11_rankOf_54 rfl ?_
            refine gi_add (z := x4) hx hb dX11_rankOf_55 (by omega) ?_
            refine lv_istore (lv' := [(4, .int (iI x4)), (0, .ref (ad 0)), (1, .int (iI a1)), (2, .int (iI a2)), (3, .int (iI a3)), (5, .int (iI x5))]) hx hb dX11_rankOf_56 hl (by decide) rfl (fun ls hl => ?_)
            refine lv_iinc (v := iI (x5 + 1)) (lv' := [(5, .int (iI (x5 + 1))), (4, .int (iI x4)), (0, .ref (ad 0)), (1, .int (iI a1)), (2, .int (iI a2)), (3, .int (iI a3))]) hx hb dX11_rankOf_58 hl (k := 5) rfl (by show iI _ + iI 1 = _; rw [iI_add]) (by decide) rfl (fun ls hl => ?_)
            refine lv_goto (tgt := 6) hx hb dX11_rankOf_61 (by decide) ?_
            exact ih_6 x4 (x5 + 1) c37_2 d1_2 _ _ _ (by omega) (by omega) (by omega) hP hS (lv_sub hl [2, 3, 4, 5, 1, 0] rfl)
          · refine lv_aload_n hx hb dX11_rankOf_38 rfl (lv_at hl 0 rfl) ?_
            refine lv_iload_n hx hb dX11_rankOf_39 rfl (lv_at hl 1 rfl) ?_
            refine lv_iload hx hb dX11_rankOf_40 (lv_at hl 5 rfl) ?_
            refine lv_iload_n hx hb dX11_rankOf_42 rfl (lv_at hl 2 rfl) ?_
            refine lv_iload_n hx hb dX11_rankOf_43 rfl (lv_at hl 3 rfl) ?_
            refine g_cv (As := [.int (iI a1), .int (iI x5), .int (iI a2), .int (iI a3)]) (rest := [.int (iI x4)]) (n := 4) C hml (m_X11_isAhead l D k A ad hD v (va_up f 37 c37_2) (va_up g 1 d1_2) a1 x5 a2 a3 (by omega) (by omega) (by omega) (by omega) (show rpOk (v 13) (f 9) from hrp) (show 0 ≤ a1 ∧ a1 ≤ 3 from by omega)) mM_X11_397 mI_X11_isAhead mE_X11_isAhead mN_X11 mC_X11_isAhead (by decide +kernel) 0 (ci := 11) rfl rfl hP hS (fun _ h => h) ⟨Nat.le_of_ble_eq_true rfl, Nat.le_of_ble_eq_true rfl⟩ ⟨Nat.zero_le _, Nat.zero_le _⟩ hl.1 rfl rfl (Nat.le_of_ble_eq_true rfl) dX11_rankOf_44 (fun r_7 v_7 f_7 g_7 H locs hq_7 hP _ hS => ?_)
            obtain ⟨z_7, a37_7, b1_7, rfl, rfl, rfl, rfl, p0_7⟩ := hq_7
            show W p l e (gRm 5 147) s m args below meth c _ _ 0 0 Q (F0 m 47 ls [.int (iI z_7), .int (iI x4)])
            have hP : gWd D (mdT k ad) v (va_up f 37 a37_7) (va_up g 1 b1_7) H := ⟨hP.1, (gF_up (V := mdV) (F := mdF) ⟨hok.1, hok.2⟩ 37 (hP.2.2 37))⟩
            replace p0_7 : 0 ≤ z_7 ∧ z_7 ≤ 1 := p0_7
            refine gi_zeq (tgt := 54) hx hb dX11_rankOf_47 (by decide) (by omega) (fun c_8 => ?_) (fun c_8 => ?_)
            · refine lv_iconst (v := iI 0) hx hb dX11_rankOf_54 rfl ?_
              refine gi_add (z := x4) hx hb dX11_rankOf_55 (by omega) ?_
              refine lv_istore (lv' := [(4, .int (iI x4)), (0, .ref (ad 0)), (1, .int (iI a1)), (2, .int (iI a2)), (3, .int (iI a3)), (5, .int (iI x5))]) hx hb dX11_rankOf_56 hl (by decide) rfl (fun ls hl => ?_)
              refine lv_iinc (v := iI (x5 + 1)) (lv' := [(5, .int (iI (x5 + 1))), (4, .int (iI x4)), (0, .ref (ad 0)), (1, .int (iI a1)), (2, .int (iI a2)), (3, .int (iI a3))]) hx hb dX11_rankOf_58 hl (k := 5) rfl (by show iI _ + iI 1 = _; rw [iI_add]) (by decide) rfl (fun ls hl => ?_)
              refine lv_goto (tgt := 6) hx hb dX11_rankOf_61 (by decide) ?_
              exact ih_6 x4 (x5 + 1) a37_7 b1_7 _ _ _ (by omega) (by omega) (by omega) hP hS (lv_sub hl [2, 3, 4, 5, 1, 0] rfl)
            · refine lv_iconst (v := iI 1) hx hb dX11_rankOf_50 rfl ?_
              refine lv_goto (tgt := 55) hx hb dX11_rankOf_51 (by decide) ?_
              refine gi_add (z := (x4 + 1)) hx hb dX11_rankOf_55 rfl ?_
              refine lv_istore (lv' := [(4, .int (iI (x4 + 1))), (0, .ref (ad 0)), (1, .int (iI a1)), (2, .int (iI a2)), (3, .int (iI a3)), (5, .int (iI x5))]) hx hb dX11_rankOf_56 hl (by decide) rfl (fun ls hl => ?_)
              refine lv_iinc (v := iI (x5 + 1)) (lv' := [(5, .int (iI (x5 + 1))), (4, .int (iI (x4 + 1))), (0, .ref (ad 0)), (1, .int (iI a1)), (2, .int (iI a2)), (3, .int (iI a3))]) hx hb dX11_rankOf_58 hl (k := 5) rfl (by show iI _ + iI 1 = _; rw [iI_add]) (by decide) rfl (fun ls hl => ?_)
              refine lv_goto (tgt := 6) hx hb dX11_rankOf_61 (by decide) ?_
              exact ih_6 (x4 + 1) (x5 + 1) a37_7 b1_7 _ _ _ (by omega) (by omega) (by omega) hP hS (lv_sub hl [2, 3, 4, 5, 1, 0] rfl)
  exact L_2 17 1 0 (f 37) (g 1) _ _ _ (by omega) (by omega) (by omega) hP hS (lv_sub hl [2, 3, 4, 5, 1, 0] rfl)

set_option maxHeartbeats 4000000 in
set_option maxRecDepth 100000 in
theorem m_X11_rank (l : Launch) (D : va_G) (k : Nat → ClassId) (A : Nat → Prop) (ad : Nat → Nat) (hD : mdD A k ad) (v : gV) (f g : gF) (a1 : Int) (a2 : Int) (a3 : Int) (h_a1 : inR a1) (h_a2 : inR a2) (h_a3 : inR a3) (hrp : 0 < (v 12) → rpOk (v 13) (f 9)) : GM l D k A (mdT k ad) yX11_rank cX11_rank 4 (some .int) 6 172 [.ref (ad 0), .int (iI a1), .int (iI a2), .int (iI a3)] v f g (fun r v1 f1 g1 => ∃ (z : Int) (w0 : Int) (w1 : Int) (a37_ : Int → Int) (b1_ : Int → Int), r = some (.int (iI z)) ∧ (va_up (va_up v 0 w0) 1 w1) = v1 ∧ (va_up f 37 a37_) = f1 ∧ (va_up g 1 b1_) = g1 ∧ ((-1) ≤ z ∧ z ≤ 17)) := by
  refine GM.of (by decide) (Nat.le_of_ble_eq_true rfl) ?_
  intro p e s m args below meth c Q ls hQ C hml hr hlocks hP hl
  have hx := C.1
  have hb := C.2.1
  have hok := hP.2
  have hS : va_S A s.heap s.heap [] := va_S.rf
  have hl : lv_has ls 4 [(0, .ref (ad 0)), (1, .int (iI a1)), (2, .int (iI a2)), (3, .int (iI a3))] := hl
  have hP : gWd D (mdT k ad) (va_up (va_up v 0 (v 0)) 1 (v 1)) (va_up f 37 (f 37)) (va_up g 1 (g 1)) s.heap := by rw [va_id, va_id, va_id, va_id]; exact hP
  refine lv_aload_n hx hb dX11_rank_0 rfl (lv_at hl 0 rfl) ?_
  refine lv_iconst (v := iI 0) hx hb dX11_rank_1 rfl ?_
  refine mdP_thrown (v1 := (va_up (va_up v 0 (v 0)) 1 0)) C hP hD hS mF_X11_146 (by decide) rfl (Or.inr (gF_up (V := mdV) (F := mdF) (gR_up (V := mdV) (F := mdF) (gR_up (V := mdV) (F := mdF) ⟨hok.1, hok.2⟩ 0 (hP.2.1 0)) 1 (show 0 ≤ 0 ∧ 0 ≤ 0 from by decide)) 37 (hP.2.2 37))) dX11_rank_2 (fun H locs hP hS => ?_)
  refine lv_aload_n hx hb dX11_rank_5 rfl (lv_at hl 0 rfl) ?_
  refine lv_iconst (v := iI 0) hx hb dX11_rank_6 rfl ?_
  refine mdP_status (v1 := (va_up (va_up v 0 0) 1 0)) C hP hD hS mF_X11_149 (by decide) rfl (Or.inr (gF_up (V := mdV) (F := mdF) (gR_up (V := mdV) (F := mdF) (gR_up (V := mdV) (F := mdF) ⟨hok.1, hok.2⟩ 0 (show 0 ≤ 0 ∧ 0 ≤ 10 from by decide)) 1 (hP.2.1 1)) 37 (hP.2.2 37))) dX11_rank_7 (fun H locs hP hS => ?_)
  refine lv_aload_n hx hb dX11_rank_10 rfl (lv_at hl 0 rfl) ?_
  refine lv_iload_n hx hb dX11_rank_11 rfl (lv_at hl 1 rfl) ?_
  refine lv_iload_n hx hb dX11_rank_12 rfl (lv_at hl 2 rfl) ?_
  refine g_cv (As := [.int (iI a1), .int (iI a2)]) (rest := []) (n := 2) C hml (m_X11_isIn l D k A ad hD (va_up (va_up v 0 0) 1 0) (va_up f 37 (f 37)) (va_up g 1 (g 1)) a1 a2 (by omega) (by omega)) mM_X11_391 mI_X11_isIn mE_X11_isIn mN_X11 mC_X11_isIn (by decide +kernel) 0 (ci := 11) rfl rfl hP hS (fun _ h => h) ⟨Nat.le_of_ble_eq_true rfl, Nat.le_of_ble_eq_true rfl⟩ ⟨Nat.zero_le _, Nat.zero_le _⟩ hl.1 rfl rfl (Nat.le_of_ble_eq_true rfl) dX11_rank_13 (fun r_1 v_1 f_1 g_1 H locs hq_1 hP _ hS => ?_)
  obtain ⟨z_1, rfl, rfl, rfl, rfl, p0_1, p1_1⟩ := hq_1
  show W p l e (gRm 6 172) s m args below meth c _ _ 0 0 Q (F0 m 16 ls [.int (iI z_1)])
  replace p0_1 : z_1 = (if (0 ≤ a1 ∧ a1 < (v 12)) ∧ (0 ≤ a2 ∧ a2 < (v 22)) ∧ (f 21) (16 * a1 + a2) ≠ 0 then 1 else 0) := p0_1
  have w_1 := gif (P := (0 ≤ a1 ∧ a1 < (v 12)) ∧ (0 ≤ a2 ∧ a2 < (v 22)) ∧ (f 21) (16 * a1 + a2) ≠ 0) p0_1
  replace p1_1 : z_1 = 1 → (0 ≤ a1 ∧ a1 ≤ 3) ∧ (0 ≤ a2 ∧ a2 ≤ 15) := p1_1
  have hz_1 : inR z_1 := (by first | omega | (rw [p0_1]; split <;> omega))
  refine gi_zne (tgt := 25) hx hb dX11_rank_16 (by decide) (by omega) (fun c_2 => ?_) (fun c_2 => ?_)
  · refine lv_iload_n hx hb dX11_rank_25 rfl (lv_at hl 3 rfl) ?_
    refine g_cs (As := [.int (iI a3)]) (rest := []) (n := 1) C hml (m_X11_isDay l D k A ad hD (va_up (va_up v 0 0) 1 0) (va_up f 37 (f 37)) (va_up g 1 (g 1)) a3 (by omega)) mM_X11_364 mS_X11_isDay mN_X11 mC_X11_isDay (by decide +kernel) hP hS (fun _ h => h) ⟨Nat.le_of_ble_eq_true rfl, Nat.le_of_ble_eq_true rfl⟩ ⟨Nat.zero_le _, Nat.zero_le _⟩ hl.1 rfl rfl (Nat.le_of_ble_eq_true rfl) dX11_rank_26 (fun r_3 v_3 f_3 g_3 H locs hq_3 hP _ hS => ?_)
    obtain ⟨z_3, rfl, rfl, rfl, rfl, p0_3⟩ := hq_3
    show W p l e (gRm 6 172) s m args below meth c _ _ 0 0 Q (F0 m 29 ls [.int (iI z_3)])
    replace p0_3 : z_3 = (if 0 ≤ a3 ∧ a3 ≤ 999 then 1 else 0) := p0_3
    have w_3 := gif (P := 0 ≤ a3 ∧ a3 ≤ 999) p0_3
    have hz_3 : inR z_3 := (by first | omega | (rw [p0_3]; split <;> omega))
    refine gi_zne (tgt := 38) hx hb dX11_rank_29 (by decide) (by omega) (fun c_4 => ?_) (fun c_4 => ?_)
    · refine lv_aload_n hx hb dX11_rank_38 rfl (lv_at hl 0 rfl) ?_
      refine lv_iload_n hx hb dX11_rank_39 rfl (lv_at hl 1 rfl) ?_
      refine lv_iload_n hx hb dX11_rank_40 rfl (lv_at hl 2 rfl) ?_
      refine lv_iload_n hx hb dX11_rank_41 rfl (lv_at hl 3 rfl) ?_
      refine g_cv (As := [.int (iI a1), .int (iI a2), .int (iI a3)]) (rest := []) (n := 3) C hml (m_X11_rankOf l D k A ad hD (va_up (va_up v 0 0) 1 0) (va_up f 37 (f 37)) (va_up g 1 (g 1)) a1 a2 a3 (by omega) (by omega) (by omega) (show rpOk (v 13) (f 9) from hrp (by omega)) (show 0 ≤ a1 ∧ a1 ≤ 3 from by omega)) mM_X11_401 mI_X11_rankOf mE_X11_rankOf mN_X11 mC_X11_rankOf (by decide +kernel) 0 (ci := 11) rfl rfl hP hS (fun _ h => h) ⟨Nat.le_of_ble_eq_true rfl, Nat.le_of_ble_eq_true rfl⟩ ⟨Nat.zero_le _, Nat.zero_le _⟩ hl.1 rfl rfl (Nat.le_of_ble_eq_true rfl) dX11_rank_42 (fun r_5 v_5 f_5 g_5 H locs hq_5 hP _ hS => ?_)
      obtain ⟨z_5, a37_5, b1_5, rfl, rfl, rfl, rfl, p0_5⟩ := hq_5
      show W p l e (gRm 6 172) s m args below meth c _ _ 0 0 Q (F0 m 45 ls [.int (iI z_5)])
      have hP : gWd D (mdT k ad) (va_up (va_up v 0 0) 1 0) (va_up f 37 a37_5) (va_up g 1 b1_5) H := ⟨hP.1, (gF_up (V := mdV) (F := mdF) (gR_up (V := mdV) (F := mdF) (gR_up (V := mdV) (F := mdF) ⟨hok.1, hok.2⟩ 0 (hP.2.1 0)) 1 (hP.2.1 1)) 37 (hP.2.2 37))⟩
      replace p0_5 : 1 ≤ z_5 ∧ z_5 ≤ 17 := p0_5
      exact g_iret hQ C hr hlocks hP hS dX11_rank_45 ⟨z_5, 0, 0, a37_5, b1_5, rfl, rfl, rfl, rfl, (by first | omega | (split <;> omega))⟩
    · refine lv_aload_n hx hb dX11_rank_32 rfl (lv_at hl 0 rfl) ?_
      refine lv_iconst (v := iI 2) hx hb dX11_rank_33 rfl ?_
      refine g_cv (As := [.int (iI 2)]) (rest := []) (n := 1) C hml (m_X11_refuse l D k A ad hD (va_up (va_up v 0 0) 1 0) (va_up f 37 (f 37)) (va_up g 1 (g 1)) 2 (by decide) (show 0 ≤ (2 : Int) ∧ (2 : Int) ≤ 10 from by omega)) mM_X11_295 mI_X11_refuse mE_X11_refuse mN_X11 mC_X11_refuse (by decide +kernel) 0 (ci := 11) rfl rfl hP hS (fun _ h => h) ⟨Nat.le_of_ble_eq_true rfl, Nat.le_of_ble_eq_true rfl⟩ ⟨Nat.zero_le _, Nat.zero_le _⟩ hl.1 rfl rfl (Nat.le_of_ble_eq_true rfl) dX11_rank_34 (fun r_6 v_6 f_6 g_6 H locs hq_6 hP _ hS => ?_)
      obtain ⟨rfl, rfl, rfl, rfl⟩ := hq_6
      show W p l e (gRm 6 172) s m args below meth c _ _ 0 0 Q (F0 m 37 ls [.int (iI (-1))])
      have hP : gWd D (mdT k ad) (va_up (va_up v 0 (2 : Int)) 1 0) (va_up f 37 (f 37)) (va_up g 1 (g 1)) H := ⟨hP.1, (gF_up (V := mdV) (F := mdF) (gR_up (V := mdV) (F := mdF) (gR_up (V := mdV) (F := mdF) ⟨hok.1, hok.2⟩ 0 (hP.2.1 0)) 1 (hP.2.1 1)) 37 (hP.2.2 37))⟩
      exact g_iret hQ C hr hlocks hP hS dX11_rank_37 ⟨(-1), (2 : Int), 0, (f 37), (g 1), rfl, rfl, rfl, rfl, (by first | omega | (split <;> omega))⟩
  · refine lv_aload_n hx hb dX11_rank_19 rfl (lv_at hl 0 rfl) ?_
    refine lv_iconst (v := iI 1) hx hb dX11_rank_20 rfl ?_
    refine g_cv (As := [.int (iI 1)]) (rest := []) (n := 1) C hml (m_X11_refuse l D k A ad hD (va_up (va_up v 0 0) 1 0) (va_up f 37 (f 37)) (va_up g 1 (g 1)) 1 (by decide) (show 0 ≤ (1 : Int) ∧ (1 : Int) ≤ 10 from by omega)) mM_X11_295 mI_X11_refuse mE_X11_refuse mN_X11 mC_X11_refuse (by decide +kernel) 0 (ci := 11) rfl rfl hP hS (fun _ h => h) ⟨Nat.le_of_ble_eq_true rfl, Nat.le_of_ble_eq_true rfl⟩ ⟨Nat.zero_le _, Nat.zero_le _⟩ hl.1 rfl rfl (Nat.le_of_ble_eq_true rfl) dX11_rank_21 (fun r_7 v_7 f_7 g_7 H locs hq_7 hP _ hS => ?_)
    obtain ⟨rfl, rfl, rfl, rfl⟩ := hq_7
    show W p l e (gRm 6 172) s m args below meth c _ _ 0 0 Q (F0 m 24 ls [.int (iI (-1))])
    have hP : gWd D (mdT k ad) (va_up (va_up v 0 (1 : Int)) 1 0) (va_up f 37 (f 37)) (va_up g 1 (g 1)) H := ⟨hP.1, (gF_up (V := mdV) (F := mdF) (gR_up (V := mdV) (F := mdF) (gR_up (V := mdV) (F := mdF) ⟨hok.1, hok.2⟩ 0 (hP.2.1 0)) 1 (hP.2.1 1)) 37 (hP.2.2 37))⟩
    exact g_iret hQ C hr hlocks hP hS dX11_rank_24 ⟨(-1), (1 : Int), 0, (f 37), (g 1), rfl, rfl, rfl, rfl, (by first | omega | (split <;> omega))⟩

set_option maxHeartbeats 4000000 in
set_option maxRecDepth 100000 in
theorem m_X11_order (l : Launch) (D : va_G) (k : Nat → ClassId) (A : Nat → Prop) (ad : Nat → Nat) (hD : mdD A k ad) (v : gV) (f g : gF) (a1 : Int) (a2 : Int) (h_a1 : inR a1) (h_a2 : inR a2) : GM l D k A (mdT k ad) yX11_order cX11_order 3 (some .int) 1 21 [.ref (ad 0), .int (iI a1), .int (iI a2)] v f g (fun r v1 f1 g1 => ∃ (z : Int) (w0 : Int) (w1 : Int), r = some (.int (iI z)) ∧ (va_up (va_up v 0 w0) 1 w1) = v1 ∧ f = f1 ∧ g = g1 ∧ ((-1) ≤ z ∧ z ≤ 15)) := by
  refine GM.of (by decide) (Nat.le_of_ble_eq_true rfl) ?_
  intro p e s m args below meth c Q ls hQ C hml hr hlocks hP hl
  have hx := C.1
  have hb := C.2.1
  have hok := hP.2
  have hS : va_S A s.heap s.heap [] := va_S.rf
  have hl : lv_has ls 3 [(0, .ref (ad 0)), (1, .int (iI a1)), (2, .int (iI a2))] := hl
  have hP : gWd D (mdT k ad) (va_up (va_up v 0 (v 0)) 1 (v 1)) f g s.heap := by rw [va_id, va_id]; exact hP
  have r_1 : 0 ≤ (v 12) ∧ (v 12) ≤ 4 := hok.1 12
  refine lv_aload_n hx hb dX11_order_0 rfl (lv_at hl 0 rfl) ?_
  refine lv_iconst (v := iI 0) hx hb dX11_order_1 rfl ?_
  refine mdP_thrown (v1 := (va_up (va_up v 0 (v 0)) 1 0)) C hP hD hS mF_X11_146 (by decide) rfl (Or.inr (gR_up (V := mdV) (F := mdF) (gR_up (V := mdV) (F := mdF) ⟨hok.1, hok.2⟩ 0 (hP.2.1 0)) 1 (show 0 ≤ 0 ∧ 0 ≤ 0 from by decide))) dX11_order_2 (fun H locs hP hS => ?_)
  refine lv_aload_n hx hb dX11_order_5 rfl (lv_at hl 0 rfl) ?_
  refine lv_iconst (v := iI 0) hx hb dX11_order_6 rfl ?_
  refine mdP_status (v1 := (va_up (va_up v 0 0) 1 0)) C hP hD hS mF_X11_149 (by decide) rfl (Or.inr (gR_up (V := mdV) (F := mdF) (gR_up (V := mdV) (F := mdF) ⟨hok.1, hok.2⟩ 0 (show 0 ≤ 0 ∧ 0 ≤ 10 from by decide)) 1 (hP.2.1 1))) dX11_order_7 (fun H locs hP hS => ?_)
  refine lv_aload_n hx hb dX11_order_10 rfl (lv_at hl 0 rfl) ?_
  refine lv_iload_n hx hb dX11_order_11 rfl (lv_at hl 1 rfl) ?_
  refine g_cv (As := [.int (iI a1)]) (rest := []) (n := 1) C hml (m_X11_isRound l D k A ad hD (va_up (va_up v 0 0) 1 0) f g a1 (by omega)) mM_X11_325 mI_X11_isRound mE_X11_isRound mN_X11 mC_X11_isRound (by decide +kernel) 0 (ci := 11) rfl rfl hP hS (fun _ h => h) ⟨Nat.le_of_ble_eq_true rfl, Nat.le_of_ble_eq_true rfl⟩ ⟨Nat.zero_le _, Nat.zero_le _⟩ hl.1 rfl rfl (Nat.le_of_ble_eq_true rfl) dX11_order_12 (fun r_2 v_2 f_2 g_2 H locs hq_2 hP _ hS => ?_)
  obtain ⟨z_2, rfl, rfl, rfl, rfl, p0_2⟩ := hq_2
  show W p l e (gRm 1 21) s m args below meth c _ _ 0 0 Q (F0 m 15 ls [.int (iI z_2)])
  replace p0_2 : z_2 = (if 0 ≤ a1 ∧ a1 < (v 12) then 1 else 0) := p0_2
  have w_2 := gif (P := 0 ≤ a1 ∧ a1 < (v 12)) p0_2
  have hz_2 : inR z_2 := (by first | omega | (rw [p0_2]; split <;> omega))
  refine gi_zeq (tgt := 32) hx hb dX11_order_15 (by decide) (by omega) (fun c_3 => ?_) (fun c_3 => ?_)
  · refine lv_aload_n hx hb dX11_order_32 rfl (lv_at hl 0 rfl) ?_
    refine lv_iconst (v := iI 1) hx hb dX11_order_33 rfl ?_
    refine g_cv (As := [.int (iI 1)]) (rest := []) (n := 1) C hml (m_X11_refuse l D k A ad hD (va_up (va_up v 0 0) 1 0) f g 1 (by decide) (show 0 ≤ (1 : Int) ∧ (1 : Int) ≤ 10 from by omega)) mM_X11_295 mI_X11_refuse mE_X11_refuse mN_X11 mC_X11_refuse (by decide +kernel) 0 (ci := 11) rfl rfl hP hS (fun _ h => h) ⟨Nat.le_of_ble_eq_true rfl, Nat.le_of_ble_eq_true rfl⟩ ⟨Nat.zero_le _, Nat.zero_le _⟩ hl.1 rfl rfl (Nat.le_of_ble_eq_true rfl) dX11_order_34 (fun r_4 v_4 f_4 g_4 H locs hq_4 hP _ hS => ?_)
    obtain ⟨rfl, rfl, rfl, rfl⟩ := hq_4
    show W p l e (gRm 1 21) s m args below meth c _ _ 0 0 Q (F0 m 37 ls [.int (iI (-1))])
    have hP : gWd D (mdT k ad) (va_up (va_up v 0 (1 : Int)) 1 0) f g H := ⟨hP.1, (gR_up (V := mdV) (F := mdF) (gR_up (V := mdV) (F := mdF) ⟨hok.1, hok.2⟩ 0 (hP.2.1 0)) 1 (hP.2.1 1))⟩
    exact g_iret hQ C hr hlocks hP hS dX11_order_37 ⟨(-1), (1 : Int), 0, rfl, rfl, rfl, rfl, (by first | omega | (split <;> omega))⟩
  · refine lv_iload_n hx hb dX11_order_18 rfl (lv_at hl 2 rfl) ?_
    refine gi_zlt (tgt := 32) hx hb dX11_order_19 (by decide) (by omega) (fun c_5 => ?_) (fun c_5 => ?_)
    · refine lv_aload_n hx hb dX11_order_32 rfl (lv_at hl 0 rfl) ?_
      refine lv_iconst (v := iI 1) hx hb dX11_order_33 rfl ?_
      refine g_cv (As := [.int (iI 1)]) (rest := []) (n := 1) C hml (m_X11_refuse l D k A ad hD (va_up (va_up v 0 0) 1 0) f g 1 (by decide) (show 0 ≤ (1 : Int) ∧ (1 : Int) ≤ 10 from by omega)) mM_X11_295 mI_X11_refuse mE_X11_refuse mN_X11 mC_X11_refuse (by decide +kernel) 0 (ci := 11) rfl rfl hP hS (fun _ h => h) ⟨Nat.le_of_ble_eq_true rfl, Nat.le_of_ble_eq_true rfl⟩ ⟨Nat.zero_le _, Nat.zero_le _⟩ hl.1 rfl rfl (Nat.le_of_ble_eq_true rfl) dX11_order_34 (fun r_6 v_6 f_6 g_6 H locs hq_6 hP _ hS => ?_)
      obtain ⟨rfl, rfl, rfl, rfl⟩ := hq_6
      show W p l e (gRm 1 21) s m args below meth c _ _ 0 0 Q (F0 m 37 ls [.int (iI (-1))])
      have hP : gWd D (mdT k ad) (va_up (va_up v 0 (1 : Int)) 1 0) f g H := ⟨hP.1, (gR_up (V := mdV) (F := mdF) (gR_up (V := mdV) (F := mdF) ⟨hok.1, hok.2⟩ 0 (hP.2.1 0)) 1 (hP.2.1 1))⟩
      exact g_iret hQ C hr hlocks hP hS dX11_order_37 ⟨(-1), (1 : Int), 0, rfl, rfl, rfl, rfl, (by first | omega | (split <;> omega))⟩
    · refine lv_iload_n hx hb dX11_order_22 rfl (lv_at hl 2 rfl) ?_
      refine lv_aload_n hx hb dX11_order_23 rfl (lv_at hl 0 rfl) ?_
      refine mdG_orderMany C hP mF_X11_91 dX11_order_24 ?_
      refine lv_iload_n hx hb dX11_order_27 rfl (lv_at hl 1 rfl) ?_
      refine mdL_orderMany C hP (by omega) (by omega) dX11_order_28 ?_
      have r_7 : 0 ≤ (f 23 a1) ∧ (f 23 a1) ≤ 16 := hP.2.2 23 a1
      refine gi_clt (tgt := 38) hx hb dX11_order_29 (by decide) (by omega) (by omega) (fun c_8 => ?_) (fun c_8 => ?_)
      · refine lv_aload_n hx hb dX11_order_38 rfl (lv_at hl 0 rfl) ?_
        refine mdG_order C hP mF_X11_88 dX11_order_39 ?_
        refine lv_bipush (v := iI 16) hx hb dX11_order_42 (by decide) ?_
        refine lv_iload_n hx hb dX11_order_44 rfl (lv_at hl 1 rfl) ?_
        refine gi_mul (z := (16 * a1)) hx hb dX11_order_45 rfl ?_
        refine lv_iload_n hx hb dX11_order_46 rfl (lv_at hl 2 rfl) ?_
        refine gi_add (z := ((16 * a1) + a2)) hx hb dX11_order_47 rfl ?_
        refine mdL_order C hP (by omega) (by omega) dX11_order_48 ?_
        have r_9 : 0 ≤ (f 22 ((16 * a1) + a2)) ∧ (f 22 ((16 * a1) + a2)) ≤ 15 := hP.2.2 22 ((16 * a1) + a2)
        exact g_iret hQ C hr hlocks hP hS dX11_order_49 ⟨(f 22 ((16 * a1) + a2)), 0, 0, rfl, rfl, rfl, rfl, (by first | omega | (split <;> omega))⟩
      · refine lv_aload_n hx hb dX11_order_32 rfl (lv_at hl 0 rfl) ?_
        refine lv_iconst (v := iI 1) hx hb dX11_order_33 rfl ?_
        refine g_cv (As := [.int (iI 1)]) (rest := []) (n := 1) C hml (m_X11_refuse l D k A ad hD (va_up (va_up v 0 0) 1 0) f g 1 (by decide) (show 0 ≤ (1 : Int) ∧ (1 : Int) ≤ 10 from by omega)) mM_X11_295 mI_X11_refuse mE_X11_refuse mN_X11 mC_X11_refuse (by decide +kernel) 0 (ci := 11) rfl rfl hP hS (fun _ h => h) ⟨Nat.le_of_ble_eq_true rfl, Nat.le_of_ble_eq_true rfl⟩ ⟨Nat.zero_le _, Nat.zero_le _⟩ hl.1 rfl rfl (Nat.le_of_ble_eq_true rfl) dX11_order_34 (fun r_10 v_10 f_10 g_10 H locs hq_10 hP _ hS => ?_)
        obtain ⟨rfl, rfl, rfl, rfl⟩ := hq_10
        show W p l e (gRm 1 21) s m args below meth c _ _ 0 0 Q (F0 m 37 ls [.int (iI (-1))])
        have hP : gWd D (mdT k ad) (va_up (va_up v 0 (1 : Int)) 1 0) f g H := ⟨hP.1, (gR_up (V := mdV) (F := mdF) (gR_up (V := mdV) (F := mdF) ⟨hok.1, hok.2⟩ 0 (hP.2.1 0)) 1 (hP.2.1 1))⟩
        exact g_iret hQ C hr hlocks hP hS dX11_order_37 ⟨(-1), (1 : Int), 0, rfl, rfl, rfl, rfl, (by first | omega | (split <;> omega))⟩

set_option maxHeartbeats 4000000 in
set_option maxRecDepth 100000 in
theorem m_X11_partsOf (l : Launch) (D : va_G) (k : Nat → ClassId) (A : Nat → Prop) (ad : Nat → Nat) (hD : mdD A k ad) (v : gV) (f g : gF) (a1 : Int) (a2 : Int) (a3 : Int) (h_a1 : inR a1) (h_a2 : inR a2) (h_a3 : inR a3) (hrp : rpOk (v 13) (f 9)) (h1 : 0 ≤ a1 ∧ a1 ≤ 3) : GM l D k A (mdT k ad) yX11_partsOf cX11_partsOf 7 (some .int) 3 87 [.ref (ad 0), .int (iI a1), .int (iI a2), .int (iI a3)] v f g (fun r v1 f1 g1 => ∃ (z : Int) (a37_ : Int → Int) (b1_ : Int → Int) (b2_ : Int → Int), r = some (.int (iI z)) ∧ v = v1 ∧ (va_up f 37 a37_) = f1 ∧ (va_up (va_up g 1 b1_) 2 b2_) = g1 ∧ (0 ≤ z ∧ z ≤ 256)) := by
  refine GM.of (by decide) (Nat.le_of_ble_eq_true rfl) ?_
  intro p e s m args below meth c Q ls hQ C hml hr hlocks hP hl
  have hx := C.1
  have hb := C.2.1
  have hok := hP.2
  have hS : va_S A s.heap s.heap [] := va_S.rf
  have hl : lv_has ls 7 [(0, .ref (ad 0)), (1, .int (iI a1)), (2, .int (iI a2)), (3, .int (iI a3))] := hl
  have hP : gWd D (mdT k ad) v (va_up f 37 (f 37)) (va_up (va_up g 1 (g 1)) 2 (g 2)) s.heap := by rw [va_id, va_id, va_id]; exact hP
  have hro : 0 ≤ f 1 a1 ∧ f 1 a1 ≤ 5 := hok.2 1 a1
  have r_1 : 0 ≤ (v 22) ∧ (v 22) ≤ 16 := hok.1 22
  refine lv_iconst (v := iI 0) hx hb dX11_partsOf_0 rfl ?_
  refine lv_istore (lv' := [(4, .int (iI 0)), (0, .ref (ad 0)), (1, .int (iI a1)), (2, .int (iI a2)), (3, .int (iI a3))]) hx hb dX11_partsOf_1 hl (by decide) rfl (fun ls hl => ?_)
  have L_2 : ∀ (n : Nat) (x4 : Int) (c37_2 : Int → Int) (d1_2 : Int → Int) (d2_2 : Int → Int) (H : Heap) (locs : List Loc) (ls : Array Slot), 16 - x4 < (n : Int) → (0 ≤ x4 ∧ x4 ≤ (v 22)) → gWd D (mdT k ad) v (va_up f 37 c37_2) (va_up (va_up g 1 d1_2) 2 d2_2) H → va_S A s.heap H locs → lv_has ls 7 [(0, .ref (ad 0)), (1, .int (iI a1)), (2, .int (iI a2)), (3, .int (iI a3)), (4, .int (iI x4))] → W p l e (gRm 3 87) s m args below meth c H locs 0 0 Q (F0 m 3 ls []) := by
    intro n
    induction n with
    | zero =>
      intro x4 c37_2 d1_2 d2_2 H locs ls hn_2 i2_0 hP hS hl
      exfalso; omega
    | succ n ih_3 =>
      intro x4 c37_2 d1_2 d2_2 H locs ls hn_2 i2_0 hP hS hl
      refine lv_iload hx hb dX11_partsOf_3 (lv_at hl 4 rfl) ?_
      refine lv_aload_n hx hb dX11_partsOf_5 rfl (lv_at hl 0 rfl) ?_
      refine mdG_climbers C hP mF_X11_313 dX11_partsOf_6 ?_
      refine gi_cge (tgt := 77) hx hb dX11_partsOf_9 (by decide) (by omega) (by omega) (fun c_3 => ?_) (fun c_3 => ?_)
      · refine lv_iconst (v := iI 0) hx hb dX11_partsOf_77 rfl ?_
        refine lv_istore (lv' := [(4, .int (iI 0)), (0, .ref (ad 0)), (1, .int (iI a1)), (2, .int (iI a2)), (3, .int (iI a3))]) hx hb dX11_partsOf_78 hl (by decide) rfl (fun ls hl => ?_)
        refine lv_iconst (v := iI 0) hx hb dX11_partsOf_80 rfl ?_
        refine lv_istore (lv' := [(5, .int (iI 0)), (4, .int (iI 0)), (0, .ref (ad 0)), (1, .int (iI a1)), (2, .int (iI a2)), (3, .int (iI a3))]) hx hb dX11_partsOf_81 hl (by decide) rfl (fun ls hl => ?_)
        have L_4 : ∀ (n : Nat) (x4 : Int) (x5 : Int) (H : Heap) (locs : List Loc) (ls : Array Slot), 16 - x5 < (n : Int) → (0 ≤ x5 ∧ x5 ≤ (v 22)) → (0 ≤ x4 ∧ x4 ≤ x5 * 16) → gWd D (mdT k ad) v (va_up f 37 c37_2) (va_up (va_up g 1 d1_2) 2 d2_2) H → va_S A s.heap H locs → lv_has ls 7 [(0, .ref (ad 0)), (1, .int (iI a1)), (2, .int (iI a2)), (3, .int (iI a3)), (4, .int (iI x4)), (5, .int (iI x5))] → W p l e (gRm 3 87) s m args below meth c H locs 0 0 Q (F0 m 83 ls []) := by
          intro n
          induction n with
          | zero =>
            intro x4 x5 H locs ls hn_4 i4_0 i4_1 hP hS hl
            exfalso; omega
          | succ n ih_83 =>
            intro x4 x5 H locs ls hn_4 i4_0 i4_1 hP hS hl
            refine lv_iload hx hb dX11_partsOf_83 (lv_at hl 5 rfl) ?_
            refine lv_aload_n hx hb dX11_partsOf_85 rfl (lv_at hl 0 rfl) ?_
            refine mdG_climbers C hP mF_X11_313 dX11_partsOf_86 ?_
            refine gi_cge (tgt := 177) hx hb dX11_partsOf_89 (by decide) (by omega) (by omega) (fun c_5 => ?_) (fun c_5 => ?_)
            · refine lv_iload hx hb dX11_partsOf_177 (lv_at hl 4 rfl) ?_
              exact g_iret hQ C hr hlocks hP hS dX11_partsOf_179 ⟨x4, c37_2, d1_2, d2_2, rfl, rfl, rfl, rfl, (by first | omega | (split <;> omega))⟩
            · refine lv_iload hx hb dX11_partsOf_92 (lv_at hl 5 rfl) ?_
              refine lv_iconst (v := iI 1) hx hb dX11_partsOf_94 rfl ?_
              refine gi_add (z := (x5 + 1)) hx hb dX11_partsOf_95 rfl ?_
              refine lv_istore (lv' := [(6, .int (iI (x5 + 1))), (0, .ref (ad 0)), (1, .int (iI a1)), (2, .int (iI a2)), (3, .int (iI a3)), (4, .int (iI x4)), (5, .int (iI x5))]) hx hb dX11_partsOf_96 hl (by decide) rfl (fun ls hl => ?_)
              have L_6 : ∀ (n : Nat) (x4 : Int) (x6 : Int) (H : Heap) (locs : List Loc) (ls : Array Slot), 16 - x6 < (n : Int) → (x5 + 1 ≤ x6 ∧ x6 ≤ (v 22)) → (0 ≤ x4 ∧ x4 ≤ x5 * 16 + x6) → gWd D (mdT k ad) v (va_up f 37 c37_2) (va_up (va_up g 1 d1_2) 2 d2_2) H → va_S A s.heap H locs → lv_has ls 7 [(0, .ref (ad 0)), (1, .int (iI a1)), (2, .int (iI a2)), (3, .int (iI a3)), (4, .int (iI x4)), (5, .int (iI x5)), (6, .int (iI x6))] → W p l e (gRm 3 87) s m args below meth c H locs 0 0 Q (F0 m 98 ls []) := by
                intro n
                induction n with
                | zero =>
                  intro x4 x6 H locs ls hn_6 i6_0 i6_1 hP hS hl
                  exfalso; omega
                | succ n ih_98 =>
                  intro x4 x6 H locs ls hn_6 i6_0 i6_1 hP hS hl
                  refine lv_iload hx hb dX11_partsOf_98 (lv_at hl 6 rfl) ?_
                  refine lv_aload_n hx hb dX11_partsOf_100 rfl (lv_at hl 0 rfl) ?_
                  refine mdG_climbers C hP mF_X11_313 dX11_partsOf_101 ?_
                  refine gi_cge (tgt := 171) hx hb dX11_partsOf_104 (by decide) (by omega) (by omega) (fun c_7 => ?_) (fun c_7 => ?_)
                  · refine lv_iinc (v := iI (x5 + 1)) (lv' := [(5, .int (iI (x5 + 1))), (0, .ref (ad 0)), (1, .int (iI a1)), (2, .int (iI a2)), (3, .int (iI a3)), (4, .int (iI x4)), (6, .int (iI x6))]) hx hb dX11_partsOf_171 hl (k := 5) rfl (by show iI _ + iI 1 = _; rw [iI_add]) (by decide) rfl (fun ls hl => ?_)
                    refine lv_goto (tgt := 83) hx hb dX11_partsOf_174 (by decide) ?_
                    exact ih_83 x4 (x5 + 1) _ _ _ (by omega) (by omega) (by omega) hP hS (lv_sub hl [1, 2, 3, 4, 5, 0] rfl)
                  · refine lv_iload hx hb dX11_partsOf_107 (lv_at hl 4 rfl) ?_
                    refine lv_aload_n hx hb dX11_partsOf_109 rfl (lv_at hl 0 rfl) ?_
                    refine mdG_isIn C hP mF_X11_85 dX11_partsOf_110 ?_
                    refine lv_bipush (v := iI 16) hx hb dX11_partsOf_113 (by decide) ?_
                    refine lv_iload_n hx hb dX11_partsOf_115 rfl (lv_at hl 1 rfl) ?_
                    refine gi_mul (z := (16 * a1)) hx hb dX11_partsOf_116 rfl ?_
                    refine lv_iload hx hb dX11_partsOf_117 (lv_at hl 5 rfl) ?_
                    refine gi_add (z := ((16 * a1) + x5)) hx hb dX11_partsOf_119 rfl ?_
                    refine mdL_isIn C hP (by omega) (by omega) dX11_partsOf_120 ?_
                    show W p l e (gRm 3 87) s m args below meth c _ _ 0 0 Q (F0 m 121 ls [.int (iI (f 21 ((16 * a1) + x5))), .int (iI x4)])
                    have r_8 : 0 ≤ (f 21 ((16 * a1) + x5)) ∧ (f 21 ((16 * a1) + x5)) ≤ 1 := hP.2.2 21 ((16 * a1) + x5)
                    refine gi_zeq (tgt := 161) hx hb dX11_partsOf_121 (by decide) (by omega) (fun c_9 => ?_) (fun c_9 => ?_)
                    · refine lv_iconst (v := iI 0) hx hb dX11_partsOf_161 rfl ?_
                      refine gi_add (z := x4) hx hb dX11_partsOf_162 (by omega) ?_
                      refine lv_istore (lv' := [(4, .int (iI x4)), (0, .ref (ad 0)), (1, .int (iI a1)), (2, .int (iI a2)), (3, .int (iI a3)), (5, .int (iI x5)), (6, .int (iI x6))]) hx hb dX11_partsOf_163 hl (by decide) rfl (fun ls hl => ?_)
                      refine lv_iinc (v := iI (x6 + 1)) (lv' := [(6, .int (iI (x6 + 1))), (4, .int (iI x4)), (0, .ref (ad 0)), (1, .int (iI a1)), (2, .int (iI a2)), (3, .int (iI a3)), (5, .int (iI x5))]) hx hb dX11_partsOf_165 hl (k := 6) rfl (by show iI _ + iI 1 = _; rw [iI_add]) (by decide) rfl (fun ls hl => ?_)
                      refine lv_goto (tgt := 98) hx hb dX11_partsOf_168 (by decide) ?_
                      exact ih_98 x4 (x6 + 1) _ _ _ (by omega) (by omega) (by omega) hP hS (lv_sub hl [2, 3, 4, 5, 1, 6, 0] rfl)
                    · refine lv_aload_n hx hb dX11_partsOf_124 rfl (lv_at hl 0 rfl) ?_
                      refine mdG_isIn C hP mF_X11_85 dX11_partsOf_125 ?_
                      refine lv_bipush (v := iI 16) hx hb dX11_partsOf_128 (by decide) ?_
                      refine lv_iload_n hx hb dX11_partsOf_130 rfl (lv_at hl 1 rfl) ?_
                      refine gi_mul (z := (16 * a1)) hx hb dX11_partsOf_131 rfl ?_
                      refine lv_iload hx hb dX11_partsOf_132 (lv_at hl 6 rfl) ?_
                      refine gi_add (z := ((16 * a1) + x6)) hx hb dX11_partsOf_134 rfl ?_
                      refine mdL_isIn C hP (by omega) (by omega) dX11_partsOf_135 ?_
                      show W p l e (gRm 3 87) s m args below meth c _ _ 0 0 Q (F0 m 136 ls [.int (iI (f 21 ((16 * a1) + x6))), .int (iI x4)])
                      have r_10 : 0 ≤ (f 21 ((16 * a1) + x6)) ∧ (f 21 ((16 * a1) + x6)) ≤ 1 := hP.2.2 21 ((16 * a1) + x6)
                      refine gi_zeq (tgt := 161) hx hb dX11_partsOf_136 (by decide) (by omega) (fun c_11 => ?_) (fun c_11 => ?_)
                      · refine lv_iconst (v := iI 0) hx hb dX11_partsOf_161 rfl ?_
                        refine gi_add (z := x4) hx hb dX11_partsOf_162 (by omega) ?_
                        refine lv_istore (lv' := [(4, .int (iI x4)), (0, .ref (ad 0)), (1, .int (iI a1)), (2, .int (iI a2)), (3, .int (iI a3)), (5, .int (iI x5)), (6, .int (iI x6))]) hx hb dX11_partsOf_163 hl (by decide) rfl (fun ls hl => ?_)
                        refine lv_iinc (v := iI (x6 + 1)) (lv' := [(6, .int (iI (x6 + 1))), (4, .int (iI x4)), (0, .ref (ad 0)), (1, .int (iI a1)), (2, .int (iI a2)), (3, .int (iI a3)), (5, .int (iI x5))]) hx hb dX11_partsOf_165 hl (k := 6) rfl (by show iI _ + iI 1 = _; rw [iI_add]) (by decide) rfl (fun ls hl => ?_)
                        refine lv_goto (tgt := 98) hx hb dX11_partsOf_168 (by decide) ?_
                        exact ih_98 x4 (x6 + 1) _ _ _ (by omega) (by omega) (by omega) hP hS (lv_sub hl [2, 3, 4, 5, 1, 6, 0] rfl)
                      · refine lv_aload_n hx hb dX11_partsOf_139 rfl (lv_at hl 0 rfl) ?_
                        refine mdG_sums C hP mF_X11_143 dX11_partsOf_140 ?_
                        refine lv_iload hx hb dX11_partsOf_143 (lv_at hl 5 rfl) ?_
                        refine mdL_sums C hP (by omega) (by omega) dX11_partsOf_145 ?_
                        show W p l e (gRm 3 87) s m args below meth c _ _ 0 0 Q (F0 m 146 ls [.long (iL (d2_2 x5)), .int (iI x4)])
                        refine lv_aload_n hx hb dX11_partsOf_146 rfl (lv_at hl 0 rfl) ?_
                        refine mdG_sums C hP mF_X11_143 dX11_partsOf_147 ?_
                        refine lv_iload hx hb dX11_partsOf_150 (lv_at hl 6 rfl) ?_
                        refine mdL_sums C hP (by omega) (by omega) dX11_partsOf_152 ?_
                        show W p l e (gRm 3 87) s m args below meth c _ _ 0 0 Q (F0 m 153 ls [.long (iL (d2_2 x6)), .long (iL (d2_2 x5)), .int (iI x4)])
                        refine gl_cmp hx hb dX11_partsOf_153 (fun x_12 hx_12 => ?_)
                        refine gi_zeq (tgt := 161) hx hb dX11_partsOf_154 (by decide) (by omega) (fun c_13 => ?_) (fun c_13 => ?_)
                        · refine lv_iconst (v := iI 0) hx hb dX11_partsOf_161 rfl ?_
                          refine gi_add (z := x4) hx hb dX11_partsOf_162 (by omega) ?_
                          refine lv_istore (lv' := [(4, .int (iI x4)), (0, .ref (ad 0)), (1, .int (iI a1)), (2, .int (iI a2)), (3, .int (iI a3)), (5, .int (iI x5)), (6, .int (iI x6))]) hx hb dX11_partsOf_163 hl (by decide) rfl (fun ls hl => ?_)
                          refine lv_iinc (v := iI (x6 + 1)) (lv' := [(6, .int (iI (x6 + 1))), (4, .int (iI x4)), (0, .ref (ad 0)), (1, .int (iI a1)), (2, .int (iI a2)), (3, .int (iI a3)), (5, .int (iI x5))]) hx hb dX11_partsOf_165 hl (k := 6) rfl (by show iI _ + iI 1 = _; rw [iI_add]) (by decide) rfl (fun ls hl => ?_)
                          refine lv_goto (tgt := 98) hx hb dX11_partsOf_168 (by decide) ?_
                          exact ih_98 x4 (x6 + 1) _ _ _ (by omega) (by omega) (by omega) hP hS (lv_sub hl [2, 3, 4, 5, 1, 6, 0] rfl)
                        · refine lv_iconst (v := iI 1) hx hb dX11_partsOf_157 rfl ?_
                          refine lv_goto (tgt := 162) hx hb dX11_partsOf_158 (by decide) ?_
                          refine gi_add (z := (x4 + 1)) hx hb dX11_partsOf_162 rfl ?_
                          refine lv_istore (lv' := [(4, .int (iI (x4 + 1))), (0, .ref (ad 0)), (1, .int (iI a1)), (2, .int (iI a2)), (3, .int (iI a3)), (5, .int (iI x5)), (6, .int (iI x6))]) hx hb dX11_partsOf_163 hl (by decide) rfl (fun ls hl => ?_)
                          refine lv_iinc (v := iI (x6 + 1)) (lv' := [(6, .int (iI (x6 + 1))), (4, .int (iI (x4 + 1))), (0, .ref (ad 0)), (1, .int (iI a1)), (2, .int (iI a2)), (3, .int (iI a3)), (5, .int (iI x5))]) hx hb dX11_partsOf_165 hl (k := 6) rfl (by show iI _ + iI 1 = _; rw [iI_add]) (by decide) rfl (fun ls hl => ?_)
                          refine lv_goto (tgt := 98) hx hb dX11_partsOf_168 (by decide) ?_
                          exact ih_98 (x4 + 1) (x6 + 1) _ _ _ (by omega) (by omega) (by omega) hP hS (lv_sub hl [2, 3, 4, 5, 1, 6, 0] rfl)
              exact L_6 17 x4 (x5 + 1) _ _ _ (by omega) (by omega) (by omega) hP hS (lv_sub hl [1, 2, 3, 4, 5, 6, 0] rfl)
        exact L_4 17 0 0 _ _ _ (by omega) (by omega) (by omega) hP hS (lv_sub hl [2, 3, 4, 5, 1, 0] rfl)
      · refine lv_aload_n hx hb dX11_partsOf_12 rfl (lv_at hl 0 rfl) ?_
        refine mdG_sums C hP mF_X11_143 dX11_partsOf_13 ?_
        refine lv_iload hx hb dX11_partsOf_16 (lv_at hl 4 rfl) ?_
        refine lv_lconst (v := iL 0) hx hb dX11_partsOf_18 (by decide) ?_
        refine mdS_sums (g1 := (va_up (va_up g 1 d1_2) 2 (u1 d2_2 x4 0))) C hP hD hS (by omega) (by omega) rfl dX11_partsOf_19 (fun H locs hP hS => ?_)
        refine lv_iconst (v := iI 0) hx hb dX11_partsOf_20 rfl ?_
        refine lv_istore (lv' := [(5, .int (iI 0)), (0, .ref (ad 0)), (1, .int (iI a1)), (2, .int (iI a2)), (3, .int (iI a3)), (4, .int (iI x4))]) hx hb dX11_partsOf_21 hl (by decide) rfl (fun ls hl => ?_)
        have L_14 : ∀ (n : Nat) (x5 : Int) (c37_14 : Int → Int) (d1_14 : Int → Int) (d2_14 : Int → Int) (H : Heap) (locs : List Loc) (ls : Array Slot), 5 - x5 < (n : Int) → (0 ≤ x5 ∧ x5 ≤ (f 1) a1) → gWd D (mdT k ad) v (va_up f 37 c37_14) (va_up (va_up g 1 d1_14) 2 d2_14) H → va_S A s.heap H locs → lv_has ls 7 [(0, .ref (ad 0)), (1, .int (iI a1)), (2, .int (iI a2)), (3, .int (iI a3)), (4, .int (iI x4)), (5, .int (iI x5))] → W p l e (gRm 3 87) s m args below meth c H locs 0 0 Q (F0 m 23 ls []) := by
          intro n
          induction n with
          | zero =>
            intro x5 c37_14 d1_14 d2_14 H locs ls hn_14 i14_0 hP hS hl
            exfalso; omega
          | succ n ih_23 =>
            intro x5 c37_14 d1_14 d2_14 H locs ls hn_14 i14_0 hP hS hl
            refine lv_iload hx hb dX11_partsOf_23 (lv_at hl 5 rfl) ?_
            refine lv_aload_n hx hb dX11_partsOf_25 rfl (lv_at hl 0 rfl) ?_
            refine mdG_routes C hP mF_X11_20 dX11_partsOf_26 ?_
            refine lv_iload_n hx hb dX11_partsOf_29 rfl (lv_at hl 1 rfl) ?_
            refine mdL_routes C hP (by omega) (by omega) dX11_partsOf_30 ?_
            show W p l e (gRm 3 87) s m args below meth c _ _ 0 0 Q (F0 m 31 ls [.int (iI (f 1 a1)), .int (iI x5)])
            have r_15 : 0 ≤ (f 1 a1) ∧ (f 1 a1) ≤ 5 := hP.2.2 1 a1
            refine gi_cge (tgt := 71) hx hb dX11_partsOf_31 (by decide) (by omega) (by omega) (fun c_16 => ?_) (fun c_16 => ?_)
            · refine lv_iinc (v := iI (x4 + 1)) (lv' := [(4, .int (iI (x4 + 1))), (0, .ref (ad 0)), (1, .int (iI a1)), (2, .int (iI a2)), (3, .int (iI a3)), (5, .int (iI x5))]) hx hb dX11_partsOf_71 hl (k := 4) rfl (by show iI _ + iI 1 = _; rw [iI_add]) (by decide) rfl (fun ls hl => ?_)
              refine lv_goto (tgt := 3) hx hb dX11_partsOf_74 (by decide) ?_
              exact ih_3 (x4 + 1) c37_14 d1_14 d2_14 _ _ _ (by omega) (by omega) hP hS (lv_sub hl [1, 2, 3, 4, 0] rfl)
            · refine lv_iload_n hx hb dX11_partsOf_34 rfl (lv_at hl 2 rfl) ?_
              refine lv_iload hx hb dX11_partsOf_35 (lv_at hl 5 rfl) ?_
              obtain ⟨x_17, ex_17, hx_17⟩ : ∃ z : Int, iI a2 >>> (iI x5 &&& 31) = iI z ∧ inR z := ⟨(iI a2 >>> (iI x5 &&& 31)).toInt, (iI_of _).symm, iI_rng _⟩
              refine gi_shr (z := x_17) hx hb dX11_partsOf_37 ex_17 ?_
              refine lv_iconst (v := iI 1) hx hb dX11_partsOf_38 rfl ?_
              obtain ⟨x_18, ex_18, hx_18⟩ := gAnd x_17 1 1 (by decide) (by decide)
              refine gi_and (z := x_18) hx hb dX11_partsOf_39 ex_18 ?_
              refine lv_iconst (v := iI 1) hx hb dX11_partsOf_40 rfl ?_
              refine gi_cne (tgt := 65) hx hb dX11_partsOf_41 (by decide) (by omega) (by decide) (fun c_19 => ?_) (fun c_19 => ?_)
              · refine lv_iinc (v := iI (x5 + 1)) (lv' := [(5, .int (iI (x5 + 1))), (0, .ref (ad 0)), (1, .int (iI a1)), (2, .int (iI a2)), (3, .int (iI a3)), (4, .int (iI x4))]) hx hb dX11_partsOf_65 hl (k := 5) rfl (by show iI _ + iI 1 = _; rw [iI_add]) (by decide) rfl (fun ls hl => ?_)
                refine lv_goto (tgt := 23) hx hb dX11_partsOf_68 (by decide) ?_
                exact ih_23 (x5 + 1) c37_14 d1_14 d2_14 _ _ _ (by omega) (by omega) hP hS (lv_sub hl [1, 2, 3, 4, 5, 0] rfl)
              · refine lv_aload_n hx hb dX11_partsOf_44 rfl (lv_at hl 0 rfl) ?_
                refine mdG_sums C hP mF_X11_143 dX11_partsOf_45 ?_
                refine lv_iload hx hb dX11_partsOf_48 (lv_at hl 4 rfl) ?_
                refine lv_dup2_11 hx hb dX11_partsOf_50 rfl rfl ?_
                refine mdL_sums C hP (by omega) (by omega) dX11_partsOf_51 ?_
                show W p l e (gRm 3 87) s m args below meth c _ _ 0 0 Q (F0 m 52 ls [.long (iL (d2_14 x4)), .int (iI x4), .ref (ad 41)])
                refine lv_aload_n hx hb dX11_partsOf_52 rfl (lv_at hl 0 rfl) ?_
                refine lv_iload_n hx hb dX11_partsOf_53 rfl (lv_at hl 1 rfl) ?_
                refine lv_iload hx hb dX11_partsOf_54 (lv_at hl 5 rfl) ?_
                refine lv_iload hx hb dX11_partsOf_56 (lv_at hl 4 rfl) ?_
                refine lv_iload_n hx hb dX11_partsOf_58 rfl (lv_at hl 3 rfl) ?_
                refine g_cv (As := [.int (iI a1), .int (iI x5), .int (iI x4), .int (iI a3)]) (rest := [.long (iL (d2_14 x4)), .int (iI x4), .ref (ad 41)]) (n := 4) C hml (m_X11_pointsOf l D k A ad hD v (va_up f 37 c37_14) (va_up (va_up g 1 d1_14) 2 d2_14) a1 x5 x4 a3 (by omega) (by omega) (by omega) (by omega) (show rpOk (v 13) (f 9) from hrp) (show 0 ≤ a1 ∧ a1 ≤ 3 from by omega) (show 0 ≤ x5 ∧ x5 ≤ 4 from by omega)) mM_X11_387 mI_X11_pointsOf mE_X11_pointsOf mN_X11 mC_X11_pointsOf (by decide +kernel) 0 (ci := 11) rfl rfl hP hS (fun _ h => h) ⟨Nat.le_of_ble_eq_true rfl, Nat.le_of_ble_eq_true rfl⟩ ⟨Nat.zero_le _, Nat.zero_le _⟩ hl.1 rfl rfl (Nat.le_of_ble_eq_true rfl) dX11_partsOf_59 (fun r_20 v_20 f_20 g_20 H locs hq_20 hP _ hS => ?_)
                obtain ⟨z_20, a37_20, b1_20, rfl, rfl, rfl, rfl, p0_20⟩ := hq_20
                show W p l e (gRm 3 87) s m args below meth c _ _ 0 0 Q (F0 m 62 ls [.int (iI z_20), .long (iL (d2_14 x4)), .int (iI x4), .ref (ad 41)])
                have hP : gWd D (mdT k ad) v (va_up f 37 a37_20) (va_up (va_up g 1 b1_20) 2 d2_14) H := ⟨hP.1, (gF_up (V := mdV) (F := mdF) ⟨hok.1, hok.2⟩ 37 (hP.2.2 37))⟩
                replace p0_20 : (-2147483648) ≤ z_20 ∧ z_20 ≤ 2147483647 := p0_20
                refine gi_i2l hx hb (by omega) dX11_partsOf_62 ?_
                refine gl_add (z := ((d2_14 x4) + z_20)) hx hb dX11_partsOf_63 rfl ?_
                refine mdS_sums (g1 := (va_up (va_up g 1 b1_20) 2 (u1 d2_14 x4 ((d2_14 x4) + z_20)))) C hP hD hS (by omega) (by omega) rfl dX11_partsOf_64 (fun H locs hP hS => ?_)
                refine lv_iinc (v := iI (x5 + 1)) (lv' := [(5, .int (iI (x5 + 1))), (0, .ref (ad 0)), (1, .int (iI a1)), (2, .int (iI a2)), (3, .int (iI a3)), (4, .int (iI x4))]) hx hb dX11_partsOf_65 hl (k := 5) rfl (by show iI _ + iI 1 = _; rw [iI_add]) (by decide) rfl (fun ls hl => ?_)
                refine lv_goto (tgt := 23) hx hb dX11_partsOf_68 (by decide) ?_
                exact ih_23 (x5 + 1) a37_20 b1_20 (u1 d2_14 x4 ((d2_14 x4) + z_20)) _ _ _ (by omega) (by omega) hP hS (lv_sub hl [1, 2, 3, 4, 5, 0] rfl)
        exact L_14 6 0 c37_2 d1_2 (u1 d2_2 x4 0) _ _ _ (by omega) (by omega) hP hS (lv_sub hl [1, 2, 3, 4, 5, 0] rfl)
  exact L_2 17 0 (f 37) (g 1) (g 2) _ _ _ (by omega) (by omega) hP hS (lv_sub hl [1, 2, 3, 4, 0] rfl)

set_option maxHeartbeats 4000000 in
set_option maxRecDepth 100000 in
theorem m_X11_parts (l : Launch) (D : va_G) (k : Nat → ClassId) (A : Nat → Prop) (ad : Nat → Nat) (hD : mdD A k ad) (v : gV) (f g : gF) (a1 : Int) (a2 : Int) (a3 : Int) (h_a1 : inR a1) (h_a2 : inR a2) (h_a3 : inR a3) (hrp : 0 < (v 12) → rpOk (v 13) (f 9)) : GM l D k A (mdT k ad) yX11_parts cX11_parts 4 (some .int) 4 113 [.ref (ad 0), .int (iI a1), .int (iI a2), .int (iI a3)] v f g (fun r v1 f1 g1 => ∃ (z : Int) (w0 : Int) (w1 : Int) (a37_ : Int → Int) (b1_ : Int → Int) (b2_ : Int → Int), r = some (.int (iI z)) ∧ (va_up (va_up v 0 w0) 1 w1) = v1 ∧ (va_up f 37 a37_) = f1 ∧ (va_up (va_up g 1 b1_) 2 b2_) = g1 ∧ ((-1) ≤ z ∧ z ≤ 256)) := by
  refine GM.of (by decide) (Nat.le_of_ble_eq_true rfl) ?_
  intro p e s m args below meth c Q ls hQ C hml hr hlocks hP hl
  have hx := C.1
  have hb := C.2.1
  have hok := hP.2
  have hS : va_S A s.heap s.heap [] := va_S.rf
  have hl : lv_has ls 4 [(0, .ref (ad 0)), (1, .int (iI a1)), (2, .int (iI a2)), (3, .int (iI a3))] := hl
  have hP : gWd D (mdT k ad) (va_up (va_up v 0 (v 0)) 1 (v 1)) (va_up f 37 (f 37)) (va_up (va_up g 1 (g 1)) 2 (g 2)) s.heap := by rw [va_id, va_id, va_id, va_id, va_id]; exact hP
  have r_1 : 0 ≤ (v 12) ∧ (v 12) ≤ 4 := hok.1 12
  refine lv_aload_n hx hb dX11_parts_0 rfl (lv_at hl 0 rfl) ?_
  refine lv_iconst (v := iI 0) hx hb dX11_parts_1 rfl ?_
  refine mdP_thrown (v1 := (va_up (va_up v 0 (v 0)) 1 0)) C hP hD hS mF_X11_146 (by decide) rfl (Or.inr (gF_up (V := mdV) (F := mdF) (gR_up (V := mdV) (F := mdF) (gR_up (V := mdV) (F := mdF) ⟨hok.1, hok.2⟩ 0 (hP.2.1 0)) 1 (show 0 ≤ 0 ∧ 0 ≤ 0 from by decide)) 37 (hP.2.2 37))) dX11_parts_2 (fun H locs hP hS => ?_)
  refine lv_aload_n hx hb dX11_parts_5 rfl (lv_at hl 0 rfl) ?_
  refine lv_iconst (v := iI 0) hx hb dX11_parts_6 rfl ?_
  refine mdP_status (v1 := (va_up (va_up v 0 0) 1 0)) C hP hD hS mF_X11_149 (by decide) rfl (Or.inr (gF_up (V := mdV) (F := mdF) (gR_up (V := mdV) (F := mdF) (gR_up (V := mdV) (F := mdF) ⟨hok.1, hok.2⟩ 0 (show 0 ≤ 0 ∧ 0 ≤ 10 from by decide)) 1 (hP.2.1 1)) 37 (hP.2.2 37))) dX11_parts_7 (fun H locs hP hS => ?_)
  refine lv_aload_n hx hb dX11_parts_10 rfl (lv_at hl 0 rfl) ?_
  refine lv_iload_n hx hb dX11_parts_11 rfl (lv_at hl 1 rfl) ?_
  refine g_cv (As := [.int (iI a1)]) (rest := []) (n := 1) C hml (m_X11_isRound l D k A ad hD (va_up (va_up v 0 0) 1 0) (va_up f 37 (f 37)) (va_up (va_up g 1 (g 1)) 2 (g 2)) a1 (by omega)) mM_X11_325 mI_X11_isRound mE_X11_isRound mN_X11 mC_X11_isRound (by decide +kernel) 0 (ci := 11) rfl rfl hP hS (fun _ h => h) ⟨Nat.le_of_ble_eq_true rfl, Nat.le_of_ble_eq_true rfl⟩ ⟨Nat.zero_le _, Nat.zero_le _⟩ hl.1 rfl rfl (Nat.le_of_ble_eq_true rfl) dX11_parts_12 (fun r_2 v_2 f_2 g_2 H locs hq_2 hP _ hS => ?_)
  obtain ⟨z_2, rfl, rfl, rfl, rfl, p0_2⟩ := hq_2
  show W p l e (gRm 4 113) s m args below meth c _ _ 0 0 Q (F0 m 15 ls [.int (iI z_2)])
  replace p0_2 : z_2 = (if 0 ≤ a1 ∧ a1 < (v 12) then 1 else 0) := p0_2
  have w_2 := gif (P := 0 ≤ a1 ∧ a1 < (v 12)) p0_2
  have hz_2 : inR z_2 := (by first | omega | (rw [p0_2]; split <;> omega))
  refine gi_zne (tgt := 24) hx hb dX11_parts_15 (by decide) (by omega) (fun c_3 => ?_) (fun c_3 => ?_)
  · refine lv_iload_n hx hb dX11_parts_24 rfl (lv_at hl 2 rfl) ?_
    refine gi_zlt (tgt := 47) hx hb dX11_parts_25 (by decide) (by omega) (fun c_4 => ?_) (fun c_4 => ?_)
    · refine lv_aload_n hx hb dX11_parts_47 rfl (lv_at hl 0 rfl) ?_
      refine lv_iconst (v := iI 2) hx hb dX11_parts_48 rfl ?_
      refine g_cv (As := [.int (iI 2)]) (rest := []) (n := 1) C hml (m_X11_refuse l D k A ad hD (va_up (va_up v 0 0) 1 0) (va_up f 37 (f 37)) (va_up (va_up g 1 (g 1)) 2 (g 2)) 2 (by decide) (show 0 ≤ (2 : Int) ∧ (2 : Int) ≤ 10 from by omega)) mM_X11_295 mI_X11_refuse mE_X11_refuse mN_X11 mC_X11_refuse (by decide +kernel) 0 (ci := 11) rfl rfl hP hS (fun _ h => h) ⟨Nat.le_of_ble_eq_true rfl, Nat.le_of_ble_eq_true rfl⟩ ⟨Nat.zero_le _, Nat.zero_le _⟩ hl.1 rfl rfl (Nat.le_of_ble_eq_true rfl) dX11_parts_49 (fun r_5 v_5 f_5 g_5 H locs hq_5 hP _ hS => ?_)
      obtain ⟨rfl, rfl, rfl, rfl⟩ := hq_5
      show W p l e (gRm 4 113) s m args below meth c _ _ 0 0 Q (F0 m 52 ls [.int (iI (-1))])
      have hP : gWd D (mdT k ad) (va_up (va_up v 0 (2 : Int)) 1 0) (va_up f 37 (f 37)) (va_up (va_up g 1 (g 1)) 2 (g 2)) H := ⟨hP.1, (gF_up (V := mdV) (F := mdF) (gR_up (V := mdV) (F := mdF) (gR_up (V := mdV) (F := mdF) ⟨hok.1, hok.2⟩ 0 (hP.2.1 0)) 1 (hP.2.1 1)) 37 (hP.2.2 37))⟩
      exact g_iret hQ C hr hlocks hP hS dX11_parts_52 ⟨(-1), (2 : Int), 0, (f 37), (g 1), (g 2), rfl, rfl, rfl, rfl, (by first | omega | (split <;> omega))⟩
    · refine lv_iload_n hx hb dX11_parts_28 rfl (lv_at hl 2 rfl) ?_
      refine lv_iconst (v := iI 1) hx hb dX11_parts_29 rfl ?_
      refine lv_aload_n hx hb dX11_parts_30 rfl (lv_at hl 0 rfl) ?_
      refine mdG_routes C hP mF_X11_20 dX11_parts_31 ?_
      refine lv_iload_n hx hb dX11_parts_34 rfl (lv_at hl 1 rfl) ?_
      refine mdL_routes C hP (by omega) (by omega) dX11_parts_35 ?_
      show W p l e (gRm 4 113) s m args below meth c _ _ 0 0 Q (F0 m 36 ls [.int (iI (f 1 a1)), .int (iI 1), .int (iI a2)])
      have r_6 : 0 ≤ (f 1 a1) ∧ (f 1 a1) ≤ 5 := hP.2.2 1 a1
      obtain ⟨x_7, ex_7, hx_7⟩ := gShl1 (f 1 a1) (by omega)
      refine gi_shl (z := x_7) hx hb dX11_parts_36 ex_7 ?_
      refine gi_cge (tgt := 47) hx hb dX11_parts_37 (by decide) (by omega) (by omega) (fun c_8 => ?_) (fun c_8 => ?_)
      · refine lv_aload_n hx hb dX11_parts_47 rfl (lv_at hl 0 rfl) ?_
        refine lv_iconst (v := iI 2) hx hb dX11_parts_48 rfl ?_
        refine g_cv (As := [.int (iI 2)]) (rest := []) (n := 1) C hml (m_X11_refuse l D k A ad hD (va_up (va_up v 0 0) 1 0) (va_up f 37 (f 37)) (va_up (va_up g 1 (g 1)) 2 (g 2)) 2 (by decide) (show 0 ≤ (2 : Int) ∧ (2 : Int) ≤ 10 from by omega)) mM_X11_295 mI_X11_refuse mE_X11_refuse mN_X11 mC_X11_refuse (by decide +kernel) 0 (ci := 11) rfl rfl hP hS (fun _ h => h) ⟨Nat.le_of_ble_eq_true rfl, Nat.le_of_ble_eq_true rfl⟩ ⟨Nat.zero_le _, Nat.zero_le _⟩ hl.1 rfl rfl (Nat.le_of_ble_eq_true rfl) dX11_parts_49 (fun r_9 v_9 f_9 g_9 H locs hq_9 hP _ hS => ?_)
        obtain ⟨rfl, rfl, rfl, rfl⟩ := hq_9
        show W p l e (gRm 4 113) s m args below meth c _ _ 0 0 Q (F0 m 52 ls [.int (iI (-1))])
        have hP : gWd D (mdT k ad) (va_up (va_up v 0 (2 : Int)) 1 0) (va_up f 37 (f 37)) (va_up (va_up g 1 (g 1)) 2 (g 2)) H := ⟨hP.1, (gF_up (V := mdV) (F := mdF) (gR_up (V := mdV) (F := mdF) (gR_up (V := mdV) (F := mdF) ⟨hok.1, hok.2⟩ 0 (hP.2.1 0)) 1 (hP.2.1 1)) 37 (hP.2.2 37))⟩
        exact g_iret hQ C hr hlocks hP hS dX11_parts_52 ⟨(-1), (2 : Int), 0, (f 37), (g 1), (g 2), rfl, rfl, rfl, rfl, (by first | omega | (split <;> omega))⟩
      · refine lv_iload_n hx hb dX11_parts_40 rfl (lv_at hl 3 rfl) ?_
        refine g_cs (As := [.int (iI a3)]) (rest := []) (n := 1) C hml (m_X11_isDay l D k A ad hD (va_up (va_up v 0 0) 1 0) (va_up f 37 (f 37)) (va_up (va_up g 1 (g 1)) 2 (g 2)) a3 (by omega)) mM_X11_364 mS_X11_isDay mN_X11 mC_X11_isDay (by decide +kernel) hP hS (fun _ h => h) ⟨Nat.le_of_ble_eq_true rfl, Nat.le_of_ble_eq_true rfl⟩ ⟨Nat.zero_le _, Nat.zero_le _⟩ hl.1 rfl rfl (Nat.le_of_ble_eq_true rfl) dX11_parts_41 (fun r_10 v_10 f_10 g_10 H locs hq_10 hP _ hS => ?_)
        obtain ⟨z_10, rfl, rfl, rfl, rfl, p0_10⟩ := hq_10
        show W p l e (gRm 4 113) s m args below meth c _ _ 0 0 Q (F0 m 44 ls [.int (iI z_10)])
        replace p0_10 : z_10 = (if 0 ≤ a3 ∧ a3 ≤ 999 then 1 else 0) := p0_10
        have w_10 := gif (P := 0 ≤ a3 ∧ a3 ≤ 999) p0_10
        have hz_10 : inR z_10 := (by first | omega | (rw [p0_10]; split <;> omega))
        refine gi_zne (tgt := 53) hx hb dX11_parts_44 (by decide) (by omega) (fun c_11 => ?_) (fun c_11 => ?_)
        · refine lv_aload_n hx hb dX11_parts_53 rfl (lv_at hl 0 rfl) ?_
          refine lv_iload_n hx hb dX11_parts_54 rfl (lv_at hl 1 rfl) ?_
          refine lv_iload_n hx hb dX11_parts_55 rfl (lv_at hl 2 rfl) ?_
          refine lv_iload_n hx hb dX11_parts_56 rfl (lv_at hl 3 rfl) ?_
          refine g_cv (As := [.int (iI a1), .int (iI a2), .int (iI a3)]) (rest := []) (n := 3) C hml (m_X11_partsOf l D k A ad hD (va_up (va_up v 0 0) 1 0) (va_up f 37 (f 37)) (va_up (va_up g 1 (g 1)) 2 (g 2)) a1 a2 a3 (by omega) (by omega) (by omega) (show rpOk (v 13) (f 9) from hrp (by omega)) (show 0 ≤ a1 ∧ a1 ≤ 3 from by omega)) mM_X11_405 mI_X11_partsOf mE_X11_partsOf mN_X11 mC_X11_partsOf (by decide +kernel) 0 (ci := 11) rfl rfl hP hS (fun _ h => h) ⟨Nat.le_of_ble_eq_true rfl, Nat.le_of_ble_eq_true rfl⟩ ⟨Nat.zero_le _, Nat.zero_le _⟩ hl.1 rfl rfl (Nat.le_of_ble_eq_true rfl) dX11_parts_57 (fun r_12 v_12 f_12 g_12 H locs hq_12 hP _ hS => ?_)
          obtain ⟨z_12, a37_12, b1_12, b2_12, rfl, rfl, rfl, rfl, p0_12⟩ := hq_12
          show W p l e (gRm 4 113) s m args below meth c _ _ 0 0 Q (F0 m 60 ls [.int (iI z_12)])
          have hP : gWd D (mdT k ad) (va_up (va_up v 0 0) 1 0) (va_up f 37 a37_12) (va_up (va_up g 1 b1_12) 2 b2_12) H := ⟨hP.1, (gF_up (V := mdV) (F := mdF) (gR_up (V := mdV) (F := mdF) (gR_up (V := mdV) (F := mdF) ⟨hok.1, hok.2⟩ 0 (hP.2.1 0)) 1 (hP.2.1 1)) 37 (hP.2.2 37))⟩
          replace p0_12 : 0 ≤ z_12 ∧ z_12 ≤ 256 := p0_12
          exact g_iret hQ C hr hlocks hP hS dX11_parts_60 ⟨z_12, 0, 0, a37_12, b1_12, b2_12, rfl, rfl, rfl, rfl, (by first | omega | (split <;> omega))⟩
        · refine lv_aload_n hx hb dX11_parts_47 rfl (lv_at hl 0 rfl) ?_
          refine lv_iconst (v := iI 2) hx hb dX11_parts_48 rfl ?_
          refine g_cv (As := [.int (iI 2)]) (rest := []) (n := 1) C hml (m_X11_refuse l D k A ad hD (va_up (va_up v 0 0) 1 0) (va_up f 37 (f 37)) (va_up (va_up g 1 (g 1)) 2 (g 2)) 2 (by decide) (show 0 ≤ (2 : Int) ∧ (2 : Int) ≤ 10 from by omega)) mM_X11_295 mI_X11_refuse mE_X11_refuse mN_X11 mC_X11_refuse (by decide +kernel) 0 (ci := 11) rfl rfl hP hS (fun _ h => h) ⟨Nat.le_of_ble_eq_true rfl, Nat.le_of_ble_eq_true rfl⟩ ⟨Nat.zero_le _, Nat.zero_le _⟩ hl.1 rfl rfl (Nat.le_of_ble_eq_true rfl) dX11_parts_49 (fun r_13 v_13 f_13 g_13 H locs hq_13 hP _ hS => ?_)
          obtain ⟨rfl, rfl, rfl, rfl⟩ := hq_13
          show W p l e (gRm 4 113) s m args below meth c _ _ 0 0 Q (F0 m 52 ls [.int (iI (-1))])
          have hP : gWd D (mdT k ad) (va_up (va_up v 0 (2 : Int)) 1 0) (va_up f 37 (f 37)) (va_up (va_up g 1 (g 1)) 2 (g 2)) H := ⟨hP.1, (gF_up (V := mdV) (F := mdF) (gR_up (V := mdV) (F := mdF) (gR_up (V := mdV) (F := mdF) ⟨hok.1, hok.2⟩ 0 (hP.2.1 0)) 1 (hP.2.1 1)) 37 (hP.2.2 37))⟩
          exact g_iret hQ C hr hlocks hP hS dX11_parts_52 ⟨(-1), (2 : Int), 0, (f 37), (g 1), (g 2), rfl, rfl, rfl, rfl, (by first | omega | (split <;> omega))⟩
  · refine lv_aload_n hx hb dX11_parts_18 rfl (lv_at hl 0 rfl) ?_
    refine lv_iconst (v := iI 1) hx hb dX11_parts_19 rfl ?_
    refine g_cv (As := [.int (iI 1)]) (rest := []) (n := 1) C hml (m_X11_refuse l D k A ad hD (va_up (va_up v 0 0) 1 0) (va_up f 37 (f 37)) (va_up (va_up g 1 (g 1)) 2 (g 2)) 1 (by decide) (show 0 ≤ (1 : Int) ∧ (1 : Int) ≤ 10 from by omega)) mM_X11_295 mI_X11_refuse mE_X11_refuse mN_X11 mC_X11_refuse (by decide +kernel) 0 (ci := 11) rfl rfl hP hS (fun _ h => h) ⟨Nat.le_of_ble_eq_true rfl, Nat.le_of_ble_eq_true rfl⟩ ⟨Nat.zero_le _, Nat.zero_le _⟩ hl.1 rfl rfl (Nat.le_of_ble_eq_true rfl) dX11_parts_20 (fun r_14 v_14 f_14 g_14 H locs hq_14 hP _ hS => ?_)
    obtain ⟨rfl, rfl, rfl, rfl⟩ := hq_14
    show W p l e (gRm 4 113) s m args below meth c _ _ 0 0 Q (F0 m 23 ls [.int (iI (-1))])
    have hP : gWd D (mdT k ad) (va_up (va_up v 0 (1 : Int)) 1 0) (va_up f 37 (f 37)) (va_up (va_up g 1 (g 1)) 2 (g 2)) H := ⟨hP.1, (gF_up (V := mdV) (F := mdF) (gR_up (V := mdV) (F := mdF) (gR_up (V := mdV) (F := mdF) ⟨hok.1, hok.2⟩ 0 (hP.2.1 0)) 1 (hP.2.1 1)) 37 (hP.2.2 37))⟩
    exact g_iret hQ C hr hlocks hP hS dX11_parts_23 ⟨(-1), (1 : Int), 0, (f 37), (g 1), (g 2), rfl, rfl, rfl, rfl, (by first | omega | (split <;> omega))⟩

set_option maxHeartbeats 4000000 in
set_option maxRecDepth 100000 in
theorem m_X11_choose (l : Launch) (D : va_G) (k : Nat → ClassId) (A : Nat → Prop) (ad : Nat → Nat) (hD : mdD A k ad) (v : gV) (f g : gF) (a1 : Int) (a2 : Int) (a3 : Int) (h_a1 : inR a1) (h_a2 : inR a2) (h_a3 : inR a3) (hrp : 0 < (v 12) → rpOk (v 13) (f 9)) : GM l D k A (mdT k ad) yX11_choose cX11_choose 8 (some .int) 4 113 [.ref (ad 0), .int (iI a1), .int (iI a2), .int (iI a3)] v f g (fun r v1 f1 g1 => ∃ (z : Int) (w0 : Int) (w1 : Int) (a37_ : Int → Int) (b1_ : Int → Int) (b2_ : Int → Int), r = some (.int (iI z)) ∧ (va_up (va_up v 0 w0) 1 w1) = v1 ∧ (va_up f 37 a37_) = f1 ∧ (va_up (va_up g 1 b1_) 2 b2_) = g1 ∧ ((-1) ≤ z ∧ z ≤ 31)) := by
  refine GM.of (by decide) (Nat.le_of_ble_eq_true rfl) ?_
  intro p e s m args below meth c Q ls hQ C hml hr hlocks hP hl
  have hx := C.1
  have hb := C.2.1
  have hok := hP.2
  have hS : va_S A s.heap s.heap [] := va_S.rf
  have hl : lv_has ls 8 [(0, .ref (ad 0)), (1, .int (iI a1)), (2, .int (iI a2)), (3, .int (iI a3))] := hl
  have hP : gWd D (mdT k ad) (va_up (va_up v 0 (v 0)) 1 (v 1)) (va_up f 37 (f 37)) (va_up (va_up g 1 (g 1)) 2 (g 2)) s.heap := by rw [va_id, va_id, va_id, va_id, va_id]; exact hP
  have r_1 : 0 ≤ (v 12) ∧ (v 12) ≤ 4 := hok.1 12
  refine lv_aload_n hx hb dX11_choose_0 rfl (lv_at hl 0 rfl) ?_
  refine lv_iconst (v := iI 0) hx hb dX11_choose_1 rfl ?_
  refine mdP_thrown (v1 := (va_up (va_up v 0 (v 0)) 1 0)) C hP hD hS mF_X11_146 (by decide) rfl (Or.inr (gF_up (V := mdV) (F := mdF) (gR_up (V := mdV) (F := mdF) (gR_up (V := mdV) (F := mdF) ⟨hok.1, hok.2⟩ 0 (hP.2.1 0)) 1 (show 0 ≤ 0 ∧ 0 ≤ 0 from by decide)) 37 (hP.2.2 37))) dX11_choose_2 (fun H locs hP hS => ?_)
  refine lv_aload_n hx hb dX11_choose_5 rfl (lv_at hl 0 rfl) ?_
  refine lv_iconst (v := iI 0) hx hb dX11_choose_6 rfl ?_
  refine mdP_status (v1 := (va_up (va_up v 0 0) 1 0)) C hP hD hS mF_X11_149 (by decide) rfl (Or.inr (gF_up (V := mdV) (F := mdF) (gR_up (V := mdV) (F := mdF) (gR_up (V := mdV) (F := mdF) ⟨hok.1, hok.2⟩ 0 (show 0 ≤ 0 ∧ 0 ≤ 10 from by decide)) 1 (hP.2.1 1)) 37 (hP.2.2 37))) dX11_choose_7 (fun H locs hP hS => ?_)
  refine lv_aload_n hx hb dX11_choose_10 rfl (lv_at hl 0 rfl) ?_
  refine lv_iload_n hx hb dX11_choose_11 rfl (lv_at hl 1 rfl) ?_
  refine g_cv (As := [.int (iI a1)]) (rest := []) (n := 1) C hml (m_X11_isRound l D k A ad hD (va_up (va_up v 0 0) 1 0) (va_up f 37 (f 37)) (va_up (va_up g 1 (g 1)) 2 (g 2)) a1 (by omega)) mM_X11_325 mI_X11_isRound mE_X11_isRound mN_X11 mC_X11_isRound (by decide +kernel) 0 (ci := 11) rfl rfl hP hS (fun _ h => h) ⟨Nat.le_of_ble_eq_true rfl, Nat.le_of_ble_eq_true rfl⟩ ⟨Nat.zero_le _, Nat.zero_le _⟩ hl.1 rfl rfl (Nat.le_of_ble_eq_true rfl) dX11_choose_12 (fun r_2 v_2 f_2 g_2 H locs hq_2 hP _ hS => ?_)
  obtain ⟨z_2, rfl, rfl, rfl, rfl, p0_2⟩ := hq_2
  show W p l e (gRm 4 113) s m args below meth c _ _ 0 0 Q (F0 m 15 ls [.int (iI z_2)])
  replace p0_2 : z_2 = (if 0 ≤ a1 ∧ a1 < (v 12) then 1 else 0) := p0_2
  have w_2 := gif (P := 0 ≤ a1 ∧ a1 < (v 12)) p0_2
  have hz_2 : inR z_2 := (by first | omega | (rw [p0_2]; split <;> omega))
  refine gi_zne (tgt := 24) hx hb dX11_choose_15 (by decide) (by omega) (fun c_3 => ?_) (fun c_3 => ?_)
  · refine lv_iload_n hx hb dX11_choose_24 rfl (lv_at hl 2 rfl) ?_
    refine lv_iconst (v := iI 1) hx hb dX11_choose_25 rfl ?_
    refine gi_clt (tgt := 46) hx hb dX11_choose_26 (by decide) (by omega) (by decide) (fun c_4 => ?_) (fun c_4 => ?_)
    · refine lv_aload_n hx hb dX11_choose_46 rfl (lv_at hl 0 rfl) ?_
      refine lv_iconst (v := iI 2) hx hb dX11_choose_47 rfl ?_
      refine g_cv (As := [.int (iI 2)]) (rest := []) (n := 1) C hml (m_X11_refuse l D k A ad hD (va_up (va_up v 0 0) 1 0) (va_up f 37 (f 37)) (va_up (va_up g 1 (g 1)) 2 (g 2)) 2 (by decide) (show 0 ≤ (2 : Int) ∧ (2 : Int) ≤ 10 from by omega)) mM_X11_295 mI_X11_refuse mE_X11_refuse mN_X11 mC_X11_refuse (by decide +kernel) 0 (ci := 11) rfl rfl hP hS (fun _ h => h) ⟨Nat.le_of_ble_eq_true rfl, Nat.le_of_ble_eq_true rfl⟩ ⟨Nat.zero_le _, Nat.zero_le _⟩ hl.1 rfl rfl (Nat.le_of_ble_eq_true rfl) dX11_choose_48 (fun r_5 v_5 f_5 g_5 H locs hq_5 hP _ hS => ?_)
      obtain ⟨rfl, rfl, rfl, rfl⟩ := hq_5
      show W p l e (gRm 4 113) s m args below meth c _ _ 0 0 Q (F0 m 51 ls [.int (iI (-1))])
      have hP : gWd D (mdT k ad) (va_up (va_up v 0 (2 : Int)) 1 0) (va_up f 37 (f 37)) (va_up (va_up g 1 (g 1)) 2 (g 2)) H := ⟨hP.1, (gF_up (V := mdV) (F := mdF) (gR_up (V := mdV) (F := mdF) (gR_up (V := mdV) (F := mdF) ⟨hok.1, hok.2⟩ 0 (hP.2.1 0)) 1 (hP.2.1 1)) 37 (hP.2.2 37))⟩
      exact g_iret hQ C hr hlocks hP hS dX11_choose_51 ⟨(-1), (2 : Int), 0, (f 37), (g 1), (g 2), rfl, rfl, rfl, rfl, (by first | omega | (split <;> omega))⟩
    · refine lv_iload_n hx hb dX11_choose_29 rfl (lv_at hl 2 rfl) ?_
      refine lv_aload_n hx hb dX11_choose_30 rfl (lv_at hl 0 rfl) ?_
      refine mdG_routes C hP mF_X11_20 dX11_choose_31 ?_
      refine lv_iload_n hx hb dX11_choose_34 rfl (lv_at hl 1 rfl) ?_
      refine mdL_routes C hP (by omega) (by omega) dX11_choose_35 ?_
      show W p l e (gRm 4 113) s m args below meth c _ _ 0 0 Q (F0 m 36 ls [.int (iI (f 1 a1)), .int (iI a2)])
      have r_6 : 0 ≤ (f 1 a1) ∧ (f 1 a1) ≤ 5 := hP.2.2 1 a1
      refine gi_cgt (tgt := 46) hx hb dX11_choose_36 (by decide) (by omega) (by omega) (fun c_7 => ?_) (fun c_7 => ?_)
      · refine lv_aload_n hx hb dX11_choose_46 rfl (lv_at hl 0 rfl) ?_
        refine lv_iconst (v := iI 2) hx hb dX11_choose_47 rfl ?_
        refine g_cv (As := [.int (iI 2)]) (rest := []) (n := 1) C hml (m_X11_refuse l D k A ad hD (va_up (va_up v 0 0) 1 0) (va_up f 37 (f 37)) (va_up (va_up g 1 (g 1)) 2 (g 2)) 2 (by decide) (show 0 ≤ (2 : Int) ∧ (2 : Int) ≤ 10 from by omega)) mM_X11_295 mI_X11_refuse mE_X11_refuse mN_X11 mC_X11_refuse (by decide +kernel) 0 (ci := 11) rfl rfl hP hS (fun _ h => h) ⟨Nat.le_of_ble_eq_true rfl, Nat.le_of_ble_eq_true rfl⟩ ⟨Nat.zero_le _, Nat.zero_le _⟩ hl.1 rfl rfl (Nat.le_of_ble_eq_true rfl) dX11_choose_48 (fun r_8 v_8 f_8 g_8 H locs hq_8 hP _ hS => ?_)
        obtain ⟨rfl, rfl, rfl, rfl⟩ := hq_8
        show W p l e (gRm 4 113) s m args below meth c _ _ 0 0 Q (F0 m 51 ls [.int (iI (-1))])
        have hP : gWd D (mdT k ad) (va_up (va_up v 0 (2 : Int)) 1 0) (va_up f 37 (f 37)) (va_up (va_up g 1 (g 1)) 2 (g 2)) H := ⟨hP.1, (gF_up (V := mdV) (F := mdF) (gR_up (V := mdV) (F := mdF) (gR_up (V := mdV) (F := mdF) ⟨hok.1, hok.2⟩ 0 (hP.2.1 0)) 1 (hP.2.1 1)) 37 (hP.2.2 37))⟩
        exact g_iret hQ C hr hlocks hP hS dX11_choose_51 ⟨(-1), (2 : Int), 0, (f 37), (g 1), (g 2), rfl, rfl, rfl, rfl, (by first | omega | (split <;> omega))⟩
      · refine lv_iload_n hx hb dX11_choose_39 rfl (lv_at hl 3 rfl) ?_
        refine g_cs (As := [.int (iI a3)]) (rest := []) (n := 1) C hml (m_X11_isDay l D k A ad hD (va_up (va_up v 0 0) 1 0) (va_up f 37 (f 37)) (va_up (va_up g 1 (g 1)) 2 (g 2)) a3 (by omega)) mM_X11_364 mS_X11_isDay mN_X11 mC_X11_isDay (by decide +kernel) hP hS (fun _ h => h) ⟨Nat.le_of_ble_eq_true rfl, Nat.le_of_ble_eq_true rfl⟩ ⟨Nat.zero_le _, Nat.zero_le _⟩ hl.1 rfl rfl (Nat.le_of_ble_eq_true rfl) dX11_choose_40 (fun r_9 v_9 f_9 g_9 H locs hq_9 hP _ hS => ?_)
        obtain ⟨z_9, rfl, rfl, rfl, rfl, p0_9⟩ := hq_9
        show W p l e (gRm 4 113) s m args below meth c _ _ 0 0 Q (F0 m 43 ls [.int (iI z_9)])
        replace p0_9 : z_9 = (if 0 ≤ a3 ∧ a3 ≤ 999 then 1 else 0) := p0_9
        have w_9 := gif (P := 0 ≤ a3 ∧ a3 ≤ 999) p0_9
        have hz_9 : inR z_9 := (by first | omega | (rw [p0_9]; split <;> omega))
        refine gi_zne (tgt := 52) hx hb dX11_choose_43 (by decide) (by omega) (fun c_10 => ?_) (fun c_10 => ?_)
        · refine lv_iconst (v := iI (-1)) hx hb dX11_choose_52 rfl ?_
          refine lv_istore (lv' := [(4, .int (iI (-1))), (0, .ref (ad 0)), (1, .int (iI a1)), (2, .int (iI a2)), (3, .int (iI a3))]) hx hb dX11_choose_53 hl (by decide) rfl (fun ls hl => ?_)
          refine lv_iconst (v := iI (-1)) hx hb dX11_choose_55 rfl ?_
          refine lv_istore (lv' := [(5, .int (iI (-1))), (4, .int (iI (-1))), (0, .ref (ad 0)), (1, .int (iI a1)), (2, .int (iI a2)), (3, .int (iI a3))]) hx hb dX11_choose_56 hl (by decide) rfl (fun ls hl => ?_)
          refine lv_iconst (v := iI 0) hx hb dX11_choose_58 rfl ?_
          refine lv_istore (lv' := [(6, .int (iI 0)), (5, .int (iI (-1))), (4, .int (iI (-1))), (0, .ref (ad 0)), (1, .int (iI a1)), (2, .int (iI a2)), (3, .int (iI a3))]) hx hb dX11_choose_59 hl (by decide) rfl (fun ls hl => ?_)
          have L_11 : ∀ (n : Nat) (x4 : Int) (x5 : Int) (x6 : Int) (c37_11 : Int → Int) (d1_11 : Int → Int) (d2_11 : Int → Int) (H : Heap) (locs : List Loc) (ls : Array Slot), 32 - x6 < (n : Int) → (0 ≤ x6 ∧ x6 ≤ 32) → ((-1) ≤ x4 ∧ x4 ≤ 31) → ((-1) ≤ x5 ∧ x5 ≤ 256) → gWd D (mdT k ad) (va_up (va_up v 0 0) 1 0) (va_up f 37 c37_11) (va_up (va_up g 1 d1_11) 2 d2_11) H → va_S A s.heap H locs → lv_has ls 8 [(0, .ref (ad 0)), (1, .int (iI a1)), (2, .int (iI a2)), (3, .int (iI a3)), (4, .int (iI x4)), (5, .int (iI x5)), (6, .int (iI x6))] → W p l e (gRm 4 113) s m args below meth c H locs 0 0 Q (F0 m 61 ls []) := by
            intro n
            induction n with
            | zero =>
              intro x4 x5 x6 c37_11 d1_11 d2_11 H locs ls hn_11 i11_0 i11_1 i11_2 hP hS hl
              exfalso; omega
            | succ n ih_61 =>
              intro x4 x5 x6 c37_11 d1_11 d2_11 H locs ls hn_11 i11_0 i11_1 i11_2 hP hS hl
              refine lv_iload hx hb dX11_choose_61 (lv_at hl 6 rfl) ?_
              refine lv_iconst (v := iI 1) hx hb dX11_choose_63 rfl ?_
              refine lv_aload_n hx hb dX11_choose_64 rfl (lv_at hl 0 rfl) ?_
              refine mdG_routes C hP mF_X11_20 dX11_choose_65 ?_
              refine lv_iload_n hx hb dX11_choose_68 rfl (lv_at hl 1 rfl) ?_
              refine mdL_routes C hP (by omega) (by omega) dX11_choose_69 ?_
              show W p l e (gRm 4 113) s m args below meth c _ _ 0 0 Q (F0 m 70 ls [.int (iI (f 1 a1)), .int (iI 1), .int (iI x6)])
              obtain ⟨x_12, ex_12, hx_12⟩ := gShl1 (f 1 a1) (by omega)
              refine gi_shl (z := x_12) hx hb dX11_choose_70 ex_12 ?_
              refine gi_cge (tgt := 120) hx hb dX11_choose_71 (by decide) (by omega) (by omega) (fun c_13 => ?_) (fun c_13 => ?_)
              · refine lv_iload hx hb dX11_choose_120 (lv_at hl 4 rfl) ?_
                exact g_iret hQ C hr hlocks hP hS dX11_choose_122 ⟨x4, 0, 0, c37_11, d1_11, d2_11, rfl, rfl, rfl, rfl, (by first | omega | (split <;> omega))⟩
              · refine lv_iload hx hb dX11_choose_74 (lv_at hl 6 rfl) ?_
                refine g_cs (As := [.int (iI x6)]) (rest := []) (n := 1) C hml (m_bitCount l D k A ad hD (va_up (va_up v 0 0) 1 0) (va_up f 37 c37_11) (va_up (va_up g 1 d1_11) 2 d2_11) x6 (by omega)) mM_X11_408 mS_J6_bitCount_0f7a4 mN_J6 mC_J6_bitCount_0f7a4 (by decide +kernel) hP hS (fun _ h => h) ⟨Nat.le_of_ble_eq_true rfl, Nat.le_of_ble_eq_true rfl⟩ ⟨Nat.zero_le _, Nat.zero_le _⟩ hl.1 rfl rfl (Nat.le_of_ble_eq_true rfl) dX11_choose_76 (fun r_14 v_14 f_14 g_14 H locs hq_14 hP _ hS => ?_)
                obtain ⟨z_14, rfl, rfl, rfl, rfl, p0_14⟩ := hq_14
                show W p l e (gRm 4 113) s m args below meth c _ _ 0 0 Q (F0 m 79 ls [.int (iI z_14)])
                replace p0_14 : (-2147483648) ≤ z_14 ∧ z_14 ≤ 2147483647 := p0_14
                refine lv_iload_n hx hb dX11_choose_79 rfl (lv_at hl 2 rfl) ?_
                refine gi_ceq (tgt := 86) hx hb dX11_choose_80 (by decide) (by omega) (by omega) (fun c_15 => ?_) (fun c_15 => ?_)
                · refine lv_aload_n hx hb dX11_choose_86 rfl (lv_at hl 0 rfl) ?_
                  refine lv_iload_n hx hb dX11_choose_87 rfl (lv_at hl 1 rfl) ?_
                  refine lv_iload hx hb dX11_choose_88 (lv_at hl 6 rfl) ?_
                  refine lv_iload_n hx hb dX11_choose_90 rfl (lv_at hl 3 rfl) ?_
                  refine g_cv (As := [.int (iI a1), .int (iI x6), .int (iI a3)]) (rest := []) (n := 3) C hml (m_X11_partsOf l D k A ad hD (va_up (va_up v 0 0) 1 0) (va_up f 37 c37_11) (va_up (va_up g 1 d1_11) 2 d2_11) a1 x6 a3 (by omega) (by omega) (by omega) (show rpOk (v 13) (f 9) from hrp (by omega)) (show 0 ≤ a1 ∧ a1 ≤ 3 from by omega)) mM_X11_405 mI_X11_partsOf mE_X11_partsOf mN_X11 mC_X11_partsOf (by decide +kernel) 0 (ci := 11) rfl rfl hP hS (fun _ h => h) ⟨Nat.le_of_ble_eq_true rfl, Nat.le_of_ble_eq_true rfl⟩ ⟨Nat.zero_le _, Nat.zero_le _⟩ hl.1 rfl rfl (Nat.le_of_ble_eq_true rfl) dX11_choose_91 (fun r_16 v_16 f_16 g_16 H locs hq_16 hP _ hS => ?_)
                  obtain ⟨z_16, a37_16, b1_16, b2_16, rfl, rfl, rfl, rfl, p0_16⟩ := hq_16
                  show W p l e (gRm 4 113) s m args below meth c _ _ 0 0 Q (F0 m 94 ls [.int (iI z_16)])
                  have hP : gWd D (mdT k ad) (va_up (va_up v 0 0) 1 0) (va_up f 37 a37_16) (va_up (va_up g 1 b1_16) 2 b2_16) H := ⟨hP.1, (gF_up (V := mdV) (F := mdF) (gR_up (V := mdV) (F := mdF) (gR_up (V := mdV) (F := mdF) ⟨hok.1, hok.2⟩ 0 (hP.2.1 0)) 1 (hP.2.1 1)) 37 (hP.2.2 37))⟩
                  replace p0_16 : 0 ≤ z_16 ∧ z_16 ≤ 256 := p0_16
                  refine lv_istore (lv' := [(7, .int (iI z_16)), (0, .ref (ad 0)), (1, .int (iI a1)), (2, .int (iI a2)), (3, .int (iI a3)), (4, .int (iI x4)), (5, .int (iI x5)), (6, .int (iI x6))]) hx hb dX11_choose_94 hl (by decide) rfl (fun ls hl => ?_)
                  refine lv_iload hx hb dX11_choose_96 (lv_at hl 0 rfl) ?_
                  refine lv_iload hx hb dX11_choose_98 (lv_at hl 6 rfl) ?_
                  refine gi_cgt (tgt := 106) hx hb dX11_choose_100 (by decide) (by omega) (by omega) (fun c_17 => ?_) (fun c_17 => ?_)
                  · refine lv_iload hx hb dX11_choose_106 (lv_at hl 0 rfl) ?_
                    refine lv_istore (lv' := [(5, .int (iI z_16)), (7, .int (iI z_16)), (0, .ref (ad 0)), (1, .int (iI a1)), (2, .int (iI a2)), (3, .int (iI a3)), (4, .int (iI x4)), (6, .int (iI x6))]) hx hb dX11_choose_108 hl (by decide) rfl (fun ls hl => ?_)
                    refine lv_iload hx hb dX11_choose_110 (lv_at hl 7 rfl) ?_
                    refine lv_istore (lv' := [(4, .int (iI x6)), (5, .int (iI z_16)), (7, .int (iI z_16)), (0, .ref (ad 0)), (1, .int (iI a1)), (2, .int (iI a2)), (3, .int (iI a3)), (6, .int (iI x6))]) hx hb dX11_choose_112 hl (by decide) rfl (fun ls hl => ?_)
                    refine lv_iinc (v := iI (x6 + 1)) (lv' := [(6, .int (iI (x6 + 1))), (4, .int (iI x6)), (5, .int (iI z_16)), (7, .int (iI z_16)), (0, .ref (ad 0)), (1, .int (iI a1)), (2, .int (iI a2)), (3, .int (iI a3))]) hx hb dX11_choose_114 hl (k := 7) rfl (by show iI _ + iI 1 = _; rw [iI_add]) (by decide) rfl (fun ls hl => ?_)
                    refine lv_goto (tgt := 61) hx hb dX11_choose_117 (by decide) ?_
                    exact ih_61 x6 z_16 (x6 + 1) a37_16 b1_16 b2_16 _ _ _ (by omega) (by omega) (by omega) (by omega) hP hS (lv_sub hl [4, 5, 6, 7, 1, 2, 0] rfl)
                  · refine lv_goto (tgt := 114) hx hb dX11_choose_103 (by decide) ?_
                    refine lv_iinc (v := iI (x6 + 1)) (lv' := [(6, .int (iI (x6 + 1))), (7, .int (iI z_16)), (0, .ref (ad 0)), (1, .int (iI a1)), (2, .int (iI a2)), (3, .int (iI a3)), (4, .int (iI x4)), (5, .int (iI x5))]) hx hb dX11_choose_114 hl (k := 7) rfl (by show iI _ + iI 1 = _; rw [iI_add]) (by decide) rfl (fun ls hl => ?_)
                    refine lv_goto (tgt := 61) hx hb dX11_choose_117 (by decide) ?_
                    exact ih_61 x4 x5 (x6 + 1) a37_16 b1_16 b2_16 _ _ _ (by omega) (by omega) (by omega) (by omega) hP hS (lv_sub hl [2, 3, 4, 5, 6, 7, 0] rfl)
                · refine lv_goto (tgt := 114) hx hb dX11_choose_83 (by decide) ?_
                  refine lv_iinc (v := iI (x6 + 1)) (lv' := [(6, .int (iI (x6 + 1))), (0, .ref (ad 0)), (1, .int (iI a1)), (2, .int (iI a2)), (3, .int (iI a3)), (4, .int (iI x4)), (5, .int (iI x5))]) hx hb dX11_choose_114 hl (k := 6) rfl (by show iI _ + iI 1 = _; rw [iI_add]) (by decide) rfl (fun ls hl => ?_)
                  refine lv_goto (tgt := 61) hx hb dX11_choose_117 (by decide) ?_
                  exact ih_61 x4 x5 (x6 + 1) c37_11 d1_11 d2_11 _ _ _ (by omega) (by omega) (by omega) (by omega) hP hS (lv_sub hl [1, 2, 3, 4, 5, 6, 0] rfl)
          exact L_11 33 (-1) (-1) 0 (f 37) (g 1) (g 2) _ _ _ (by omega) (by omega) (by omega) (by omega) hP hS (lv_sub hl [3, 4, 5, 6, 2, 1, 0] rfl)
        · refine lv_aload_n hx hb dX11_choose_46 rfl (lv_at hl 0 rfl) ?_
          refine lv_iconst (v := iI 2) hx hb dX11_choose_47 rfl ?_
          refine g_cv (As := [.int (iI 2)]) (rest := []) (n := 1) C hml (m_X11_refuse l D k A ad hD (va_up (va_up v 0 0) 1 0) (va_up f 37 (f 37)) (va_up (va_up g 1 (g 1)) 2 (g 2)) 2 (by decide) (show 0 ≤ (2 : Int) ∧ (2 : Int) ≤ 10 from by omega)) mM_X11_295 mI_X11_refuse mE_X11_refuse mN_X11 mC_X11_refuse (by decide +kernel) 0 (ci := 11) rfl rfl hP hS (fun _ h => h) ⟨Nat.le_of_ble_eq_true rfl, Nat.le_of_ble_eq_true rfl⟩ ⟨Nat.zero_le _, Nat.zero_le _⟩ hl.1 rfl rfl (Nat.le_of_ble_eq_true rfl) dX11_choose_48 (fun r_18 v_18 f_18 g_18 H locs hq_18 hP _ hS => ?_)
          obtain ⟨rfl, rfl, rfl, rfl⟩ := hq_18
          show W p l e (gRm 4 113) s m args below meth c _ _ 0 0 Q (F0 m 51 ls [.int (iI (-1))])
          have hP : gWd D (mdT k ad) (va_up (va_up v 0 (2 : Int)) 1 0) (va_up f 37 (f 37)) (va_up (va_up g 1 (g 1)) 2 (g 2)) H := ⟨hP.1, (gF_up (V := mdV) (F := mdF) (gR_up (V := mdV) (F := mdF) (gR_up (V := mdV) (F := mdF) ⟨hok.1, hok.2⟩ 0 (hP.2.1 0)) 1 (hP.2.1 1)) 37 (hP.2.2 37))⟩
          exact g_iret hQ C hr hlocks hP hS dX11_choose_51 ⟨(-1), (2 : Int), 0, (f 37), (g 1), (g 2), rfl, rfl, rfl, rfl, (by first | omega | (split <;> omega))⟩
  · refine lv_aload_n hx hb dX11_choose_18 rfl (lv_at hl 0 rfl) ?_
    refine lv_iconst (v := iI 1) hx hb dX11_choose_19 rfl ?_
    refine g_cv (As := [.int (iI 1)]) (rest := []) (n := 1) C hml (m_X11_refuse l D k A ad hD (va_up (va_up v 0 0) 1 0) (va_up f 37 (f 37)) (va_up (va_up g 1 (g 1)) 2 (g 2)) 1 (by decide) (show 0 ≤ (1 : Int) ∧ (1 : Int) ≤ 10 from by omega)) mM_X11_295 mI_X11_refuse mE_X11_refuse mN_X11 mC_X11_refuse (by decide +kernel) 0 (ci := 11) rfl rfl hP hS (fun _ h => h) ⟨Nat.le_of_ble_eq_true rfl, Nat.le_of_ble_eq_true rfl⟩ ⟨Nat.zero_le _, Nat.zero_le _⟩ hl.1 rfl rfl (Nat.le_of_ble_eq_true rfl) dX11_choose_20 (fun r_19 v_19 f_19 g_19 H locs hq_19 hP _ hS => ?_)
    obtain ⟨rfl, rfl, rfl, rfl⟩ := hq_19
    show W p l e (gRm 4 113) s m args below meth c _ _ 0 0 Q (F0 m 23 ls [.int (iI (-1))])
    have hP : gWd D (mdT k ad) (va_up (va_up v 0 (1 : Int)) 1 0) (va_up f 37 (f 37)) (va_up (va_up g 1 (g 1)) 2 (g 2)) H := ⟨hP.1, (gF_up (V := mdV) (F := mdF) (gR_up (V := mdV) (F := mdF) (gR_up (V := mdV) (F := mdF) ⟨hok.1, hok.2⟩ 0 (hP.2.1 0)) 1 (hP.2.1 1)) 37 (hP.2.2 37))⟩
    exact g_iret hQ C hr hlocks hP hS dX11_choose_23 ⟨(-1), (1 : Int), 0, (f 37), (g 1), (g 2), rfl, rfl, rfl, rfl, (by first | omega | (split <;> omega))⟩

set_option maxHeartbeats 4000000 in
set_option maxRecDepth 100000 in
theorem m_X11_advance (l : Launch) (D : va_G) (k : Nat → ClassId) (A : Nat → Prop) (ad : Nat → Nat) (hD : mdD A k ad) (v : gV) (f g : gF) (a1 : Int) (a2 : Int) (h_a1 : inR a1) (h_a2 : inR a2) (hrp : 0 < (v 12) → rpOk (v 13) (f 9)) : GM l D k A (mdT k ad) yX11_advance cX11_advance 7 (some .int) 6 172 [.ref (ad 0), .int (iI a1), .int (iI a2)] v f g (fun r v1 f1 g1 => ∃ (z : Int) (w0 : Int) (w1 : Int) (w23 : Int) (a37_ : Int → Int) (a38_ : Int → Int) (a21_ : Int → Int) (a22_ : Int → Int) (a23_ : Int → Int) (a34_ : Int → Int) (b1_ : Int → Int), r = some (.int (iI z)) ∧ (va_up (va_up (va_up v 0 w0) 1 w1) 23 w23) = v1 ∧ (va_up (va_up (va_up (va_up (va_up (va_up f 37 a37_) 38 a38_) 21 a21_) 22 a22_) 23 a23_) 34 a34_) = f1 ∧ (va_up g 1 b1_) = g1 ∧ ((-1) ≤ z ∧ z ≤ 16)) := by
  refine GM.of (by decide) (Nat.le_of_ble_eq_true rfl) ?_
  intro p e s m args below meth c Q ls hQ C hml hr hlocks hP hl
  have hx := C.1
  have hb := C.2.1
  have hok := hP.2
  have hS : va_S A s.heap s.heap [] := va_S.rf
  have hl : lv_has ls 7 [(0, .ref (ad 0)), (1, .int (iI a1)), (2, .int (iI a2))] := hl
  have hP : gWd D (mdT k ad) (va_up (va_up (va_up v 0 (v 0)) 1 (v 1)) 23 (v 23)) (va_up (va_up (va_up (va_up (va_up (va_up f 37 (f 37)) 38 (f 38)) 21 (f 21)) 22 (f 22)) 23 (f 23)) 34 (f 34)) (va_up g 1 (g 1)) s.heap := by rw [va_id, va_id, va_id, va_id, va_id, va_id, va_id, va_id, va_id, va_id]; exact hP
  have r_1 : 0 ≤ (v 22) ∧ (v 22) ≤ 16 := hok.1 22
  have r_2 : (-1) ≤ (v 23) ∧ (v 23) ≤ 3 := hok.1 23
  have r_3 : 0 ≤ (v 12) ∧ (v 12) ≤ 4 := hok.1 12
  refine lv_aload_n hx hb dX11_advance_0 rfl (lv_at hl 0 rfl) ?_
  refine lv_iconst (v := iI 0) hx hb dX11_advance_1 rfl ?_
  refine mdP_thrown (v1 := (va_up (va_up (va_up v 0 (v 0)) 1 0) 23 (v 23))) C hP hD hS mF_X11_146 (by decide) rfl (Or.inr (gF_up (V := mdV) (F := mdF) (gF_up (V := mdV) (F := mdF) (gF_up (V := mdV) (F := mdF) (gF_up (V := mdV) (F := mdF) (gF_up (V := mdV) (F := mdF) (gF_up (V := mdV) (F := mdF) (gR_up (V := mdV) (F := mdF) (gR_up (V := mdV) (F := mdF) (gR_up (V := mdV) (F := mdF) ⟨hok.1, hok.2⟩ 0 (hP.2.1 0)) 1 (show 0 ≤ 0 ∧ 0 ≤ 0 from by decide)) 23 (hP.2.1 23)) 37 (hP.2.2 37)) 38 (hP.2.2 38)) 21 (hP.2.2 21)) 22 (hP.2.2 22)) 23 (hP.2.2 23)) 34 (hP.2.2 34))) dX11_advance_2 (fun H locs hP hS => ?_)
  refine lv_aload_n hx hb dX11_advance_5 rfl (lv_at hl 0 rfl) ?_
  refine lv_iconst (v := iI 0) hx hb dX11_advance_6 rfl ?_
  refine mdP_status (v1 := (va_up (va_up (va_up v 0 0) 1 0) 23 (v 23))) C hP hD hS mF_X11_149 (by decide) rfl (Or.inr (gF_up (V := mdV) (F := mdF) (gF_up (V := mdV) (F := mdF) (gF_up (V := mdV) (F := mdF) (gF_up (V := mdV) (F := mdF) (gF_up (V := mdV) (F := mdF) (gF_up (V := mdV) (F := mdF) (gR_up (V := mdV) (F := mdF) (gR_up (V := mdV) (F := mdF) (gR_up (V := mdV) (F := mdF) ⟨hok.1, hok.2⟩ 0 (show 0 ≤ 0 ∧ 0 ≤ 10 from by decide)) 1 (hP.2.1 1)) 23 (hP.2.1 23)) 37 (hP.2.2 37)) 38 (hP.2.2 38)) 21 (hP.2.2 21)) 22 (hP.2.2 22)) 23 (hP.2.2 23)) 34 (hP.2.2 34))) dX11_advance_7 (fun H locs hP hS => ?_)
  refine lv_iload_n hx hb dX11_advance_10 rfl (lv_at hl 1 rfl) ?_
  refine lv_iconst (v := iI 1) hx hb dX11_advance_11 rfl ?_
  refine gi_clt (tgt := 28) hx hb dX11_advance_12 (by decide) (by omega) (by decide) (fun c_4 => ?_) (fun c_4 => ?_)
  · refine lv_aload_n hx hb dX11_advance_28 rfl (lv_at hl 0 rfl) ?_
    refine lv_iconst (v := iI 2) hx hb dX11_advance_29 rfl ?_
    refine g_cv (As := [.int (iI 2)]) (rest := []) (n := 1) C hml (m_X11_refuse l D k A ad hD (va_up (va_up (va_up v 0 0) 1 0) 23 (v 23)) (va_up (va_up (va_up (va_up (va_up (va_up f 37 (f 37)) 38 (f 38)) 21 (f 21)) 22 (f 22)) 23 (f 23)) 34 (f 34)) (va_up g 1 (g 1)) 2 (by decide) (show 0 ≤ (2 : Int) ∧ (2 : Int) ≤ 10 from by omega)) mM_X11_295 mI_X11_refuse mE_X11_refuse mN_X11 mC_X11_refuse (by decide +kernel) 0 (ci := 11) rfl rfl hP hS (fun _ h => h) ⟨Nat.le_of_ble_eq_true rfl, Nat.le_of_ble_eq_true rfl⟩ ⟨Nat.zero_le _, Nat.zero_le _⟩ hl.1 rfl rfl (Nat.le_of_ble_eq_true rfl) dX11_advance_30 (fun r_5 v_5 f_5 g_5 H locs hq_5 hP _ hS => ?_)
    obtain ⟨rfl, rfl, rfl, rfl⟩ := hq_5
    show W p l e (gRm 6 172) s m args below meth c _ _ 0 0 Q (F0 m 33 ls [.int (iI (-1))])
    have hP : gWd D (mdT k ad) (va_up (va_up (va_up v 0 (2 : Int)) 1 0) 23 (v 23)) (va_up (va_up (va_up (va_up (va_up (va_up f 37 (f 37)) 38 (f 38)) 21 (f 21)) 22 (f 22)) 23 (f 23)) 34 (f 34)) (va_up g 1 (g 1)) H := ⟨hP.1, (gF_up (V := mdV) (F := mdF) (gF_up (V := mdV) (F := mdF) (gF_up (V := mdV) (F := mdF) (gF_up (V := mdV) (F := mdF) (gF_up (V := mdV) (F := mdF) (gF_up (V := mdV) (F := mdF) (gR_up (V := mdV) (F := mdF) (gR_up (V := mdV) (F := mdF) (gR_up (V := mdV) (F := mdF) ⟨hok.1, hok.2⟩ 0 (hP.2.1 0)) 1 (hP.2.1 1)) 23 (hP.2.1 23)) 37 (hP.2.2 37)) 38 (hP.2.2 38)) 21 (hP.2.2 21)) 22 (hP.2.2 22)) 23 (hP.2.2 23)) 34 (hP.2.2 34))⟩
    exact g_iret hQ C hr hlocks hP hS dX11_advance_33 ⟨(-1), (2 : Int), 0, (v 23), (f 37), (f 38), (f 21), (f 22), (f 23), (f 34), (g 1), rfl, rfl, rfl, rfl, (by first | omega | (split <;> omega))⟩
  · refine lv_iload_n hx hb dX11_advance_15 rfl (lv_at hl 1 rfl) ?_
    refine lv_bipush (v := iI 16) hx hb dX11_advance_16 (by decide) ?_
    refine gi_cgt (tgt := 28) hx hb dX11_advance_18 (by decide) (by omega) (by decide) (fun c_6 => ?_) (fun c_6 => ?_)
    · refine lv_aload_n hx hb dX11_advance_28 rfl (lv_at hl 0 rfl) ?_
      refine lv_iconst (v := iI 2) hx hb dX11_advance_29 rfl ?_
      refine g_cv (As := [.int (iI 2)]) (rest := []) (n := 1) C hml (m_X11_refuse l D k A ad hD (va_up (va_up (va_up v 0 0) 1 0) 23 (v 23)) (va_up (va_up (va_up (va_up (va_up (va_up f 37 (f 37)) 38 (f 38)) 21 (f 21)) 22 (f 22)) 23 (f 23)) 34 (f 34)) (va_up g 1 (g 1)) 2 (by decide) (show 0 ≤ (2 : Int) ∧ (2 : Int) ≤ 10 from by omega)) mM_X11_295 mI_X11_refuse mE_X11_refuse mN_X11 mC_X11_refuse (by decide +kernel) 0 (ci := 11) rfl rfl hP hS (fun _ h => h) ⟨Nat.le_of_ble_eq_true rfl, Nat.le_of_ble_eq_true rfl⟩ ⟨Nat.zero_le _, Nat.zero_le _⟩ hl.1 rfl rfl (Nat.le_of_ble_eq_true rfl) dX11_advance_30 (fun r_7 v_7 f_7 g_7 H locs hq_7 hP _ hS => ?_)
      obtain ⟨rfl, rfl, rfl, rfl⟩ := hq_7
      show W p l e (gRm 6 172) s m args below meth c _ _ 0 0 Q (F0 m 33 ls [.int (iI (-1))])
      have hP : gWd D (mdT k ad) (va_up (va_up (va_up v 0 (2 : Int)) 1 0) 23 (v 23)) (va_up (va_up (va_up (va_up (va_up (va_up f 37 (f 37)) 38 (f 38)) 21 (f 21)) 22 (f 22)) 23 (f 23)) 34 (f 34)) (va_up g 1 (g 1)) H := ⟨hP.1, (gF_up (V := mdV) (F := mdF) (gF_up (V := mdV) (F := mdF) (gF_up (V := mdV) (F := mdF) (gF_up (V := mdV) (F := mdF) (gF_up (V := mdV) (F := mdF) (gF_up (V := mdV) (F := mdF) (gR_up (V := mdV) (F := mdF) (gR_up (V := mdV) (F := mdF) (gR_up (V := mdV) (F := mdF) ⟨hok.1, hok.2⟩ 0 (hP.2.1 0)) 1 (hP.2.1 1)) 23 (hP.2.1 23)) 37 (hP.2.2 37)) 38 (hP.2.2 38)) 21 (hP.2.2 21)) 22 (hP.2.2 22)) 23 (hP.2.2 23)) 34 (hP.2.2 34))⟩
      exact g_iret hQ C hr hlocks hP hS dX11_advance_33 ⟨(-1), (2 : Int), 0, (v 23), (f 37), (f 38), (f 21), (f 22), (f 23), (f 34), (g 1), rfl, rfl, rfl, rfl, (by first | omega | (split <;> omega))⟩
    · refine lv_iload_n hx hb dX11_advance_21 rfl (lv_at hl 2 rfl) ?_
      refine g_cs (As := [.int (iI a2)]) (rest := []) (n := 1) C hml (m_X11_isDay l D k A ad hD (va_up (va_up (va_up v 0 0) 1 0) 23 (v 23)) (va_up (va_up (va_up (va_up (va_up (va_up f 37 (f 37)) 38 (f 38)) 21 (f 21)) 22 (f 22)) 23 (f 23)) 34 (f 34)) (va_up g 1 (g 1)) a2 (by omega)) mM_X11_364 mS_X11_isDay mN_X11 mC_X11_isDay (by decide +kernel) hP hS (fun _ h => h) ⟨Nat.le_of_ble_eq_true rfl, Nat.le_of_ble_eq_true rfl⟩ ⟨Nat.zero_le _, Nat.zero_le _⟩ hl.1 rfl rfl (Nat.le_of_ble_eq_true rfl) dX11_advance_22 (fun r_8 v_8 f_8 g_8 H locs hq_8 hP _ hS => ?_)
      obtain ⟨z_8, rfl, rfl, rfl, rfl, p0_8⟩ := hq_8
      show W p l e (gRm 6 172) s m args below meth c _ _ 0 0 Q (F0 m 25 ls [.int (iI z_8)])
      replace p0_8 : z_8 = (if 0 ≤ a2 ∧ a2 ≤ 999 then 1 else 0) := p0_8
      have w_8 := gif (P := 0 ≤ a2 ∧ a2 ≤ 999) p0_8
      have hz_8 : inR z_8 := (by first | omega | (rw [p0_8]; split <;> omega))
      refine gi_zne (tgt := 34) hx hb dX11_advance_25 (by decide) (by omega) (fun c_9 => ?_) (fun c_9 => ?_)
      · refine lv_iconst (v := iI 0) hx hb dX11_advance_34 rfl ?_
        refine lv_istore_n (lv' := [(3, .int (iI 0)), (0, .ref (ad 0)), (1, .int (iI a1)), (2, .int (iI a2))]) hx hb dX11_advance_35 rfl hl (by decide) rfl (fun ls hl => ?_)
        have L_10 : ∀ (n : Nat) (x3 : Int) (H : Heap) (locs : List Loc) (ls : Array Slot), 16 - x3 < (n : Int) → (0 ≤ x3 ∧ x3 ≤ (v 22)) → gWd D (mdT k ad) (va_up (va_up (va_up v 0 0) 1 0) 23 (v 23)) (va_up (va_up (va_up (va_up (va_up (va_up f 37 (f 37)) 38 (f 38)) 21 (f 21)) 22 (f 22)) 23 (f 23)) 34 (f 34)) (va_up g 1 (g 1)) H → va_S A s.heap H locs → lv_has ls 7 [(0, .ref (ad 0)), (1, .int (iI a1)), (2, .int (iI a2)), (3, .int (iI x3))] → W p l e (gRm 6 172) s m args below meth c H locs 0 0 Q (F0 m 36 ls []) := by
          intro n
          induction n with
          | zero =>
            intro x3 H locs ls hn_10 i10_0 hP hS hl
            exfalso; omega
          | succ n ih_36 =>
            intro x3 H locs ls hn_10 i10_0 hP hS hl
            refine lv_iload_n hx hb dX11_advance_36 rfl (lv_at hl 3 rfl) ?_
            refine lv_aload_n hx hb dX11_advance_37 rfl (lv_at hl 0 rfl) ?_
            refine mdG_climbers C hP mF_X11_313 dX11_advance_38 ?_
            show W p l e (gRm 6 172) s m args below meth c _ _ 0 0 Q (F0 m 41 ls [.int (iI (v 22)), .int (iI x3)])
            refine gi_cge (tgt := 64) hx hb dX11_advance_41 (by decide) (by omega) (by omega) (fun c_11 => ?_) (fun c_11 => ?_)
            · refine lv_aload_n hx hb dX11_advance_64 rfl (lv_at hl 0 rfl) ?_
              refine mdG_open C hP mF_X11_82 dX11_advance_65 ?_
              show W p l e (gRm 6 172) s m args below meth c _ _ 0 0 Q (F0 m 68 ls [.int (iI (v 23))])
              refine gi_zlt (tgt := 84) hx hb dX11_advance_68 (by decide) (by omega) (fun c_12 => ?_) (fun c_12 => ?_)
              · refine lv_aload_n hx hb dX11_advance_84 rfl (lv_at hl 0 rfl) ?_
                refine lv_bipush (v := iI 10) hx hb dX11_advance_85 (by decide) ?_
                refine g_cv (As := [.int (iI 10)]) (rest := []) (n := 1) C hml (m_X11_refuse l D k A ad hD (va_up (va_up (va_up v 0 0) 1 0) 23 (v 23)) (va_up (va_up (va_up (va_up (va_up (va_up f 37 (f 37)) 38 (f 38)) 21 (f 21)) 22 (f 22)) 23 (f 23)) 34 (f 34)) (va_up g 1 (g 1)) 10 (by decide) (show 0 ≤ (10 : Int) ∧ (10 : Int) ≤ 10 from by omega)) mM_X11_295 mI_X11_refuse mE_X11_refuse mN_X11 mC_X11_refuse (by decide +kernel) 0 (ci := 11) rfl rfl hP hS (fun _ h => h) ⟨Nat.le_of_ble_eq_true rfl, Nat.le_of_ble_eq_true rfl⟩ ⟨Nat.zero_le _, Nat.zero_le _⟩ hl.1 rfl rfl (Nat.le_of_ble_eq_true rfl) dX11_advance_87 (fun r_13 v_13 f_13 g_13 H locs hq_13 hP _ hS => ?_)
                obtain ⟨rfl, rfl, rfl, rfl⟩ := hq_13
                show W p l e (gRm 6 172) s m args below meth c _ _ 0 0 Q (F0 m 90 ls [.int (iI (-1))])
                have hP : gWd D (mdT k ad) (va_up (va_up (va_up v 0 (10 : Int)) 1 0) 23 (v 23)) (va_up (va_up (va_up (va_up (va_up (va_up f 37 (f 37)) 38 (f 38)) 21 (f 21)) 22 (f 22)) 23 (f 23)) 34 (f 34)) (va_up g 1 (g 1)) H := ⟨hP.1, (gF_up (V := mdV) (F := mdF) (gF_up (V := mdV) (F := mdF) (gF_up (V := mdV) (F := mdF) (gF_up (V := mdV) (F := mdF) (gF_up (V := mdV) (F := mdF) (gF_up (V := mdV) (F := mdF) (gR_up (V := mdV) (F := mdF) (gR_up (V := mdV) (F := mdF) (gR_up (V := mdV) (F := mdF) ⟨hok.1, hok.2⟩ 0 (hP.2.1 0)) 1 (hP.2.1 1)) 23 (hP.2.1 23)) 37 (hP.2.2 37)) 38 (hP.2.2 38)) 21 (hP.2.2 21)) 22 (hP.2.2 22)) 23 (hP.2.2 23)) 34 (hP.2.2 34))⟩
                exact g_iret hQ C hr hlocks hP hS dX11_advance_90 ⟨(-1), (10 : Int), 0, (v 23), (f 37), (f 38), (f 21), (f 22), (f 23), (f 34), (g 1), rfl, rfl, rfl, rfl, (by first | omega | (split <;> omega))⟩
              · refine lv_aload_n hx hb dX11_advance_71 rfl (lv_at hl 0 rfl) ?_
                refine mdG_open C hP mF_X11_82 dX11_advance_72 ?_
                show W p l e (gRm 6 172) s m args below meth c _ _ 0 0 Q (F0 m 75 ls [.int (iI (v 23))])
                refine lv_iconst (v := iI 1) hx hb dX11_advance_75 rfl ?_
                refine gi_add (z := ((v 23) + 1)) hx hb dX11_advance_76 rfl ?_
                refine lv_aload_n hx hb dX11_advance_77 rfl (lv_at hl 0 rfl) ?_
                refine mdG_rounds C hP mF_X11_301 dX11_advance_78 ?_
                show W p l e (gRm 6 172) s m args below meth c _ _ 0 0 Q (F0 m 81 ls [.int (iI (v 12)), .int (iI ((v 23) + 1))])
                refine gi_clt (tgt := 91) hx hb dX11_advance_81 (by decide) (by omega) (by omega) (fun c_14 => ?_) (fun c_14 => ?_)
                · refine lv_iconst (v := iI 0) hx hb dX11_advance_91 rfl ?_
                  refine lv_istore_n (lv' := [(3, .int (iI 0)), (0, .ref (ad 0)), (1, .int (iI a1)), (2, .int (iI a2))]) hx hb dX11_advance_92 rfl hl (by decide) rfl (fun ls hl => ?_)
                  have L_15 : ∀ (n : Nat) (x3 : Int) (c37_15 : Int → Int) (c38_15 : Int → Int) (d1_15 : Int → Int) (H : Heap) (locs : List Loc) (ls : Array Slot), 16 - x3 < (n : Int) → (0 ≤ x3 ∧ x3 ≤ (v 22)) → gWd D (mdT k ad) (va_up (va_up (va_up v 0 0) 1 0) 23 (v 23)) (va_up (va_up (va_up (va_up (va_up (va_up f 37 c37_15) 38 c38_15) 21 (f 21)) 22 (f 22)) 23 (f 23)) 34 (f 34)) (va_up g 1 d1_15) H → va_S A s.heap H locs → lv_has ls 7 [(0, .ref (ad 0)), (1, .int (iI a1)), (2, .int (iI a2)), (3, .int (iI x3))] → W p l e (gRm 6 172) s m args below meth c H locs 0 0 Q (F0 m 93 ls []) := by
                    intro n
                    induction n with
                    | zero =>
                      intro x3 c37_15 c38_15 d1_15 H locs ls hn_15 i15_0 hP hS hl
                      exfalso; omega
                    | succ n ih_93 =>
                      intro x3 c37_15 c38_15 d1_15 H locs ls hn_15 i15_0 hP hS hl
                      refine lv_iload_n hx hb dX11_advance_93 rfl (lv_at hl 3 rfl) ?_
                      refine lv_aload_n hx hb dX11_advance_94 rfl (lv_at hl 0 rfl) ?_
                      refine mdG_climbers C hP mF_X11_313 dX11_advance_95 ?_
                      show W p l e (gRm 6 172) s m args below meth c _ _ 0 0 Q (F0 m 98 ls [.int (iI (v 22)), .int (iI x3)])
                      refine gi_cge (tgt := 144) hx hb dX11_advance_98 (by decide) (by omega) (by omega) (fun c_16 => ?_) (fun c_16 => ?_)
                      · refine lv_aload_n hx hb dX11_advance_144 rfl (lv_at hl 0 rfl) ?_
                        refine mdG_open C hP mF_X11_82 dX11_advance_145 ?_
                        show W p l e (gRm 6 172) s m args below meth c _ _ 0 0 Q (F0 m 148 ls [.int (iI (v 23))])
                        refine lv_iconst (v := iI 1) hx hb dX11_advance_148 rfl ?_
                        refine gi_add (z := ((v 23) + 1)) hx hb dX11_advance_149 rfl ?_
                        refine lv_istore_n (lv' := [(3, .int (iI ((v 23) + 1))), (0, .ref (ad 0)), (1, .int (iI a1)), (2, .int (iI a2))]) hx hb dX11_advance_150 rfl hl (by decide) rfl (fun ls hl => ?_)
                        refine lv_iconst (v := iI 0) hx hb dX11_advance_151 rfl ?_
                        refine lv_istore (lv' := [(4, .int (iI 0)), (3, .int (iI ((v 23) + 1))), (0, .ref (ad 0)), (1, .int (iI a1)), (2, .int (iI a2))]) hx hb dX11_advance_152 hl (by decide) rfl (fun ls hl => ?_)
                        refine lv_iload_n hx hb dX11_advance_154 rfl (lv_at hl 3 rfl) ?_
                        refine lv_istore (lv' := [(5, .int (iI a1)), (4, .int (iI 0)), (3, .int (iI ((v 23) + 1))), (0, .ref (ad 0)), (1, .int (iI a1)), (2, .int (iI a2))]) hx hb dX11_advance_155 hl (by decide) rfl (fun ls hl => ?_)
                        have L_17 : ∀ (n : Nat) (x4 : Int) (x5 : Int) (c21_17 : Int → Int) (c22_17 : Int → Int) (H : Heap) (locs : List Loc) (ls : Array Slot), x5 < (n : Int) → (0 ≤ x5 ∧ x5 ≤ a1) → (x4 = cn (cP c38_15 x5 a1 ((v 22) - 1)) (v 22).toNat) → (0 ≤ x4 ∧ x4 ≤ 16) → gWd D (mdT k ad) (va_up (va_up (va_up v 0 0) 1 0) 23 (v 23)) (va_up (va_up (va_up (va_up (va_up (va_up f 37 c37_15) 38 c38_15) 21 c21_17) 22 c22_17) 23 (f 23)) 34 (f 34)) (va_up g 1 d1_15) H → va_S A s.heap H locs → lv_has ls 7 [(0, .ref (ad 0)), (1, .int (iI a1)), (2, .int (iI a2)), (3, .int (iI ((v 23) + 1))), (4, .int (iI x4)), (5, .int (iI x5))] → W p l e (gRm 6 172) s m args below meth c H locs 0 0 Q (F0 m 157 ls []) := by
                          intro n
                          induction n with
                          | zero =>
                            intro x4 x5 c21_17 c22_17 H locs ls hn_17 i17_0 i17_1 i17_2 hP hS hl
                            exfalso; omega
                          | succ n ih_157 =>
                            intro x4 x5 c21_17 c22_17 H locs ls hn_17 i17_0 i17_1 i17_2 hP hS hl
                            refine lv_iload hx hb dX11_advance_157 (lv_at hl 5 rfl) ?_
                            refine lv_iconst (v := iI 1) hx hb dX11_advance_159 rfl ?_
                            refine gi_clt (tgt := 233) hx hb dX11_advance_160 (by decide) (by omega) (by decide) (fun c_18 => ?_) (fun c_18 => ?_)
                            · refine lv_aload_n hx hb dX11_advance_233 rfl (lv_at hl 0 rfl) ?_
                              refine mdG_orderMany C hP mF_X11_91 dX11_advance_234 ?_
                              refine lv_iload_n hx hb dX11_advance_237 rfl (lv_at hl 3 rfl) ?_
                              refine lv_iload hx hb dX11_advance_238 (lv_at hl 4 rfl) ?_
                              refine mdS_orderMany (f1 := (va_up (va_up (va_up (va_up (va_up (va_up f 37 c37_15) 38 c38_15) 21 c21_17) 22 c22_17) 23 (u1 (f 23) ((v 23) + 1) x4)) 34 (f 34))) C hP hD hS (by omega) (by omega) (by omega) rfl (Or.inr (gF_up (V := mdV) (F := mdF) (gF_up (V := mdV) (F := mdF) (gF_up (V := mdV) (F := mdF) (gF_up (V := mdV) (F := mdF) (gF_up (V := mdV) (F := mdF) (gF_up (V := mdV) (F := mdF) (gR_up (V := mdV) (F := mdF) (gR_up (V := mdV) (F := mdF) (gR_up (V := mdV) (F := mdF) ⟨hok.1, hok.2⟩ 0 (hP.2.1 0)) 1 (hP.2.1 1)) 23 (hP.2.1 23)) 37 (hP.2.2 37)) 38 (hP.2.2 38)) 21 (hP.2.2 21)) 22 (hP.2.2 22)) 23 (u1_rng (hP.2.2 23) (show 0 ≤ x4 ∧ x4 ≤ 16 from (by omega)))) 34 (hP.2.2 34))) dX11_advance_240 (fun H locs hP hS => ?_)
                              refine lv_aload_n hx hb dX11_advance_241 rfl (lv_at hl 0 rfl) ?_
                              refine lv_iload_n hx hb dX11_advance_242 rfl (lv_at hl 3 rfl) ?_
                              refine mdP_open (v1 := (va_up (va_up (va_up v 0 0) 1 0) 23 ((v 23) + 1))) C hP hD hS mF_X11_82 (by omega) rfl (Or.inr (gF_up (V := mdV) (F := mdF) (gF_up (V := mdV) (F := mdF) (gF_up (V := mdV) (F := mdF) (gF_up (V := mdV) (F := mdF) (gF_up (V := mdV) (F := mdF) (gF_up (V := mdV) (F := mdF) (gR_up (V := mdV) (F := mdF) (gR_up (V := mdV) (F := mdF) (gR_up (V := mdV) (F := mdF) ⟨hok.1, hok.2⟩ 0 (hP.2.1 0)) 1 (hP.2.1 1)) 23 (show (-1) ≤ ((v 23) + 1) ∧ ((v 23) + 1) ≤ 3 from by omega)) 37 (hP.2.2 37)) 38 (hP.2.2 38)) 21 (hP.2.2 21)) 22 (hP.2.2 22)) 23 (hP.2.2 23)) 34 (hP.2.2 34))) dX11_advance_243 (fun H locs hP hS => ?_)
                              refine lv_iconst (v := iI 0) hx hb dX11_advance_246 rfl ?_
                              refine lv_istore (lv' := [(5, .int (iI 0)), (0, .ref (ad 0)), (1, .int (iI a1)), (2, .int (iI a2)), (3, .int (iI ((v 23) + 1))), (4, .int (iI x4))]) hx hb dX11_advance_247 hl (by decide) rfl (fun ls hl => ?_)
                              have L_19 : ∀ (n : Nat) (x5 : Int) (c34_19 : Int → Int) (H : Heap) (locs : List Loc) (ls : Array Slot), 16 - x5 < (n : Int) → (0 ≤ x5 ∧ x5 ≤ (v 22)) → gWd D (mdT k ad) (va_up (va_up (va_up v 0 0) 1 0) 23 ((v 23) + 1)) (va_up (va_up (va_up (va_up (va_up (va_up f 37 c37_15) 38 c38_15) 21 c21_17) 22 c22_17) 23 (u1 (f 23) ((v 23) + 1) x4)) 34 c34_19) (va_up g 1 d1_15) H → va_S A s.heap H locs → lv_has ls 7 [(0, .ref (ad 0)), (1, .int (iI a1)), (2, .int (iI a2)), (3, .int (iI ((v 23) + 1))), (4, .int (iI x4)), (5, .int (iI x5))] → W p l e (gRm 6 172) s m args below meth c H locs 0 0 Q (F0 m 249 ls []) := by
                                intro n
                                induction n with
                                | zero =>
                                  intro x5 c34_19 H locs ls hn_19 i19_0 hP hS hl
                                  exfalso; omega
                                | succ n ih_249 =>
                                  intro x5 c34_19 H locs ls hn_19 i19_0 hP hS hl
                                  refine lv_iload hx hb dX11_advance_249 (lv_at hl 5 rfl) ?_
                                  refine lv_aload_n hx hb dX11_advance_251 rfl (lv_at hl 0 rfl) ?_
                                  refine mdG_climbers C hP mF_X11_313 dX11_advance_252 ?_
                                  show W p l e (gRm 6 172) s m args below meth c _ _ 0 0 Q (F0 m 255 ls [.int (iI (v 22)), .int (iI x5)])
                                  refine gi_cge (tgt := 272) hx hb dX11_advance_255 (by decide) (by omega) (by omega) (fun c_20 => ?_) (fun c_20 => ?_)
                                  · refine lv_iload hx hb dX11_advance_272 (lv_at hl 4 rfl) ?_
                                    exact g_iret hQ C hr hlocks hP hS dX11_advance_274 ⟨x4, 0, 0, ((v 23) + 1), c37_15, c38_15, c21_17, c22_17, (u1 (f 23) ((v 23) + 1) x4), c34_19, d1_15, rfl, rfl, rfl, rfl, (by first | omega | (split <;> omega))⟩
                                  · refine lv_aload_n hx hb dX11_advance_258 rfl (lv_at hl 0 rfl) ?_
                                    refine mdG_outs C hP mF_X11_124 dX11_advance_259 ?_
                                    refine lv_iload hx hb dX11_advance_262 (lv_at hl 5 rfl) ?_
                                    refine lv_iconst (v := iI 0) hx hb dX11_advance_264 rfl ?_
                                    refine mdS_outs (f1 := (va_up (va_up (va_up (va_up (va_up (va_up f 37 c37_15) 38 c38_15) 21 c21_17) 22 c22_17) 23 (u1 (f 23) ((v 23) + 1) x4)) 34 (u1 c34_19 x5 0))) C hP hD hS (by omega) (by omega) (by decide) rfl (Or.inr (gF_up (V := mdV) (F := mdF) (gF_up (V := mdV) (F := mdF) (gF_up (V := mdV) (F := mdF) (gF_up (V := mdV) (F := mdF) (gF_up (V := mdV) (F := mdF) (gF_up (V := mdV) (F := mdF) (gR_up (V := mdV) (F := mdF) (gR_up (V := mdV) (F := mdF) (gR_up (V := mdV) (F := mdF) ⟨hok.1, hok.2⟩ 0 (hP.2.1 0)) 1 (hP.2.1 1)) 23 (hP.2.1 23)) 37 (hP.2.2 37)) 38 (hP.2.2 38)) 21 (hP.2.2 21)) 22 (hP.2.2 22)) 23 (hP.2.2 23)) 34 (u1_rng (hP.2.2 34) (show 0 ≤ 0 ∧ 0 ≤ 20 from (by decide))))) dX11_advance_265 (fun H locs hP hS => ?_)
                                    refine lv_iinc (v := iI (x5 + 1)) (lv' := [(5, .int (iI (x5 + 1))), (0, .ref (ad 0)), (1, .int (iI a1)), (2, .int (iI a2)), (3, .int (iI ((v 23) + 1))), (4, .int (iI x4))]) hx hb dX11_advance_266 hl (k := 5) rfl (by show iI _ + iI 1 = _; rw [iI_add]) (by decide) rfl (fun ls hl => ?_)
                                    refine lv_goto (tgt := 249) hx hb dX11_advance_269 (by decide) ?_
                                    exact ih_249 (x5 + 1) (u1 c34_19 x5 0) _ _ _ (by omega) (by omega) hP hS (lv_sub hl [1, 2, 3, 4, 5, 0] rfl)
                              exact L_19 17 0 (f 34) _ _ _ (by omega) (by omega) hP hS (lv_sub hl [1, 2, 3, 4, 5, 0] rfl)
                            · refine lv_aload_n hx hb dX11_advance_163 rfl (lv_at hl 0 rfl) ?_
                              refine mdG_climbers C hP mF_X11_313 dX11_advance_164 ?_
                              show W p l e (gRm 6 172) s m args below meth c _ _ 0 0 Q (F0 m 167 ls [.int (iI (v 22))])
                              refine lv_iconst (v := iI 1) hx hb dX11_advance_167 rfl ?_
                              refine gi_sub (z := ((v 22) - 1)) hx hb dX11_advance_168 rfl ?_
                              refine lv_istore (lv' := [(6, .int (iI ((v 22) - 1))), (0, .ref (ad 0)), (1, .int (iI a1)), (2, .int (iI a2)), (3, .int (iI ((v 23) + 1))), (4, .int (iI x4)), (5, .int (iI x5))]) hx hb dX11_advance_169 hl (by decide) rfl (fun ls hl => ?_)
                              have L_21 : ∀ (n : Nat) (x4 : Int) (x6 : Int) (c21_21 : Int → Int) (c22_21 : Int → Int) (H : Heap) (locs : List Loc) (ls : Array Slot), x6 + 1 < (n : Int) → ((-1) ≤ x6 ∧ x6 < (v 22)) → (x4 = cn (cP c38_15 x5 a1 x6) (v 22).toNat) → (0 ≤ x4 ∧ x4 ≤ 16) → gWd D (mdT k ad) (va_up (va_up (va_up v 0 0) 1 0) 23 (v 23)) (va_up (va_up (va_up (va_up (va_up (va_up f 37 c37_15) 38 c38_15) 21 c21_21) 22 c22_21) 23 (f 23)) 34 (f 34)) (va_up g 1 d1_15) H → va_S A s.heap H locs → lv_has ls 7 [(0, .ref (ad 0)), (1, .int (iI a1)), (2, .int (iI a2)), (3, .int (iI ((v 23) + 1))), (4, .int (iI x4)), (5, .int (iI x5)), (6, .int (iI x6))] → W p l e (gRm 6 172) s m args below meth c H locs 0 0 Q (F0 m 171 ls []) := by
                                intro n
                                induction n with
                                | zero =>
                                  intro x4 x6 c21_21 c22_21 H locs ls hn_21 i21_0 i21_1 i21_2 hP hS hl
                                  exfalso; omega
                                | succ n ih_171 =>
                                  intro x4 x6 c21_21 c22_21 H locs ls hn_21 i21_0 i21_1 i21_2 hP hS hl
                                  refine lv_iload hx hb dX11_advance_171 (lv_at hl 6 rfl) ?_
                                  refine gi_zlt (tgt := 227) hx hb dX11_advance_173 (by decide) (by omega) (fun c_22 => ?_) (fun c_22 => ?_)
                                  · refine lv_iinc (v := iI (x5 + (-1))) (lv' := [(5, .int (iI (x5 + (-1)))), (0, .ref (ad 0)), (1, .int (iI a1)), (2, .int (iI a2)), (3, .int (iI ((v 23) + 1))), (4, .int (iI x4)), (6, .int (iI x6))]) hx hb dX11_advance_227 hl (k := 5) rfl (by show iI _ + iI (-1) = _; rw [iI_add]) (by decide) rfl (fun ls hl => ?_)
                                    refine lv_goto (tgt := 157) hx hb dX11_advance_230 (by decide) ?_
                                    exact ih_157 x4 (x5 + (-1)) c21_21 c22_21 _ _ _ (by omega) (by omega) (by have e6 : x6 = -1 := (by omega); subst e6; have q := cP_next (a := c38_15) (m := (v 22)) (show x5 ≤ a1 by omega); omega) (by omega) hP hS (lv_sub hl [1, 2, 3, 4, 5, 0] rfl)
                                  · refine lv_aload_n hx hb dX11_advance_176 rfl (lv_at hl 0 rfl) ?_
                                    refine mdG_ranks C hP mF_X11_140 dX11_advance_177 ?_
                                    refine lv_iload hx hb dX11_advance_180 (lv_at hl 6 rfl) ?_
                                    refine mdL_ranks C hP (by omega) (by omega) dX11_advance_182 ?_
                                    show W p l e (gRm 6 172) s m args below meth c _ _ 0 0 Q (F0 m 183 ls [.int (iI (c38_15 x6))])
                                    have r_23 : (-1) ≤ (c38_15 x6) ∧ (c38_15 x6) ≤ 17 := hP.2.2 38 x6
                                    have qh_24 := fun h => cP_hit (a := c38_15) (r := x5) (t := a1) (c := x6) (m := (v 22)) (by omega) (by omega) h
                                    have qs_25 := fun h => cP_skip (a := c38_15) (r := x5) (t := a1) (c := x6) h (v 22).toNat
                                    refine lv_iload hx hb dX11_advance_183 (lv_at hl 5 rfl) ?_
                                    refine gi_ceq (tgt := 191) hx hb dX11_advance_185 (by decide) (by omega) (by omega) (fun c_26 => ?_) (fun c_26 => ?_)
                                    · refine lv_aload_n hx hb dX11_advance_191 rfl (lv_at hl 0 rfl) ?_
                                      refine mdG_isIn C hP mF_X11_85 dX11_advance_192 ?_
                                      refine lv_bipush (v := iI 16) hx hb dX11_advance_195 (by decide) ?_
                                      refine lv_iload_n hx hb dX11_advance_197 rfl (lv_at hl 3 rfl) ?_
                                      refine gi_mul (z := (16 * ((v 23) + 1))) hx hb dX11_advance_198 rfl ?_
                                      refine lv_iload hx hb dX11_advance_199 (lv_at hl 6 rfl) ?_
                                      refine gi_add (z := ((16 * ((v 23) + 1)) + x6)) hx hb dX11_advance_201 rfl ?_
                                      refine lv_iconst (v := iI 1) hx hb dX11_advance_202 rfl ?_
                                      refine mdS_isIn (f1 := (va_up (va_up (va_up (va_up (va_up (va_up f 37 c37_15) 38 c38_15) 21 (u1 c21_21 ((16 * ((v 23) + 1)) + x6) 1)) 22 c22_21) 23 (f 23)) 34 (f 34))) C hP hD hS (by omega) (by omega) (by decide) (by decide) rfl (Or.inr (gF_up (V := mdV) (F := mdF) (gF_up (V := mdV) (F := mdF) (gF_up (V := mdV) (F := mdF) (gF_up (V := mdV) (F := mdF) (gF_up (V := mdV) (F := mdF) (gF_up (V := mdV) (F := mdF) (gR_up (V := mdV) (F := mdF) (gR_up (V := mdV) (F := mdF) (gR_up (V := mdV) (F := mdF) ⟨hok.1, hok.2⟩ 0 (hP.2.1 0)) 1 (hP.2.1 1)) 23 (hP.2.1 23)) 37 (hP.2.2 37)) 38 (hP.2.2 38)) 21 (u1_rng (hP.2.2 21) (show 0 ≤ 1 ∧ 1 ≤ 1 from (by decide)))) 22 (hP.2.2 22)) 23 (hP.2.2 23)) 34 (hP.2.2 34))) dX11_advance_203 (fun H locs hP hS => ?_)
                                      refine lv_aload_n hx hb dX11_advance_204 rfl (lv_at hl 0 rfl) ?_
                                      refine mdG_order C hP mF_X11_88 dX11_advance_205 ?_
                                      refine lv_bipush (v := iI 16) hx hb dX11_advance_208 (by decide) ?_
                                      refine lv_iload_n hx hb dX11_advance_210 rfl (lv_at hl 3 rfl) ?_
                                      refine gi_mul (z := (16 * ((v 23) + 1))) hx hb dX11_advance_211 rfl ?_
                                      refine lv_iload hx hb dX11_advance_212 (lv_at hl 4 rfl) ?_
                                      refine gi_add (z := ((16 * ((v 23) + 1)) + x4)) hx hb dX11_advance_214 rfl ?_
                                      refine lv_iload hx hb dX11_advance_215 (lv_at hl 6 rfl) ?_
                                      refine mdS_order (f1 := (va_up (va_up (va_up (va_up (va_up (va_up f 37 c37_15) 38 c38_15) 21 (u1 c21_21 ((16 * ((v 23) + 1)) + x6) 1)) 22 (u1 c22_21 ((16 * ((v 23) + 1)) + x4) x6)) 23 (f 23)) 34 (f 34))) C hP hD hS (by omega) (by omega) (by omega) rfl (Or.inr (gF_up (V := mdV) (F := mdF) (gF_up (V := mdV) (F := mdF) (gF_up (V := mdV) (F := mdF) (gF_up (V := mdV) (F := mdF) (gF_up (V := mdV) (F := mdF) (gF_up (V := mdV) (F := mdF) (gR_up (V := mdV) (F := mdF) (gR_up (V := mdV) (F := mdF) (gR_up (V := mdV) (F := mdF) ⟨hok.1, hok.2⟩ 0 (hP.2.1 0)) 1 (hP.2.1 1)) 23 (hP.2.1 23)) 37 (hP.2.2 37)) 38 (hP.2.2 38)) 21 (hP.2.2 21)) 22 (u1_rng (hP.2.2 22) (show 0 ≤ x6 ∧ x6 ≤ 15 from (by omega)))) 23 (hP.2.2 23)) 34 (hP.2.2 34))) dX11_advance_217 (fun H locs hP hS => ?_)
                                      refine lv_iinc (v := iI (x4 + 1)) (lv' := [(4, .int (iI (x4 + 1))), (0, .ref (ad 0)), (1, .int (iI a1)), (2, .int (iI a2)), (3, .int (iI ((v 23) + 1))), (5, .int (iI x5)), (6, .int (iI x6))]) hx hb dX11_advance_218 hl (k := 4) rfl (by show iI _ + iI 1 = _; rw [iI_add]) (by decide) rfl (fun ls hl => ?_)
                                      refine lv_iinc (v := iI (x6 + (-1))) (lv' := [(6, .int (iI (x6 + (-1)))), (4, .int (iI (x4 + 1))), (0, .ref (ad 0)), (1, .int (iI a1)), (2, .int (iI a2)), (3, .int (iI ((v 23) + 1))), (5, .int (iI x5))]) hx hb dX11_advance_221 hl (k := 6) rfl (by show iI _ + iI (-1) = _; rw [iI_add]) (by decide) rfl (fun ls hl => ?_)
                                      refine lv_goto (tgt := 171) hx hb dX11_advance_224 (by decide) ?_
                                      exact ih_171 (x4 + 1) (x6 + (-1)) (u1 c21_21 ((16 * ((v 23) + 1)) + x6) 1) (u1 c22_21 ((16 * ((v 23) + 1)) + x4) x6) _ _ _ (by omega) (by omega) (by omega) (by omega) hP hS (lv_sub hl [2, 3, 4, 5, 1, 6, 0] rfl)
                                    · refine lv_goto (tgt := 221) hx hb dX11_advance_188 (by decide) ?_
                                      refine lv_iinc (v := iI (x6 + (-1))) (lv' := [(6, .int (iI (x6 + (-1)))), (0, .ref (ad 0)), (1, .int (iI a1)), (2, .int (iI a2)), (3, .int (iI ((v 23) + 1))), (4, .int (iI x4)), (5, .int (iI x5))]) hx hb dX11_advance_221 hl (k := 6) rfl (by show iI _ + iI (-1) = _; rw [iI_add]) (by decide) rfl (fun ls hl => ?_)
                                      refine lv_goto (tgt := 171) hx hb dX11_advance_224 (by decide) ?_
                                      exact ih_171 x4 (x6 + (-1)) c21_21 c22_21 _ _ _ (by omega) (by omega) (by omega) (by omega) hP hS (lv_sub hl [1, 2, 3, 4, 5, 6, 0] rfl)
                              exact L_21 17 x4 ((v 22) - 1) c21_17 c22_17 _ _ _ (by omega) (by omega) (by omega) (by omega) hP hS (lv_sub hl [1, 2, 3, 4, 5, 6, 0] rfl)
                        exact L_17 17 0 a1 (f 21) (f 22) _ _ _ (by omega) (by omega) (cP_start _ _ _).symm (by omega) hP hS (lv_sub hl [3, 4, 5, 2, 1, 0] rfl)
                      · refine lv_aload_n hx hb dX11_advance_101 rfl (lv_at hl 0 rfl) ?_
                        refine mdG_ranks C hP mF_X11_140 dX11_advance_102 ?_
                        refine lv_iload_n hx hb dX11_advance_105 rfl (lv_at hl 3 rfl) ?_
                        refine lv_aload_n hx hb dX11_advance_106 rfl (lv_at hl 0 rfl) ?_
                        refine mdG_isIn C hP mF_X11_85 dX11_advance_107 ?_
                        refine lv_bipush (v := iI 16) hx hb dX11_advance_110 (by decide) ?_
                        refine lv_aload_n hx hb dX11_advance_112 rfl (lv_at hl 0 rfl) ?_
                        refine mdG_open C hP mF_X11_82 dX11_advance_113 ?_
                        show W p l e (gRm 6 172) s m args below meth c _ _ 0 0 Q (F0 m 116 ls [.int (iI (v 23)), .int (iI 16), .ref (ad 22), .int (iI x3), .ref (ad 40)])
                        refine gi_mul (z := (16 * (v 23))) hx hb dX11_advance_116 rfl ?_
                        refine lv_iload_n hx hb dX11_advance_117 rfl (lv_at hl 3 rfl) ?_
                        refine gi_add (z := ((16 * (v 23)) + x3)) hx hb dX11_advance_118 rfl ?_
                        refine mdL_isIn C hP (by omega) (by omega) dX11_advance_119 ?_
                        show W p l e (gRm 6 172) s m args below meth c _ _ 0 0 Q (F0 m 120 ls [.int (iI (f 21 ((16 * (v 23)) + x3))), .int (iI x3), .ref (ad 40)])
                        have r_27 : 0 ≤ (f 21 ((16 * (v 23)) + x3)) ∧ (f 21 ((16 * (v 23)) + x3)) ≤ 1 := hP.2.2 21 ((16 * (v 23)) + x3)
                        refine gi_zeq (tgt := 136) hx hb dX11_advance_120 (by decide) (by omega) (fun c_28 => ?_) (fun c_28 => ?_)
                        · refine lv_iconst (v := iI (-1)) hx hb dX11_advance_136 rfl ?_
                          refine mdS_ranks (f1 := (va_up (va_up (va_up (va_up (va_up (va_up f 37 c37_15) 38 (u1 c38_15 x3 (-1))) 21 (f 21)) 22 (f 22)) 23 (f 23)) 34 (f 34))) C hP hD hS (by omega) (by omega) (by decide) rfl (Or.inr (gF_up (V := mdV) (F := mdF) (gF_up (V := mdV) (F := mdF) (gF_up (V := mdV) (F := mdF) (gF_up (V := mdV) (F := mdF) (gF_up (V := mdV) (F := mdF) (gF_up (V := mdV) (F := mdF) (gR_up (V := mdV) (F := mdF) (gR_up (V := mdV) (F := mdF) (gR_up (V := mdV) (F := mdF) ⟨hok.1, hok.2⟩ 0 (hP.2.1 0)) 1 (hP.2.1 1)) 23 (hP.2.1 23)) 37 (hP.2.2 37)) 38 (u1_rng (hP.2.2 38) (show (-1) ≤ (-1) ∧ (-1) ≤ 17 from (by decide)))) 21 (hP.2.2 21)) 22 (hP.2.2 22)) 23 (hP.2.2 23)) 34 (hP.2.2 34))) dX11_advance_137 (fun H locs hP hS => ?_)
                          refine lv_iinc (v := iI (x3 + 1)) (lv' := [(3, .int (iI (x3 + 1))), (0, .ref (ad 0)), (1, .int (iI a1)), (2, .int (iI a2))]) hx hb dX11_advance_138 hl (k := 3) rfl (by show iI _ + iI 1 = _; rw [iI_add]) (by decide) rfl (fun ls hl => ?_)
                          refine lv_goto (tgt := 93) hx hb dX11_advance_141 (by decide) ?_
                          exact ih_93 (x3 + 1) c37_15 (u1 c38_15 x3 (-1)) d1_15 _ _ _ (by omega) (by omega) hP hS (lv_sub hl [1, 2, 3, 0] rfl)
                        · refine lv_aload_n hx hb dX11_advance_123 rfl (lv_at hl 0 rfl) ?_
                          refine lv_aload_n hx hb dX11_advance_124 rfl (lv_at hl 0 rfl) ?_
                          refine mdG_open C hP mF_X11_82 dX11_advance_125 ?_
                          show W p l e (gRm 6 172) s m args below meth c _ _ 0 0 Q (F0 m 128 ls [.int (iI (v 23)), .ref (ad 0), .int (iI x3), .ref (ad 40)])
                          refine lv_iload_n hx hb dX11_advance_128 rfl (lv_at hl 3 rfl) ?_
                          refine lv_iload_n hx hb dX11_advance_129 rfl (lv_at hl 2 rfl) ?_
                          refine g_cv (As := [.int (iI (v 23)), .int (iI x3), .int (iI a2)]) (rest := [.int (iI x3), .ref (ad 40)]) (n := 3) C hml (m_X11_rankOf l D k A ad hD (va_up (va_up (va_up v 0 0) 1 0) 23 (v 23)) (va_up (va_up (va_up (va_up (va_up (va_up f 37 c37_15) 38 c38_15) 21 (f 21)) 22 (f 22)) 23 (f 23)) 34 (f 34)) (va_up g 1 d1_15) (v 23) x3 a2 (by omega) (by omega) (by omega) (show rpOk (v 13) (f 9) from hrp (by omega)) (show 0 ≤ (v 23) ∧ (v 23) ≤ 3 from by omega)) mM_X11_401 mI_X11_rankOf mE_X11_rankOf mN_X11 mC_X11_rankOf (by decide +kernel) 0 (ci := 11) rfl rfl hP hS (fun _ h => h) ⟨Nat.le_of_ble_eq_true rfl, Nat.le_of_ble_eq_true rfl⟩ ⟨Nat.zero_le _, Nat.zero_le _⟩ hl.1 rfl rfl (Nat.le_of_ble_eq_true rfl) dX11_advance_130 (fun r_29 v_29 f_29 g_29 H locs hq_29 hP _ hS => ?_)
                          obtain ⟨z_29, a37_29, b1_29, rfl, rfl, rfl, rfl, p0_29⟩ := hq_29
                          show W p l e (gRm 6 172) s m args below meth c _ _ 0 0 Q (F0 m 133 ls [.int (iI z_29), .int (iI x3), .ref (ad 40)])
                          have hP : gWd D (mdT k ad) (va_up (va_up (va_up v 0 0) 1 0) 23 (v 23)) (va_up (va_up (va_up (va_up (va_up (va_up f 37 a37_29) 38 c38_15) 21 (f 21)) 22 (f 22)) 23 (f 23)) 34 (f 34)) (va_up g 1 b1_29) H := ⟨hP.1, (gF_up (V := mdV) (F := mdF) (gF_up (V := mdV) (F := mdF) (gF_up (V := mdV) (F := mdF) (gF_up (V := mdV) (F := mdF) (gF_up (V := mdV) (F := mdF) (gF_up (V := mdV) (F := mdF) (gR_up (V := mdV) (F := mdF) (gR_up (V := mdV) (F := mdF) (gR_up (V := mdV) (F := mdF) ⟨hok.1, hok.2⟩ 0 (hP.2.1 0)) 1 (hP.2.1 1)) 23 (hP.2.1 23)) 37 (hP.2.2 37)) 38 (hP.2.2 38)) 21 (hP.2.2 21)) 22 (hP.2.2 22)) 23 (hP.2.2 23)) 34 (hP.2.2 34))⟩
                          replace p0_29 : 1 ≤ z_29 ∧ z_29 ≤ 17 := p0_29
                          refine lv_goto (tgt := 137) hx hb dX11_advance_133 (by decide) ?_
                          refine mdS_ranks (f1 := (va_up (va_up (va_up (va_up (va_up (va_up f 37 a37_29) 38 (u1 c38_15 x3 z_29)) 21 (f 21)) 22 (f 22)) 23 (f 23)) 34 (f 34))) C hP hD hS (by omega) (by omega) (by omega) rfl (Or.inr (gF_up (V := mdV) (F := mdF) (gF_up (V := mdV) (F := mdF) (gF_up (V := mdV) (F := mdF) (gF_up (V := mdV) (F := mdF) (gF_up (V := mdV) (F := mdF) (gF_up (V := mdV) (F := mdF) (gR_up (V := mdV) (F := mdF) (gR_up (V := mdV) (F := mdF) (gR_up (V := mdV) (F := mdF) ⟨hok.1, hok.2⟩ 0 (hP.2.1 0)) 1 (hP.2.1 1)) 23 (hP.2.1 23)) 37 (hP.2.2 37)) 38 (u1_rng (hP.2.2 38) (show (-1) ≤ z_29 ∧ z_29 ≤ 17 from (by omega)))) 21 (hP.2.2 21)) 22 (hP.2.2 22)) 23 (hP.2.2 23)) 34 (hP.2.2 34))) dX11_advance_137 (fun H locs hP hS => ?_)
                          refine lv_iinc (v := iI (x3 + 1)) (lv' := [(3, .int (iI (x3 + 1))), (0, .ref (ad 0)), (1, .int (iI a1)), (2, .int (iI a2))]) hx hb dX11_advance_138 hl (k := 3) rfl (by show iI _ + iI 1 = _; rw [iI_add]) (by decide) rfl (fun ls hl => ?_)
                          refine lv_goto (tgt := 93) hx hb dX11_advance_141 (by decide) ?_
                          exact ih_93 (x3 + 1) a37_29 (u1 c38_15 x3 z_29) b1_29 _ _ _ (by omega) (by omega) hP hS (lv_sub hl [1, 2, 3, 0] rfl)
                  exact L_15 17 0 (f 37) (f 38) (g 1) _ _ _ (by omega) (by omega) hP hS (lv_sub hl [1, 2, 3, 0] rfl)
                · refine lv_aload_n hx hb dX11_advance_84 rfl (lv_at hl 0 rfl) ?_
                  refine lv_bipush (v := iI 10) hx hb dX11_advance_85 (by decide) ?_
                  refine g_cv (As := [.int (iI 10)]) (rest := []) (n := 1) C hml (m_X11_refuse l D k A ad hD (va_up (va_up (va_up v 0 0) 1 0) 23 (v 23)) (va_up (va_up (va_up (va_up (va_up (va_up f 37 (f 37)) 38 (f 38)) 21 (f 21)) 22 (f 22)) 23 (f 23)) 34 (f 34)) (va_up g 1 (g 1)) 10 (by decide) (show 0 ≤ (10 : Int) ∧ (10 : Int) ≤ 10 from by omega)) mM_X11_295 mI_X11_refuse mE_X11_refuse mN_X11 mC_X11_refuse (by decide +kernel) 0 (ci := 11) rfl rfl hP hS (fun _ h => h) ⟨Nat.le_of_ble_eq_true rfl, Nat.le_of_ble_eq_true rfl⟩ ⟨Nat.zero_le _, Nat.zero_le _⟩ hl.1 rfl rfl (Nat.le_of_ble_eq_true rfl) dX11_advance_87 (fun r_30 v_30 f_30 g_30 H locs hq_30 hP _ hS => ?_)
                  obtain ⟨rfl, rfl, rfl, rfl⟩ := hq_30
                  show W p l e (gRm 6 172) s m args below meth c _ _ 0 0 Q (F0 m 90 ls [.int (iI (-1))])
                  have hP : gWd D (mdT k ad) (va_up (va_up (va_up v 0 (10 : Int)) 1 0) 23 (v 23)) (va_up (va_up (va_up (va_up (va_up (va_up f 37 (f 37)) 38 (f 38)) 21 (f 21)) 22 (f 22)) 23 (f 23)) 34 (f 34)) (va_up g 1 (g 1)) H := ⟨hP.1, (gF_up (V := mdV) (F := mdF) (gF_up (V := mdV) (F := mdF) (gF_up (V := mdV) (F := mdF) (gF_up (V := mdV) (F := mdF) (gF_up (V := mdV) (F := mdF) (gF_up (V := mdV) (F := mdF) (gR_up (V := mdV) (F := mdF) (gR_up (V := mdV) (F := mdF) (gR_up (V := mdV) (F := mdF) ⟨hok.1, hok.2⟩ 0 (hP.2.1 0)) 1 (hP.2.1 1)) 23 (hP.2.1 23)) 37 (hP.2.2 37)) 38 (hP.2.2 38)) 21 (hP.2.2 21)) 22 (hP.2.2 22)) 23 (hP.2.2 23)) 34 (hP.2.2 34))⟩
                  exact g_iret hQ C hr hlocks hP hS dX11_advance_90 ⟨(-1), (10 : Int), 0, (v 23), (f 37), (f 38), (f 21), (f 22), (f 23), (f 34), (g 1), rfl, rfl, rfl, rfl, (by first | omega | (split <;> omega))⟩
            · refine lv_aload_n hx hb dX11_advance_44 rfl (lv_at hl 0 rfl) ?_
              refine lv_iload_n hx hb dX11_advance_45 rfl (lv_at hl 3 rfl) ?_
              refine g_cv (As := [.int (iI x3)]) (rest := []) (n := 1) C hml (m_X11_openTry l D k A ad hD (va_up (va_up (va_up v 0 0) 1 0) 23 (v 23)) (va_up (va_up (va_up (va_up (va_up (va_up f 37 (f 37)) 38 (f 38)) 21 (f 21)) 22 (f 22)) 23 (f 23)) 34 (f 34)) (va_up g 1 (g 1)) x3 (by omega)) mM_X11_355 mI_X11_openTry mE_X11_openTry mN_X11 mC_X11_openTry (by decide +kernel) 0 (ci := 11) rfl rfl hP hS (fun _ h => h) ⟨Nat.le_of_ble_eq_true rfl, Nat.le_of_ble_eq_true rfl⟩ ⟨Nat.zero_le _, Nat.zero_le _⟩ hl.1 rfl rfl (Nat.le_of_ble_eq_true rfl) dX11_advance_46 (fun r_31 v_31 f_31 g_31 H locs hq_31 hP _ hS => ?_)
              obtain ⟨z_31, rfl, rfl, rfl, rfl, p0_31⟩ := hq_31
              show W p l e (gRm 6 172) s m args below meth c _ _ 0 0 Q (F0 m 49 ls [.int (iI z_31)])
              replace p0_31 : (-1) ≤ z_31 ∧ z_31 ≤ 299 := p0_31
              refine gi_zlt (tgt := 58) hx hb dX11_advance_49 (by decide) (by omega) (fun c_32 => ?_) (fun c_32 => ?_)
              · refine lv_iinc (v := iI (x3 + 1)) (lv' := [(3, .int (iI (x3 + 1))), (0, .ref (ad 0)), (1, .int (iI a1)), (2, .int (iI a2))]) hx hb dX11_advance_58 hl (k := 3) rfl (by show iI _ + iI 1 = _; rw [iI_add]) (by decide) rfl (fun ls hl => ?_)
                refine lv_goto (tgt := 36) hx hb dX11_advance_61 (by decide) ?_
                exact ih_36 (x3 + 1) _ _ _ (by omega) (by omega) hP hS (lv_sub hl [1, 2, 3, 0] rfl)
              · refine lv_aload_n hx hb dX11_advance_52 rfl (lv_at hl 0 rfl) ?_
                refine lv_iconst (v := iI 5) hx hb dX11_advance_53 rfl ?_
                refine g_cv (As := [.int (iI 5)]) (rest := []) (n := 1) C hml (m_X11_refuse l D k A ad hD (va_up (va_up (va_up v 0 0) 1 0) 23 (v 23)) (va_up (va_up (va_up (va_up (va_up (va_up f 37 (f 37)) 38 (f 38)) 21 (f 21)) 22 (f 22)) 23 (f 23)) 34 (f 34)) (va_up g 1 (g 1)) 5 (by decide) (show 0 ≤ (5 : Int) ∧ (5 : Int) ≤ 10 from by omega)) mM_X11_295 mI_X11_refuse mE_X11_refuse mN_X11 mC_X11_refuse (by decide +kernel) 0 (ci := 11) rfl rfl hP hS (fun _ h => h) ⟨Nat.le_of_ble_eq_true rfl, Nat.le_of_ble_eq_true rfl⟩ ⟨Nat.zero_le _, Nat.zero_le _⟩ hl.1 rfl rfl (Nat.le_of_ble_eq_true rfl) dX11_advance_54 (fun r_33 v_33 f_33 g_33 H locs hq_33 hP _ hS => ?_)
                obtain ⟨rfl, rfl, rfl, rfl⟩ := hq_33
                show W p l e (gRm 6 172) s m args below meth c _ _ 0 0 Q (F0 m 57 ls [.int (iI (-1))])
                have hP : gWd D (mdT k ad) (va_up (va_up (va_up v 0 (5 : Int)) 1 0) 23 (v 23)) (va_up (va_up (va_up (va_up (va_up (va_up f 37 (f 37)) 38 (f 38)) 21 (f 21)) 22 (f 22)) 23 (f 23)) 34 (f 34)) (va_up g 1 (g 1)) H := ⟨hP.1, (gF_up (V := mdV) (F := mdF) (gF_up (V := mdV) (F := mdF) (gF_up (V := mdV) (F := mdF) (gF_up (V := mdV) (F := mdF) (gF_up (V := mdV) (F := mdF) (gF_up (V := mdV) (F := mdF) (gR_up (V := mdV) (F := mdF) (gR_up (V := mdV) (F := mdF) (gR_up (V := mdV) (F := mdF) ⟨hok.1, hok.2⟩ 0 (hP.2.1 0)) 1 (hP.2.1 1)) 23 (hP.2.1 23)) 37 (hP.2.2 37)) 38 (hP.2.2 38)) 21 (hP.2.2 21)) 22 (hP.2.2 22)) 23 (hP.2.2 23)) 34 (hP.2.2 34))⟩
                exact g_iret hQ C hr hlocks hP hS dX11_advance_57 ⟨(-1), (5 : Int), 0, (v 23), (f 37), (f 38), (f 21), (f 22), (f 23), (f 34), (g 1), rfl, rfl, rfl, rfl, (by first | omega | (split <;> omega))⟩
        exact L_10 17 0 _ _ _ (by omega) (by omega) hP hS (lv_sub hl [1, 2, 3, 0] rfl)
      · refine lv_aload_n hx hb dX11_advance_28 rfl (lv_at hl 0 rfl) ?_
        refine lv_iconst (v := iI 2) hx hb dX11_advance_29 rfl ?_
        refine g_cv (As := [.int (iI 2)]) (rest := []) (n := 1) C hml (m_X11_refuse l D k A ad hD (va_up (va_up (va_up v 0 0) 1 0) 23 (v 23)) (va_up (va_up (va_up (va_up (va_up (va_up f 37 (f 37)) 38 (f 38)) 21 (f 21)) 22 (f 22)) 23 (f 23)) 34 (f 34)) (va_up g 1 (g 1)) 2 (by decide) (show 0 ≤ (2 : Int) ∧ (2 : Int) ≤ 10 from by omega)) mM_X11_295 mI_X11_refuse mE_X11_refuse mN_X11 mC_X11_refuse (by decide +kernel) 0 (ci := 11) rfl rfl hP hS (fun _ h => h) ⟨Nat.le_of_ble_eq_true rfl, Nat.le_of_ble_eq_true rfl⟩ ⟨Nat.zero_le _, Nat.zero_le _⟩ hl.1 rfl rfl (Nat.le_of_ble_eq_true rfl) dX11_advance_30 (fun r_34 v_34 f_34 g_34 H locs hq_34 hP _ hS => ?_)
        obtain ⟨rfl, rfl, rfl, rfl⟩ := hq_34
        show W p l e (gRm 6 172) s m args below meth c _ _ 0 0 Q (F0 m 33 ls [.int (iI (-1))])
        have hP : gWd D (mdT k ad) (va_up (va_up (va_up v 0 (2 : Int)) 1 0) 23 (v 23)) (va_up (va_up (va_up (va_up (va_up (va_up f 37 (f 37)) 38 (f 38)) 21 (f 21)) 22 (f 22)) 23 (f 23)) 34 (f 34)) (va_up g 1 (g 1)) H := ⟨hP.1, (gF_up (V := mdV) (F := mdF) (gF_up (V := mdV) (F := mdF) (gF_up (V := mdV) (F := mdF) (gF_up (V := mdV) (F := mdF) (gF_up (V := mdV) (F := mdF) (gF_up (V := mdV) (F := mdF) (gR_up (V := mdV) (F := mdF) (gR_up (V := mdV) (F := mdF) (gR_up (V := mdV) (F := mdF) ⟨hok.1, hok.2⟩ 0 (hP.2.1 0)) 1 (hP.2.1 1)) 23 (hP.2.1 23)) 37 (hP.2.2 37)) 38 (hP.2.2 38)) 21 (hP.2.2 21)) 22 (hP.2.2 22)) 23 (hP.2.2 23)) 34 (hP.2.2 34))⟩
        exact g_iret hQ C hr hlocks hP hS dX11_advance_33 ⟨(-1), (2 : Int), 0, (v 23), (f 37), (f 38), (f 21), (f 22), (f 23), (f 34), (g 1), rfl, rfl, rfl, rfl, (by first | omega | (split <;> omega))⟩
