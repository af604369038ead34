set_option maxHeartbeats 4000000 in
set_option maxRecDepth 100000 in
theorem x_bitCount (l : Launch) (D : va_G) (k : Nat → ClassId) (A : Nat → Prop) (ad : Nat → Nat) (hD : rwD A k ad) (v : gV) (f g : gF) (a1 : Int) (h_a1 : inR a1) : GM l D k A (rwT k ad) yJ6_bitCount_0f7a4 cJ6_bitCount_0f7a4 1 (some .int) 0 0 [.int (iI a1)] v f g (fun r v1 f1 g1 => ∃ (z : Int), r = some (.int (iI z)) ∧ v = v1 ∧ f = f1 ∧ g = g1 ∧ (z = (bcI a1)) ∧ ((-2147483648) ≤ z ∧ z ≤ 2147483647)) := by
  refine GM.of (by decide) (Nat.le_of_ble_eq_true rfl) ?_
  intro p e s m args below meth c Q ls hQ C hml hr hlocks hP hl
  have hx := C.1
  have hb := C.2.1
  have hok := hP.2
  have hS : va_S A s.heap s.heap [] := va_S.rf
  have hl : lv_has ls 1 [(0, .int (iI a1))] := hl
  refine lv_iload_n hx hb dJ6_bitCount_0f7a4_0 rfl (lv_at hl 0 rfl) ?_
  refine lv_iload_n hx hb dJ6_bitCount_0f7a4_1 rfl (lv_at hl 0 rfl) ?_
  refine lv_iconst (v := iI 1) hx hb dJ6_bitCount_0f7a4_2 rfl ?_
  obtain ⟨x_1, ex_1, hx_1⟩ : ∃ z : Int, ((iI a1).toUInt32 >>> ((iI 1).toUInt32 &&& Int32.toUInt32 31)).toInt32 = iI z ∧ inR z := ⟨(((iI a1).toUInt32 >>> ((iI 1).toUInt32 &&& Int32.toUInt32 31)).toInt32).toInt, (iI_of _).symm, iI_rng _⟩
  refine gi_ushr (z := x_1) hx hb dJ6_bitCount_0f7a4_3 ex_1 ?_
  refine lv_ldcw (v := iI 1431655765) hx hb C.2.2.2.1 (C.2.2.1 _ (show Cond.constant RJ6 265 (iI 1431655765) ∈ gWs from mD_J6_265)) dJ6_bitCount_0f7a4_4 ?_
  obtain ⟨x_2, ex_2, hx_2⟩ : ∃ z : Int, iI x_1 &&& iI 1431655765 = iI z ∧ inR z := ⟨(iI x_1 &&& iI 1431655765).toInt, (iI_of _).symm, iI_rng _⟩
  refine gi_and (z := x_2) hx hb dJ6_bitCount_0f7a4_7 ex_2 ?_
  refine gi_sub (z := (a1 - x_2)) hx hb dJ6_bitCount_0f7a4_8 rfl ?_
  obtain ⟨x_3, ex_3, hx_3⟩ : ∃ z : Int, iI (a1 - x_2) = iI z ∧ inR z := ⟨(iI (a1 - x_2)).toInt, (iI_of _).symm, iI_rng _⟩
  refine gi_norm ex_3 ?_
  refine lv_istore_n (lv' := [(0, .int (iI x_3))]) hx hb dJ6_bitCount_0f7a4_9 rfl hl (by decide) rfl (fun ls hl => ?_)
  refine lv_iload_n hx hb dJ6_bitCount_0f7a4_10 rfl (lv_at hl 0 rfl) ?_
  refine lv_ldcw (v := iI 858993459) hx hb C.2.2.2.1 (C.2.2.1 _ (show Cond.constant RJ6 266 (iI 858993459) ∈ gWs from mD_J6_266)) dJ6_bitCount_0f7a4_11 ?_
  obtain ⟨x_4, ex_4, hx_4⟩ : ∃ z : Int, iI x_3 &&& iI 858993459 = iI z ∧ inR z := ⟨(iI x_3 &&& iI 858993459).toInt, (iI_of _).symm, iI_rng _⟩
  refine gi_and (z := x_4) hx hb dJ6_bitCount_0f7a4_14 ex_4 ?_
  refine lv_iload_n hx hb dJ6_bitCount_0f7a4_15 rfl (lv_at hl 0 rfl) ?_
  refine lv_iconst (v := iI 2) hx hb dJ6_bitCount_0f7a4_16 rfl ?_
  obtain ⟨x_5, ex_5, hx_5⟩ : ∃ z : Int, ((iI x_3).toUInt32 >>> ((iI 2).toUInt32 &&& Int32.toUInt32 31)).toInt32 = iI z ∧ inR z := ⟨(((iI x_3).toUInt32 >>> ((iI 2).toUInt32 &&& Int32.toUInt32 31)).toInt32).toInt, (iI_of _).symm, iI_rng _⟩
  refine gi_ushr (z := x_5) hx hb dJ6_bitCount_0f7a4_17 ex_5 ?_
  refine lv_ldcw (v := iI 858993459) hx hb C.2.2.2.1 (C.2.2.1 _ (show Cond.constant RJ6 266 (iI 858993459) ∈ gWs from mD_J6_266)) dJ6_bitCount_0f7a4_18 ?_
  obtain ⟨x_6, ex_6, hx_6⟩ : ∃ z : Int, iI x_5 &&& iI 858993459 = iI z ∧ inR z := ⟨(iI x_5 &&& iI 858993459).toInt, (iI_of _).symm, iI_rng _⟩
  refine gi_and (z := x_6) hx hb dJ6_bitCount_0f7a4_21 ex_6 ?_
  refine gi_add (z := (x_4 + x_6)) hx hb dJ6_bitCount_0f7a4_22 rfl ?_
  obtain ⟨x_7, ex_7, hx_7⟩ : ∃ z : Int, iI (x_4 + x_6) = iI z ∧ inR z := ⟨(iI (x_4 + x_6)).toInt, (iI_of _).symm, iI_rng _⟩
  refine gi_norm ex_7 ?_
  refine lv_istore_n (lv' := [(0, .int (iI x_7))]) hx hb dJ6_bitCount_0f7a4_23 rfl hl (by decide) rfl (fun ls hl => ?_)
  refine lv_iload_n hx hb dJ6_bitCount_0f7a4_24 rfl (lv_at hl 0 rfl) ?_
  refine lv_iload_n hx hb dJ6_bitCount_0f7a4_25 rfl (lv_at hl 0 rfl) ?_
  refine lv_iconst (v := iI 4) hx hb dJ6_bitCount_0f7a4_26 rfl ?_
  obtain ⟨x_8, ex_8, hx_8⟩ : ∃ z : Int, ((iI x_7).toUInt32 >>> ((iI 4).toUInt32 &&& Int32.toUInt32 31)).toInt32 = iI z ∧ inR z := ⟨(((iI x_7).toUInt32 >>> ((iI 4).toUInt32 &&& Int32.toUInt32 31)).toInt32).toInt, (iI_of _).symm, iI_rng _⟩
  refine gi_ushr (z := x_8) hx hb dJ6_bitCount_0f7a4_27 ex_8 ?_
  refine gi_add (z := (x_7 + x_8)) hx hb dJ6_bitCount_0f7a4_28 rfl ?_
  obtain ⟨x_9, ex_9, hx_9⟩ : ∃ z : Int, iI (x_7 + x_8) = iI z ∧ inR z := ⟨(iI (x_7 + x_8)).toInt, (iI_of _).symm, iI_rng _⟩
  refine gi_norm ex_9 ?_
  refine lv_ldcw (v := iI 252645135) hx hb C.2.2.2.1 (C.2.2.1 _ (show Cond.constant RJ6 267 (iI 252645135) ∈ gWs from mD_J6_267)) dJ6_bitCount_0f7a4_29 ?_
  obtain ⟨x_10, ex_10, hx_10⟩ : ∃ z : Int, iI x_9 &&& iI 252645135 = iI z ∧ inR z := ⟨(iI x_9 &&& iI 252645135).toInt, (iI_of _).symm, iI_rng _⟩
  refine gi_and (z := x_10) hx hb dJ6_bitCount_0f7a4_32 ex_10 ?_
  refine lv_istore_n (lv' := [(0, .int (iI x_10))]) hx hb dJ6_bitCount_0f7a4_33 rfl hl (by decide) rfl (fun ls hl => ?_)
  refine lv_iload_n hx hb dJ6_bitCount_0f7a4_34 rfl (lv_at hl 0 rfl) ?_
  refine lv_iload_n hx hb dJ6_bitCount_0f7a4_35 rfl (lv_at hl 0 rfl) ?_
  refine lv_bipush (v := iI 8) hx hb dJ6_bitCount_0f7a4_36 (by decide) ?_
  obtain ⟨x_11, ex_11, hx_11⟩ : ∃ z : Int, ((iI x_10).toUInt32 >>> ((iI 8).toUInt32 &&& Int32.toUInt32 31)).toInt32 = iI z ∧ inR z := ⟨(((iI x_10).toUInt32 >>> ((iI 8).toUInt32 &&& Int32.toUInt32 31)).toInt32).toInt, (iI_of _).symm, iI_rng _⟩
  refine gi_ushr (z := x_11) hx hb dJ6_bitCount_0f7a4_38 ex_11 ?_
  refine gi_add (z := (x_10 + x_11)) hx hb dJ6_bitCount_0f7a4_39 rfl ?_
  obtain ⟨x_12, ex_12, hx_12⟩ : ∃ z : Int, iI (x_10 + x_11) = iI z ∧ inR z := ⟨(iI (x_10 + x_11)).toInt, (iI_of _).symm, iI_rng _⟩
  refine gi_norm ex_12 ?_
  refine lv_istore_n (lv' := [(0, .int (iI x_12))]) hx hb dJ6_bitCount_0f7a4_40 rfl hl (by decide) rfl (fun ls hl => ?_)
  refine lv_iload_n hx hb dJ6_bitCount_0f7a4_41 rfl (lv_at hl 0 rfl) ?_
  refine lv_iload_n hx hb dJ6_bitCount_0f7a4_42 rfl (lv_at hl 0 rfl) ?_
  refine lv_bipush (v := iI 16) hx hb dJ6_bitCount_0f7a4_43 (by decide) ?_
  obtain ⟨x_13, ex_13, hx_13⟩ : ∃ z : Int, ((iI x_12).toUInt32 >>> ((iI 16).toUInt32 &&& Int32.toUInt32 31)).toInt32 = iI z ∧ inR z := ⟨(((iI x_12).toUInt32 >>> ((iI 16).toUInt32 &&& Int32.toUInt32 31)).toInt32).toInt, (iI_of _).symm, iI_rng _⟩
  refine gi_ushr (z := x_13) hx hb dJ6_bitCount_0f7a4_45 ex_13 ?_
  refine gi_add (z := (x_12 + x_13)) hx hb dJ6_bitCount_0f7a4_46 rfl ?_
  obtain ⟨x_14, ex_14, hx_14⟩ : ∃ z : Int, iI (x_12 + x_13) = iI z ∧ inR z := ⟨(iI (x_12 + x_13)).toInt, (iI_of _).symm, iI_rng _⟩
  refine gi_norm ex_14 ?_
  refine lv_istore_n (lv' := [(0, .int (iI x_14))]) hx hb dJ6_bitCount_0f7a4_47 rfl hl (by decide) rfl (fun ls hl => ?_)
  refine lv_iload_n hx hb dJ6_bitCount_0f7a4_48 rfl (lv_at hl 0 rfl) ?_
  refine lv_bipush (v := iI 63) hx hb dJ6_bitCount_0f7a4_49 (by decide) ?_
  obtain ⟨x_15, ex_15, hx_15⟩ : ∃ z : Int, iI x_14 &&& iI 63 = iI z ∧ inR z := ⟨(iI x_14 &&& iI 63).toInt, (iI_of _).symm, iI_rng _⟩
  refine gi_and (z := x_15) hx hb dJ6_bitCount_0f7a4_51 ex_15 ?_
  exact g_iret hQ C hr hlocks hP hS dJ6_bitCount_0f7a4_52 ⟨x_15, rfl, rfl, rfl, rfl, (by unfold bcI; rw [show bc1 (iI a1) = iI x_3 from by unfold bc1 bcU; rw [ex_1, ex_2, iI_sub, ex_3], show bc2 (iI x_3) = iI x_7 from by unfold bc2 bcU; rw [ex_4, ex_5, ex_6, iI_add, ex_7], show bc3 (iI x_7) = iI x_10 from by unfold bc3 bcU; rw [ex_8, iI_add, ex_9, ex_10], show bc4 (iI x_10) = iI x_12 from by unfold bc4 bcU; rw [ex_11, iI_add, ex_12], show bc5 (iI x_12) = iI x_14 from by unfold bc5 bcU; rw [ex_13, iI_add, ex_14], ex_15, iI_toInt (by omega)]), (by first | omega | ((repeat' split) <;> omega))⟩

set_option maxHeartbeats 4000000 in
set_option maxRecDepth 100000 in
theorem x_Re_workKeys (l : Launch) (D : va_G) (k : Nat → ClassId) (A : Nat → Prop) (ad : Nat → Nat) (hD : rwD A k ad) (v : gV) (f g : gF) (a1 : Int) (a2 : Int) (dd : Int) (h_a1 : inR a1) (h_a2 : inR a2) (hs : shOk (v 1) (f 1)) (h1 : 0 ≤ a1 ∧ a1 ≤ 3) (h2 : 0 ≤ a2 ∧ a2 ≤ 15) (hrd : a1 < (v 1)) (hsv : svOk (f 20) (f 21) (f 22) (f 26) (Fk (f 28) (f 29) (f 30) (f 25) (v 24) dd) (v 23) (f 36) (f 37) (f 38)) (hkn : ∀ k, 0 ≤ k → k < (v 23) → (f 34) k = (Fk (f 28) (f 29) (f 30) (f 25) (v 24) dd) k) : GM l D k A (rwT k ad) yX5_workKeys cX5_workKeys 5 none 3 85 [.ref (ad 47), .int (iI a1), .int (iI a2)] v f g (fun r v1 f1 g1 => ∃ (a39_ : Int → Int) (b0_ : Int → Int) (b2_ : Int → Int) (b3_ : Int → Int), r = none ∧ v = v1 ∧ (va_up f 39 a39_) = f1 ∧ (va_up (va_up (va_up g 0 b0_) 2 b2_) 3 b3_) = g1 ∧ (∀ j, 0 ≤ j → j < (v 3) → b3_ ((a1 * 16 + a2) * 4 + j) = kV (f 2) (f 3) (v 2) (gFd (f 20) (f 21) (f 22) (f 23) (f 24) (f 25) (f 26) (f 28) (f 29) (f 30) (f 15) (f 17) (v 23) (v 24) dd) ((f 1) (a1 * 4)) ((f 4) j) a1 a2) ∧ (∀ e, e < (a1 * 16 + a2) * 4 ∨ (a1 * 16 + a2) * 4 + 4 ≤ e → b3_ e = (g 3) e)) := by
  refine GM.of (by decide) (Nat.le_of_ble_eq_true rfl) ?_
  intro p e s m args below meth c Q ls hQ C hml hr hlocks hP hl
  have hx := C.1
  have hb := C.2.1
  have hok := hP.2
  have hS : va_S A s.heap s.heap [] := va_S.rf
  have hl : lv_has ls 5 [(0, .ref (ad 47)), (1, .int (iI a1)), (2, .int (iI a2))] := hl
  have hP : gWd D (rwT k ad) v (va_up f 39 (f 39)) (va_up (va_up (va_up g 0 (g 0)) 2 (g 2)) 3 (g 3)) s.heap := by rw [va_id, va_id, va_id, va_id]; exact hP
  have hnu : ∀ k, 0 ≤ (f 3) k ∧ (f 3) k ≤ 999999 := fun k => hok.2 3 k
  have hit : ∀ k, 0 ≤ (f 2) k ∧ (f 2) k ≤ 10 := fun k => hok.2 2 k
  have hFr : ∀ r t c i, (-2000000) ≤ gFd (f 20) (f 21) (f 22) (f 23) (f 24) (f 25) (f 26) (f 28) (f 29) (f 30) (f 15) (f 17) (v 23) (v 24) dd r t c i ∧ gFd (f 20) (f 21) (f 22) (f 23) (f 24) (f 25) (f 26) (f 28) (f 29) (f 30) (f 15) (f 17) (v 23) (v 24) dd r t c i ≤ 2000000 := fun r t c i => Fd_r (hok.2 25) (hok.2 29) (hok.2 24) (hok.2 23) (hok.1 23) i
  have hPr : ∀ r t c, (-1000000000) ≤ evR (f 2) (f 3) (gFd (f 20) (f 21) (f 22) (f 23) (f 24) (f 25) (f 26) (f 28) (f 29) (f 30) (f 15) (f 17) (v 23) (v 24) dd r t c) (v 2) ∧ evR (f 2) (f 3) (gFd (f 20) (f 21) (f 22) (f 23) (f 24) (f 25) (f 26) (f 28) (f 29) (f 30) (f 15) (f 17) (v 23) (v 24) dd r t c) (v 2) ≤ 1000000000 := fun r t c => pt_r hnu (fun k => (hit k).1) (hFr r t c)
  have hRR := (hs a1 (by omega) (by omega)).1
  have r_1 : 0 ≤ (v 3) ∧ (v 3) ≤ 4 := hok.1 3
  have r_2 : 0 ≤ (v 23) ∧ (v 23) ≤ 300 := hok.1 23
  refine lv_aload_n hx hb dX5_workKeys_0 rfl (lv_at hl 0 rfl) ?_
  refine rwG_results_totals C hP mF_X5_33 dX5_workKeys_1 ?_
  refine lv_lconst (v := iL 0) hx hb dX5_workKeys_4 (by decide) ?_
  refine g_cs (As := [.ref (ad 55), .long (iL 0)]) (rest := []) (n := 2) C hml (c_fillL l D k A (rwT k ad) (ad 55) 55 2 4 (fun _ _ _ => rfl) (fun _ _ _ _ => rfl) hD (by decide) v (va_up f 39 (f 39)) (va_up (va_up (va_up g 0 (g 0)) 2 (g 2)) 3 (g 3)) 0) mM_X5_123 mS_J7_fill_d0a16 mN_J7 mC_J7_fill_d0a16 (by decide +kernel) hP hS (fun _ h => h) ⟨Nat.le_of_ble_eq_true rfl, Nat.le_of_ble_eq_true rfl⟩ ⟨Nat.zero_le _, Nat.zero_le _⟩ hl.1 rfl rfl (Nat.le_of_ble_eq_true rfl) dX5_workKeys_5 (fun r v1 f1 g1 H locs hq hP _ hS => ?_)
  obtain ⟨rfl, rfl, rfl, rfl⟩ := hq
  show W p l e (gRm 3 85) s m args below meth c _ _ 0 0 Q (F0 m 8 ls [])
  have hP : gWd D (rwT k ad) v (va_up f 39 (f 39)) (va_up (va_up (va_up g 0 (g 0)) 2 (gfill (g 2) 4 0)) 3 (g 3)) H := ⟨hP.1, (gF_up (V := rwV) (F := rwF) ⟨hok.1, hok.2⟩ 39 (hP.2.2 39))⟩
  refine lv_iconst (v := iI 0) hx hb dX5_workKeys_8 rfl ?_
  refine lv_istore_n (lv' := [(3, .int (iI 0)), (0, .ref (ad 47)), (1, .int (iI a1)), (2, .int (iI a2))]) hx hb dX5_workKeys_9 rfl hl (by decide) rfl (fun ls hl => ?_)
  have L_3 : ∀ (n : Nat) (x3 : Int) (c39_3 : Int → Int) (d0_3 : Int → Int) (d2_3 : Int → Int) (H : Heap) (locs : List Loc) (ls : Array Slot), 5 - x3 < (n : Int) → (0 ≤ x3 ∧ x3 ≤ ((f 1) (a1 * 4))) → (d2_3 0 = sumI (fun t => evR (f 2) (f 3) (gFd (f 20) (f 21) (f 22) (f 23) (f 24) (f 25) (f 26) (f 28) (f 29) (f 30) (f 15) (f 17) (v 23) (v 24) dd a1 t a2) (v 2)) x3.toNat) → (d2_3 2 = sumI (fun t => gFd (f 20) (f 21) (f 22) (f 23) (f 24) (f 25) (f 26) (f 28) (f 29) (f 30) (f 15) (f 17) (v 23) (v 24) dd a1 t a2 0) x3.toNat) → (d2_3 3 = sumI (fun t => gFd (f 20) (f 21) (f 22) (f 23) (f 24) (f 25) (f 26) (f 28) (f 29) (f 30) (f 15) (f 17) (v 23) (v 24) dd a1 t a2 1) x3.toNat) → (0 < x3 → d2_3 1 = mxI (fun t => evR (f 2) (f 3) (gFd (f 20) (f 21) (f 22) (f 23) (f 24) (f 25) (f 26) (f 28) (f 29) (f 30) (f 15) (f 17) (v 23) (v 24) dd a1 t a2) (v 2)) x3.toNat) → gWd D (rwT k ad) v (va_up f 39 c39_3) (va_up (va_up (va_up g 0 d0_3) 2 d2_3) 3 (g 3)) H → va_S A s.heap H locs → lv_has ls 5 [(0, .ref (ad 47)), (1, .int (iI a1)), (2, .int (iI a2)), (3, .int (iI x3))] → W p l e (gRm 3 85) s m args below meth c H locs 0 0 Q (F0 m 10 ls []) := by
    intro n
    induction n with
    | zero =>
      intro x3 c39_3 d0_3 d2_3 H locs ls hn_3 i3_0 i3_1 i3_2 i3_3 i3_4 hP hS hl
      exfalso; omega
    | succ n ih_10 =>
      intro x3 c39_3 d0_3 d2_3 H locs ls hn_3 i3_0 i3_1 i3_2 i3_3 i3_4 hP hS hl
      have hI1 := i3_1
      have hI3 := i3_2
      have hI5 := i3_3
      have hI4 := i3_4
      have hmz : x3 = 0 → mxI (fun t => evR (f 2) (f 3) (gFd (f 20) (f 21) (f 22) (f 23) (f 24) (f 25) (f 26) (f 28) (f 29) (f 30) (f 15) (f 17) (v 23) (v 24) dd a1 t a2) (v 2)) x3.toNat = -1000000000 := fun h => by rw [h]; rfl
      refine lv_iload_n hx hb dX5_workKeys_10 rfl (lv_at hl 3 rfl) ?_
      refine lv_aload_n hx hb dX5_workKeys_11 rfl (lv_at hl 0 rfl) ?_
      refine rwG_results_laws C hP mF_X5_43 dX5_workKeys_12 ?_
      refine lv_iload_n hx hb dX5_workKeys_15 rfl (lv_at hl 1 rfl) ?_
      refine lv_iconst (v := iI 0) hx hb dX5_workKeys_16 rfl ?_
      refine g_cv (As := [.int (iI a1), .int (iI 0)]) (rest := [.int (iI x3)]) (n := 2) C hml (c_X4_shapeOf l D k A ad hD v (va_up f 39 c39_3) (va_up (va_up (va_up g 0 d0_3) 2 d2_3) 3 (g 3)) a1 0 (by omega) (by decide)) mM_X5_126 mI_X4_shapeOf mE_X4_shapeOf mN_X4 mC_X4_shapeOf (by decide +kernel) 2 (ci := 4) rfl rfl hP hS (fun _ h => h) ⟨Nat.le_of_ble_eq_true rfl, Nat.le_of_ble_eq_true rfl⟩ ⟨Nat.zero_le _, Nat.zero_le _⟩ hl.1 rfl rfl (Nat.le_of_ble_eq_true rfl) dX5_workKeys_17 (fun r_4 v_4 f_4 g_4 H locs hq_4 hP _ hS => ?_)
      obtain ⟨z_4, rfl, rfl, rfl, rfl, p0_4, p1_4⟩ := hq_4
      show W p l e (gRm 3 85) s m args below meth c _ _ 0 0 Q (F0 m 20 ls [.int (iI z_4), .int (iI x3)])
      replace p0_4 : z_4 = (if (0 ≤ a1 ∧ a1 < (v 1)) ∧ 0 ≤ (0 : Int) ∧ (0 : Int) < 4 then (f 1) (a1 * 4 + (0 : Int)) else 0) := p0_4
      replace p1_4 : 0 ≤ z_4 ∧ z_4 ≤ 999999 := p1_4
      have hz_4 : inR z_4 := (by first | omega | (rw [p0_4]; split <;> omega))
      have hR_4 : z_4 = (f 1) (a1 * 4) := by rw [p0_4, if_pos (by omega), Int.add_zero]
      refine gi_cge (tgt := 121) hx hb dX5_workKeys_20 (by decide) (by omega) (by omega) (fun c_5 => ?_) (fun c_5 => ?_)
      · have hxe : x3 = ((f 1) (a1 * 4)) := by omega
        rw [hxe] at hI1 hI3 hI5 hI4
        have hTk : ∀ kd, 0 ≤ kd → kd ≤ 3 → d2_3 kd = kV (f 2) (f 3) (v 2) (gFd (f 20) (f 21) (f 22) (f 23) (f 24) (f 25) (f 26) (f 28) (f 29) (f 30) (f 15) (f 17) (v 23) (v 24) dd) ((f 1) (a1 * 4)) kd a1 a2 := fun kd k0 k1 => kv_pick hI1 (hI4 (by omega)) hI3 hI5 ⟨k0, k1⟩
        refine lv_iconst (v := iI 0) hx hb dX5_workKeys_121 rfl ?_
        refine lv_istore_n (lv' := [(3, .int (iI 0)), (0, .ref (ad 47)), (1, .int (iI a1)), (2, .int (iI a2))]) hx hb dX5_workKeys_122 rfl hl (by decide) rfl (fun ls hl => ?_)
        have L_6 : ∀ (n : Nat) (x3 : Int) (d3_6 : Int → Int) (H : Heap) (locs : List Loc) (ls : Array Slot), 4 - x3 < (n : Int) → (0 ≤ x3 ∧ x3 ≤ (v 3)) → (∀ j, 0 ≤ j → j < x3 → d3_6 ((a1 * 16 + a2) * 4 + j) = kV (f 2) (f 3) (v 2) (gFd (f 20) (f 21) (f 22) (f 23) (f 24) (f 25) (f 26) (f 28) (f 29) (f 30) (f 15) (f 17) (v 23) (v 24) dd) ((f 1) (a1 * 4)) ((f 4) j) a1 a2) → (∀ e, e < (a1 * 16 + a2) * 4 ∨ (a1 * 16 + a2) * 4 + 4 ≤ e → d3_6 e = (g 3) e) → gWd D (rwT k ad) v (va_up f 39 c39_3) (va_up (va_up (va_up g 0 d0_3) 2 d2_3) 3 d3_6) H → va_S A s.heap H locs → lv_has ls 5 [(0, .ref (ad 47)), (1, .int (iI a1)), (2, .int (iI a2)), (3, .int (iI x3))] → W p l e (gRm 3 85) s m args below meth c H locs 0 0 Q (F0 m 123 ls []) := by
          intro n
          induction n with
          | zero =>
            intro x3 d3_6 H locs ls hn_6 i6_0 i6_1 i6_2 hP hS hl
            exfalso; omega
          | succ n ih_123 =>
            intro x3 d3_6 H locs ls hn_6 i6_0 i6_1 i6_2 hP hS hl
            have hJ1 := i6_1
            have hJ2 := i6_2
            refine lv_iload_n hx hb dX5_workKeys_123 rfl (lv_at hl 3 rfl) ?_
            refine lv_aload_n hx hb dX5_workKeys_124 rfl (lv_at hl 0 rfl) ?_
            refine rwG_results_laws C hP mF_X5_43 dX5_workKeys_125 ?_
            refine rwG_laws_keys C hP mF_X5_145 dX5_workKeys_128 ?_
            refine gi_cge (tgt := 166) hx hb dX5_workKeys_131 (by decide) (by omega) (by omega) (fun c_7 => ?_) (fun c_7 => ?_)
            · exact g_vret hQ C hr hlocks hP hS dX5_workKeys_166 ⟨c39_3, d0_3, d2_3, d3_6, rfl, rfl, rfl, rfl, (by rw [show (v 3) = x3 by omega]; exact hJ1), hJ2⟩
            · refine lv_aload_n hx hb dX5_workKeys_134 rfl (lv_at hl 0 rfl) ?_
              refine rwG_results_keyRows C hP mF_X5_37 dX5_workKeys_135 ?_
              refine lv_iload_n hx hb dX5_workKeys_138 rfl (lv_at hl 1 rfl) ?_
              refine lv_iload_n hx hb dX5_workKeys_139 rfl (lv_at hl 2 rfl) ?_
              refine g_cs (As := [.int (iI a1), .int (iI a2)]) (rest := [.ref (ad 56)]) (n := 2) C hml (c_X5_keyRow l D k A ad hD v (va_up f 39 c39_3) (va_up (va_up (va_up g 0 d0_3) 2 d2_3) 3 d3_6) a1 a2 (by omega) (by omega) (show 0 ≤ a1 ∧ a1 ≤ 3 from by omega) (show 0 ≤ a2 ∧ a2 ≤ 15 from by omega)) mM_X5_148 mS_X5_keyRow mN_X5 mC_X5_keyRow (by decide +kernel) hP hS (fun _ h => h) ⟨Nat.le_of_ble_eq_true rfl, Nat.le_of_ble_eq_true rfl⟩ ⟨Nat.zero_le _, Nat.zero_le _⟩ hl.1 rfl rfl (Nat.le_of_ble_eq_true rfl) dX5_workKeys_140 (fun r_8 v_8 f_8 g_8 H locs hq_8 hP _ hS => ?_)
              obtain ⟨z_8, rfl, rfl, rfl, rfl, p0_8⟩ := hq_8
              show W p l e (gRm 3 85) s m args below meth c _ _ 0 0 Q (F0 m 143 ls [.int (iI z_8), .ref (ad 56)])
              replace p0_8 : z_8 = ((a1 * 16 + a2) * 4) := p0_8
              have hz_8 : inR z_8 := (by first | omega | (rw [p0_8]; split <;> omega))
              refine lv_iload_n hx hb dX5_workKeys_143 rfl (lv_at hl 3 rfl) ?_
              refine gi_add (z := (z_8 + x3)) hx hb dX5_workKeys_144 rfl ?_
              refine lv_aload_n hx hb dX5_workKeys_145 rfl (lv_at hl 0 rfl) ?_
              refine rwG_results_totals C hP mF_X5_33 dX5_workKeys_146 ?_
              refine lv_aload_n hx hb dX5_workKeys_149 rfl (lv_at hl 0 rfl) ?_
              refine rwG_results_laws C hP mF_X5_43 dX5_workKeys_150 ?_
              refine rwG_laws_keyKind C hP mF_X5_151 dX5_workKeys_153 ?_
              refine lv_iload_n hx hb dX5_workKeys_156 rfl (lv_at hl 3 rfl) ?_
              refine rwL_laws_keyKind C hP (by omega) (by omega) dX5_workKeys_157 ?_
              show W p l e (gRm 3 85) s m args below meth c _ _ 0 0 Q (F0 m 158 ls [.int (iI (f 4 x3)), .ref (ad 55), .int (iI (z_8 + x3)), .ref (ad 56)])
              have r_9 : 0 ≤ (f 4 x3) ∧ (f 4 x3) ≤ 3 := hP.2.2 4 x3
              refine rwL_results_totals C hP (by omega) (by omega) dX5_workKeys_158 ?_
              show W p l e (gRm 3 85) s m args below meth c _ _ 0 0 Q (F0 m 159 ls [.long (iL (d2_3 (f 4 x3))), .int (iI (z_8 + x3)), .ref (ad 56)])
              refine rwS_results_keyRows (g1 := (va_up (va_up (va_up g 0 d0_3) 2 d2_3) 3 (u1 d3_6 (z_8 + x3) (d2_3 (f 4 x3))))) C hP hD hS (by omega) (by omega) rfl dX5_workKeys_159 (fun H locs hP hS => ?_)
              refine lv_iinc (v := iI (x3 + 1)) (lv' := [(3, .int (iI (x3 + 1))), (0, .ref (ad 47)), (1, .int (iI a1)), (2, .int (iI a2))]) hx hb dX5_workKeys_160 hl (k := 3) rfl (by show iI _ + iI 1 = _; rw [iI_add]) (by decide) rfl (fun ls hl => ?_)
              refine lv_goto (tgt := 123) hx hb dX5_workKeys_163 (by decide) ?_
              exact ih_123 (x3 + 1) (u1 d3_6 (z_8 + x3) (d2_3 (f 4 x3))) _ _ _ (by omega) (by omega) (kr_s (K := fun j => kV (f 2) (f 3) (v 2) (gFd (f 20) (f 21) (f 22) (f 23) (f 24) (f 25) (f 26) (f 28) (f 29) (f 30) (f 15) (f 17) (v 23) (v 24) dd) ((f 1) (a1 * 4)) ((f 4) j) a1 a2) hJ1 (by omega) (hTk _ (by omega) (by omega))) (kr_o (x := x3) hJ2 (by omega) (by omega)) hP hS (lv_sub hl [1, 2, 3, 0] rfl)
        exact L_6 5 0 (g 3) _ _ _ (by omega) (by omega) (fun j h0 h1 => by omega) (fun e _ => rfl) hP hS (lv_sub hl [1, 2, 3, 0] rfl)
      · refine lv_aload_n hx hb dX5_workKeys_23 rfl (lv_at hl 0 rfl) ?_
        refine lv_iload_n hx hb dX5_workKeys_24 rfl (lv_at hl 1 rfl) ?_
        refine lv_iload_n hx hb dX5_workKeys_25 rfl (lv_at hl 2 rfl) ?_
        refine lv_iload_n hx hb dX5_workKeys_26 rfl (lv_at hl 3 rfl) ?_
        refine g_cv (As := [.int (iI a1), .int (iI a2), .int (iI x3)]) (rest := []) (n := 3) C hml (x_Re_workFacts l D k A ad hD v (va_up f 39 c39_3) (va_up (va_up (va_up g 0 d0_3) 2 d2_3) 3 (g 3)) a1 a2 x3 dd (by omega) (by omega) (by omega) (show 0 ≤ a1 ∧ a1 ≤ 3 from by omega) (show 0 ≤ a2 ∧ a2 ≤ 15 from by omega) (show 0 ≤ x3 ∧ x3 ≤ 4 from by omega) (show svOk (f 20) (f 21) (f 22) (f 26) (Fk (f 28) (f 29) (f 30) (f 25) (v 24) dd) (v 23) (f 36) (f 37) (f 38) from hsv) (show ∀ k, 0 ≤ k → k < (v 23) → (f 34) k = (Fk (f 28) (f 29) (f 30) (f 25) (v 24) dd) k from hkn)) mM_X5_131 mI_X5_workFacts mE_X5_workFacts mN_X5 mC_X5_workFacts (by decide +kernel) 47 (ci := 5) rfl rfl hP hS (fun _ h => h) ⟨Nat.le_of_ble_eq_true rfl, Nat.le_of_ble_eq_true rfl⟩ ⟨Nat.zero_le _, Nat.zero_le _⟩ hl.1 rfl rfl (Nat.le_of_ble_eq_true rfl) dX5_workKeys_27 (fun r_10 v_10 f_10 g_10 H locs hq_10 hP _ hS => ?_)
        obtain ⟨a39_10, rfl, rfl, rfl, rfl, p0_10⟩ := hq_10
        show W p l e (gRm 3 85) s m args below meth c _ _ 0 0 Q (F0 m 30 ls [])
        have hP : gWd D (rwT k ad) v (va_up f 39 a39_10) (va_up (va_up (va_up g 0 d0_3) 2 d2_3) 3 (g 3)) H := ⟨hP.1, (gF_up (V := rwV) (F := rwF) ⟨hok.1, hok.2⟩ 39 (hP.2.2 39))⟩
        replace p0_10 : a39_10 0 = gFd (f 20) (f 21) (f 22) (f 23) (f 24) (f 25) (f 26) (f 28) (f 29) (f 30) (f 15) (f 17) (v 23) (v 24) dd a1 x3 a2 0 ∧ a39_10 1 = gFd (f 20) (f 21) (f 22) (f 23) (f 24) (f 25) (f 26) (f 28) (f 29) (f 30) (f 15) (f 17) (v 23) (v 24) dd a1 x3 a2 1 ∧ a39_10 2 = gFd (f 20) (f 21) (f 22) (f 23) (f 24) (f 25) (f 26) (f 28) (f 29) (f 30) (f 15) (f 17) (v 23) (v 24) dd a1 x3 a2 2 ∧ a39_10 3 = gFd (f 20) (f 21) (f 22) (f 23) (f 24) (f 25) (f 26) (f 28) (f 29) (f 30) (f 15) (f 17) (v 23) (v 24) dd a1 x3 a2 3 ∧ a39_10 4 = gFd (f 20) (f 21) (f 22) (f 23) (f 24) (f 25) (f 26) (f 28) (f 29) (f 30) (f 15) (f 17) (v 23) (v 24) dd a1 x3 a2 4 ∧ a39_10 5 = gFd (f 20) (f 21) (f 22) (f 23) (f 24) (f 25) (f 26) (f 28) (f 29) (f 30) (f 15) (f 17) (v 23) (v 24) dd a1 x3 a2 5 := p0_10
        have hF := p0_10
        refine lv_aload_n hx hb dX5_workKeys_30 rfl (lv_at hl 0 rfl) ?_
        refine rwG_results_laws C hP mF_X5_43 dX5_workKeys_31 ?_
        refine lv_aload_n hx hb dX5_workKeys_34 rfl (lv_at hl 0 rfl) ?_
        refine rwG_results_facts C hP mF_X5_27 dX5_workKeys_35 ?_
        refine g_cv (As := [.ref (ad 53)]) (rest := []) (n := 1) C hml (x_La_pointsFor l D k A ad hD v (va_up f 39 a39_10) (va_up (va_up (va_up g 0 d0_3) 2 d2_3) 3 (g 3))) mM_X5_135 mI_X4_pointsFor mE_X4_pointsFor mN_X4 mC_X4_pointsFor (by decide +kernel) 2 (ci := 4) rfl rfl hP hS (fun _ h => h) ⟨Nat.le_of_ble_eq_true rfl, Nat.le_of_ble_eq_true rfl⟩ ⟨Nat.zero_le _, Nat.zero_le _⟩ hl.1 rfl rfl (Nat.le_of_ble_eq_true rfl) dX5_workKeys_38 (fun r_11 v_11 f_11 g_11 H locs hq_11 hP _ hS => ?_)
        obtain ⟨z_11, b0_11, rfl, rfl, rfl, rfl, p0_11, p1_11⟩ := hq_11
        show W p l e (gRm 3 85) s m args below meth c _ _ 0 0 Q (F0 m 41 ls [.int (iI z_11)])
        have hP : gWd D (rwT k ad) v (va_up f 39 a39_10) (va_up (va_up (va_up g 0 b0_11) 2 d2_3) 3 (g 3)) H := ⟨hP.1, (gF_up (V := rwV) (F := rwF) ⟨hok.1, hok.2⟩ 39 (hP.2.2 39))⟩
        replace p0_11 : z_11 = (evR (f 2) (f 3) a39_10 (v 2)) := p0_11
        replace p1_11 : (-1000000000) ≤ z_11 ∧ z_11 ≤ 1000000000 := p1_11
        have hz_11 : inR z_11 := (by first | omega | (rw [p0_11]; split <;> omega))
        have hpt : z_11 = evR (f 2) (f 3) (gFd (f 20) (f 21) (f 22) (f 23) (f 24) (f 25) (f 26) (f 28) (f 29) (f 30) (f 15) (f 17) (v 23) (v 24) dd a1 x3 a2) (v 2) := by rw [p0_11]; unfold evR; rw [evL_fa (fun k => ⟨(hit k).1, by have := (hit k).2; omega⟩) (fun i i0 i1 => fa_i hF i0 i1)]
        refine lv_istore (lv' := [(4, .int (iI z_11)), (0, .ref (ad 47)), (1, .int (iI a1)), (2, .int (iI a2)), (3, .int (iI x3))]) hx hb dX5_workKeys_41 hl (by decide) rfl (fun ls hl => ?_)
        refine lv_aload_n hx hb dX5_workKeys_43 rfl (lv_at hl 1 rfl) ?_
        refine rwG_results_totals C hP mF_X5_33 dX5_workKeys_44 ?_
        refine lv_iconst (v := iI 0) hx hb dX5_workKeys_47 rfl ?_
        refine lv_dup2_11 hx hb dX5_workKeys_48 rfl rfl ?_
        refine rwL_results_totals C hP (by decide) (by decide) dX5_workKeys_49 ?_
        show W p l e (gRm 3 85) s m args below meth c _ _ 0 0 Q (F0 m 50 ls [.long (iL (d2_3 0)), .int (iI 0), .ref (ad 55)])
        refine lv_iload hx hb dX5_workKeys_50 (lv_at hl 0 rfl) ?_
        refine gi_i2l hx hb (by omega) dX5_workKeys_52 ?_
        refine gl_add (z := ((d2_3 0) + z_11)) hx hb dX5_workKeys_53 rfl ?_
        refine rwS_results_totals (g1 := (va_up (va_up (va_up g 0 b0_11) 2 (u1 d2_3 0 ((d2_3 0) + z_11))) 3 (g 3))) C hP hD hS (by decide) (by decide) rfl dX5_workKeys_54 (fun H locs hP hS => ?_)
        refine lv_aload_n hx hb dX5_workKeys_55 rfl (lv_at hl 1 rfl) ?_
        refine rwG_results_totals C hP mF_X5_33 dX5_workKeys_56 ?_
        refine lv_iconst (v := iI 1) hx hb dX5_workKeys_59 rfl ?_
        refine lv_iload_n hx hb dX5_workKeys_60 rfl (lv_at hl 4 rfl) ?_
        refine gi_zne (tgt := 70) hx hb dX5_workKeys_61 (by decide) (by omega) (fun c_12 => ?_) (fun c_12 => ?_)
        · refine lv_aload_n hx hb dX5_workKeys_70 rfl (lv_at hl 1 rfl) ?_
          refine rwG_results_totals C hP mF_X5_33 dX5_workKeys_71 ?_
          refine lv_iconst (v := iI 1) hx hb dX5_workKeys_74 rfl ?_
          refine rwL_results_totals C hP (by decide) (by decide) dX5_workKeys_75 ?_
          show W p l e (gRm 3 85) s m args below meth c _ _ 0 0 Q (F0 m 76 ls [.long (iL ((u1 d2_3 0 ((d2_3 0) + z_11)) 1)), .int (iI 1), .ref (ad 55)])
          refine lv_iload hx hb dX5_workKeys_76 (lv_at hl 0 rfl) ?_
          refine gi_i2l hx hb (by omega) dX5_workKeys_78 ?_
          have hT1 : (u1 d2_3 0 ((d2_3 0) + z_11)) 1 = mxI (fun t => evR (f 2) (f 3) (gFd (f 20) (f 21) (f 22) (f 23) (f 24) (f 25) (f 26) (f 28) (f 29) (f 30) (f 15) (f 17) (v 23) (v 24) dd a1 t a2) (v 2)) x3.toNat := hI4 (by omega)
          have hT1b := mxI_r (g := (fun t => evR (f 2) (f 3) (gFd (f 20) (f 21) (f 22) (f 23) (f 24) (f 25) (f 26) (f 28) (f 29) (f 30) (f 15) (f 17) (v 23) (v 24) dd a1 t a2) (v 2))) (fun t => hPr a1 t a2) x3.toNat
          refine gl_maxE C hml hl.1 mM_X5_139 (by omega) (by omega) (Nat.le_of_ble_eq_true rfl) (Nat.le_of_ble_eq_true rfl) dX5_workKeys_79 (fun x_13 hx_13 => ?_)
          refine rwS_results_totals (g1 := (va_up (va_up (va_up g 0 b0_11) 2 (u1 (u1 d2_3 0 ((d2_3 0) + z_11)) 1 x_13)) 3 (g 3))) C hP hD hS (by decide) (by decide) rfl dX5_workKeys_82 (fun H locs hP hS => ?_)
          refine lv_aload_n hx hb dX5_workKeys_83 rfl (lv_at hl 1 rfl) ?_
          refine rwG_results_totals C hP mF_X5_33 dX5_workKeys_84 ?_
          refine lv_iconst (v := iI 2) hx hb dX5_workKeys_87 rfl ?_
          refine lv_dup2_11 hx hb dX5_workKeys_88 rfl rfl ?_
          refine rwL_results_totals C hP (by decide) (by decide) dX5_workKeys_89 ?_
          show W p l e (gRm 3 85) s m args below meth c _ _ 0 0 Q (F0 m 90 ls [.long (iL ((u1 (u1 d2_3 0 ((d2_3 0) + z_11)) 1 x_13) 2)), .int (iI 2), .ref (ad 55)])
          refine lv_aload_n hx hb dX5_workKeys_90 rfl (lv_at hl 1 rfl) ?_
          refine rwG_results_facts C hP mF_X5_27 dX5_workKeys_91 ?_
          refine lv_iconst (v := iI 0) hx hb dX5_workKeys_94 rfl ?_
          refine rwL_results_facts C hP (by decide) (by decide) dX5_workKeys_95 ?_
          show W p l e (gRm 3 85) s m args below meth c _ _ 0 0 Q (F0 m 96 ls [.int (iI (a39_10 0)), .long (iL ((u1 (u1 d2_3 0 ((d2_3 0) + z_11)) 1 x_13) 2)), .int (iI 2), .ref (ad 55)])
          have r_14 : (-2000000) ≤ (a39_10 0) ∧ (a39_10 0) ≤ 2000000 := hP.2.2 39 0
          refine gi_i2l hx hb (by omega) dX5_workKeys_96 ?_
          refine gl_add (z := (((u1 (u1 d2_3 0 ((d2_3 0) + z_11)) 1 x_13) 2) + (a39_10 0))) hx hb dX5_workKeys_97 rfl ?_
          refine rwS_results_totals (g1 := (va_up (va_up (va_up g 0 b0_11) 2 (u1 (u1 (u1 d2_3 0 ((d2_3 0) + z_11)) 1 x_13) 2 (((u1 (u1 d2_3 0 ((d2_3 0) + z_11)) 1 x_13) 2) + (a39_10 0)))) 3 (g 3))) C hP hD hS (by decide) (by decide) rfl dX5_workKeys_98 (fun H locs hP hS => ?_)
          refine lv_aload_n hx hb dX5_workKeys_99 rfl (lv_at hl 1 rfl) ?_
          refine rwG_results_totals C hP mF_X5_33 dX5_workKeys_100 ?_
          refine lv_iconst (v := iI 3) hx hb dX5_workKeys_103 rfl ?_
          refine lv_dup2_11 hx hb dX5_workKeys_104 rfl rfl ?_
          refine rwL_results_totals C hP (by decide) (by decide) dX5_workKeys_105 ?_
          show W p l e (gRm 3 85) s m args below meth c _ _ 0 0 Q (F0 m 106 ls [.long (iL ((u1 (u1 (u1 d2_3 0 ((d2_3 0) + z_11)) 1 x_13) 2 (((u1 (u1 d2_3 0 ((d2_3 0) + z_11)) 1 x_13) 2) + (a39_10 0))) 3)), .int (iI 3), .ref (ad 55)])
          refine lv_aload_n hx hb dX5_workKeys_106 rfl (lv_at hl 1 rfl) ?_
          refine rwG_results_facts C hP mF_X5_27 dX5_workKeys_107 ?_
          refine lv_iconst (v := iI 1) hx hb dX5_workKeys_110 rfl ?_
          refine rwL_results_facts C hP (by decide) (by decide) dX5_workKeys_111 ?_
          show W p l e (gRm 3 85) s m args below meth c _ _ 0 0 Q (F0 m 112 ls [.int (iI (a39_10 1)), .long (iL ((u1 (u1 (u1 d2_3 0 ((d2_3 0) + z_11)) 1 x_13) 2 (((u1 (u1 d2_3 0 ((d2_3 0) + z_11)) 1 x_13) 2) + (a39_10 0))) 3)), .int (iI 3), .ref (ad 55)])
          have r_15 : (-2000000) ≤ (a39_10 1) ∧ (a39_10 1) ≤ 2000000 := hP.2.2 39 1
          refine gi_i2l hx hb (by omega) dX5_workKeys_112 ?_
          refine gl_add (z := (((u1 (u1 (u1 d2_3 0 ((d2_3 0) + z_11)) 1 x_13) 2 (((u1 (u1 d2_3 0 ((d2_3 0) + z_11)) 1 x_13) 2) + (a39_10 0))) 3) + (a39_10 1))) hx hb dX5_workKeys_113 rfl ?_
          refine rwS_results_totals (g1 := (va_up (va_up (va_up g 0 b0_11) 2 (u1 (u1 (u1 (u1 d2_3 0 ((d2_3 0) + z_11)) 1 x_13) 2 (((u1 (u1 d2_3 0 ((d2_3 0) + z_11)) 1 x_13) 2) + (a39_10 0))) 3 (((u1 (u1 (u1 d2_3 0 ((d2_3 0) + z_11)) 1 x_13) 2 (((u1 (u1 d2_3 0 ((d2_3 0) + z_11)) 1 x_13) 2) + (a39_10 0))) 3) + (a39_10 1)))) 3 (g 3))) C hP hD hS (by decide) (by decide) rfl dX5_workKeys_114 (fun H locs hP hS => ?_)
          refine lv_iinc (v := iI (x3 + 1)) (lv' := [(3, .int (iI (x3 + 1))), (4, .int (iI z_11)), (0, .ref (ad 47)), (1, .int (iI a1)), (2, .int (iI a2))]) hx hb dX5_workKeys_115 hl (k := 4) rfl (by show iI _ + iI 1 = _; rw [iI_add]) (by decide) rfl (fun ls hl => ?_)
          refine lv_goto (tgt := 10) hx hb dX5_workKeys_118 (by decide) ?_
          exact ih_10 (x3 + 1) a39_10 b0_11 (u1 (u1 (u1 (u1 d2_3 0 ((d2_3 0) + z_11)) 1 x_13) 2 (((u1 (u1 d2_3 0 ((d2_3 0) + z_11)) 1 x_13) 2) + (a39_10 0))) 3 (((u1 (u1 (u1 d2_3 0 ((d2_3 0) + z_11)) 1 x_13) 2 (((u1 (u1 d2_3 0 ((d2_3 0) + z_11)) 1 x_13) 2) + (a39_10 0))) 3) + (a39_10 1))) _ _ _ (by omega) (by omega) (tot4.1.trans (by rw [sumI_s (by omega), ← hI1, ← hpt])) (tot4.2.2.1.trans (by rw [sumI_s (by omega), ← hI3, ← hF.1]; rfl)) (tot4.2.2.2.trans (by rw [sumI_s (by omega), ← hI5, ← hF.2.1]; rfl)) (fun _ => tot4.2.1.trans (by rw [mxI_s (by omega), ← hpt]; split <;> omega)) hP hS (lv_sub hl [2, 3, 4, 0] rfl)
        · refine lv_iload hx hb dX5_workKeys_64 (lv_at hl 0 rfl) ?_
          refine gi_i2l hx hb (by omega) dX5_workKeys_66 ?_
          refine lv_goto (tgt := 82) hx hb dX5_workKeys_67 (by decide) ?_
          refine rwS_results_totals (g1 := (va_up (va_up (va_up g 0 b0_11) 2 (u1 (u1 d2_3 0 ((d2_3 0) + z_11)) 1 z_11)) 3 (g 3))) C hP hD hS (by decide) (by decide) rfl dX5_workKeys_82 (fun H locs hP hS => ?_)
          refine lv_aload_n hx hb dX5_workKeys_83 rfl (lv_at hl 1 rfl) ?_
          refine rwG_results_totals C hP mF_X5_33 dX5_workKeys_84 ?_
          refine lv_iconst (v := iI 2) hx hb dX5_workKeys_87 rfl ?_
          refine lv_dup2_11 hx hb dX5_workKeys_88 rfl rfl ?_
          refine rwL_results_totals C hP (by decide) (by decide) dX5_workKeys_89 ?_
          show W p l e (gRm 3 85) s m args below meth c _ _ 0 0 Q (F0 m 90 ls [.long (iL ((u1 (u1 d2_3 0 ((d2_3 0) + z_11)) 1 z_11) 2)), .int (iI 2), .ref (ad 55)])
          refine lv_aload_n hx hb dX5_workKeys_90 rfl (lv_at hl 1 rfl) ?_
          refine rwG_results_facts C hP mF_X5_27 dX5_workKeys_91 ?_
          refine lv_iconst (v := iI 0) hx hb dX5_workKeys_94 rfl ?_
          refine rwL_results_facts C hP (by decide) (by decide) dX5_workKeys_95 ?_
          show W p l e (gRm 3 85) s m args below meth c _ _ 0 0 Q (F0 m 96 ls [.int (iI (a39_10 0)), .long (iL ((u1 (u1 d2_3 0 ((d2_3 0) + z_11)) 1 z_11) 2)), .int (iI 2), .ref (ad 55)])
          have r_16 : (-2000000) ≤ (a39_10 0) ∧ (a39_10 0) ≤ 2000000 := hP.2.2 39 0
          refine gi_i2l hx hb (by omega) dX5_workKeys_96 ?_
          refine gl_add (z := (((u1 (u1 d2_3 0 ((d2_3 0) + z_11)) 1 z_11) 2) + (a39_10 0))) hx hb dX5_workKeys_97 rfl ?_
          refine rwS_results_totals (g1 := (va_up (va_up (va_up g 0 b0_11) 2 (u1 (u1 (u1 d2_3 0 ((d2_3 0) + z_11)) 1 z_11) 2 (((u1 (u1 d2_3 0 ((d2_3 0) + z_11)) 1 z_11) 2) + (a39_10 0)))) 3 (g 3))) C hP hD hS (by decide) (by decide) rfl dX5_workKeys_98 (fun H locs hP hS => ?_)
          refine lv_aload_n hx hb dX5_workKeys_99 rfl (lv_at hl 1 rfl) ?_
          refine rwG_results_totals C hP mF_X5_33 dX5_workKeys_100 ?_
          refine lv_iconst (v := iI 3) hx hb dX5_workKeys_103 rfl ?_
          refine lv_dup2_11 hx hb dX5_workKeys_104 rfl rfl ?_
          refine rwL_results_totals C hP (by decide) (by decide) dX5_workKeys_105 ?_
          show W p l e (gRm 3 85) s m args below meth c _ _ 0 0 Q (F0 m 106 ls [.long (iL ((u1 (u1 (u1 d2_3 0 ((d2_3 0) + z_11)) 1 z_11) 2 (((u1 (u1 d2_3 0 ((d2_3 0) + z_11)) 1 z_11) 2) + (a39_10 0))) 3)), .int (iI 3), .ref (ad 55)])
          refine lv_aload_n hx hb dX5_workKeys_106 rfl (lv_at hl 1 rfl) ?_
          refine rwG_results_facts C hP mF_X5_27 dX5_workKeys_107 ?_
          refine lv_iconst (v := iI 1) hx hb dX5_workKeys_110 rfl ?_
          refine rwL_results_facts C hP (by decide) (by decide) dX5_workKeys_111 ?_
          show W p l e (gRm 3 85) s m args below meth c _ _ 0 0 Q (F0 m 112 ls [.int (iI (a39_10 1)), .long (iL ((u1 (u1 (u1 d2_3 0 ((d2_3 0) + z_11)) 1 z_11) 2 (((u1 (u1 d2_3 0 ((d2_3 0) + z_11)) 1 z_11) 2) + (a39_10 0))) 3)), .int (iI 3), .ref (ad 55)])
          have r_17 : (-2000000) ≤ (a39_10 1) ∧ (a39_10 1) ≤ 2000000 := hP.2.2 39 1
          refine gi_i2l hx hb (by omega) dX5_workKeys_112 ?_
          refine gl_add (z := (((u1 (u1 (u1 d2_3 0 ((d2_3 0) + z_11)) 1 z_11) 2 (((u1 (u1 d2_3 0 ((d2_3 0) + z_11)) 1 z_11) 2) + (a39_10 0))) 3) + (a39_10 1))) hx hb dX5_workKeys_113 rfl ?_
          refine rwS_results_totals (g1 := (va_up (va_up (va_up g 0 b0_11) 2 (u1 (u1 (u1 (u1 d2_3 0 ((d2_3 0) + z_11)) 1 z_11) 2 (((u1 (u1 d2_3 0 ((d2_3 0) + z_11)) 1 z_11) 2) + (a39_10 0))) 3 (((u1 (u1 (u1 d2_3 0 ((d2_3 0) + z_11)) 1 z_11) 2 (((u1 (u1 d2_3 0 ((d2_3 0) + z_11)) 1 z_11) 2) + (a39_10 0))) 3) + (a39_10 1)))) 3 (g 3))) C hP hD hS (by decide) (by decide) rfl dX5_workKeys_114 (fun H locs hP hS => ?_)
          refine lv_iinc (v := iI (x3 + 1)) (lv' := [(3, .int (iI (x3 + 1))), (4, .int (iI z_11)), (0, .ref (ad 47)), (1, .int (iI a1)), (2, .int (iI a2))]) hx hb dX5_workKeys_115 hl (k := 4) rfl (by show iI _ + iI 1 = _; rw [iI_add]) (by decide) rfl (fun ls hl => ?_)
          refine lv_goto (tgt := 10) hx hb dX5_workKeys_118 (by decide) ?_
          exact ih_10 (x3 + 1) a39_10 b0_11 (u1 (u1 (u1 (u1 d2_3 0 ((d2_3 0) + z_11)) 1 z_11) 2 (((u1 (u1 d2_3 0 ((d2_3 0) + z_11)) 1 z_11) 2) + (a39_10 0))) 3 (((u1 (u1 (u1 d2_3 0 ((d2_3 0) + z_11)) 1 z_11) 2 (((u1 (u1 d2_3 0 ((d2_3 0) + z_11)) 1 z_11) 2) + (a39_10 0))) 3) + (a39_10 1))) _ _ _ (by omega) (by omega) (tot4.1.trans (by rw [sumI_s (by omega), ← hI1, ← hpt])) (tot4.2.2.1.trans (by rw [sumI_s (by omega), ← hI3, ← hF.1]; rfl)) (tot4.2.2.2.trans (by rw [sumI_s (by omega), ← hI5, ← hF.2.1]; rfl)) (fun _ => tot4.2.1.trans (by rw [mxI_s (by omega), ← hpt]; split <;> omega)) hP hS (lv_sub hl [2, 3, 4, 0] rfl)
  exact L_3 6 0 (f 39) (g 0) (gfill (g 2) 4 0) _ _ _ (by omega) (by omega) (show gfill _ 4 0 _ = 0 from if_pos (by decide)) (show gfill _ 4 0 _ = 0 from if_pos (by decide)) (show gfill _ 4 0 _ = 0 from if_pos (by decide)) (fun h => by omega) hP hS (lv_sub hl [1, 2, 3, 0] rfl)

set_option maxHeartbeats 4000000 in
set_option maxRecDepth 100000 in
theorem x_Re_keyOf (l : Launch) (D : va_G) (k : Nat → ClassId) (A : Nat → Prop) (ad : Nat → Nat) (hD : rwD A k ad) (v : gV) (f g : gF) (a1 : Int) (a2 : Int) (a3 : Int) (h_a1 : inR a1) (h_a2 : inR a2) (h_a3 : inR a3) (h1 : 0 ≤ a1 ∧ a1 ≤ 3) (h2 : 0 ≤ a2 ∧ a2 ≤ 15) (h3 : 0 ≤ a3 ∧ a3 < 4) : GM l D k A (rwT k ad) yX5_keyOf cX5_keyOf 4 (some .long) 1 21 [.ref (ad 47), .int (iI a1), .int (iI a2), .int (iI a3)] v f g (fun r v1 f1 g1 => ∃ (z : Int), r = some (.long (iL z)) ∧ v = v1 ∧ f = f1 ∧ g = g1 ∧ (z = (qG (g 3) a1 a2 a3))) := by
  refine GM.of (by decide) (Nat.le_of_ble_eq_true rfl) ?_
  intro p e s m args below meth c Q ls hQ C hml hr hlocks hP hl
  have hx := C.1
  have hb := C.2.1
  have hok := hP.2
  have hS : va_S A s.heap s.heap [] := va_S.rf
  have hl : lv_has ls 4 [(0, .ref (ad 47)), (1, .int (iI a1)), (2, .int (iI a2)), (3, .int (iI a3))] := hl
  refine lv_aload_n hx hb dX5_keyOf_0 rfl (lv_at hl 0 rfl) ?_
  refine rwG_results_keyRows C hP mF_X5_37 dX5_keyOf_1 ?_
  refine lv_iload_n hx hb dX5_keyOf_4 rfl (lv_at hl 1 rfl) ?_
  refine lv_iload_n hx hb dX5_keyOf_5 rfl (lv_at hl 2 rfl) ?_
  refine g_cs (As := [.int (iI a1), .int (iI a2)]) (rest := [.ref (ad 56)]) (n := 2) C hml (c_X5_keyRow l D k A ad hD v f g a1 a2 (by omega) (by omega) (show 0 ≤ a1 ∧ a1 ≤ 3 from by omega) (show 0 ≤ a2 ∧ a2 ≤ 15 from by omega)) mM_X5_148 mS_X5_keyRow mN_X5 mC_X5_keyRow (by decide +kernel) hP hS (fun _ h => h) ⟨Nat.le_of_ble_eq_true rfl, Nat.le_of_ble_eq_true rfl⟩ ⟨Nat.zero_le _, Nat.zero_le _⟩ hl.1 rfl rfl (Nat.le_of_ble_eq_true rfl) dX5_keyOf_6 (fun r_1 v_1 f_1 g_1 H locs hq_1 hP _ hS => ?_)
  obtain ⟨z_1, rfl, rfl, rfl, rfl, p0_1⟩ := hq_1
  show W p l e (gRm 1 21) s m args below meth c _ _ 0 0 Q (F0 m 9 ls [.int (iI z_1), .ref (ad 56)])
  replace p0_1 : z_1 = ((a1 * 16 + a2) * 4) := p0_1
  have hz_1 : inR z_1 := (by first | omega | (rw [p0_1]; split <;> omega))
  have hkr_ := p0_1
  refine lv_iload_n hx hb dX5_keyOf_9 rfl (lv_at hl 3 rfl) ?_
  refine gi_add (z := (z_1 + a3)) hx hb dX5_keyOf_10 rfl ?_
  refine rwL_results_keyRows C hP (by omega) (by omega) dX5_keyOf_11 ?_
  exact g_lret hQ C hr hlocks hP hS dX5_keyOf_12 ⟨(g 3 (z_1 + a3)), rfl, rfl, rfl, rfl, (by unfold qG; rw [hkr_])⟩

set_option maxHeartbeats 4000000 in
set_option maxRecDepth 100000 in
theorem c_X5_lowestAsked (l : Launch) (D : va_G) (k : Nat → ClassId) (A : Nat → Prop) (ad : Nat → Nat) (hD : rwD A k ad) (v : gV) (f g : gF) (a1 : Int) (h_a1 : inR a1) (h1 : 0 ≤ a1) : GM l D k A (rwT k ad) yX5_lowestAsked cX5_lowestAsked 2 (some .int) 0 0 [.ref (ad 47), .int (iI a1)] v f g (fun r v1 f1 g1 => ∃ (z : Int), r = some (.int (iI z)) ∧ v = v1 ∧ f = f1 ∧ g = g1 ∧ (z = (if (v 4) = 0 then a1 else 0)) ∧ (0 ≤ z ∧ z ≤ a1)) := by
  refine GM.of (by decide) (Nat.le_of_ble_eq_true rfl) ?_
  intro p e s m args below meth c Q ls hQ C hml hr hlocks hP hl
  have hx := C.1
  have hb := C.2.1
  have hok := hP.2
  have hS : va_S A s.heap s.heap [] := va_S.rf
  have hl : lv_has ls 2 [(0, .ref (ad 47)), (1, .int (iI a1))] := hl
  refine lv_aload_n hx hb dX5_lowestAsked_0 rfl (lv_at hl 0 rfl) ?_
  refine rwG_results_laws C hP mF_X5_43 dX5_lowestAsked_1 ?_
  refine rwG_laws_back C hP mF_X5_181 dX5_lowestAsked_4 ?_
  have r_1 : 0 ≤ (v 4) ∧ (v 4) ≤ 1 := hok.1 4
  refine gi_zeq (tgt := 14) hx hb dX5_lowestAsked_7 (by decide) (by omega) (fun c_2 => ?_) (fun c_2 => ?_)
  · refine lv_iload_n hx hb dX5_lowestAsked_14 rfl (lv_at hl 1 rfl) ?_
    exact g_iret hQ C hr hlocks hP hS dX5_lowestAsked_15 ⟨a1, rfl, rfl, rfl, rfl, (by first | omega | ((repeat' split) <;> omega)), (by first | omega | ((repeat' split) <;> omega))⟩
  · refine lv_iconst (v := iI 0) hx hb dX5_lowestAsked_10 rfl ?_
    refine lv_goto (tgt := 15) hx hb dX5_lowestAsked_11 (by decide) ?_
    exact g_iret hQ C hr hlocks hP hS dX5_lowestAsked_15 ⟨0, rfl, rfl, rfl, rfl, (by first | omega | ((repeat' split) <;> omega)), (by first | omega | ((repeat' split) <;> omega))⟩

set_option maxHeartbeats 4000000 in
set_option maxRecDepth 100000 in
theorem x_Re_isAhead (l : Launch) (D : va_G) (k : Nat → ClassId) (A : Nat → Prop) (ad : Nat → Nat) (hD : rwD A k ad) (v : gV) (f g : gF) (a1 : Int) (a2 : Int) (a3 : Int) (h_a1 : inR a1) (h_a2 : inR a2) (h_a3 : inR a3) (h1 : 0 ≤ a1 ∧ a1 ≤ 3) (h2 : 0 ≤ a2 ∧ a2 ≤ 15) (h3 : 0 ≤ a3 ∧ a3 ≤ 15) (hb_ : ∀ r k, 0 ≤ r → r ≤ a1 → ((v 4) = 0 → r = a1) → 0 ≤ k → k < (v 3) → ((-5000000000) ≤ (qG (g 3)) r a2 k ∧ (qG (g 3)) r a2 k ≤ 5000000000) ∧ ((-5000000000) ≤ (qG (g 3)) r a3 k ∧ (qG (g 3)) r a3 k ≤ 5000000000)) : GM l D k A (rwT k ad) yX5_isAhead cX5_isAhead 10 (some .boolean) 2 44 [.ref (ad 47), .int (iI a1), .int (iI a2), .int (iI a3)] v f g (fun r v1 f1 g1 => ∃ (z : Int), r = some (.int (iI z)) ∧ v = v1 ∧ f = f1 ∧ g = g1 ∧ (z = (if (ahR (qG (g 3)) (f 5) (v 3) (v 4) a2 a3 (a1 + 1).toNat) = 1 then 1 else 0))) := by
  refine GM.of (by decide) (Nat.le_of_ble_eq_true rfl) ?_
  intro p e s m args below meth c Q ls hQ C hml hr hlocks hP hl
  have hx := C.1
  have hb := C.2.1
  have hok := hP.2
  have hS : va_S A s.heap s.heap [] := va_S.rf
  have hl : lv_has ls 10 [(0, .ref (ad 47)), (1, .int (iI a1)), (2, .int (iI a2)), (3, .int (iI a3))] := hl
  have r_1 : 0 ≤ (v 3) ∧ (v 3) ≤ 4 := hok.1 3
  have r_2 : 0 ≤ (v 4) ∧ (v 4) ≤ 1 := hok.1 4
  refine lv_iload_n hx hb dX5_isAhead_0 rfl (lv_at hl 1 rfl) ?_
  refine lv_istore (lv' := [(4, .int (iI a1)), (0, .ref (ad 47)), (1, .int (iI a1)), (2, .int (iI a2)), (3, .int (iI a3))]) hx hb dX5_isAhead_1 hl (by decide) rfl (fun ls hl => ?_)
  have L_3 : ∀ (n : Nat) (x4 : Int) (H : Heap) (locs : List Loc) (ls : Array Slot), x4 + 1 < (n : Int) → ((-1) ≤ x4 ∧ x4 ≤ a1) → ((v 4) = 0 → a1 - 1 ≤ x4) → ((0 ≤ x4 ∧ ((v 4) = 0 → x4 = a1)) → ahR (qG (g 3)) (f 5) (v 3) (v 4) a2 a3 (x4 + 1).toNat = (ahR (qG (g 3)) (f 5) (v 3) (v 4) a2 a3 (a1 + 1).toNat)) → ((x4 < 0 ∨ ((v 4) = 0 ∧ x4 < a1)) → (ahR (qG (g 3)) (f 5) (v 3) (v 4) a2 a3 (a1 + 1).toNat) = 0) → gWd D (rwT k ad) v f g H → va_S A s.heap H locs → lv_has ls 10 [(0, .ref (ad 47)), (1, .int (iI a1)), (2, .int (iI a2)), (3, .int (iI a3)), (4, .int (iI x4))] → W p l e (gRm 2 44) s m args below meth c H locs 0 0 Q (F0 m 3 ls []) := by
    intro n
    induction n with
    | zero =>
      intro x4 H locs ls hn_3 i3_0 i3_1 i3_2 i3_3 hP hS hl
      exfalso; omega
    | succ n ih_3 =>
      intro x4 H locs ls hn_3 i3_0 i3_1 i3_2 i3_3 hP hS hl
      have hA0 := i3_2
      have hZ := i3_3
      refine lv_iload hx hb dX5_isAhead_3 (lv_at hl 4 rfl) ?_
      refine lv_aload_n hx hb dX5_isAhead_5 rfl (lv_at hl 0 rfl) ?_
      refine lv_iload_n hx hb dX5_isAhead_6 rfl (lv_at hl 1 rfl) ?_
      refine g_cv (As := [.int (iI a1)]) (rest := [.int (iI x4)]) (n := 1) C hml (c_X5_lowestAsked l D k A ad hD v f g a1 (by omega) (show 0 ≤ a1 from by omega)) mM_X5_162 mI_X5_lowestAsked mE_X5_lowestAsked mN_X5 mC_X5_lowestAsked (by decide +kernel) 47 (ci := 5) rfl rfl hP hS (fun _ h => h) ⟨Nat.le_of_ble_eq_true rfl, Nat.le_of_ble_eq_true rfl⟩ ⟨Nat.zero_le _, Nat.zero_le _⟩ hl.1 rfl rfl (Nat.le_of_ble_eq_true rfl) dX5_isAhead_7 (fun r_4 v_4 f_4 g_4 H locs hq_4 hP _ hS => ?_)
      obtain ⟨z_4, rfl, rfl, rfl, rfl, p0_4, p1_4⟩ := hq_4
      show W p l e (gRm 2 44) s m args below meth c _ _ 0 0 Q (F0 m 10 ls [.int (iI z_4), .int (iI x4)])
      replace p0_4 : z_4 = (if (v 4) = 0 then a1 else 0) := p0_4
      replace p1_4 : 0 ≤ z_4 ∧ z_4 ≤ a1 := p1_4
      have hz_4 : inR z_4 := (by first | omega | (rw [p0_4]; split <;> omega))
      refine gi_clt (tgt := 111) hx hb dX5_isAhead_10 (by decide) (by omega) (by omega) (fun c_5 => ?_) (fun c_5 => ?_)
      · refine lv_iconst (v := iI 0) hx hb dX5_isAhead_111 rfl ?_
        exact g_zret hQ C hr hlocks (by decide) hP hS dX5_isAhead_112 ⟨0, rfl, rfl, rfl, rfl, (by first | (rw [hZ (by omega)]; rfl) | (rw [← hA, ahR_s (by omega), ← hk5]; first | (rw [ahK_1 (by omega) (by omega)]; rfl) | (rw [ahK_2 (by omega) (by omega) (by omega)]; rfl)))⟩
      · have hA := hA0 ⟨by omega, by omega⟩
        refine lv_iconst (v := iI 0) hx hb dX5_isAhead_13 rfl ?_
        refine lv_istore (lv' := [(5, .int (iI 0)), (0, .ref (ad 47)), (1, .int (iI a1)), (2, .int (iI a2)), (3, .int (iI a3)), (4, .int (iI x4))]) hx hb dX5_isAhead_14 hl (by decide) rfl (fun ls hl => ?_)
        have L_6 : ∀ (n : Nat) (x5 : Int) (H : Heap) (locs : List Loc) (ls : Array Slot), 4 - x5 < (n : Int) → (0 ≤ x5 ∧ x5 ≤ (v 3)) → (ahK ((qG (g 3)) x4 a2) ((qG (g 3)) x4 a3) (f 5) ((v 3) - x5).toNat x5 = ahK ((qG (g 3)) x4 a2) ((qG (g 3)) x4 a3) (f 5) (v 3).toNat 0) → gWd D (rwT k ad) v f g H → va_S A s.heap H locs → lv_has ls 10 [(0, .ref (ad 47)), (1, .int (iI a1)), (2, .int (iI a2)), (3, .int (iI a3)), (4, .int (iI x4)), (5, .int (iI x5))] → W p l e (gRm 2 44) s m args below meth c H locs 0 0 Q (F0 m 16 ls []) := by
          intro n
          induction n with
          | zero =>
            intro x5 H locs ls hn_6 i6_0 i6_1 hP hS hl
            exfalso; omega
          | succ n ih_16 =>
            intro x5 H locs ls hn_6 i6_0 i6_1 hP hS hl
            have hk5 := i6_1
            refine lv_iload hx hb dX5_isAhead_16 (lv_at hl 5 rfl) ?_
            refine lv_aload_n hx hb dX5_isAhead_18 rfl (lv_at hl 0 rfl) ?_
            refine rwG_results_laws C hP mF_X5_43 dX5_isAhead_19 ?_
            refine rwG_laws_keys C hP mF_X5_145 dX5_isAhead_22 ?_
            refine gi_cge (tgt := 105) hx hb dX5_isAhead_25 (by decide) (by omega) (by omega) (fun c_7 => ?_) (fun c_7 => ?_)
            · refine lv_iinc (v := iI (x4 + (-1))) (lv' := [(4, .int (iI (x4 + (-1)))), (0, .ref (ad 47)), (1, .int (iI a1)), (2, .int (iI a2)), (3, .int (iI a3)), (5, .int (iI x5))]) hx hb dX5_isAhead_105 hl (k := 4) rfl (by show iI _ + iI (-1) = _; rw [iI_add]) (by decide) rfl (fun ls hl => ?_)
              refine lv_goto (tgt := 3) hx hb dX5_isAhead_108 (by decide) ?_
              exact ih_3 (x4 + (-1)) _ _ _ (by omega) (by omega) (by omega) (fun h => by rw [← hA, ahR_s (r := x4) (by omega), ← hk5, ahK_z (by omega), if_neg (fun q => q rfl), if_neg (by omega)]; congr 1; omega) (fun h => by rw [← hA, ahR_s (r := x4) (by omega), ← hk5, ahK_z (by omega), if_neg (fun q => q rfl)]; exact (if hb9 : (v 4) = 0 then (by rw [if_pos hb9]) else (by rw [if_neg hb9, show x4 = 0 by omega]; rfl))) hP hS (lv_sub hl [1, 2, 3, 4, 0] rfl)
            · refine lv_aload_n hx hb dX5_isAhead_28 rfl (lv_at hl 0 rfl) ?_
              refine lv_iload hx hb dX5_isAhead_29 (lv_at hl 4 rfl) ?_
              refine lv_iload_n hx hb dX5_isAhead_31 rfl (lv_at hl 2 rfl) ?_
              refine lv_iload hx hb dX5_isAhead_32 (lv_at hl 5 rfl) ?_
              refine g_cv (As := [.int (iI x4), .int (iI a2), .int (iI x5)]) (rest := []) (n := 3) C hml (x_Re_keyOf l D k A ad hD v f g x4 a2 x5 (by omega) (by omega) (by omega) (show 0 ≤ x4 ∧ x4 ≤ 3 from by omega) (show 0 ≤ a2 ∧ a2 ≤ 15 from by omega) (show 0 ≤ x5 ∧ x5 < 4 from by omega)) mM_X5_185 mI_X5_keyOf mE_X5_keyOf mN_X5 mC_X5_keyOf (by decide +kernel) 47 (ci := 5) rfl rfl hP hS (fun _ h => h) ⟨Nat.le_of_ble_eq_true rfl, Nat.le_of_ble_eq_true rfl⟩ ⟨Nat.zero_le _, Nat.zero_le _⟩ hl.1 rfl rfl (Nat.le_of_ble_eq_true rfl) dX5_isAhead_34 (fun r_8 v_8 f_8 g_8 H locs hq_8 hP _ hS => ?_)
              obtain ⟨z_8, rfl, rfl, rfl, rfl, p0_8⟩ := hq_8
              show W p l e (gRm 2 44) s m args below meth c _ _ 0 0 Q (F0 m 37 ls [.long (iL z_8)])
              replace p0_8 : z_8 = (qG (g 3) x4 a2 x5) := p0_8
              have hb1 := (hb_ x4 x5 (by omega) (by omega) (by omega) (by omega) (by omega)).1
              refine lv_lstore (lv' := [(6, .long (iL z_8)), (0, .ref (ad 47)), (1, .int (iI a1)), (2, .int (iI a2)), (3, .int (iI a3)), (4, .int (iI x4)), (5, .int (iI x5))]) hx hb dX5_isAhead_37 hl (by decide) rfl (fun ls hl => ?_)
              refine lv_aload_n hx hb dX5_isAhead_39 rfl (lv_at hl 1 rfl) ?_
              refine lv_iload hx hb dX5_isAhead_40 (lv_at hl 5 rfl) ?_
              refine lv_iload_n hx hb dX5_isAhead_42 rfl (lv_at hl 4 rfl) ?_
              refine lv_iload hx hb dX5_isAhead_43 (lv_at hl 6 rfl) ?_
              refine g_cv (As := [.int (iI x4), .int (iI a3), .int (iI x5)]) (rest := []) (n := 3) C hml (x_Re_keyOf l D k A ad hD v f g x4 a3 x5 (by omega) (by omega) (by omega) (show 0 ≤ x4 ∧ x4 ≤ 3 from by omega) (show 0 ≤ a3 ∧ a3 ≤ 15 from by omega) (show 0 ≤ x5 ∧ x5 < 4 from by omega)) mM_X5_185 mI_X5_keyOf mE_X5_keyOf mN_X5 mC_X5_keyOf (by decide +kernel) 47 (ci := 5) rfl rfl hP hS (fun _ h => h) ⟨Nat.le_of_ble_eq_true rfl, Nat.le_of_ble_eq_true rfl⟩ ⟨Nat.zero_le _, Nat.zero_le _⟩ hl.1 rfl rfl (Nat.le_of_ble_eq_true rfl) dX5_isAhead_45 (fun r_9 v_9 f_9 g_9 H locs hq_9 hP _ hS => ?_)
              obtain ⟨z_9, rfl, rfl, rfl, rfl, p0_9⟩ := hq_9
              show W p l e (gRm 2 44) s m args below meth c _ _ 0 0 Q (F0 m 48 ls [.long (iL z_9)])
              replace p0_9 : z_9 = (qG (g 3) x4 a3 x5) := p0_9
              have hb2 := (hb_ x4 x5 (by omega) (by omega) (by omega) (by omega) (by omega)).2
              refine lv_lstore (lv' := [(8, .long (iL z_9)), (6, .long (iL z_8)), (0, .ref (ad 47)), (1, .int (iI a1)), (2, .int (iI a2)), (3, .int (iI a3)), (4, .int (iI x4)), (5, .int (iI x5))]) hx hb dX5_isAhead_48 hl (by decide) rfl (fun ls hl => ?_)
              refine lv_lload hx hb dX5_isAhead_50 (lv_at hl 1 rfl) ?_
              refine lv_lload hx hb dX5_isAhead_52 (lv_at hl 0 rfl) ?_
              refine gl_cmpE hx hb (by omega) (by omega) dX5_isAhead_54 (fun x_10 hx_10 => ?_)
              refine gi_zeq (tgt := 99) hx hb dX5_isAhead_55 (by decide) (by omega) (fun c_11 => ?_) (fun c_11 => ?_)
              · refine lv_iinc (v := iI (x5 + 1)) (lv' := [(5, .int (iI (x5 + 1))), (8, .long (iL z_9)), (6, .long (iL z_8)), (0, .ref (ad 47)), (1, .int (iI a1)), (2, .int (iI a2)), (3, .int (iI a3)), (4, .int (iI x4))]) hx hb dX5_isAhead_99 hl (k := 7) rfl (by show iI _ + iI 1 = _; rw [iI_add]) (by decide) rfl (fun ls hl => ?_)
                refine lv_goto (tgt := 16) hx hb dX5_isAhead_102 (by decide) ?_
                exact ih_16 (x5 + 1) _ _ _ (by omega) (by omega) (by rw [← hk5]; exact (ahK_e (by omega) (by omega)).symm) hP hS (lv_sub hl [3, 4, 5, 6, 7, 0] rfl)
              · refine lv_lload hx hb dX5_isAhead_58 (lv_at hl 1 rfl) ?_
                refine lv_lload hx hb dX5_isAhead_60 (lv_at hl 0 rfl) ?_
                refine gl_cmpE hx hb (by omega) (by omega) dX5_isAhead_62 (fun x_12 hx_12 => ?_)
                refine gi_zle (tgt := 70) hx hb dX5_isAhead_63 (by decide) (by omega) (fun c_13 => ?_) (fun c_13 => ?_)
                · refine lv_iconst (v := iI 0) hx hb dX5_isAhead_70 rfl ?_
                  refine lv_aload_n hx hb dX5_isAhead_71 rfl (lv_at hl 2 rfl) ?_
                  refine rwG_results_laws C hP mF_X5_43 dX5_isAhead_72 ?_
                  refine rwG_laws_keyDown C hP mF_X5_189 dX5_isAhead_75 ?_
                  refine lv_iload hx hb dX5_isAhead_78 (lv_at hl 7 rfl) ?_
                  refine rwL_laws_keyDown C hP (by omega) (by omega) dX5_isAhead_80 ?_
                  have r_14 : 0 ≤ (f 5 x5) ∧ (f 5 x5) ≤ 1 := hP.2.2 5 x5
                  refine lv_iconst (v := iI 1) hx hb dX5_isAhead_81 rfl ?_
                  refine gi_cne (tgt := 89) hx hb dX5_isAhead_82 (by decide) (by omega) (by decide) (fun c_15 => ?_) (fun c_15 => ?_)
                  · refine lv_iconst (v := iI 0) hx hb dX5_isAhead_89 rfl ?_
                    refine gi_cne (tgt := 97) hx hb dX5_isAhead_90 (by decide) (by decide) (by decide) (fun c_16 => ?_) (fun c_16 => ?_)
                    · exfalso; omega
                    · refine lv_iconst (v := iI 1) hx hb dX5_isAhead_93 rfl ?_
                      refine lv_goto (tgt := 98) hx hb dX5_isAhead_94 (by decide) ?_
                      exact g_zret hQ C hr hlocks (by decide) hP hS dX5_isAhead_98 ⟨1, rfl, rfl, rfl, rfl, (by first | (rw [hZ (by omega)]; rfl) | (rw [← hA, ahR_s (by omega), ← hk5]; first | (rw [ahK_1 (by omega) (by omega)]; rfl) | (rw [ahK_2 (by omega) (by omega) (by omega)]; rfl)))⟩
                  · refine lv_iconst (v := iI 1) hx hb dX5_isAhead_85 rfl ?_
                    refine lv_goto (tgt := 90) hx hb dX5_isAhead_86 (by decide) ?_
                    refine gi_cne (tgt := 97) hx hb dX5_isAhead_90 (by decide) (by decide) (by decide) (fun c_17 => ?_) (fun c_17 => ?_)
                    · refine lv_iconst (v := iI 0) hx hb dX5_isAhead_97 rfl ?_
                      exact g_zret hQ C hr hlocks (by decide) hP hS dX5_isAhead_98 ⟨0, rfl, rfl, rfl, rfl, (by first | (rw [hZ (by omega)]; rfl) | (rw [← hA, ahR_s (by omega), ← hk5]; first | (rw [ahK_1 (by omega) (by omega)]; rfl) | (rw [ahK_2 (by omega) (by omega) (by omega)]; rfl)))⟩
                    · exfalso; omega
                · refine lv_iconst (v := iI 1) hx hb dX5_isAhead_66 rfl ?_
                  refine lv_goto (tgt := 71) hx hb dX5_isAhead_67 (by decide) ?_
                  refine lv_aload_n hx hb dX5_isAhead_71 rfl (lv_at hl 2 rfl) ?_
                  refine rwG_results_laws C hP mF_X5_43 dX5_isAhead_72 ?_
                  refine rwG_laws_keyDown C hP mF_X5_189 dX5_isAhead_75 ?_
                  refine lv_iload hx hb dX5_isAhead_78 (lv_at hl 7 rfl) ?_
                  refine rwL_laws_keyDown C hP (by omega) (by omega) dX5_isAhead_80 ?_
                  have r_18 : 0 ≤ (f 5 x5) ∧ (f 5 x5) ≤ 1 := hP.2.2 5 x5
                  refine lv_iconst (v := iI 1) hx hb dX5_isAhead_81 rfl ?_
                  refine gi_cne (tgt := 89) hx hb dX5_isAhead_82 (by decide) (by omega) (by decide) (fun c_19 => ?_) (fun c_19 => ?_)
                  · refine lv_iconst (v := iI 0) hx hb dX5_isAhead_89 rfl ?_
                    refine gi_cne (tgt := 97) hx hb dX5_isAhead_90 (by decide) (by decide) (by decide) (fun c_20 => ?_) (fun c_20 => ?_)
                    · refine lv_iconst (v := iI 0) hx hb dX5_isAhead_97 rfl ?_
                      exact g_zret hQ C hr hlocks (by decide) hP hS dX5_isAhead_98 ⟨0, rfl, rfl, rfl, rfl, (by first | (rw [hZ (by omega)]; rfl) | (rw [← hA, ahR_s (by omega), ← hk5]; first | (rw [ahK_1 (by omega) (by omega)]; rfl) | (rw [ahK_2 (by omega) (by omega) (by omega)]; rfl)))⟩
                    · exfalso; omega
                  · refine lv_iconst (v := iI 1) hx hb dX5_isAhead_85 rfl ?_
                    refine lv_goto (tgt := 90) hx hb dX5_isAhead_86 (by decide) ?_
                    refine gi_cne (tgt := 97) hx hb dX5_isAhead_90 (by decide) (by decide) (by decide) (fun c_21 => ?_) (fun c_21 => ?_)
                    · exfalso; omega
                    · refine lv_iconst (v := iI 1) hx hb dX5_isAhead_93 rfl ?_
                      refine lv_goto (tgt := 98) hx hb dX5_isAhead_94 (by decide) ?_
                      exact g_zret hQ C hr hlocks (by decide) hP hS dX5_isAhead_98 ⟨1, rfl, rfl, rfl, rfl, (by first | (rw [hZ (by omega)]; rfl) | (rw [← hA, ahR_s (by omega), ← hk5]; first | (rw [ahK_1 (by omega) (by omega)]; rfl) | (rw [ahK_2 (by omega) (by omega) (by omega)]; rfl)))⟩
        exact L_6 5 0 _ _ _ (by omega) (by omega) ahK_s0 hP hS (lv_sub hl [1, 2, 3, 4, 5, 0] rfl)
  exact L_3 5 a1 _ _ _ (by omega) (by omega) (by omega) (fun _ => rfl) (fun h => by omega) hP hS (lv_sub hl [1, 2, 3, 4, 0] rfl)

set_option maxHeartbeats 4000000 in
set_option maxRecDepth 100000 in
theorem x_Re_manyAhead (l : Launch) (D : va_G) (k : Nat → ClassId) (A : Nat → Prop) (ad : Nat → Nat) (hD : rwD A k ad) (v : gV) (f g : gF) (a1 : Int) (a2 : Int) (h_a1 : inR a1) (h_a2 : inR a2) (h1 : 0 ≤ a1 ∧ a1 ≤ 3) (h2 : 0 ≤ a2 ∧ a2 ≤ 15) (hin : a2 < (v 21) ∧ a1 ≤ (f 18) a2) (hbm : ∀ c, 0 ≤ c → c < (v 21) → a1 ≤ (f 18) c → ∀ r k, 0 ≤ r → r ≤ a1 → ((v 4) = 0 → r = a1) → 0 ≤ k → k < (v 3) → ((-5000000000) ≤ (qG (g 3)) r c k ∧ (qG (g 3)) r c k ≤ 5000000000)) : GM l D k A (rwT k ad) yX5_manyAhead cX5_manyAhead 5 (some .int) 3 73 [.ref (ad 47), .int (iI a1), .int (iI a2)] v f g (fun r v1 f1 g1 => ∃ (z : Int), r = some (.int (iI z)) ∧ v = v1 ∧ f = f1 ∧ g = g1 ∧ (z = (cn (pAh (qG (g 3)) (f 5) (v 3) (v 4) (f 18) a1 a2) (v 21).toNat)) ∧ (0 ≤ z ∧ z ≤ 16)) := by
  refine GM.of (by decide) (Nat.le_of_ble_eq_true rfl) ?_
  intro p e s m args below meth c Q ls hQ C hml hr hlocks hP hl
  have hx := C.1
  have hb := C.2.1
  have hok := hP.2
  have hS : va_S A s.heap s.heap [] := va_S.rf
  have hl : lv_has ls 5 [(0, .ref (ad 47)), (1, .int (iI a1)), (2, .int (iI a2))] := hl
  have r_1 : 0 ≤ (v 21) ∧ (v 21) ≤ 16 := hok.1 21
  refine lv_iconst (v := iI 0) hx hb dX5_manyAhead_0 rfl ?_
  refine lv_istore_n (lv' := [(3, .int (iI 0)), (0, .ref (ad 47)), (1, .int (iI a1)), (2, .int (iI a2))]) hx hb dX5_manyAhead_1 rfl hl (by decide) rfl (fun ls hl => ?_)
  refine lv_iconst (v := iI 0) hx hb dX5_manyAhead_2 rfl ?_
  refine lv_istore (lv' := [(4, .int (iI 0)), (3, .int (iI 0)), (0, .ref (ad 47)), (1, .int (iI a1)), (2, .int (iI a2))]) hx hb dX5_manyAhead_3 hl (by decide) rfl (fun ls hl => ?_)
  have L_2 : ∀ (n : Nat) (x3 : Int) (x4 : Int) (H : Heap) (locs : List Loc) (ls : Array Slot), 16 - x4 < (n : Int) → (0 ≤ x4 ∧ x4 ≤ (v 21)) → (0 ≤ x3 ∧ x3 ≤ x4) → (x3 = cn (pAh (qG (g 3)) (f 5) (v 3) (v 4) (f 18) a1 a2) x4.toNat) → gWd D (rwT k ad) v f g H → va_S A s.heap H locs → lv_has ls 5 [(0, .ref (ad 47)), (1, .int (iI a1)), (2, .int (iI a2)), (3, .int (iI x3)), (4, .int (iI x4))] → W p l e (gRm 3 73) s m args below meth c H locs 0 0 Q (F0 m 5 ls []) := by
    intro n
    induction n with
    | zero =>
      intro x3 x4 H locs ls hn_2 i2_0 i2_1 i2_2 hP hS hl
      exfalso; omega
    | succ n ih_5 =>
      intro x3 x4 H locs ls hn_2 i2_0 i2_1 i2_2 hP hS hl
      have hI2 := i2_2
      refine lv_iload hx hb dX5_manyAhead_5 (lv_at hl 4 rfl) ?_
      refine lv_aload_n hx hb dX5_manyAhead_7 rfl (lv_at hl 0 rfl) ?_
      refine rwG_results_field C hP mF_X5_51 dX5_manyAhead_8 ?_
      refine rwG_field_climbers C hP mF_X5_157 dX5_manyAhead_11 ?_
      refine gi_cge (tgt := 50) hx hb dX5_manyAhead_14 (by decide) (by omega) (by omega) (fun c_3 => ?_) (fun c_3 => ?_)
      · refine lv_iload_n hx hb dX5_manyAhead_50 rfl (lv_at hl 3 rfl) ?_
        exact g_iret hQ C hr hlocks hP hS dX5_manyAhead_51 ⟨x3, rfl, rfl, rfl, rfl, (by rw [show (v 21) = x4 by omega]; exact hI2), (by first | omega | ((repeat' split) <;> omega))⟩
      · refine lv_aload_n hx hb dX5_manyAhead_17 rfl (lv_at hl 0 rfl) ?_
        refine rwG_results_field C hP mF_X5_51 dX5_manyAhead_18 ?_
        refine lv_iload_n hx hb dX5_manyAhead_21 rfl (lv_at hl 1 rfl) ?_
        refine lv_iload hx hb dX5_manyAhead_22 (lv_at hl 4 rfl) ?_
        refine g_cv (As := [.int (iI a1), .int (iI x4)]) (rest := []) (n := 2) C hml (c_X2_isIn l D k A ad hD v f g a1 x4 (by omega) (by omega)) mM_X5_166 mI_X2_isIn mE_X2_isIn mN_X2 mC_X2_isIn (by decide +kernel) 27 (ci := 2) rfl rfl hP hS (fun _ h => h) ⟨Nat.le_of_ble_eq_true rfl, Nat.le_of_ble_eq_true rfl⟩ ⟨Nat.zero_le _, Nat.zero_le _⟩ hl.1 rfl rfl (Nat.le_of_ble_eq_true rfl) dX5_manyAhead_24 (fun r_4 v_4 f_4 g_4 H locs hq_4 hP _ hS => ?_)
        obtain ⟨z_4, rfl, rfl, rfl, rfl, p0_4⟩ := hq_4
        show W p l e (gRm 3 73) s m args below meth c _ _ 0 0 Q (F0 m 27 ls [.int (iI z_4)])
        replace p0_4 : z_4 = (if (0 ≤ x4 ∧ x4 < (v 21)) ∧ a1 ≤ (f 18) x4 then 1 else 0) := p0_4
        have w_4 := gif (P := (0 ≤ x4 ∧ x4 < (v 21)) ∧ a1 ≤ (f 18) x4) p0_4
        clear p0_4
        have hz_4 : inR z_4 := (by first | omega | (rw [p0_4]; split <;> omega))
        refine gi_zeq (tgt := 44) hx hb dX5_manyAhead_27 (by decide) (by omega) (fun c_5 => ?_) (fun c_5 => ?_)
        · have vz_4 := gif0 w_4 c_5
          clear w_4
          refine lv_iinc (v := iI (x4 + 1)) (lv' := [(4, .int (iI (x4 + 1))), (0, .ref (ad 47)), (1, .int (iI a1)), (2, .int (iI a2)), (3, .int (iI x3))]) hx hb dX5_manyAhead_44 hl (k := 4) rfl (by show iI _ + iI 1 = _; rw [iI_add]) (by decide) rfl (fun ls hl => ?_)
          refine lv_goto (tgt := 5) hx hb dX5_manyAhead_47 (by decide) ?_
          exact ih_5 x3 (x4 + 1) _ _ _ (by omega) (by omega) (by omega) (by first | (rw [cn_y (by omega) (decide_eq_true (by omega))]; omega) | (rw [cn_n (by omega) (decide_eq_false (by omega))]; omega)) hP hS (lv_sub hl [1, 2, 3, 4, 0] rfl)
        · have vz_4 := gif1 w_4 c_5
          clear w_4
          refine lv_aload_n hx hb dX5_manyAhead_30 rfl (lv_at hl 0 rfl) ?_
          refine lv_iload_n hx hb dX5_manyAhead_31 rfl (lv_at hl 1 rfl) ?_
          refine lv_iload hx hb dX5_manyAhead_32 (lv_at hl 4 rfl) ?_
          refine lv_iload_n hx hb dX5_manyAhead_34 rfl (lv_at hl 2 rfl) ?_
          refine g_cv (As := [.int (iI a1), .int (iI x4), .int (iI a2)]) (rest := []) (n := 3) C hml (x_Re_isAhead l D k A ad hD v f g a1 x4 a2 (by omega) (by omega) (by omega) (show 0 ≤ a1 ∧ a1 ≤ 3 from by omega) (show 0 ≤ x4 ∧ x4 ≤ 15 from by omega) (show 0 ≤ a2 ∧ a2 ≤ 15 from by omega) (show ∀ r k, 0 ≤ r → r ≤ a1 → ((v 4) = 0 → r = a1) → 0 ≤ k → k < (v 3) → ((-5000000000) ≤ (qG (g 3)) r x4 k ∧ (qG (g 3)) r x4 k ≤ 5000000000) ∧ ((-5000000000) ≤ (qG (g 3)) r a2 k ∧ (qG (g 3)) r a2 k ≤ 5000000000) from fun r k r0 r1 rb k0 k1 => ⟨hbm x4 (by omega) (by omega) (by omega) r k r0 r1 rb k0 k1, hbm a2 (by omega) (by omega) hin.2 r k r0 r1 rb k0 k1⟩)) mM_X5_177 mI_X5_isAhead mE_X5_isAhead mN_X5 mC_X5_isAhead (by decide +kernel) 47 (ci := 5) rfl rfl hP hS (fun _ h => h) ⟨Nat.le_of_ble_eq_true rfl, Nat.le_of_ble_eq_true rfl⟩ ⟨Nat.zero_le _, Nat.zero_le _⟩ hl.1 rfl rfl (Nat.le_of_ble_eq_true rfl) dX5_manyAhead_35 (fun r_6 v_6 f_6 g_6 H locs hq_6 hP _ hS => ?_)
          obtain ⟨z_6, rfl, rfl, rfl, rfl, p0_6⟩ := hq_6
          show W p l e (gRm 3 73) s m args below meth c _ _ 0 0 Q (F0 m 38 ls [.int (iI z_6)])
          replace p0_6 : z_6 = (if (ahR (qG (g 3)) (f 5) (v 3) (v 4) x4 a2 (a1 + 1).toNat) = 1 then 1 else 0) := p0_6
          have w_6 := gif (P := (ahR (qG (g 3)) (f 5) (v 3) (v 4) x4 a2 (a1 + 1).toNat) = 1) p0_6
          clear p0_6
          have hz_6 : inR z_6 := (by first | omega | (rw [p0_6]; split <;> omega))
          refine gi_zeq (tgt := 44) hx hb dX5_manyAhead_38 (by decide) (by omega) (fun c_7 => ?_) (fun c_7 => ?_)
          · have vz_6 := gif0 w_6 c_7
            clear w_6
            refine lv_iinc (v := iI (x4 + 1)) (lv' := [(4, .int (iI (x4 + 1))), (0, .ref (ad 47)), (1, .int (iI a1)), (2, .int (iI a2)), (3, .int (iI x3))]) hx hb dX5_manyAhead_44 hl (k := 4) rfl (by show iI _ + iI 1 = _; rw [iI_add]) (by decide) rfl (fun ls hl => ?_)
            refine lv_goto (tgt := 5) hx hb dX5_manyAhead_47 (by decide) ?_
            exact ih_5 x3 (x4 + 1) _ _ _ (by omega) (by omega) (by omega) (by first | (rw [cn_y (by omega) (decide_eq_true (by omega))]; omega) | (rw [cn_n (by omega) (decide_eq_false (by omega))]; omega)) hP hS (lv_sub hl [1, 2, 3, 4, 0] rfl)
          · have vz_6 := gif1 w_6 c_7
            clear w_6
            refine lv_iinc (v := iI (x3 + 1)) (lv' := [(3, .int (iI (x3 + 1))), (0, .ref (ad 47)), (1, .int (iI a1)), (2, .int (iI a2)), (4, .int (iI x4))]) hx hb dX5_manyAhead_41 hl (k := 3) rfl (by show iI _ + iI 1 = _; rw [iI_add]) (by decide) rfl (fun ls hl => ?_)
            refine lv_iinc (v := iI (x4 + 1)) (lv' := [(4, .int (iI (x4 + 1))), (3, .int (iI (x3 + 1))), (0, .ref (ad 47)), (1, .int (iI a1)), (2, .int (iI a2))]) hx hb dX5_manyAhead_44 hl (k := 4) rfl (by show iI _ + iI 1 = _; rw [iI_add]) (by decide) rfl (fun ls hl => ?_)
            refine lv_goto (tgt := 5) hx hb dX5_manyAhead_47 (by decide) ?_
            exact ih_5 (x3 + 1) (x4 + 1) _ _ _ (by omega) (by omega) (by omega) (by first | (rw [cn_y (by omega) (decide_eq_true (by omega))]; omega) | (rw [cn_n (by omega) (decide_eq_false (by omega))]; omega)) hP hS (lv_sub hl [2, 3, 4, 1, 0] rfl)
  exact L_2 17 0 0 _ _ _ (by omega) (by omega) (by omega) rfl hP hS (lv_sub hl [2, 3, 4, 1, 0] rfl)
