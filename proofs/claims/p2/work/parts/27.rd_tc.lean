set_option maxHeartbeats 4000000 in
set_option maxRecDepth 100000 in
theorem e_La_note (l : Launch) (D : va_G) (k : Nat → ClassId) (A : Nat → Prop) (ad : Nat → Nat) (hD : rwD A k ad) (v : gV) (f g : gF) (a1 : Int) (nn : Int) (pp : Int) (h_a1 : inR a1) (hc : tAt (f 0) nn (f 6) (f 7) (f 8) (v 5) (v 6) pp) (h1 : 0 ≤ a1 ∧ a1 ≤ 5) : GM l D k A (rwT k ad) yX3_note cX3_note 2 none 1 20 [.ref (ad 9), .int (iI a1)] v f g (fun r v1 f1 g1 => ∃ (w16 : Int) (w17 : Int), r = none ∧ (va_up (va_up v 16 w16) 17 w17) = v1 ∧ f = f1 ∧ g = g1 ∧ ((v 16) = 0 → w16 = a1) ∧ ((v 16) = 0 → a1 ≠ 0 → w17 = pp) ∧ ((v 16) ≠ 0 ∨ a1 = 0 → w16 = (v 16) ∧ w17 = (v 17))) := by
  refine GM.of (by decide) (Nat.le_of_ble_eq_true rfl) ?_
  intro p e s m args below meth c Q ls hQ C hml hr hlocks hP hl
  have hx := C.1
  have hb := C.2.1
  have hok := hP.2
  have hS : va_S A s.heap s.heap [] := va_S.rf
  have hl : lv_has ls 2 [(0, .ref (ad 9)), (1, .int (iI a1))] := hl
  have hP : gWd D (rwT k ad) (va_up (va_up v 16 (v 16)) 17 (v 17)) f g s.heap := by rw [va_id, va_id]; exact hP
  have r_1 : 0 ≤ (v 16) ∧ (v 16) ≤ 5 := hok.1 16
  refine lv_aload_n hx hb dX3_note_0 rfl (lv_at hl 0 rfl) ?_
  refine rwG_reader_fault C hP mF_X3_32 dX3_note_1 ?_
  show W p l e (gRm 1 20) s m args below meth c _ _ 0 0 Q (F0 m 4 ls [.int (iI (v 16))])
  refine gi_zne (tgt := 27) hx hb dX3_note_4 (by decide) (by omega) (fun c_2 => ?_) (fun c_2 => ?_)
  · exact g_vret hQ C hr hlocks hP hS dX3_note_27 ⟨(v 16), (v 17), rfl, rfl, rfl, rfl, (by first | omega | (split <;> omega)), (by first | omega | (split <;> omega)), (by first | omega | (split <;> omega))⟩
  · refine lv_iload_n hx hb dX3_note_7 rfl (lv_at hl 1 rfl) ?_
    refine gi_zeq (tgt := 27) hx hb dX3_note_8 (by decide) (by omega) (fun c_3 => ?_) (fun c_3 => ?_)
    · exact g_vret hQ C hr hlocks hP hS dX3_note_27 ⟨(v 16), (v 17), rfl, rfl, rfl, rfl, (by first | omega | (split <;> omega)), (by first | omega | (split <;> omega)), (by first | omega | (split <;> omega))⟩
    · refine lv_aload_n hx hb dX3_note_11 rfl (lv_at hl 0 rfl) ?_
      refine lv_iload_n hx hb dX3_note_12 rfl (lv_at hl 1 rfl) ?_
      refine rwP_reader_fault (v1 := (va_up (va_up v 16 a1) 17 (v 17))) C hP hD hS mF_X3_32 (by omega) rfl (Or.inr (gR_up (V := rwV) (F := rwF) (gR_up (V := rwV) (F := rwF) ⟨hok.1, hok.2⟩ 16 (show 0 ≤ a1 ∧ a1 ≤ 5 from by omega)) 17 (hP.2.1 17))) dX3_note_13 (fun H locs hP hS => ?_)
      refine lv_aload_n hx hb dX3_note_16 rfl (lv_at hl 0 rfl) ?_
      refine lv_aload_n hx hb dX3_note_17 rfl (lv_at hl 0 rfl) ?_
      refine rwG_reader_tokens C hP mF_X3_12 dX3_note_18 ?_
      refine g_cv (As := []) (rest := [.ref (ad 9)]) (n := 0) C hml (e_To_place l D k A ad hD (va_up (va_up v 16 a1) 17 (v 17)) f g nn pp (show tAt (f 0) nn (f 6) (f 7) (f 8) (v 5) (v 6) pp from hc)) mM_X3_94 mI_X6_place mE_X6_place mN_X6 mC_X6_place (by decide +kernel) 10 (ci := 6) rfl rfl hP hS (fun _ h => h) ⟨Nat.le_of_ble_eq_true rfl, Nat.le_of_ble_eq_true rfl⟩ ⟨Nat.zero_le _, Nat.zero_le _⟩ hl.1 rfl rfl (Nat.le_of_ble_eq_true rfl) dX3_note_21 (fun r_4 v_4 f_4 g_4 H locs hq_4 hP _ hS => ?_)
      obtain ⟨z_4, rfl, rfl, rfl, rfl, p0_4, p1_4⟩ := hq_4
      show W p l e (gRm 1 20) s m args below meth c _ _ 0 0 Q (F0 m 24 ls [.int (iI z_4), .ref (ad 9)])
      replace p0_4 : z_4 = pp := p0_4
      replace p1_4 : 0 ≤ z_4 ∧ z_4 ≤ 700 := p1_4
      have hz_4 : inR z_4 := (by first | omega | (rw [p0_4]; split <;> omega))
      refine rwP_reader_faultPlace (v1 := (va_up (va_up v 16 a1) 17 z_4)) C hP hD hS mF_X3_36 (by omega) rfl (Or.inr (gR_up (V := rwV) (F := rwF) (gR_up (V := rwV) (F := rwF) ⟨hok.1, hok.2⟩ 16 (hP.2.1 16)) 17 (show (-1) ≤ z_4 ∧ z_4 ≤ 700 from by omega))) dX3_note_24 (fun H locs hP hS => ?_)
      exact g_vret hQ C hr hlocks hP hS dX3_note_27 ⟨a1, z_4, rfl, rfl, rfl, rfl, (by first | omega | (split <;> omega)), (by first | omega | (split <;> omega)), (by first | omega | (split <;> omega))⟩

set_option maxHeartbeats 4000000 in
set_option maxRecDepth 100000 in
theorem e_La_refuseIf (l : Launch) (D : va_G) (k : Nat → ClassId) (A : Nat → Prop) (ad : Nat → Nat) (hD : rwD A k ad) (v : gV) (f g : gF) (a1 : Int) (a2 : Int) (nn : Int) (pp : Int) (h_a1 : inR a1) (h_a2 : inR a2) (hc : tAt (f 0) nn (f 6) (f 7) (f 8) (v 5) (v 6) pp) (h2 : 1 ≤ a2 ∧ a2 ≤ 5) : GM l D k A (rwT k ad) yX3_refuseIf cX3_refuseIf 3 none 2 41 [.ref (ad 9), .int (iI a1), .int (iI a2)] v f g (fun r v1 f1 g1 => ∃ (w16 : Int) (w17 : Int), r = none ∧ (va_up (va_up v 16 w16) 17 w17) = v1 ∧ f = f1 ∧ g = g1 ∧ (a1 = 0 ∨ (v 16) ≠ 0 → w16 = (v 16) ∧ w17 = (v 17)) ∧ (a1 ≠ 0 → (v 16) = 0 → w16 = a2 ∧ w17 = pp)) := by
  refine GM.of (by decide) (Nat.le_of_ble_eq_true rfl) ?_
  intro p e s m args below meth c Q ls hQ C hml hr hlocks hP hl
  have hx := C.1
  have hb := C.2.1
  have hok := hP.2
  have hS : va_S A s.heap s.heap [] := va_S.rf
  have hl : lv_has ls 3 [(0, .ref (ad 9)), (1, .int (iI a1)), (2, .int (iI a2))] := hl
  have hP : gWd D (rwT k ad) (va_up (va_up v 16 (v 16)) 17 (v 17)) f g s.heap := by rw [va_id, va_id]; exact hP
  have r_1 : 0 ≤ (v 16) ∧ (v 16) ≤ 5 := hok.1 16
  refine lv_iload_n hx hb dX3_refuseIf_0 rfl (lv_at hl 1 rfl) ?_
  refine gi_zeq (tgt := 9) hx hb dX3_refuseIf_1 (by decide) (by omega) (fun c_2 => ?_) (fun c_2 => ?_)
  · exact g_vret hQ C hr hlocks hP hS dX3_refuseIf_9 ⟨(v 16), (v 17), rfl, rfl, rfl, rfl, (by first | omega | (split <;> omega)), (by first | omega | (split <;> omega))⟩
  · refine lv_aload_n hx hb dX3_refuseIf_4 rfl (lv_at hl 0 rfl) ?_
    refine lv_iload_n hx hb dX3_refuseIf_5 rfl (lv_at hl 2 rfl) ?_
    refine g_cv (As := [.int (iI a2)]) (rest := []) (n := 1) C hml (e_La_note l D k A ad hD (va_up (va_up v 16 (v 16)) 17 (v 17)) f g a2 nn pp (by omega) (show tAt (f 0) nn (f 6) (f 7) (f 8) (v 5) (v 6) pp from hc) (show 0 ≤ a2 ∧ a2 ≤ 5 from by omega)) mM_X3_78 mI_X3_note mE_X3_note mN_X3 mC_X3_note (by decide +kernel) 9 (ci := 3) rfl rfl hP hS (fun _ h => h) ⟨Nat.le_of_ble_eq_true rfl, Nat.le_of_ble_eq_true rfl⟩ ⟨Nat.zero_le _, Nat.zero_le _⟩ hl.1 rfl rfl (Nat.le_of_ble_eq_true rfl) dX3_refuseIf_6 (fun r_3 v_3 f_3 g_3 H locs hq_3 hP _ hS => ?_)
    obtain ⟨w16_3, w17_3, rfl, rfl, rfl, rfl, p0_3, p1_3, p2_3⟩ := hq_3
    show W p l e (gRm 2 41) s m args below meth c _ _ 0 0 Q (F0 m 9 ls [])
    have hP : gWd D (rwT k ad) (va_up (va_up v 16 w16_3) 17 w17_3) f g H := ⟨hP.1, (gR_up (V := rwV) (F := rwF) (gR_up (V := rwV) (F := rwF) ⟨hok.1, hok.2⟩ 16 (hP.2.1 16)) 17 (hP.2.1 17))⟩
    replace p0_3 : (v 16) = 0 → w16_3 = a2 := p0_3
    replace p1_3 : (v 16) = 0 → a2 ≠ 0 → w17_3 = pp := p1_3
    replace p2_3 : (v 16) ≠ 0 ∨ a2 = 0 → w16_3 = (v 16) ∧ w17_3 = (v 17) := p2_3
    have rw16_3 : 0 ≤ w16_3 ∧ w16_3 ≤ 5 := hP.2.1 16
    have rw17_3 : (-1) ≤ w17_3 ∧ w17_3 ≤ 700 := hP.2.1 17
    exact g_vret hQ C hr hlocks hP hS dX3_refuseIf_9 ⟨w16_3, w17_3, rfl, rfl, rfl, rfl, (by first | omega | (split <;> omega)), (by first | omega | (split <;> omega))⟩

set_option maxHeartbeats 4000000 in
set_option maxRecDepth 100000 in
theorem e_La_refuseToken (l : Launch) (D : va_G) (k : Nat → ClassId) (A : Nat → Prop) (ad : Nat → Nat) (hD : rwD A k ad) (v : gV) (f g : gF) (nn : Int) (pp : Int) (hc : tAt (f 0) nn (f 6) (f 7) (f 8) (v 5) (v 6) pp) : GM l D k A (rwT k ad) yX3_refuseToken cX3_refuseToken 1 none 2 41 [.ref (ad 9)] v f g (fun r v1 f1 g1 => ∃ (w16 : Int) (w17 : Int), r = none ∧ (va_up (va_up v 16 w16) 17 w17) = v1 ∧ f = f1 ∧ g = g1 ∧ ((v 16) = 0 → w16 = (fk (f 0) nn pp) ∧ w17 = pp) ∧ ((v 16) ≠ 0 → w16 = (v 16) ∧ w17 = (v 17))) := by
  refine GM.of (by decide) (Nat.le_of_ble_eq_true rfl) ?_
  intro p e s m args below meth c Q ls hQ C hml hr hlocks hP hl
  have hx := C.1
  have hb := C.2.1
  have hok := hP.2
  have hS : va_S A s.heap s.heap [] := va_S.rf
  have hl : lv_has ls 1 [(0, .ref (ad 9))] := hl
  have hP : gWd D (rwT k ad) (va_up (va_up v 16 (v 16)) 17 (v 17)) f g s.heap := by rw [va_id, va_id]; exact hP
  have r_1 : 0 ≤ (v 16) ∧ (v 16) ≤ 5 := hok.1 16
  refine lv_aload_n hx hb dX3_refuseToken_0 rfl (lv_at hl 0 rfl) ?_
  refine lv_aload_n hx hb dX3_refuseToken_1 rfl (lv_at hl 0 rfl) ?_
  refine rwG_reader_tokens C hP mF_X3_12 dX3_refuseToken_2 ?_
  refine g_cv (As := []) (rest := [.ref (ad 9)]) (n := 0) C hml (e_To_kind l D k A ad hD (va_up (va_up v 16 (v 16)) 17 (v 17)) f g nn pp (show tAt (f 0) nn (f 6) (f 7) (f 8) (v 5) (v 6) pp from hc)) mM_X3_56 mI_X6_kind mE_X6_kind mN_X6 mC_X6_kind (by decide +kernel) 10 (ci := 6) rfl rfl hP hS (fun _ h => h) ⟨Nat.le_of_ble_eq_true rfl, Nat.le_of_ble_eq_true rfl⟩ ⟨Nat.zero_le _, Nat.zero_le _⟩ hl.1 rfl rfl (Nat.le_of_ble_eq_true rfl) dX3_refuseToken_5 (fun r_2 v_2 f_2 g_2 H locs hq_2 hP _ hS => ?_)
  obtain ⟨z_2, rfl, rfl, rfl, rfl, p0_2, p1_2⟩ := hq_2
  show W p l e (gRm 2 41) s m args below meth c _ _ 0 0 Q (F0 m 8 ls [.int (iI z_2), .ref (ad 9)])
  replace p0_2 : z_2 = (tK (f 0) nn pp) := p0_2
  replace p1_2 : 40 ≤ z_2 ∧ z_2 ≤ 277 := p1_2
  have hz_2 : inR z_2 := (by first | omega | (rw [p0_2]; split <;> omega))
  refine lv_sipush (v := iI 257) hx hb dX3_refuseToken_8 (by decide) ?_
  refine gi_cne (tgt := 18) hx hb dX3_refuseToken_11 (by decide) (by omega) (by decide) (fun c_3 => ?_) (fun c_3 => ?_)
  · refine lv_iconst (v := iI 2) hx hb dX3_refuseToken_18 rfl ?_
    refine g_cv (As := [.int (iI 2)]) (rest := []) (n := 1) C hml (e_La_note l D k A ad hD (va_up (va_up v 16 (v 16)) 17 (v 17)) f g 2 nn pp (by decide) (show tAt (f 0) nn (f 6) (f 7) (f 8) (v 5) (v 6) pp from hc) (show 0 ≤ (2 : Int) ∧ (2 : Int) ≤ 5 from by omega)) mM_X3_78 mI_X3_note mE_X3_note mN_X3 mC_X3_note (by decide +kernel) 9 (ci := 3) rfl rfl hP hS (fun _ h => h) ⟨Nat.le_of_ble_eq_true rfl, Nat.le_of_ble_eq_true rfl⟩ ⟨Nat.zero_le _, Nat.zero_le _⟩ hl.1 rfl rfl (Nat.le_of_ble_eq_true rfl) dX3_refuseToken_19 (fun r_4 v_4 f_4 g_4 H locs hq_4 hP _ hS => ?_)
    obtain ⟨w16_4, w17_4, rfl, rfl, rfl, rfl, p0_4, p1_4, p2_4⟩ := hq_4
    show W p l e (gRm 2 41) s m args below meth c _ _ 0 0 Q (F0 m 22 ls [])
    have hP : gWd D (rwT k ad) (va_up (va_up v 16 w16_4) 17 w17_4) f g H := ⟨hP.1, (gR_up (V := rwV) (F := rwF) (gR_up (V := rwV) (F := rwF) ⟨hok.1, hok.2⟩ 16 (hP.2.1 16)) 17 (hP.2.1 17))⟩
    replace p0_4 : (v 16) = 0 → w16_4 = (2 : Int) := p0_4
    replace p1_4 : (v 16) = 0 → (2 : Int) ≠ 0 → w17_4 = pp := p1_4
    replace p2_4 : (v 16) ≠ 0 ∨ (2 : Int) = 0 → w16_4 = (v 16) ∧ w17_4 = (v 17) := p2_4
    have rw16_4 : 0 ≤ w16_4 ∧ w16_4 ≤ 5 := hP.2.1 16
    have rw17_4 : (-1) ≤ w17_4 ∧ w17_4 ≤ 700 := hP.2.1 17
    exact g_vret hQ C hr hlocks hP hS dX3_refuseToken_22 ⟨w16_4, w17_4, rfl, rfl, rfl, rfl, (by first | (intro h; rw [fk_p (by omega)]; omega) | (intro h; rw [fk_n (by omega)]; omega)), (by first | omega | (split <;> omega))⟩
  · refine lv_iconst (v := iI 1) hx hb dX3_refuseToken_14 rfl ?_
    refine lv_goto (tgt := 19) hx hb dX3_refuseToken_15 (by decide) ?_
    refine g_cv (As := [.int (iI 1)]) (rest := []) (n := 1) C hml (e_La_note l D k A ad hD (va_up (va_up v 16 (v 16)) 17 (v 17)) f g 1 nn pp (by decide) (show tAt (f 0) nn (f 6) (f 7) (f 8) (v 5) (v 6) pp from hc) (show 0 ≤ (1 : Int) ∧ (1 : Int) ≤ 5 from by omega)) mM_X3_78 mI_X3_note mE_X3_note mN_X3 mC_X3_note (by decide +kernel) 9 (ci := 3) rfl rfl hP hS (fun _ h => h) ⟨Nat.le_of_ble_eq_true rfl, Nat.le_of_ble_eq_true rfl⟩ ⟨Nat.zero_le _, Nat.zero_le _⟩ hl.1 rfl rfl (Nat.le_of_ble_eq_true rfl) dX3_refuseToken_19 (fun r_5 v_5 f_5 g_5 H locs hq_5 hP _ hS => ?_)
    obtain ⟨w16_5, w17_5, rfl, rfl, rfl, rfl, p0_5, p1_5, p2_5⟩ := hq_5
    show W p l e (gRm 2 41) s m args below meth c _ _ 0 0 Q (F0 m 22 ls [])
    have hP : gWd D (rwT k ad) (va_up (va_up v 16 w16_5) 17 w17_5) f g H := ⟨hP.1, (gR_up (V := rwV) (F := rwF) (gR_up (V := rwV) (F := rwF) ⟨hok.1, hok.2⟩ 16 (hP.2.1 16)) 17 (hP.2.1 17))⟩
    replace p0_5 : (v 16) = 0 → w16_5 = (1 : Int) := p0_5
    replace p1_5 : (v 16) = 0 → (1 : Int) ≠ 0 → w17_5 = pp := p1_5
    replace p2_5 : (v 16) ≠ 0 ∨ (1 : Int) = 0 → w16_5 = (v 16) ∧ w17_5 = (v 17) := p2_5
    have rw16_5 : 0 ≤ w16_5 ∧ w16_5 ≤ 5 := hP.2.1 16
    have rw17_5 : (-1) ≤ w17_5 ∧ w17_5 ≤ 700 := hP.2.1 17
    exact g_vret hQ C hr hlocks hP hS dX3_refuseToken_22 ⟨w16_5, w17_5, rfl, rfl, rfl, rfl, (by first | (intro h; rw [fk_p (by omega)]; omega) | (intro h; rw [fk_n (by omega)]; omega)), (by first | omega | (split <;> omega))⟩

set_option maxHeartbeats 4000000 in
set_option maxRecDepth 100000 in
theorem e_La_goOn (l : Launch) (D : va_G) (k : Nat → ClassId) (A : Nat → Prop) (ad : Nat → Nat) (hD : rwD A k ad) (v : gV) (f g : gF) (nn : Int) (pp : Int) (hc : tAt (f 0) nn (f 6) (f 7) (f 8) (v 5) (v 6) pp) : GM l D k A (rwT k ad) yX3_goOn cX3_goOn 1 (some .boolean) 1 20 [.ref (ad 9)] v f g (fun r v1 f1 g1 => ∃ (z : Int) (w6 : Int), r = some (.int (iI z)) ∧ (va_up v 6 w6) = v1 ∧ f = f1 ∧ g = g1 ∧ (0 ≤ z ∧ z ≤ 1) ∧ (z = 1 ↔ (v 16) = 0) ∧ ((v 16) ≠ 0 → w6 = (v 6)) ∧ ((v 16) = 0 → (tK (f 0) nn pp) ≠ 256 → (tK (f 0) nn pp) ≠ 257 → tAt (f 0) nn (f 6) (f 7) (f 8) (v 5) w6 (tX (f 0) nn pp))) := by
  refine GM.of (by decide) (Nat.le_of_ble_eq_true rfl) ?_
  intro p e s m args below meth c Q ls hQ C hml hr hlocks hP hl
  have hx := C.1
  have hb := C.2.1
  have hok := hP.2
  have hS : va_S A s.heap s.heap [] := va_S.rf
  have hl : lv_has ls 1 [(0, .ref (ad 9))] := hl
  have hP : gWd D (rwT k ad) (va_up v 6 (v 6)) f g s.heap := by rw [va_id]; exact hP
  have r_1 : 0 ≤ (v 16) ∧ (v 16) ≤ 5 := hok.1 16
  refine lv_aload_n hx hb dX3_goOn_0 rfl (lv_at hl 0 rfl) ?_
  refine rwG_reader_fault C hP mF_X3_32 dX3_goOn_1 ?_
  show W p l e (gRm 1 20) s m args below meth c _ _ 0 0 Q (F0 m 4 ls [.int (iI (v 16))])
  refine gi_zne (tgt := 14) hx hb dX3_goOn_4 (by decide) (by omega) (fun c_2 => ?_) (fun c_2 => ?_)
  · refine lv_aload_n hx hb dX3_goOn_14 rfl (lv_at hl 0 rfl) ?_
    refine rwG_reader_fault C hP mF_X3_32 dX3_goOn_15 ?_
    show W p l e (gRm 1 20) s m args below meth c _ _ 0 0 Q (F0 m 18 ls [.int (iI (v 16))])
    refine gi_zne (tgt := 25) hx hb dX3_goOn_18 (by decide) (by omega) (fun c_3 => ?_) (fun c_3 => ?_)
    · refine lv_iconst (v := iI 0) hx hb dX3_goOn_25 rfl ?_
      exact g_zret hQ C hr hlocks (by decide) hP hS dX3_goOn_26 ⟨0, (v 6), rfl, rfl, rfl, rfl, (by first | omega | (split <;> omega)), (by first | omega | (split <;> omega)), (by first | omega | (split <;> omega)), (by first | (intro h; exfalso; omega) | exact fun _ => hSt)⟩
    · refine lv_iconst (v := iI 1) hx hb dX3_goOn_21 rfl ?_
      refine lv_goto (tgt := 26) hx hb dX3_goOn_22 (by decide) ?_
      exact g_zret hQ C hr hlocks (by decide) hP hS dX3_goOn_26 ⟨1, (v 6), rfl, rfl, rfl, rfl, (by first | omega | (split <;> omega)), (by first | omega | (split <;> omega)), (by first | omega | (split <;> omega)), (by first | (intro h; exfalso; omega) | exact fun _ => hSt)⟩
  · refine lv_aload_n hx hb dX3_goOn_7 rfl (lv_at hl 0 rfl) ?_
    refine rwG_reader_tokens C hP mF_X3_12 dX3_goOn_8 ?_
    refine g_cv (As := []) (rest := []) (n := 0) C hml (e_To_step l D k A ad hD (va_up v 6 (v 6)) f g nn pp (show tAt (f 0) nn (f 6) (f 7) (f 8) (v 5) (v 6) pp from hc)) mM_X3_97 mI_X6_step mE_X6_step mN_X6 mC_X6_step (by decide +kernel) 10 (ci := 6) rfl rfl hP hS (fun _ h => h) ⟨Nat.le_of_ble_eq_true rfl, Nat.le_of_ble_eq_true rfl⟩ ⟨Nat.zero_le _, Nat.zero_le _⟩ hl.1 rfl rfl (Nat.le_of_ble_eq_true rfl) dX3_goOn_11 (fun r_4 v_4 f_4 g_4 H locs hq_4 hP _ hS => ?_)
    obtain ⟨w6_4, rfl, rfl, rfl, rfl, p0_4⟩ := hq_4
    show W p l e (gRm 1 20) s m args below meth c _ _ 0 0 Q (F0 m 14 ls [])
    have hP : gWd D (rwT k ad) (va_up v 6 w6_4) f g H := ⟨hP.1, (gR_up (V := rwV) (F := rwF) ⟨hok.1, hok.2⟩ 6 (hP.2.1 6))⟩
    replace p0_4 : (tK (f 0) nn pp) ≠ 256 → (tK (f 0) nn pp) ≠ 257 → tAt (f 0) nn (f 6) (f 7) (f 8) (v 5) w6_4 (tX (f 0) nn pp) := p0_4
    have rw6_4 : 0 ≤ w6_4 ∧ w6_4 ≤ 700 := hP.2.1 6
    have hSt := p0_4
    refine lv_aload_n hx hb dX3_goOn_14 rfl (lv_at hl 0 rfl) ?_
    refine rwG_reader_fault C hP mF_X3_32 dX3_goOn_15 ?_
    show W p l e (gRm 1 20) s m args below meth c _ _ 0 0 Q (F0 m 18 ls [.int (iI (v 16))])
    refine gi_zne (tgt := 25) hx hb dX3_goOn_18 (by decide) (by omega) (fun c_5 => ?_) (fun c_5 => ?_)
    · refine lv_iconst (v := iI 0) hx hb dX3_goOn_25 rfl ?_
      exact g_zret hQ C hr hlocks (by decide) hP hS dX3_goOn_26 ⟨0, w6_4, rfl, rfl, rfl, rfl, (by first | omega | (split <;> omega)), (by first | omega | (split <;> omega)), (by first | omega | (split <;> omega)), (by first | (intro h; exfalso; omega) | exact fun _ => hSt)⟩
    · refine lv_iconst (v := iI 1) hx hb dX3_goOn_21 rfl ?_
      refine lv_goto (tgt := 26) hx hb dX3_goOn_22 (by decide) ?_
      exact g_zret hQ C hr hlocks (by decide) hP hS dX3_goOn_26 ⟨1, w6_4, rfl, rfl, rfl, rfl, (by first | omega | (split <;> omega)), (by first | omega | (split <;> omega)), (by first | omega | (split <;> omega)), (by first | (intro h; exfalso; omega) | exact fun _ => hSt)⟩

set_option maxHeartbeats 4000000 in
set_option maxRecDepth 100000 in
theorem e_La_pass (l : Launch) (D : va_G) (k : Nat → ClassId) (A : Nat → Prop) (ad : Nat → Nat) (hD : rwD A k ad) (v : gV) (f g : gF) (a1 : Int) (nn : Int) (pp : Int) (h_a1 : inR a1) (hc : tAt (f 0) nn (f 6) (f 7) (f 8) (v 5) (v 6) pp) (ha : a1 ≠ 256 ∧ a1 ≠ 257) : GM l D k A (rwT k ad) yX3_pass cX3_pass 2 none 3 61 [.ref (ad 9), .int (iI a1)] v f g (fun r v1 f1 g1 => ∃ (w6 : Int) (w16 : Int) (w17 : Int), r = none ∧ (va_up (va_up (va_up v 6 w6) 16 w16) 17 w17) = v1 ∧ f = f1 ∧ g = g1 ∧ ((v 16) = 0 → (tK (f 0) nn pp) = a1 → w16 = 0 ∧ w17 = (v 17)) ∧ ((v 16) = 0 → (tK (f 0) nn pp) ≠ a1 → w16 = (fk (f 0) nn pp) ∧ w17 = pp ∧ w6 = (v 6)) ∧ ((v 16) ≠ 0 → w16 = (v 16) ∧ w17 = (v 17) ∧ w6 = (v 6)) ∧ ((v 16) = 0 → (tK (f 0) nn pp) = a1 → tAt (f 0) nn (f 6) (f 7) (f 8) (v 5) w6 (tX (f 0) nn pp))) := by
  refine GM.of (by decide) (Nat.le_of_ble_eq_true rfl) ?_
  intro p e s m args below meth c Q ls hQ C hml hr hlocks hP hl
  have hx := C.1
  have hb := C.2.1
  have hok := hP.2
  have hS : va_S A s.heap s.heap [] := va_S.rf
  have hl : lv_has ls 2 [(0, .ref (ad 9)), (1, .int (iI a1))] := hl
  have hP : gWd D (rwT k ad) (va_up (va_up (va_up v 6 (v 6)) 16 (v 16)) 17 (v 17)) f g s.heap := by rw [va_id, va_id, va_id]; exact hP
  have hfk := fk_rng (f 0) nn pp
  have r_1 : 0 ≤ (v 16) ∧ (v 16) ≤ 5 := hok.1 16
  refine lv_aload_n hx hb dX3_pass_0 rfl (lv_at hl 0 rfl) ?_
  refine rwG_reader_tokens C hP mF_X3_12 dX3_pass_1 ?_
  refine g_cv (As := []) (rest := []) (n := 0) C hml (e_To_kind l D k A ad hD (va_up (va_up (va_up v 6 (v 6)) 16 (v 16)) 17 (v 17)) f g nn pp (show tAt (f 0) nn (f 6) (f 7) (f 8) (v 5) (v 6) pp from hc)) mM_X3_56 mI_X6_kind mE_X6_kind mN_X6 mC_X6_kind (by decide +kernel) 10 (ci := 6) rfl rfl hP hS (fun _ h => h) ⟨Nat.le_of_ble_eq_true rfl, Nat.le_of_ble_eq_true rfl⟩ ⟨Nat.zero_le _, Nat.zero_le _⟩ hl.1 rfl rfl (Nat.le_of_ble_eq_true rfl) dX3_pass_4 (fun r_2 v_2 f_2 g_2 H locs hq_2 hP _ hS => ?_)
  obtain ⟨z_2, rfl, rfl, rfl, rfl, p0_2, p1_2⟩ := hq_2
  show W p l e (gRm 3 61) s m args below meth c _ _ 0 0 Q (F0 m 7 ls [.int (iI z_2)])
  replace p0_2 : z_2 = (tK (f 0) nn pp) := p0_2
  replace p1_2 : 40 ≤ z_2 ∧ z_2 ≤ 277 := p1_2
  have hz_2 : inR z_2 := (by first | omega | (rw [p0_2]; split <;> omega))
  refine lv_iload_n hx hb dX3_pass_7 rfl (lv_at hl 1 rfl) ?_
  refine gi_ceq (tgt := 15) hx hb dX3_pass_8 (by decide) (by omega) (by omega) (fun c_3 => ?_) (fun c_3 => ?_)
  · refine lv_aload_n hx hb dX3_pass_15 rfl (lv_at hl 0 rfl) ?_
    refine g_cv (As := []) (rest := []) (n := 0) C hml (e_La_goOn l D k A ad hD (va_up (va_up (va_up v 6 (v 6)) 16 (v 16)) 17 (v 17)) f g nn pp (show tAt (f 0) nn (f 6) (f 7) (f 8) (v 5) (v 6) pp from hc)) mM_X3_70 mI_X3_goOn mE_X3_goOn mN_X3 mC_X3_goOn (by decide +kernel) 9 (ci := 3) rfl rfl hP hS (fun _ h => h) ⟨Nat.le_of_ble_eq_true rfl, Nat.le_of_ble_eq_true rfl⟩ ⟨Nat.zero_le _, Nat.zero_le _⟩ hl.1 rfl rfl (Nat.le_of_ble_eq_true rfl) dX3_pass_16 (fun r_4 v_4 f_4 g_4 H locs hq_4 hP _ hS => ?_)
    obtain ⟨z_4, w6_4, rfl, rfl, rfl, rfl, p0_4, p1_4, p2_4, p3_4⟩ := hq_4
    show W p l e (gRm 3 61) s m args below meth c _ _ 0 0 Q (F0 m 19 ls [.int (iI z_4)])
    have hP : gWd D (rwT k ad) (va_up (va_up (va_up v 6 w6_4) 16 (v 16)) 17 (v 17)) f g H := ⟨hP.1, (gR_up (V := rwV) (F := rwF) (gR_up (V := rwV) (F := rwF) (gR_up (V := rwV) (F := rwF) ⟨hok.1, hok.2⟩ 6 (hP.2.1 6)) 16 (hP.2.1 16)) 17 (hP.2.1 17))⟩
    replace p0_4 : 0 ≤ z_4 ∧ z_4 ≤ 1 := p0_4
    replace p1_4 : z_4 = 1 ↔ (v 16) = 0 := p1_4
    replace p2_4 : (v 16) ≠ 0 → w6_4 = (v 6) := p2_4
    replace p3_4 : (v 16) = 0 → (tK (f 0) nn pp) ≠ 256 → (tK (f 0) nn pp) ≠ 257 → tAt (f 0) nn (f 6) (f 7) (f 8) (v 5) w6_4 (tX (f 0) nn pp) := p3_4
    have rw6_4 : 0 ≤ w6_4 ∧ w6_4 ≤ 700 := hP.2.1 6
    have hG2 := p2_4
    have hG3 := p3_4
    refine lv_pop hx hb dX3_pass_19 rfl ?_
    exact g_vret hQ C hr hlocks hP hS dX3_pass_20 ⟨w6_4, (v 16), (v 17), rfl, rfl, rfl, rfl, (by first | omega | (split <;> omega)), (by first | omega | (split <;> omega)), (by first | omega | (split <;> omega)), (by first | (intro h1 h2; exfalso; omega) | exact fun h1 h2 => hG3 h1 (by omega) (by omega))⟩
  · refine lv_aload_n hx hb dX3_pass_11 rfl (lv_at hl 0 rfl) ?_
    refine g_cv (As := []) (rest := []) (n := 0) C hml (e_La_refuseToken l D k A ad hD (va_up (va_up (va_up v 6 (v 6)) 16 (v 16)) 17 (v 17)) f g nn pp (show tAt (f 0) nn (f 6) (f 7) (f 8) (v 5) (v 6) pp from hc)) mM_X3_88 mI_X3_refuseToken mE_X3_refuseToken mN_X3 mC_X3_refuseToken (by decide +kernel) 9 (ci := 3) rfl rfl hP hS (fun _ h => h) ⟨Nat.le_of_ble_eq_true rfl, Nat.le_of_ble_eq_true rfl⟩ ⟨Nat.zero_le _, Nat.zero_le _⟩ hl.1 rfl rfl (Nat.le_of_ble_eq_true rfl) dX3_pass_12 (fun r_5 v_5 f_5 g_5 H locs hq_5 hP _ hS => ?_)
    obtain ⟨w16_5, w17_5, rfl, rfl, rfl, rfl, p0_5, p1_5⟩ := hq_5
    show W p l e (gRm 3 61) s m args below meth c _ _ 0 0 Q (F0 m 15 ls [])
    have hP : gWd D (rwT k ad) (va_up (va_up (va_up v 6 (v 6)) 16 w16_5) 17 w17_5) f g H := ⟨hP.1, (gR_up (V := rwV) (F := rwF) (gR_up (V := rwV) (F := rwF) (gR_up (V := rwV) (F := rwF) ⟨hok.1, hok.2⟩ 6 (hP.2.1 6)) 16 (hP.2.1 16)) 17 (hP.2.1 17))⟩
    replace p0_5 : (v 16) = 0 → w16_5 = (fk (f 0) nn pp) ∧ w17_5 = pp := p0_5
    replace p1_5 : (v 16) ≠ 0 → w16_5 = (v 16) ∧ w17_5 = (v 17) := p1_5
    have rw16_5 : 0 ≤ w16_5 ∧ w16_5 ≤ 5 := hP.2.1 16
    have rw17_5 : (-1) ≤ w17_5 ∧ w17_5 ≤ 700 := hP.2.1 17
    refine lv_aload_n hx hb dX3_pass_15 rfl (lv_at hl 0 rfl) ?_
    refine g_cv (As := []) (rest := []) (n := 0) C hml (e_La_goOn l D k A ad hD (va_up (va_up (va_up v 6 (v 6)) 16 w16_5) 17 w17_5) f g nn pp (show tAt (f 0) nn (f 6) (f 7) (f 8) (v 5) (v 6) pp from hc)) mM_X3_70 mI_X3_goOn mE_X3_goOn mN_X3 mC_X3_goOn (by decide +kernel) 9 (ci := 3) rfl rfl hP hS (fun _ h => h) ⟨Nat.le_of_ble_eq_true rfl, Nat.le_of_ble_eq_true rfl⟩ ⟨Nat.zero_le _, Nat.zero_le _⟩ hl.1 rfl rfl (Nat.le_of_ble_eq_true rfl) dX3_pass_16 (fun r_6 v_6 f_6 g_6 H locs hq_6 hP _ hS => ?_)
    obtain ⟨z_6, w6_6, rfl, rfl, rfl, rfl, p0_6, p1_6, p2_6, p3_6⟩ := hq_6
    show W p l e (gRm 3 61) s m args below meth c _ _ 0 0 Q (F0 m 19 ls [.int (iI z_6)])
    have hP : gWd D (rwT k ad) (va_up (va_up (va_up v 6 w6_6) 16 w16_5) 17 w17_5) f g H := ⟨hP.1, (gR_up (V := rwV) (F := rwF) (gR_up (V := rwV) (F := rwF) (gR_up (V := rwV) (F := rwF) ⟨hok.1, hok.2⟩ 6 (hP.2.1 6)) 16 (hP.2.1 16)) 17 (hP.2.1 17))⟩
    replace p0_6 : 0 ≤ z_6 ∧ z_6 ≤ 1 := p0_6
    replace p1_6 : z_6 = 1 ↔ w16_5 = 0 := p1_6
    replace p2_6 : w16_5 ≠ 0 → w6_6 = (v 6) := p2_6
    replace p3_6 : w16_5 = 0 → (tK (f 0) nn pp) ≠ 256 → (tK (f 0) nn pp) ≠ 257 → tAt (f 0) nn (f 6) (f 7) (f 8) (v 5) w6_6 (tX (f 0) nn pp) := p3_6
    have rw6_6 : 0 ≤ w6_6 ∧ w6_6 ≤ 700 := hP.2.1 6
    have hG2 := p2_6
    have hG3 := p3_6
    refine lv_pop hx hb dX3_pass_19 rfl ?_
    exact g_vret hQ C hr hlocks hP hS dX3_pass_20 ⟨w6_6, w16_5, w17_5, rfl, rfl, rfl, rfl, (by first | omega | (split <;> omega)), (by first | omega | (split <;> omega)), (by first | omega | (split <;> omega)), (by first | (intro h1 h2; exfalso; omega) | exact fun h1 h2 => hG3 h1 (by omega) (by omega))⟩

set_option maxHeartbeats 4000000 in
set_option maxRecDepth 100000 in
theorem e_La_readTies (l : Launch) (D : va_G) (k : Nat → ClassId) (A : Nat → Prop) (ad : Nat → Nat) (hD : rwD A k ad) (v : gV) (f g : gF) (nn : Int) (pp : Int) (hc : tAt (f 0) nn (f 6) (f 7) (f 8) (v 5) (v 6) pp) (hk : (tK (f 0) nn pp) ≠ 256 ∧ (tK (f 0) nn pp) ≠ 257) : GM l D k A (rwT k ad) yX3_readTies cX3_readTies 1 none 4 82 [.ref (ad 9)] v f g (fun r v1 f1 g1 => ∃ (w6 : Int) (w10 : Int) (w16 : Int) (w17 : Int), r = none ∧ (va_up (va_up (va_up (va_up v 6 w6) 10 w10) 16 w16) 17 w17) = v1 ∧ f = f1 ∧ g = g1 ∧ ((v 16) = 0 → oX (f 0) nn (f 6) (f 7) (f 8) (v 5) (tie (f 0) nn (tX (f 0) nn pp)) w16 w17 (v 17) w6) ∧ ((v 16) ≠ 0 → w16 = (v 16) ∧ w17 = (v 17) ∧ w6 = (v 6))) := by
  refine GM.of (by decide) (Nat.le_of_ble_eq_true rfl) ?_
  intro p e s m args below meth c Q ls hQ C hml hr hlocks hP hl
  have hx := C.1
  have hb := C.2.1
  have hok := hP.2
  have hS : va_S A s.heap s.heap [] := va_S.rf
  have hl : lv_has ls 1 [(0, .ref (ad 9))] := hl
  have hP : gWd D (rwT k ad) (va_up (va_up (va_up (va_up v 6 (v 6)) 10 (v 10)) 16 (v 16)) 17 (v 17)) f g s.heap := by rw [va_id, va_id, va_id, va_id]; exact hP
  have hfk := fk_rng (f 0) nn (tX (f 0) nn pp)
  have r_1 : 0 ≤ (v 16) ∧ (v 16) ≤ 5 := hok.1 16
  refine lv_aload_n hx hb dX3_readTies_0 rfl (lv_at hl 0 rfl) ?_
  refine g_cv (As := []) (rest := []) (n := 0) C hml (e_La_goOn l D k A ad hD (va_up (va_up (va_up (va_up v 6 (v 6)) 10 (v 10)) 16 (v 16)) 17 (v 17)) f g nn pp (show tAt (f 0) nn (f 6) (f 7) (f 8) (v 5) (v 6) pp from hc)) mM_X3_70 mI_X3_goOn mE_X3_goOn mN_X3 mC_X3_goOn (by decide +kernel) 9 (ci := 3) rfl rfl hP hS (fun _ h => h) ⟨Nat.le_of_ble_eq_true rfl, Nat.le_of_ble_eq_true rfl⟩ ⟨Nat.zero_le _, Nat.zero_le _⟩ hl.1 rfl rfl (Nat.le_of_ble_eq_true rfl) dX3_readTies_1 (fun r_2 v_2 f_2 g_2 H locs hq_2 hP _ hS => ?_)
  obtain ⟨z_2, w6_2, rfl, rfl, rfl, rfl, p0_2, p1_2, p2_2, p3_2⟩ := hq_2
  show W p l e (gRm 4 82) s m args below meth c _ _ 0 0 Q (F0 m 4 ls [.int (iI z_2)])
  have hP : gWd D (rwT k ad) (va_up (va_up (va_up (va_up v 6 w6_2) 10 (v 10)) 16 (v 16)) 17 (v 17)) f g H := ⟨hP.1, (gR_up (V := rwV) (F := rwF) (gR_up (V := rwV) (F := rwF) (gR_up (V := rwV) (F := rwF) (gR_up (V := rwV) (F := rwF) ⟨hok.1, hok.2⟩ 6 (hP.2.1 6)) 10 (hP.2.1 10)) 16 (hP.2.1 16)) 17 (hP.2.1 17))⟩
  replace p0_2 : 0 ≤ z_2 ∧ z_2 ≤ 1 := p0_2
  replace p1_2 : z_2 = 1 ↔ (v 16) = 0 := p1_2
  replace p2_2 : (v 16) ≠ 0 → w6_2 = (v 6) := p2_2
  replace p3_2 : (v 16) = 0 → (tK (f 0) nn pp) ≠ 256 → (tK (f 0) nn pp) ≠ 257 → tAt (f 0) nn (f 6) (f 7) (f 8) (v 5) w6_2 (tX (f 0) nn pp) := p3_2
  have rw6_2 : 0 ≤ w6_2 ∧ w6_2 ≤ 700 := hP.2.1 6
  have hG3 := p3_2
  clear p3_2
  refine gi_zeq (tgt := 55) hx hb dX3_readTies_4 (by decide) (by omega) (fun c_3 => ?_) (fun c_3 => ?_)
  · exact g_vret hQ C hr hlocks hP hS dX3_readTies_55 ⟨w6_2, (v 10), (v 16), (v 17), rfl, rfl, rfl, rfl, (by first | (intro h; exfalso; omega) | exact fun h => (if hT : (tK (f 0) nn (tX (f 0) nn pp)) = 264 ∨ (tK (f 0) nn (tX (f 0) nn pp)) = 265 then oX_ok (tie_ok hT) (by omega) (by omega) (hP3 (by omega) (by omega)) else oX_bad (tie_bad hT) (by omega) (by omega) (by omega) (tAt_eq hc2 (by omega)))), (by first | omega | (split <;> omega))⟩
  · have hf0 : (v 16) = 0 := by omega
    have hc2 := hG3 hf0 hk.1 hk.2
    refine lv_aload_n hx hb dX3_readTies_7 rfl (lv_at hl 0 rfl) ?_
    refine rwG_reader_draft C hP mF_X3_21 dX3_readTies_8 ?_
    refine lv_aload_n hx hb dX3_readTies_11 rfl (lv_at hl 0 rfl) ?_
    refine rwG_reader_tokens C hP mF_X3_12 dX3_readTies_12 ?_
    refine g_cv (As := []) (rest := [.ref (ad 14)]) (n := 0) C hml (e_To_kind l D k A ad hD (va_up (va_up (va_up (va_up v 6 w6_2) 10 (v 10)) 16 (v 16)) 17 (v 17)) f g nn (tX (f 0) nn pp) (show tAt (f 0) nn (f 6) (f 7) (f 8) (v 5) w6_2 (tX (f 0) nn pp) from hc2)) mM_X3_56 mI_X6_kind mE_X6_kind mN_X6 mC_X6_kind (by decide +kernel) 10 (ci := 6) rfl rfl hP hS (fun _ h => h) ⟨Nat.le_of_ble_eq_true rfl, Nat.le_of_ble_eq_true rfl⟩ ⟨Nat.zero_le _, Nat.zero_le _⟩ hl.1 rfl rfl (Nat.le_of_ble_eq_true rfl) dX3_readTies_15 (fun r_4 v_4 f_4 g_4 H locs hq_4 hP _ hS => ?_)
    obtain ⟨z_4, rfl, rfl, rfl, rfl, p0_4, p1_4⟩ := hq_4
    show W p l e (gRm 4 82) s m args below meth c _ _ 0 0 Q (F0 m 18 ls [.int (iI z_4), .ref (ad 14)])
    replace p0_4 : z_4 = (tK (f 0) nn (tX (f 0) nn pp)) := p0_4
    replace p1_4 : 40 ≤ z_4 ∧ z_4 ≤ 277 := p1_4
    have hz_4 : inR z_4 := (by first | omega | (rw [p0_4]; split <;> omega))
    have hK2 := p0_4
    refine lv_sipush (v := iI 264) hx hb dX3_readTies_18 (by decide) ?_
    refine gi_cne (tgt := 28) hx hb dX3_readTies_21 (by decide) (by omega) (by decide) (fun c_5 => ?_) (fun c_5 => ?_)
    · refine lv_iconst (v := iI 0) hx hb dX3_readTies_28 rfl ?_
      refine rwP_reader_draft_back (v1 := (va_up (va_up (va_up (va_up v 6 w6_2) 10 0) 16 (v 16)) 17 (v 17))) C hP hD hS mF_X3_126 (by decide) (by decide) rfl (Or.inr (gR_up (V := rwV) (F := rwF) (gR_up (V := rwV) (F := rwF) (gR_up (V := rwV) (F := rwF) (gR_up (V := rwV) (F := rwF) ⟨hok.1, hok.2⟩ 6 (hP.2.1 6)) 10 (show 0 ≤ 0 ∧ 0 ≤ 1 from by decide)) 16 (hP.2.1 16)) 17 (hP.2.1 17))) dX3_readTies_29 (fun H locs hP hS => ?_)
      refine lv_aload_n hx hb dX3_readTies_32 rfl (lv_at hl 0 rfl) ?_
      refine lv_aload_n hx hb dX3_readTies_33 rfl (lv_at hl 0 rfl) ?_
      refine rwG_reader_draft C hP mF_X3_21 dX3_readTies_34 ?_
      refine rwG_reader_draft_back C hP mF_X3_126 dX3_readTies_37 ?_
      show W p l e (gRm 4 82) s m args below meth c _ _ 0 0 Q (F0 m 40 ls [.int (iI 0), .ref (ad 9)])
      refine gi_zeq (tgt := 49) hx hb dX3_readTies_40 (by decide) (by decide) (fun c_6 => ?_) (fun c_6 => ?_)
      · refine lv_sipush (v := iI 265) hx hb dX3_readTies_49 (by decide) ?_
        refine g_cv (As := [.int (iI 265)]) (rest := []) (n := 1) C hml (e_La_pass l D k A ad hD (va_up (va_up (va_up (va_up v 6 w6_2) 10 0) 16 (v 16)) 17 (v 17)) f g 265 nn (tX (f 0) nn pp) (by decide) (show tAt (f 0) nn (f 6) (f 7) (f 8) (v 5) w6_2 (tX (f 0) nn pp) from hc2) (show (265 : Int) ≠ 256 ∧ (265 : Int) ≠ 257 from by omega)) mM_X3_91 mI_X3_pass mE_X3_pass mN_X3 mC_X3_pass (by decide +kernel) 9 (ci := 3) rfl rfl hP hS (fun _ h => h) ⟨Nat.le_of_ble_eq_true rfl, Nat.le_of_ble_eq_true rfl⟩ ⟨Nat.zero_le _, Nat.zero_le _⟩ hl.1 rfl rfl (Nat.le_of_ble_eq_true rfl) dX3_readTies_52 (fun r_7 v_7 f_7 g_7 H locs hq_7 hP _ hS => ?_)
        obtain ⟨w6_7, w16_7, w17_7, rfl, rfl, rfl, rfl, p0_7, p1_7, p2_7, p3_7⟩ := hq_7
        show W p l e (gRm 4 82) s m args below meth c _ _ 0 0 Q (F0 m 55 ls [])
        have hP : gWd D (rwT k ad) (va_up (va_up (va_up (va_up v 6 w6_7) 10 0) 16 w16_7) 17 w17_7) f g H := ⟨hP.1, (gR_up (V := rwV) (F := rwF) (gR_up (V := rwV) (F := rwF) (gR_up (V := rwV) (F := rwF) (gR_up (V := rwV) (F := rwF) ⟨hok.1, hok.2⟩ 6 (hP.2.1 6)) 10 (hP.2.1 10)) 16 (hP.2.1 16)) 17 (hP.2.1 17))⟩
        replace p0_7 : (v 16) = 0 → (tK (f 0) nn (tX (f 0) nn pp)) = (265 : Int) → w16_7 = 0 ∧ w17_7 = (v 17) := p0_7
        replace p1_7 : (v 16) = 0 → (tK (f 0) nn (tX (f 0) nn pp)) ≠ (265 : Int) → w16_7 = (fk (f 0) nn (tX (f 0) nn pp)) ∧ w17_7 = (tX (f 0) nn pp) ∧ w6_7 = w6_2 := p1_7
        replace p2_7 : (v 16) ≠ 0 → w16_7 = (v 16) ∧ w17_7 = (v 17) ∧ w6_7 = w6_2 := p2_7
        replace p3_7 : (v 16) = 0 → (tK (f 0) nn (tX (f 0) nn pp)) = (265 : Int) → tAt (f 0) nn (f 6) (f 7) (f 8) (v 5) w6_7 (tX (f 0) nn (tX (f 0) nn pp)) := p3_7
        have rw6_7 : 0 ≤ w6_7 ∧ w6_7 ≤ 700 := hP.2.1 6
        have rw16_7 : 0 ≤ w16_7 ∧ w16_7 ≤ 5 := hP.2.1 16
        have rw17_7 : (-1) ≤ w17_7 ∧ w17_7 ≤ 700 := hP.2.1 17
        have hP3 := p3_7
        clear p3_7
        exact g_vret hQ C hr hlocks hP hS dX3_readTies_55 ⟨w6_7, 0, w16_7, w17_7, rfl, rfl, rfl, rfl, (by first | (intro h; exfalso; omega) | exact fun h => (if hT : (tK (f 0) nn (tX (f 0) nn pp)) = 264 ∨ (tK (f 0) nn (tX (f 0) nn pp)) = 265 then oX_ok (tie_ok hT) (by omega) (by omega) (hP3 (by omega) (by omega)) else oX_bad (tie_bad hT) (by omega) (by omega) (by omega) (tAt_eq hc2 (by omega)))), (by first | omega | (split <;> omega))⟩
      · exfalso; omega
    · refine lv_iconst (v := iI 1) hx hb dX3_readTies_24 rfl ?_
      refine lv_goto (tgt := 29) hx hb dX3_readTies_25 (by decide) ?_
      refine rwP_reader_draft_back (v1 := (va_up (va_up (va_up (va_up v 6 w6_2) 10 1) 16 (v 16)) 17 (v 17))) C hP hD hS mF_X3_126 (by decide) (by decide) rfl (Or.inr (gR_up (V := rwV) (F := rwF) (gR_up (V := rwV) (F := rwF) (gR_up (V := rwV) (F := rwF) (gR_up (V := rwV) (F := rwF) ⟨hok.1, hok.2⟩ 6 (hP.2.1 6)) 10 (show 0 ≤ 1 ∧ 1 ≤ 1 from by decide)) 16 (hP.2.1 16)) 17 (hP.2.1 17))) dX3_readTies_29 (fun H locs hP hS => ?_)
      refine lv_aload_n hx hb dX3_readTies_32 rfl (lv_at hl 0 rfl) ?_
      refine lv_aload_n hx hb dX3_readTies_33 rfl (lv_at hl 0 rfl) ?_
      refine rwG_reader_draft C hP mF_X3_21 dX3_readTies_34 ?_
      refine rwG_reader_draft_back C hP mF_X3_126 dX3_readTies_37 ?_
      show W p l e (gRm 4 82) s m args below meth c _ _ 0 0 Q (F0 m 40 ls [.int (iI 1), .ref (ad 9)])
      refine gi_zeq (tgt := 49) hx hb dX3_readTies_40 (by decide) (by decide) (fun c_8 => ?_) (fun c_8 => ?_)
      · exfalso; omega
      · refine lv_sipush (v := iI 264) hx hb dX3_readTies_43 (by decide) ?_
        refine lv_goto (tgt := 52) hx hb dX3_readTies_46 (by decide) ?_
        refine g_cv (As := [.int (iI 264)]) (rest := []) (n := 1) C hml (e_La_pass l D k A ad hD (va_up (va_up (va_up (va_up v 6 w6_2) 10 1) 16 (v 16)) 17 (v 17)) f g 264 nn (tX (f 0) nn pp) (by decide) (show tAt (f 0) nn (f 6) (f 7) (f 8) (v 5) w6_2 (tX (f 0) nn pp) from hc2) (show (264 : Int) ≠ 256 ∧ (264 : Int) ≠ 257 from by omega)) mM_X3_91 mI_X3_pass mE_X3_pass mN_X3 mC_X3_pass (by decide +kernel) 9 (ci := 3) rfl rfl hP hS (fun _ h => h) ⟨Nat.le_of_ble_eq_true rfl, Nat.le_of_ble_eq_true rfl⟩ ⟨Nat.zero_le _, Nat.zero_le _⟩ hl.1 rfl rfl (Nat.le_of_ble_eq_true rfl) dX3_readTies_52 (fun r_9 v_9 f_9 g_9 H locs hq_9 hP _ hS => ?_)
        obtain ⟨w6_9, w16_9, w17_9, rfl, rfl, rfl, rfl, p0_9, p1_9, p2_9, p3_9⟩ := hq_9
        show W p l e (gRm 4 82) s m args below meth c _ _ 0 0 Q (F0 m 55 ls [])
        have hP : gWd D (rwT k ad) (va_up (va_up (va_up (va_up v 6 w6_9) 10 1) 16 w16_9) 17 w17_9) f g H := ⟨hP.1, (gR_up (V := rwV) (F := rwF) (gR_up (V := rwV) (F := rwF) (gR_up (V := rwV) (F := rwF) (gR_up (V := rwV) (F := rwF) ⟨hok.1, hok.2⟩ 6 (hP.2.1 6)) 10 (hP.2.1 10)) 16 (hP.2.1 16)) 17 (hP.2.1 17))⟩
        replace p0_9 : (v 16) = 0 → (tK (f 0) nn (tX (f 0) nn pp)) = (264 : Int) → w16_9 = 0 ∧ w17_9 = (v 17) := p0_9
        replace p1_9 : (v 16) = 0 → (tK (f 0) nn (tX (f 0) nn pp)) ≠ (264 : Int) → w16_9 = (fk (f 0) nn (tX (f 0) nn pp)) ∧ w17_9 = (tX (f 0) nn pp) ∧ w6_9 = w6_2 := p1_9
        replace p2_9 : (v 16) ≠ 0 → w16_9 = (v 16) ∧ w17_9 = (v 17) ∧ w6_9 = w6_2 := p2_9
        replace p3_9 : (v 16) = 0 → (tK (f 0) nn (tX (f 0) nn pp)) = (264 : Int) → tAt (f 0) nn (f 6) (f 7) (f 8) (v 5) w6_9 (tX (f 0) nn (tX (f 0) nn pp)) := p3_9
        have rw6_9 : 0 ≤ w6_9 ∧ w6_9 ≤ 700 := hP.2.1 6
        have rw16_9 : 0 ≤ w16_9 ∧ w16_9 ≤ 5 := hP.2.1 16
        have rw17_9 : (-1) ≤ w17_9 ∧ w17_9 ≤ 700 := hP.2.1 17
        have hP3 := p3_9
        clear p3_9
        exact g_vret hQ C hr hlocks hP hS dX3_readTies_55 ⟨w6_9, 1, w16_9, w17_9, rfl, rfl, rfl, rfl, (by first | (intro h; exfalso; omega) | exact fun h => (if hT : (tK (f 0) nn (tX (f 0) nn pp)) = 264 ∨ (tK (f 0) nn (tX (f 0) nn pp)) = 265 then oX_ok (tie_ok hT) (by omega) (by omega) (hP3 (by omega) (by omega)) else oX_bad (tie_bad hT) (by omega) (by omega) (by omega) (tAt_eq hc2 (by omega)))), (by first | omega | (split <;> omega))⟩

set_option maxHeartbeats 4000000 in
set_option maxRecDepth 100000 in
theorem e_La_addKey (l : Launch) (D : va_G) (k : Nat → ClassId) (A : Nat → Prop) (ad : Nat → Nat) (hD : rwD A k ad) (v : gV) (f g : gF) (a1 : Int) (a2 : Int) (h_a1 : inR a1) (h_a2 : inR a2) (h1 : 0 ≤ a1 ∧ a1 ≤ 3) : GM l D k A (rwT k ad) yX4_addKey cX4_addKey 3 none 0 0 [.ref (ad 14), .int (iI a1), .int (iI a2)] v f g (fun r v1 f1 g1 => ∃ (w9 : Int) (a12_ : Int → Int) (a13_ : Int → Int), r = none ∧ (va_up v 9 w9) = v1 ∧ (va_up (va_up f 12 a12_) 13 a13_) = f1 ∧ g = g1 ∧ ((v 9) < 4 → w9 = (v 9) + 1)) := by
  refine GM.of (by decide) (Nat.le_of_ble_eq_true rfl) ?_
  intro p e s m args below meth c Q ls hQ C hml hr hlocks hP hl
  have hx := C.1
  have hb := C.2.1
  have hok := hP.2
  have hS : va_S A s.heap s.heap [] := va_S.rf
  have hl : lv_has ls 3 [(0, .ref (ad 14)), (1, .int (iI a1)), (2, .int (iI a2))] := hl
  have hP : gWd D (rwT k ad) (va_up v 9 (v 9)) (va_up (va_up f 12 (f 12)) 13 (f 13)) g s.heap := by rw [va_id, va_id, va_id]; exact hP
  refine lv_aload_n hx hb dX4_addKey_0 rfl (lv_at hl 0 rfl) ?_
  refine rwG_reader_draft_keys C hP mF_X4_42 dX4_addKey_1 ?_
  show W p l e (gRm 0 0) s m args below meth c _ _ 0 0 Q (F0 m 4 ls [.int (iI (v 9))])
  have r_1 : 0 ≤ (v 9) ∧ (v 9) ≤ 4 := hok.1 9
  refine lv_iconst (v := iI 4) hx hb dX4_addKey_4 rfl ?_
  refine gi_cge (tgt := 46) hx hb dX4_addKey_5 (by decide) (by omega) (by decide) (fun c_2 => ?_) (fun c_2 => ?_)
  · exact g_vret hQ C hr hlocks hP hS dX4_addKey_46 ⟨(v 9), (f 12), (f 13), rfl, rfl, rfl, rfl, (by first | omega | (split <;> omega))⟩
  · refine lv_aload_n hx hb dX4_addKey_8 rfl (lv_at hl 0 rfl) ?_
    refine rwG_reader_draft_keyKind C hP mF_X4_21 dX4_addKey_9 ?_
    refine lv_aload_n hx hb dX4_addKey_12 rfl (lv_at hl 0 rfl) ?_
    refine rwG_reader_draft_keys C hP mF_X4_42 dX4_addKey_13 ?_
    show W p l e (gRm 0 0) s m args below meth c _ _ 0 0 Q (F0 m 16 ls [.int (iI (v 9)), .ref (ad 18)])
    refine lv_iload_n hx hb dX4_addKey_16 rfl (lv_at hl 1 rfl) ?_
    refine rwS_reader_draft_keyKind (f1 := (va_up (va_up f 12 (u1 (f 12) (v 9) a1)) 13 (f 13))) C hP hD hS (by omega) (by omega) (by omega) rfl (Or.inr (gF_up (V := rwV) (F := rwF) (gF_up (V := rwV) (F := rwF) (gR_up (V := rwV) (F := rwF) ⟨hok.1, hok.2⟩ 9 (hP.2.1 9)) 12 (u1_rng (hP.2.2 12) (show 0 ≤ a1 ∧ a1 ≤ 3 from (by omega)))) 13 (hP.2.2 13))) dX4_addKey_17 (fun H locs hP hS => ?_)
    refine lv_aload_n hx hb dX4_addKey_18 rfl (lv_at hl 0 rfl) ?_
    refine rwG_reader_draft_keyDown C hP mF_X4_24 dX4_addKey_19 ?_
    refine lv_aload_n hx hb dX4_addKey_22 rfl (lv_at hl 0 rfl) ?_
    refine rwG_reader_draft_keys C hP mF_X4_42 dX4_addKey_23 ?_
    show W p l e (gRm 0 0) s m args below meth c _ _ 0 0 Q (F0 m 26 ls [.int (iI (v 9)), .ref (ad 19)])
    refine lv_iload_n hx hb dX4_addKey_26 rfl (lv_at hl 2 rfl) ?_
    refine gi_zeq (tgt := 34) hx hb dX4_addKey_27 (by decide) (by omega) (fun c_3 => ?_) (fun c_3 => ?_)
    · refine lv_iconst (v := iI 0) hx hb dX4_addKey_34 rfl ?_
      refine rwS_reader_draft_keyDown (f1 := (va_up (va_up f 12 (u1 (f 12) (v 9) a1)) 13 (u1 (f 13) (v 9) 0))) C hP hD hS (by omega) (by omega) (by decide) rfl (Or.inr (gF_up (V := rwV) (F := rwF) (gF_up (V := rwV) (F := rwF) (gR_up (V := rwV) (F := rwF) ⟨hok.1, hok.2⟩ 9 (hP.2.1 9)) 12 (hP.2.2 12)) 13 (u1_rng (hP.2.2 13) (show 0 ≤ 0 ∧ 0 ≤ 1 from (by decide))))) dX4_addKey_35 (fun H locs hP hS => ?_)
      refine lv_aload_n hx hb dX4_addKey_36 rfl (lv_at hl 0 rfl) ?_
      refine lv_dup hx hb dX4_addKey_37 rfl ?_
      refine rwG_reader_draft_keys C hP mF_X4_42 dX4_addKey_38 ?_
      show W p l e (gRm 0 0) s m args below meth c _ _ 0 0 Q (F0 m 41 ls [.int (iI (v 9)), .ref (ad 14)])
      refine lv_iconst (v := iI 1) hx hb dX4_addKey_41 rfl ?_
      refine gi_add (z := ((v 9) + 1)) hx hb dX4_addKey_42 rfl ?_
      refine rwP_reader_draft_keys (v1 := (va_up v 9 ((v 9) + 1))) C hP hD hS mF_X4_42 (by omega) rfl (Or.inr (gF_up (V := rwV) (F := rwF) (gF_up (V := rwV) (F := rwF) (gR_up (V := rwV) (F := rwF) ⟨hok.1, hok.2⟩ 9 (show 0 ≤ ((v 9) + 1) ∧ ((v 9) + 1) ≤ 4 from by omega)) 12 (hP.2.2 12)) 13 (hP.2.2 13))) dX4_addKey_43 (fun H locs hP hS => ?_)
      exact g_vret hQ C hr hlocks hP hS dX4_addKey_46 ⟨((v 9) + 1), (u1 (f 12) (v 9) a1), (u1 (f 13) (v 9) 0), rfl, rfl, rfl, rfl, (by first | omega | (split <;> omega))⟩
    · refine lv_iconst (v := iI 1) hx hb dX4_addKey_30 rfl ?_
      refine lv_goto (tgt := 35) hx hb dX4_addKey_31 (by decide) ?_
      refine rwS_reader_draft_keyDown (f1 := (va_up (va_up f 12 (u1 (f 12) (v 9) a1)) 13 (u1 (f 13) (v 9) 1))) C hP hD hS (by omega) (by omega) (by decide) rfl (Or.inr (gF_up (V := rwV) (F := rwF) (gF_up (V := rwV) (F := rwF) (gR_up (V := rwV) (F := rwF) ⟨hok.1, hok.2⟩ 9 (hP.2.1 9)) 12 (hP.2.2 12)) 13 (u1_rng (hP.2.2 13) (show 0 ≤ 1 ∧ 1 ≤ 1 from (by decide))))) dX4_addKey_35 (fun H locs hP hS => ?_)
      refine lv_aload_n hx hb dX4_addKey_36 rfl (lv_at hl 0 rfl) ?_
      refine lv_dup hx hb dX4_addKey_37 rfl ?_
      refine rwG_reader_draft_keys C hP mF_X4_42 dX4_addKey_38 ?_
      show W p l e (gRm 0 0) s m args below meth c _ _ 0 0 Q (F0 m 41 ls [.int (iI (v 9)), .ref (ad 14)])
      refine lv_iconst (v := iI 1) hx hb dX4_addKey_41 rfl ?_
      refine gi_add (z := ((v 9) + 1)) hx hb dX4_addKey_42 rfl ?_
      refine rwP_reader_draft_keys (v1 := (va_up v 9 ((v 9) + 1))) C hP hD hS mF_X4_42 (by omega) rfl (Or.inr (gF_up (V := rwV) (F := rwF) (gF_up (V := rwV) (F := rwF) (gR_up (V := rwV) (F := rwF) ⟨hok.1, hok.2⟩ 9 (show 0 ≤ ((v 9) + 1) ∧ ((v 9) + 1) ≤ 4 from by omega)) 12 (hP.2.2 12)) 13 (hP.2.2 13))) dX4_addKey_43 (fun H locs hP hS => ?_)
      exact g_vret hQ C hr hlocks hP hS dX4_addKey_46 ⟨((v 9) + 1), (u1 (f 12) (v 9) a1), (u1 (f 13) (v 9) 1), rfl, rfl, rfl, rfl, (by first | omega | (split <;> omega))⟩

set_option maxHeartbeats 4000000 in
set_option maxRecDepth 100000 in
theorem e_La_readKey (l : Launch) (D : va_G) (k : Nat → ClassId) (A : Nat → Prop) (ad : Nat → Nat) (hD : rwD A k ad) (v : gV) (f g : gF) (nn : Int) (pp : Int) (hc : tAt (f 0) nn (f 6) (f 7) (f 8) (v 5) (v 6) pp) (hf : (v 16) = 0) : GM l D k A (rwT k ad) yX3_readKey cX3_readKey 3 none 3 63 [.ref (ad 9)] v f g (fun r v1 f1 g1 => ∃ (w6 : Int) (w9 : Int) (w16 : Int) (w17 : Int) (a12_ : Int → Int) (a13_ : Int → Int), r = none ∧ (va_up (va_up (va_up (va_up v 6 w6) 9 w9) 16 w16) 17 w17) = v1 ∧ (va_up (va_up f 12 a12_) 13 a13_) = f1 ∧ g = g1 ∧ (oX (f 0) nn (f 6) (f 7) (f 8) (v 5) (ky1 (f 0) nn (v 9) pp) w16 w17 (v 17) w6) ∧ (w16 = 0 → w9 = (v 9) + 1)) := by
  refine GM.of (by decide) (Nat.le_of_ble_eq_true rfl) ?_
  intro p e s m args below meth c Q ls hQ C hml hr hlocks hP hl
  have hx := C.1
  have hb := C.2.1
  have hok := hP.2
  have hS : va_S A s.heap s.heap [] := va_S.rf
  have hl : lv_has ls 3 [(0, .ref (ad 9))] := hl
  have hP : gWd D (rwT k ad) (va_up (va_up (va_up (va_up v 6 (v 6)) 9 (v 9)) 16 (v 16)) 17 (v 17)) (va_up (va_up f 12 (f 12)) 13 (f 13)) g s.heap := by rw [va_id, va_id, va_id, va_id, va_id, va_id]; exact hP
  have hfk := fk_rng (f 0) nn pp
  have hfk2 := fk_rng (f 0) nn (tX (f 0) nn pp)
  have hkr := tK_rng (f 0) nn (tX (f 0) nn pp)
  have r_1 : 0 ≤ (v 16) ∧ (v 16) ≤ 5 := hok.1 16
  have r_2 : 0 ≤ (v 9) ∧ (v 9) ≤ 4 := hok.1 9
  refine lv_aload_n hx hb dX3_readKey_0 rfl (lv_at hl 0 rfl) ?_
  refine rwG_reader_tokens C hP mF_X3_12 dX3_readKey_1 ?_
  refine g_cv (As := []) (rest := []) (n := 0) C hml (e_To_kind l D k A ad hD (va_up (va_up (va_up (va_up v 6 (v 6)) 9 (v 9)) 16 (v 16)) 17 (v 17)) (va_up (va_up f 12 (f 12)) 13 (f 13)) g nn pp (show tAt (f 0) nn (f 6) (f 7) (f 8) (v 5) (v 6) pp from hc)) mM_X3_56 mI_X6_kind mE_X6_kind mN_X6 mC_X6_kind (by decide +kernel) 10 (ci := 6) rfl rfl hP hS (fun _ h => h) ⟨Nat.le_of_ble_eq_true rfl, Nat.le_of_ble_eq_true rfl⟩ ⟨Nat.zero_le _, Nat.zero_le _⟩ hl.1 rfl rfl (Nat.le_of_ble_eq_true rfl) dX3_readKey_4 (fun r_3 v_3 f_3 g_3 H locs hq_3 hP _ hS => ?_)
  obtain ⟨z_3, rfl, rfl, rfl, rfl, p0_3, p1_3⟩ := hq_3
  show W p l e (gRm 3 63) s m args below meth c _ _ 0 0 Q (F0 m 7 ls [.int (iI z_3)])
  replace p0_3 : z_3 = (tK (f 0) nn pp) := p0_3
  replace p1_3 : 40 ≤ z_3 ∧ z_3 ≤ 277 := p1_3
  have hz_3 : inR z_3 := (by first | omega | (rw [p0_3]; split <;> omega))
  refine lv_sipush (v := iI 267) hx hb dX3_readKey_7 (by decide) ?_
  refine gi_cne (tgt := 17) hx hb dX3_readKey_10 (by decide) (by omega) (by decide) (fun c_4 => ?_) (fun c_4 => ?_)
  · refine lv_iconst (v := iI 0) hx hb dX3_readKey_17 rfl ?_
    refine lv_istore_n (lv' := [(1, .int (iI 0)), (0, .ref (ad 9))]) hx hb dX3_readKey_18 rfl hl (by decide) rfl (fun ls hl => ?_)
    refine lv_iload_n hx hb dX3_readKey_19 rfl (lv_at hl 0 rfl) ?_
    refine gi_zne (tgt := 40) hx hb dX3_readKey_20 (by decide) (by decide) (fun c_5 => ?_) (fun c_5 => ?_)
    · exfalso; omega
    · refine lv_aload_n hx hb dX3_readKey_23 rfl (lv_at hl 1 rfl) ?_
      refine rwG_reader_tokens C hP mF_X3_12 dX3_readKey_24 ?_
      refine g_cv (As := []) (rest := []) (n := 0) C hml (e_To_kind l D k A ad hD (va_up (va_up (va_up (va_up v 6 (v 6)) 9 (v 9)) 16 (v 16)) 17 (v 17)) (va_up (va_up f 12 (f 12)) 13 (f 13)) g nn pp (show tAt (f 0) nn (f 6) (f 7) (f 8) (v 5) (v 6) pp from hc)) mM_X3_56 mI_X6_kind mE_X6_kind mN_X6 mC_X6_kind (by decide +kernel) 10 (ci := 6) rfl rfl hP hS (fun _ h => h) ⟨Nat.le_of_ble_eq_true rfl, Nat.le_of_ble_eq_true rfl⟩ ⟨Nat.zero_le _, Nat.zero_le _⟩ hl.1 rfl rfl (Nat.le_of_ble_eq_true rfl) dX3_readKey_27 (fun r_6 v_6 f_6 g_6 H locs hq_6 hP _ hS => ?_)
      obtain ⟨z_6, rfl, rfl, rfl, rfl, p0_6, p1_6⟩ := hq_6
      show W p l e (gRm 3 63) s m args below meth c _ _ 0 0 Q (F0 m 30 ls [.int (iI z_6)])
      replace p0_6 : z_6 = (tK (f 0) nn pp) := p0_6
      replace p1_6 : 40 ≤ z_6 ∧ z_6 ≤ 277 := p1_6
      have hz_6 : inR z_6 := (by first | omega | (rw [p0_6]; split <;> omega))
      refine lv_sipush (v := iI 266) hx hb dX3_readKey_30 (by decide) ?_
      refine gi_ceq (tgt := 40) hx hb dX3_readKey_33 (by decide) (by omega) (by decide) (fun c_7 => ?_) (fun c_7 => ?_)
      · refine lv_aload_n hx hb dX3_readKey_40 rfl (lv_at hl 1 rfl) ?_
        refine lv_aload_n hx hb dX3_readKey_41 rfl (lv_at hl 1 rfl) ?_
        refine rwG_reader_draft C hP mF_X3_21 dX3_readKey_42 ?_
        refine rwG_reader_draft_keys C hP mF_X3_116 dX3_readKey_45 ?_
        show W p l e (gRm 3 63) s m args below meth c _ _ 0 0 Q (F0 m 48 ls [.int (iI (v 9)), .ref (ad 9)])
        refine lv_iconst (v := iI 4) hx hb dX3_readKey_48 rfl ?_
        refine gi_clt (tgt := 56) hx hb dX3_readKey_49 (by decide) (by omega) (by decide) (fun c_8 => ?_) (fun c_8 => ?_)
        · refine lv_iconst (v := iI 0) hx hb dX3_readKey_56 rfl ?_
          refine lv_iconst (v := iI 3) hx hb dX3_readKey_57 rfl ?_
          refine g_cv (As := [.int (iI 0), .int (iI 3)]) (rest := []) (n := 2) C hml (e_La_refuseIf l D k A ad hD (va_up (va_up (va_up (va_up v 6 (v 6)) 9 (v 9)) 16 (v 16)) 17 (v 17)) (va_up (va_up f 12 (f 12)) 13 (f 13)) g 0 3 nn pp (by decide) (by decide) (show tAt (f 0) nn (f 6) (f 7) (f 8) (v 5) (v 6) pp from hc) (show 1 ≤ (3 : Int) ∧ (3 : Int) ≤ 5 from by omega)) mM_X3_66 mI_X3_refuseIf mE_X3_refuseIf mN_X3 mC_X3_refuseIf (by decide +kernel) 9 (ci := 3) rfl rfl hP hS (fun _ h => h) ⟨Nat.le_of_ble_eq_true rfl, Nat.le_of_ble_eq_true rfl⟩ ⟨Nat.zero_le _, Nat.zero_le _⟩ hl.1 rfl rfl (Nat.le_of_ble_eq_true rfl) dX3_readKey_58 (fun r_9 v_9 f_9 g_9 H locs hq_9 hP _ hS => ?_)
          obtain ⟨w16_9, w17_9, rfl, rfl, rfl, rfl, p0_9, p1_9⟩ := hq_9
          show W p l e (gRm 3 63) s m args below meth c _ _ 0 0 Q (F0 m 61 ls [])
          have hP : gWd D (rwT k ad) (va_up (va_up (va_up (va_up v 6 (v 6)) 9 (v 9)) 16 w16_9) 17 w17_9) (va_up (va_up f 12 (f 12)) 13 (f 13)) g H := ⟨hP.1, (gF_up (V := rwV) (F := rwF) (gF_up (V := rwV) (F := rwF) (gR_up (V := rwV) (F := rwF) (gR_up (V := rwV) (F := rwF) (gR_up (V := rwV) (F := rwF) (gR_up (V := rwV) (F := rwF) ⟨hok.1, hok.2⟩ 6 (hP.2.1 6)) 9 (hP.2.1 9)) 16 (hP.2.1 16)) 17 (hP.2.1 17)) 12 (hP.2.2 12)) 13 (hP.2.2 13))⟩
          replace p0_9 : (0 : Int) = 0 ∨ (v 16) ≠ 0 → w16_9 = (v 16) ∧ w17_9 = (v 17) := p0_9
          replace p1_9 : (0 : Int) ≠ 0 → (v 16) = 0 → w16_9 = (3 : Int) ∧ w17_9 = pp := p1_9
          have rw16_9 : 0 ≤ w16_9 ∧ w16_9 ≤ 5 := hP.2.1 16
          have rw17_9 : (-1) ≤ w17_9 ∧ w17_9 ≤ 700 := hP.2.1 17
          first | replace p0_9 := p0_9 (by omega) | clear p0_9
          first | replace p1_9 := p1_9 (by omega) (by omega) | clear p1_9
          refine lv_aload_n hx hb dX3_readKey_61 rfl (lv_at hl 1 rfl) ?_
          refine g_cv (As := []) (rest := []) (n := 0) C hml (e_La_goOn l D k A ad hD (va_up (va_up (va_up (va_up v 6 (v 6)) 9 (v 9)) 16 w16_9) 17 w17_9) (va_up (va_up f 12 (f 12)) 13 (f 13)) g nn pp (show tAt (f 0) nn (f 6) (f 7) (f 8) (v 5) (v 6) pp from hc)) mM_X3_70 mI_X3_goOn mE_X3_goOn mN_X3 mC_X3_goOn (by decide +kernel) 9 (ci := 3) rfl rfl hP hS (fun _ h => h) ⟨Nat.le_of_ble_eq_true rfl, Nat.le_of_ble_eq_true rfl⟩ ⟨Nat.zero_le _, Nat.zero_le _⟩ hl.1 rfl rfl (Nat.le_of_ble_eq_true rfl) dX3_readKey_62 (fun r_10 v_10 f_10 g_10 H locs hq_10 hP _ hS => ?_)
          obtain ⟨z_10, w6_10, rfl, rfl, rfl, rfl, p0_10, p1_10, p2_10, p3_10⟩ := hq_10
          show W p l e (gRm 3 63) s m args below meth c _ _ 0 0 Q (F0 m 65 ls [.int (iI z_10)])
          have hP : gWd D (rwT k ad) (va_up (va_up (va_up (va_up v 6 w6_10) 9 (v 9)) 16 w16_9) 17 w17_9) (va_up (va_up f 12 (f 12)) 13 (f 13)) g H := ⟨hP.1, (gF_up (V := rwV) (F := rwF) (gF_up (V := rwV) (F := rwF) (gR_up (V := rwV) (F := rwF) (gR_up (V := rwV) (F := rwF) (gR_up (V := rwV) (F := rwF) (gR_up (V := rwV) (F := rwF) ⟨hok.1, hok.2⟩ 6 (hP.2.1 6)) 9 (hP.2.1 9)) 16 (hP.2.1 16)) 17 (hP.2.1 17)) 12 (hP.2.2 12)) 13 (hP.2.2 13))⟩
          replace p0_10 : 0 ≤ z_10 ∧ z_10 ≤ 1 := p0_10
          replace p1_10 : z_10 = 1 ↔ w16_9 = 0 := p1_10
          replace p2_10 : w16_9 ≠ 0 → w6_10 = (v 6) := p2_10
          replace p3_10 : w16_9 = 0 → (tK (f 0) nn pp) ≠ 256 → (tK (f 0) nn pp) ≠ 257 → tAt (f 0) nn (f 6) (f 7) (f 8) (v 5) w6_10 (tX (f 0) nn pp) := p3_10
          have rw6_10 : 0 ≤ w6_10 ∧ w6_10 ≤ 700 := hP.2.1 6
          first | replace p2_10 := p2_10 (by omega) | clear p2_10
          try have hc2 := p3_10 (by omega) (by omega) (by omega)
          clear p3_10
          refine gi_zne (tgt := 69) hx hb dX3_readKey_65 (by decide) (by omega) (fun c_11 => ?_) (fun c_11 => ?_)
          · refine lv_aload_n hx hb dX3_readKey_69 rfl (lv_at hl 1 rfl) ?_
            refine rwG_reader_tokens C hP mF_X3_12 dX3_readKey_70 ?_
            refine g_cv (As := []) (rest := []) (n := 0) C hml (e_To_kind l D k A ad hD (va_up (va_up (va_up (va_up v 6 w6_10) 9 (v 9)) 16 w16_9) 17 w17_9) (va_up (va_up f 12 (f 12)) 13 (f 13)) g nn (tX (f 0) nn pp) (show tAt (f 0) nn (f 6) (f 7) (f 8) (v 5) w6_10 (tX (f 0) nn pp) from hc2)) mM_X3_56 mI_X6_kind mE_X6_kind mN_X6 mC_X6_kind (by decide +kernel) 10 (ci := 6) rfl rfl hP hS (fun _ h => h) ⟨Nat.le_of_ble_eq_true rfl, Nat.le_of_ble_eq_true rfl⟩ ⟨Nat.zero_le _, Nat.zero_le _⟩ hl.1 rfl rfl (Nat.le_of_ble_eq_true rfl) dX3_readKey_73 (fun r_12 v_12 f_12 g_12 H locs hq_12 hP _ hS => ?_)
            obtain ⟨z_12, rfl, rfl, rfl, rfl, p0_12, p1_12⟩ := hq_12
            show W p l e (gRm 3 63) s m args below meth c _ _ 0 0 Q (F0 m 76 ls [.int (iI z_12)])
            replace p0_12 : z_12 = (tK (f 0) nn (tX (f 0) nn pp)) := p0_12
            replace p1_12 : 40 ≤ z_12 ∧ z_12 ≤ 277 := p1_12
            have hz_12 : inR z_12 := (by first | omega | (rw [p0_12]; split <;> omega))
            refine lv_sipush (v := iI 268) hx hb dX3_readKey_76 (by decide) ?_
            refine gi_sub (z := (z_12 - 268)) hx hb dX3_readKey_79 rfl ?_
            refine lv_istore_n (lv' := [(2, .int (iI (z_12 - 268))), (1, .int (iI 0)), (0, .ref (ad 9))]) hx hb dX3_readKey_80 rfl hl (by decide) rfl (fun ls hl => ?_)
            refine lv_iload_n hx hb dX3_readKey_81 rfl (lv_at hl 0 rfl) ?_
            refine gi_zlt (tgt := 90) hx hb dX3_readKey_82 (by decide) (by omega) (fun c_13 => ?_) (fun c_13 => ?_)
            · refine lv_aload_n hx hb dX3_readKey_90 rfl (lv_at hl 2 rfl) ?_
              refine g_cv (As := []) (rest := []) (n := 0) C hml (e_La_refuseToken l D k A ad hD (va_up (va_up (va_up (va_up v 6 w6_10) 9 (v 9)) 16 w16_9) 17 w17_9) (va_up (va_up f 12 (f 12)) 13 (f 13)) g nn (tX (f 0) nn pp) (show tAt (f 0) nn (f 6) (f 7) (f 8) (v 5) w6_10 (tX (f 0) nn pp) from hc2)) mM_X3_88 mI_X3_refuseToken mE_X3_refuseToken mN_X3 mC_X3_refuseToken (by decide +kernel) 9 (ci := 3) rfl rfl hP hS (fun _ h => h) ⟨Nat.le_of_ble_eq_true rfl, Nat.le_of_ble_eq_true rfl⟩ ⟨Nat.zero_le _, Nat.zero_le _⟩ hl.1 rfl rfl (Nat.le_of_ble_eq_true rfl) dX3_readKey_91 (fun r_14 v_14 f_14 g_14 H locs hq_14 hP _ hS => ?_)
              obtain ⟨w16_14, w17_14, rfl, rfl, rfl, rfl, p0_14, p1_14⟩ := hq_14
              show W p l e (gRm 3 63) s m args below meth c _ _ 0 0 Q (F0 m 94 ls [])
              have hP : gWd D (rwT k ad) (va_up (va_up (va_up (va_up v 6 w6_10) 9 (v 9)) 16 w16_14) 17 w17_14) (va_up (va_up f 12 (f 12)) 13 (f 13)) g H := ⟨hP.1, (gF_up (V := rwV) (F := rwF) (gF_up (V := rwV) (F := rwF) (gR_up (V := rwV) (F := rwF) (gR_up (V := rwV) (F := rwF) (gR_up (V := rwV) (F := rwF) (gR_up (V := rwV) (F := rwF) ⟨hok.1, hok.2⟩ 6 (hP.2.1 6)) 9 (hP.2.1 9)) 16 (hP.2.1 16)) 17 (hP.2.1 17)) 12 (hP.2.2 12)) 13 (hP.2.2 13))⟩
              replace p0_14 : w16_9 = 0 → w16_14 = (fk (f 0) nn (tX (f 0) nn pp)) ∧ w17_14 = (tX (f 0) nn pp) := p0_14
              replace p1_14 : w16_9 ≠ 0 → w16_14 = w16_9 ∧ w17_14 = w17_9 := p1_14
              have rw16_14 : 0 ≤ w16_14 ∧ w16_14 ≤ 5 := hP.2.1 16
              have rw17_14 : (-1) ≤ w17_14 ∧ w17_14 ≤ 700 := hP.2.1 17
              first | replace p0_14 := p0_14 (by omega) | clear p0_14
              first | replace p1_14 := p1_14 (by omega) | clear p1_14
              refine lv_goto (tgt := 106) hx hb dX3_readKey_94 (by decide) ?_
              refine lv_aload_n hx hb dX3_readKey_106 rfl (lv_at hl 2 rfl) ?_
              refine g_cv (As := []) (rest := []) (n := 0) C hml (e_La_goOn l D k A ad hD (va_up (va_up (va_up (va_up v 6 w6_10) 9 (v 9)) 16 w16_14) 17 w17_14) (va_up (va_up f 12 (f 12)) 13 (f 13)) g nn (tX (f 0) nn pp) (show tAt (f 0) nn (f 6) (f 7) (f 8) (v 5) w6_10 (tX (f 0) nn pp) from hc2)) mM_X3_70 mI_X3_goOn mE_X3_goOn mN_X3 mC_X3_goOn (by decide +kernel) 9 (ci := 3) rfl rfl hP hS (fun _ h => h) ⟨Nat.le_of_ble_eq_true rfl, Nat.le_of_ble_eq_true rfl⟩ ⟨Nat.zero_le _, Nat.zero_le _⟩ hl.1 rfl rfl (Nat.le_of_ble_eq_true rfl) dX3_readKey_107 (fun r_15 v_15 f_15 g_15 H locs hq_15 hP _ hS => ?_)
              obtain ⟨z_15, w6_15, rfl, rfl, rfl, rfl, p0_15, p1_15, p2_15, p3_15⟩ := hq_15
              show W p l e (gRm 3 63) s m args below meth c _ _ 0 0 Q (F0 m 110 ls [.int (iI z_15)])
              have hP : gWd D (rwT k ad) (va_up (va_up (va_up (va_up v 6 w6_15) 9 (v 9)) 16 w16_14) 17 w17_14) (va_up (va_up f 12 (f 12)) 13 (f 13)) g H := ⟨hP.1, (gF_up (V := rwV) (F := rwF) (gF_up (V := rwV) (F := rwF) (gR_up (V := rwV) (F := rwF) (gR_up (V := rwV) (F := rwF) (gR_up (V := rwV) (F := rwF) (gR_up (V := rwV) (F := rwF) ⟨hok.1, hok.2⟩ 6 (hP.2.1 6)) 9 (hP.2.1 9)) 16 (hP.2.1 16)) 17 (hP.2.1 17)) 12 (hP.2.2 12)) 13 (hP.2.2 13))⟩
              replace p0_15 : 0 ≤ z_15 ∧ z_15 ≤ 1 := p0_15
              replace p1_15 : z_15 = 1 ↔ w16_14 = 0 := p1_15
              replace p2_15 : w16_14 ≠ 0 → w6_15 = w6_10 := p2_15
              replace p3_15 : w16_14 = 0 → (tK (f 0) nn (tX (f 0) nn pp)) ≠ 256 → (tK (f 0) nn (tX (f 0) nn pp)) ≠ 257 → tAt (f 0) nn (f 6) (f 7) (f 8) (v 5) w6_15 (tX (f 0) nn (tX (f 0) nn pp)) := p3_15
              have rw6_15 : 0 ≤ w6_15 ∧ w6_15 ≤ 700 := hP.2.1 6
              first | replace p2_15 := p2_15 (by omega) | clear p2_15
              try have hH3 := p3_15 (by omega) (by omega) (by omega)
              clear p3_15
              refine lv_pop hx hb dX3_readKey_110 rfl ?_
              exact g_vret hQ C hr hlocks hP hS dX3_readKey_111 ⟨w6_15, (v 9), w16_14, w17_14, (f 12), (f 13), rfl, rfl, rfl, rfl, (by first | exact oX_ok (ky1_d (by omega) (by omega) (by omega)) (by omega) (by omega) hH3 | exact oX_bad (ky1_a (by omega)) (by omega) (by omega) (by omega) (tAt_eq hc (by omega)) | exact oX_bad (ky1_b (by omega) (by omega)) (by decide) (by omega) (by omega) (tAt_eq hc (by omega)) | exact oX_bad (ky1_c (by omega) (by omega) (by omega)) (by omega) (by omega) (by omega) (tAt_eq hc2 (by omega))), (by first | omega | (split <;> omega))⟩
            · refine lv_iload_n hx hb dX3_readKey_85 rfl (lv_at hl 0 rfl) ?_
              refine lv_iconst (v := iI 3) hx hb dX3_readKey_86 rfl ?_
              refine gi_cle (tgt := 97) hx hb dX3_readKey_87 (by decide) (by omega) (by decide) (fun c_16 => ?_) (fun c_16 => ?_)
              · refine lv_aload_n hx hb dX3_readKey_97 rfl (lv_at hl 2 rfl) ?_
                refine rwG_reader_draft C hP mF_X3_21 dX3_readKey_98 ?_
                refine lv_iload_n hx hb dX3_readKey_101 rfl (lv_at hl 0 rfl) ?_
                refine lv_iload_n hx hb dX3_readKey_102 rfl (lv_at hl 1 rfl) ?_
                refine g_cv (As := [.int (iI (z_12 - 268)), .int (iI 0)]) (rest := []) (n := 2) C hml (e_La_addKey l D k A ad hD (va_up (va_up (va_up (va_up v 6 w6_10) 9 (v 9)) 16 w16_9) 17 w17_9) (va_up (va_up f 12 (f 12)) 13 (f 13)) g (z_12 - 268) 0 (by omega) (by decide) (show 0 ≤ (z_12 - 268) ∧ (z_12 - 268) ≤ 3 from by omega)) mM_X3_122 mI_X4_addKey mE_X4_addKey mN_X4 mC_X4_addKey (by decide +kernel) 14 (ci := 4) rfl rfl hP hS (fun _ h => h) ⟨Nat.le_of_ble_eq_true rfl, Nat.le_of_ble_eq_true rfl⟩ ⟨Nat.zero_le _, Nat.zero_le _⟩ hl.1 rfl rfl (Nat.le_of_ble_eq_true rfl) dX3_readKey_103 (fun r_17 v_17 f_17 g_17 H locs hq_17 hP _ hS => ?_)
                obtain ⟨w9_17, a12_17, a13_17, rfl, rfl, rfl, rfl, p0_17⟩ := hq_17
                show W p l e (gRm 3 63) s m args below meth c _ _ 0 0 Q (F0 m 106 ls [])
                have hP : gWd D (rwT k ad) (va_up (va_up (va_up (va_up v 6 w6_10) 9 w9_17) 16 w16_9) 17 w17_9) (va_up (va_up f 12 a12_17) 13 a13_17) g H := ⟨hP.1, (gF_up (V := rwV) (F := rwF) (gF_up (V := rwV) (F := rwF) (gR_up (V := rwV) (F := rwF) (gR_up (V := rwV) (F := rwF) (gR_up (V := rwV) (F := rwF) (gR_up (V := rwV) (F := rwF) ⟨hok.1, hok.2⟩ 6 (hP.2.1 6)) 9 (hP.2.1 9)) 16 (hP.2.1 16)) 17 (hP.2.1 17)) 12 (hP.2.2 12)) 13 (hP.2.2 13))⟩
                replace p0_17 : (v 9) < 4 → w9_17 = (v 9) + 1 := p0_17
                have rw9_17 : 0 ≤ w9_17 ∧ w9_17 ≤ 4 := hP.2.1 9
                first | replace p0_17 := p0_17 (by omega) | clear p0_17
                refine lv_aload_n hx hb dX3_readKey_106 rfl (lv_at hl 2 rfl) ?_
                refine g_cv (As := []) (rest := []) (n := 0) C hml (e_La_goOn l D k A ad hD (va_up (va_up (va_up (va_up v 6 w6_10) 9 w9_17) 16 w16_9) 17 w17_9) (va_up (va_up f 12 a12_17) 13 a13_17) g nn (tX (f 0) nn pp) (show tAt (f 0) nn (f 6) (f 7) (f 8) (v 5) w6_10 (tX (f 0) nn pp) from hc2)) mM_X3_70 mI_X3_goOn mE_X3_goOn mN_X3 mC_X3_goOn (by decide +kernel) 9 (ci := 3) rfl rfl hP hS (fun _ h => h) ⟨Nat.le_of_ble_eq_true rfl, Nat.le_of_ble_eq_true rfl⟩ ⟨Nat.zero_le _, Nat.zero_le _⟩ hl.1 rfl rfl (Nat.le_of_ble_eq_true rfl) dX3_readKey_107 (fun r_18 v_18 f_18 g_18 H locs hq_18 hP _ hS => ?_)
                obtain ⟨z_18, w6_18, rfl, rfl, rfl, rfl, p0_18, p1_18, p2_18, p3_18⟩ := hq_18
                show W p l e (gRm 3 63) s m args below meth c _ _ 0 0 Q (F0 m 110 ls [.int (iI z_18)])
                have hP : gWd D (rwT k ad) (va_up (va_up (va_up (va_up v 6 w6_18) 9 w9_17) 16 w16_9) 17 w17_9) (va_up (va_up f 12 a12_17) 13 a13_17) g H := ⟨hP.1, (gF_up (V := rwV) (F := rwF) (gF_up (V := rwV) (F := rwF) (gR_up (V := rwV) (F := rwF) (gR_up (V := rwV) (F := rwF) (gR_up (V := rwV) (F := rwF) (gR_up (V := rwV) (F := rwF) ⟨hok.1, hok.2⟩ 6 (hP.2.1 6)) 9 (hP.2.1 9)) 16 (hP.2.1 16)) 17 (hP.2.1 17)) 12 (hP.2.2 12)) 13 (hP.2.2 13))⟩
                replace p0_18 : 0 ≤ z_18 ∧ z_18 ≤ 1 := p0_18
                replace p1_18 : z_18 = 1 ↔ w16_9 = 0 := p1_18
                replace p2_18 : w16_9 ≠ 0 → w6_18 = w6_10 := p2_18
                replace p3_18 : w16_9 = 0 → (tK (f 0) nn (tX (f 0) nn pp)) ≠ 256 → (tK (f 0) nn (tX (f 0) nn pp)) ≠ 257 → tAt (f 0) nn (f 6) (f 7) (f 8) (v 5) w6_18 (tX (f 0) nn (tX (f 0) nn pp)) := p3_18
                have rw6_18 : 0 ≤ w6_18 ∧ w6_18 ≤ 700 := hP.2.1 6
                first | replace p2_18 := p2_18 (by omega) | clear p2_18
                try have hH3 := p3_18 (by omega) (by omega) (by omega)
                clear p3_18
                refine lv_pop hx hb dX3_readKey_110 rfl ?_
                exact g_vret hQ C hr hlocks hP hS dX3_readKey_111 ⟨w6_18, w9_17, w16_9, w17_9, a12_17, a13_17, rfl, rfl, rfl, rfl, (by first | exact oX_ok (ky1_d (by omega) (by omega) (by omega)) (by omega) (by omega) hH3 | exact oX_bad (ky1_a (by omega)) (by omega) (by omega) (by omega) (tAt_eq hc (by omega)) | exact oX_bad (ky1_b (by omega) (by omega)) (by decide) (by omega) (by omega) (tAt_eq hc (by omega)) | exact oX_bad (ky1_c (by omega) (by omega) (by omega)) (by omega) (by omega) (by omega) (tAt_eq hc2 (by omega))), (by first | omega | (split <;> omega))⟩
              · refine lv_aload_n hx hb dX3_readKey_90 rfl (lv_at hl 2 rfl) ?_
                refine g_cv (As := []) (rest := []) (n := 0) C hml (e_La_refuseToken l D k A ad hD (va_up (va_up (va_up (va_up v 6 w6_10) 9 (v 9)) 16 w16_9) 17 w17_9) (va_up (va_up f 12 (f 12)) 13 (f 13)) g nn (tX (f 0) nn pp) (show tAt (f 0) nn (f 6) (f 7) (f 8) (v 5) w6_10 (tX (f 0) nn pp) from hc2)) mM_X3_88 mI_X3_refuseToken mE_X3_refuseToken mN_X3 mC_X3_refuseToken (by decide +kernel) 9 (ci := 3) rfl rfl hP hS (fun _ h => h) ⟨Nat.le_of_ble_eq_true rfl, Nat.le_of_ble_eq_true rfl⟩ ⟨Nat.zero_le _, Nat.zero_le _⟩ hl.1 rfl rfl (Nat.le_of_ble_eq_true rfl) dX3_readKey_91 (fun r_19 v_19 f_19 g_19 H locs hq_19 hP _ hS => ?_)
                obtain ⟨w16_19, w17_19, rfl, rfl, rfl, rfl, p0_19, p1_19⟩ := hq_19
                show W p l e (gRm 3 63) s m args below meth c _ _ 0 0 Q (F0 m 94 ls [])
                have hP : gWd D (rwT k ad) (va_up (va_up (va_up (va_up v 6 w6_10) 9 (v 9)) 16 w16_19) 17 w17_19) (va_up (va_up f 12 (f 12)) 13 (f 13)) g H := ⟨hP.1, (gF_up (V := rwV) (F := rwF) (gF_up (V := rwV) (F := rwF) (gR_up (V := rwV) (F := rwF) (gR_up (V := rwV) (F := rwF) (gR_up (V := rwV) (F := rwF) (gR_up (V := rwV) (F := rwF) ⟨hok.1, hok.2⟩ 6 (hP.2.1 6)) 9 (hP.2.1 9)) 16 (hP.2.1 16)) 17 (hP.2.1 17)) 12 (hP.2.2 12)) 13 (hP.2.2 13))⟩
                replace p0_19 : w16_9 = 0 → w16_19 = (fk (f 0) nn (tX (f 0) nn pp)) ∧ w17_19 = (tX (f 0) nn pp) := p0_19
                replace p1_19 : w16_9 ≠ 0 → w16_19 = w16_9 ∧ w17_19 = w17_9 := p1_19
                have rw16_19 : 0 ≤ w16_19 ∧ w16_19 ≤ 5 := hP.2.1 16
                have rw17_19 : (-1) ≤ w17_19 ∧ w17_19 ≤ 700 := hP.2.1 17
                first | replace p0_19 := p0_19 (by omega) | clear p0_19
                first | replace p1_19 := p1_19 (by omega) | clear p1_19
                refine lv_goto (tgt := 106) hx hb dX3_readKey_94 (by decide) ?_
                refine lv_aload_n hx hb dX3_readKey_106 rfl (lv_at hl 2 rfl) ?_
                refine g_cv (As := []) (rest := []) (n := 0) C hml (e_La_goOn l D k A ad hD (va_up (va_up (va_up (va_up v 6 w6_10) 9 (v 9)) 16 w16_19) 17 w17_19) (va_up (va_up f 12 (f 12)) 13 (f 13)) g nn (tX (f 0) nn pp) (show tAt (f 0) nn (f 6) (f 7) (f 8) (v 5) w6_10 (tX (f 0) nn pp) from hc2)) mM_X3_70 mI_X3_goOn mE_X3_goOn mN_X3 mC_X3_goOn (by decide +kernel) 9 (ci := 3) rfl rfl hP hS (fun _ h => h) ⟨Nat.le_of_ble_eq_true rfl, Nat.le_of_ble_eq_true rfl⟩ ⟨Nat.zero_le _, Nat.zero_le _⟩ hl.1 rfl rfl (Nat.le_of_ble_eq_true rfl) dX3_readKey_107 (fun r_20 v_20 f_20 g_20 H locs hq_20 hP _ hS => ?_)
                obtain ⟨z_20, w6_20, rfl, rfl, rfl, rfl, p0_20, p1_20, p2_20, p3_20⟩ := hq_20
                show W p l e (gRm 3 63) s m args below meth c _ _ 0 0 Q (F0 m 110 ls [.int (iI z_20)])
                have hP : gWd D (rwT k ad) (va_up (va_up (va_up (va_up v 6 w6_20) 9 (v 9)) 16 w16_19) 17 w17_19) (va_up (va_up f 12 (f 12)) 13 (f 13)) g H := ⟨hP.1, (gF_up (V := rwV) (F := rwF) (gF_up (V := rwV) (F := rwF) (gR_up (V := rwV) (F := rwF) (gR_up (V := rwV) (F := rwF) (gR_up (V := rwV) (F := rwF) (gR_up (V := rwV) (F := rwF) ⟨hok.1, hok.2⟩ 6 (hP.2.1 6)) 9 (hP.2.1 9)) 16 (hP.2.1 16)) 17 (hP.2.1 17)) 12 (hP.2.2 12)) 13 (hP.2.2 13))⟩
                replace p0_20 : 0 ≤ z_20 ∧ z_20 ≤ 1 := p0_20
                replace p1_20 : z_20 = 1 ↔ w16_19 = 0 := p1_20
                replace p2_20 : w16_19 ≠ 0 → w6_20 = w6_10 := p2_20
                replace p3_20 : w16_19 = 0 → (tK (f 0) nn (tX (f 0) nn pp)) ≠ 256 → (tK (f 0) nn (tX (f 0) nn pp)) ≠ 257 → tAt (f 0) nn (f 6) (f 7) (f 8) (v 5) w6_20 (tX (f 0) nn (tX (f 0) nn pp)) := p3_20
                have rw6_20 : 0 ≤ w6_20 ∧ w6_20 ≤ 700 := hP.2.1 6
                first | replace p2_20 := p2_20 (by omega) | clear p2_20
                try have hH3 := p3_20 (by omega) (by omega) (by omega)
                clear p3_20
                refine lv_pop hx hb dX3_readKey_110 rfl ?_
                exact g_vret hQ C hr hlocks hP hS dX3_readKey_111 ⟨w6_20, (v 9), w16_19, w17_19, (f 12), (f 13), rfl, rfl, rfl, rfl, (by first | exact oX_ok (ky1_d (by omega) (by omega) (by omega)) (by omega) (by omega) hH3 | exact oX_bad (ky1_a (by omega)) (by omega) (by omega) (by omega) (tAt_eq hc (by omega)) | exact oX_bad (ky1_b (by omega) (by omega)) (by decide) (by omega) (by omega) (tAt_eq hc (by omega)) | exact oX_bad (ky1_c (by omega) (by omega) (by omega)) (by omega) (by omega) (by omega) (tAt_eq hc2 (by omega))), (by first | omega | (split <;> omega))⟩
          · exfalso; omega
        · refine lv_iconst (v := iI 1) hx hb dX3_readKey_52 rfl ?_
          refine lv_goto (tgt := 57) hx hb dX3_readKey_53 (by decide) ?_
          refine lv_iconst (v := iI 3) hx hb dX3_readKey_57 rfl ?_
          refine g_cv (As := [.int (iI 1), .int (iI 3)]) (rest := []) (n := 2) C hml (e_La_refuseIf l D k A ad hD (va_up (va_up (va_up (va_up v 6 (v 6)) 9 (v 9)) 16 (v 16)) 17 (v 17)) (va_up (va_up f 12 (f 12)) 13 (f 13)) g 1 3 nn pp (by decide) (by decide) (show tAt (f 0) nn (f 6) (f 7) (f 8) (v 5) (v 6) pp from hc) (show 1 ≤ (3 : Int) ∧ (3 : Int) ≤ 5 from by omega)) mM_X3_66 mI_X3_refuseIf mE_X3_refuseIf mN_X3 mC_X3_refuseIf (by decide +kernel) 9 (ci := 3) rfl rfl hP hS (fun _ h => h) ⟨Nat.le_of_ble_eq_true rfl, Nat.le_of_ble_eq_true rfl⟩ ⟨Nat.zero_le _, Nat.zero_le _⟩ hl.1 rfl rfl (Nat.le_of_ble_eq_true rfl) dX3_readKey_58 (fun r_21 v_21 f_21 g_21 H locs hq_21 hP _ hS => ?_)
          obtain ⟨w16_21, w17_21, rfl, rfl, rfl, rfl, p0_21, p1_21⟩ := hq_21
          show W p l e (gRm 3 63) s m args below meth c _ _ 0 0 Q (F0 m 61 ls [])
          have hP : gWd D (rwT k ad) (va_up (va_up (va_up (va_up v 6 (v 6)) 9 (v 9)) 16 w16_21) 17 w17_21) (va_up (va_up f 12 (f 12)) 13 (f 13)) g H := ⟨hP.1, (gF_up (V := rwV) (F := rwF) (gF_up (V := rwV) (F := rwF) (gR_up (V := rwV) (F := rwF) (gR_up (V := rwV) (F := rwF) (gR_up (V := rwV) (F := rwF) (gR_up (V := rwV) (F := rwF) ⟨hok.1, hok.2⟩ 6 (hP.2.1 6)) 9 (hP.2.1 9)) 16 (hP.2.1 16)) 17 (hP.2.1 17)) 12 (hP.2.2 12)) 13 (hP.2.2 13))⟩
          replace p0_21 : (1 : Int) = 0 ∨ (v 16) ≠ 0 → w16_21 = (v 16) ∧ w17_21 = (v 17) := p0_21
          replace p1_21 : (1 : Int) ≠ 0 → (v 16) = 0 → w16_21 = (3 : Int) ∧ w17_21 = pp := p1_21
          have rw16_21 : 0 ≤ w16_21 ∧ w16_21 ≤ 5 := hP.2.1 16
          have rw17_21 : (-1) ≤ w17_21 ∧ w17_21 ≤ 700 := hP.2.1 17
          first | replace p0_21 := p0_21 (by omega) | clear p0_21
          first | replace p1_21 := p1_21 (by omega) (by omega) | clear p1_21
          refine lv_aload_n hx hb dX3_readKey_61 rfl (lv_at hl 1 rfl) ?_
          refine g_cv (As := []) (rest := []) (n := 0) C hml (e_La_goOn l D k A ad hD (va_up (va_up (va_up (va_up v 6 (v 6)) 9 (v 9)) 16 w16_21) 17 w17_21) (va_up (va_up f 12 (f 12)) 13 (f 13)) g nn pp (show tAt (f 0) nn (f 6) (f 7) (f 8) (v 5) (v 6) pp from hc)) mM_X3_70 mI_X3_goOn mE_X3_goOn mN_X3 mC_X3_goOn (by decide +kernel) 9 (ci := 3) rfl rfl hP hS (fun _ h => h) ⟨Nat.le_of_ble_eq_true rfl, Nat.le_of_ble_eq_true rfl⟩ ⟨Nat.zero_le _, Nat.zero_le _⟩ hl.1 rfl rfl (Nat.le_of_ble_eq_true rfl) dX3_readKey_62 (fun r_22 v_22 f_22 g_22 H locs hq_22 hP _ hS => ?_)
          obtain ⟨z_22, w6_22, rfl, rfl, rfl, rfl, p0_22, p1_22, p2_22, p3_22⟩ := hq_22
          show W p l e (gRm 3 63) s m args below meth c _ _ 0 0 Q (F0 m 65 ls [.int (iI z_22)])
          have hP : gWd D (rwT k ad) (va_up (va_up (va_up (va_up v 6 w6_22) 9 (v 9)) 16 w16_21) 17 w17_21) (va_up (va_up f 12 (f 12)) 13 (f 13)) g H := ⟨hP.1, (gF_up (V := rwV) (F := rwF) (gF_up (V := rwV) (F := rwF) (gR_up (V := rwV) (F := rwF) (gR_up (V := rwV) (F := rwF) (gR_up (V := rwV) (F := rwF) (gR_up (V := rwV) (F := rwF) ⟨hok.1, hok.2⟩ 6 (hP.2.1 6)) 9 (hP.2.1 9)) 16 (hP.2.1 16)) 17 (hP.2.1 17)) 12 (hP.2.2 12)) 13 (hP.2.2 13))⟩
          replace p0_22 : 0 ≤ z_22 ∧ z_22 ≤ 1 := p0_22
          replace p1_22 : z_22 = 1 ↔ w16_21 = 0 := p1_22
          replace p2_22 : w16_21 ≠ 0 → w6_22 = (v 6) := p2_22
          replace p3_22 : w16_21 = 0 → (tK (f 0) nn pp) ≠ 256 → (tK (f 0) nn pp) ≠ 257 → tAt (f 0) nn (f 6) (f 7) (f 8) (v 5) w6_22 (tX (f 0) nn pp) := p3_22
          have rw6_22 : 0 ≤ w6_22 ∧ w6_22 ≤ 700 := hP.2.1 6
          first | replace p2_22 := p2_22 (by omega) | clear p2_22
          try have hc2 := p3_22 (by omega) (by omega) (by omega)
          clear p3_22
          refine gi_zne (tgt := 69) hx hb dX3_readKey_65 (by decide) (by omega) (fun c_23 => ?_) (fun c_23 => ?_)
          · exfalso; omega
          · exact g_vret hQ C hr hlocks hP hS dX3_readKey_68 ⟨w6_22, (v 9), w16_21, w17_21, (f 12), (f 13), rfl, rfl, rfl, rfl, (by first | exact oX_ok (ky1_d (by omega) (by omega) (by omega)) (by omega) (by omega) hH3 | exact oX_bad (ky1_a (by omega)) (by omega) (by omega) (by omega) (tAt_eq hc (by omega)) | exact oX_bad (ky1_b (by omega) (by omega)) (by decide) (by omega) (by omega) (tAt_eq hc (by omega)) | exact oX_bad (ky1_c (by omega) (by omega) (by omega)) (by omega) (by omega) (by omega) (tAt_eq hc2 (by omega))), (by first | omega | (split <;> omega))⟩
      · refine lv_aload_n hx hb dX3_readKey_36 rfl (lv_at hl 1 rfl) ?_
        refine g_cv (As := []) (rest := []) (n := 0) C hml (e_La_refuseToken l D k A ad hD (va_up (va_up (va_up (va_up v 6 (v 6)) 9 (v 9)) 16 (v 16)) 17 (v 17)) (va_up (va_up f 12 (f 12)) 13 (f 13)) g nn pp (show tAt (f 0) nn (f 6) (f 7) (f 8) (v 5) (v 6) pp from hc)) mM_X3_88 mI_X3_refuseToken mE_X3_refuseToken mN_X3 mC_X3_refuseToken (by decide +kernel) 9 (ci := 3) rfl rfl hP hS (fun _ h => h) ⟨Nat.le_of_ble_eq_true rfl, Nat.le_of_ble_eq_true rfl⟩ ⟨Nat.zero_le _, Nat.zero_le _⟩ hl.1 rfl rfl (Nat.le_of_ble_eq_true rfl) dX3_readKey_37 (fun r_24 v_24 f_24 g_24 H locs hq_24 hP _ hS => ?_)
        obtain ⟨w16_24, w17_24, rfl, rfl, rfl, rfl, p0_24, p1_24⟩ := hq_24
        show W p l e (gRm 3 63) s m args below meth c _ _ 0 0 Q (F0 m 40 ls [])
        have hP : gWd D (rwT k ad) (va_up (va_up (va_up (va_up v 6 (v 6)) 9 (v 9)) 16 w16_24) 17 w17_24) (va_up (va_up f 12 (f 12)) 13 (f 13)) g H := ⟨hP.1, (gF_up (V := rwV) (F := rwF) (gF_up (V := rwV) (F := rwF) (gR_up (V := rwV) (F := rwF) (gR_up (V := rwV) (F := rwF) (gR_up (V := rwV) (F := rwF) (gR_up (V := rwV) (F := rwF) ⟨hok.1, hok.2⟩ 6 (hP.2.1 6)) 9 (hP.2.1 9)) 16 (hP.2.1 16)) 17 (hP.2.1 17)) 12 (hP.2.2 12)) 13 (hP.2.2 13))⟩
        replace p0_24 : (v 16) = 0 → w16_24 = (fk (f 0) nn pp) ∧ w17_24 = pp := p0_24
        replace p1_24 : (v 16) ≠ 0 → w16_24 = (v 16) ∧ w17_24 = (v 17) := p1_24
        have rw16_24 : 0 ≤ w16_24 ∧ w16_24 ≤ 5 := hP.2.1 16
        have rw17_24 : (-1) ≤ w17_24 ∧ w17_24 ≤ 700 := hP.2.1 17
        first | replace p0_24 := p0_24 (by omega) | clear p0_24
        first | replace p1_24 := p1_24 (by omega) | clear p1_24
        refine lv_aload_n hx hb dX3_readKey_40 rfl (lv_at hl 1 rfl) ?_
        refine lv_aload_n hx hb dX3_readKey_41 rfl (lv_at hl 1 rfl) ?_
        refine rwG_reader_draft C hP mF_X3_21 dX3_readKey_42 ?_
        refine rwG_reader_draft_keys C hP mF_X3_116 dX3_readKey_45 ?_
        show W p l e (gRm 3 63) s m args below meth c _ _ 0 0 Q (F0 m 48 ls [.int (iI (v 9)), .ref (ad 9)])
        refine lv_iconst (v := iI 4) hx hb dX3_readKey_48 rfl ?_
        refine gi_clt (tgt := 56) hx hb dX3_readKey_49 (by decide) (by omega) (by decide) (fun c_25 => ?_) (fun c_25 => ?_)
        · refine lv_iconst (v := iI 0) hx hb dX3_readKey_56 rfl ?_
          refine lv_iconst (v := iI 3) hx hb dX3_readKey_57 rfl ?_
          refine g_cv (As := [.int (iI 0), .int (iI 3)]) (rest := []) (n := 2) C hml (e_La_refuseIf l D k A ad hD (va_up (va_up (va_up (va_up v 6 (v 6)) 9 (v 9)) 16 w16_24) 17 w17_24) (va_up (va_up f 12 (f 12)) 13 (f 13)) g 0 3 nn pp (by decide) (by decide) (show tAt (f 0) nn (f 6) (f 7) (f 8) (v 5) (v 6) pp from hc) (show 1 ≤ (3 : Int) ∧ (3 : Int) ≤ 5 from by omega)) mM_X3_66 mI_X3_refuseIf mE_X3_refuseIf mN_X3 mC_X3_refuseIf (by decide +kernel) 9 (ci := 3) rfl rfl hP hS (fun _ h => h) ⟨Nat.le_of_ble_eq_true rfl, Nat.le_of_ble_eq_true rfl⟩ ⟨Nat.zero_le _, Nat.zero_le _⟩ hl.1 rfl rfl (Nat.le_of_ble_eq_true rfl) dX3_readKey_58 (fun r_26 v_26 f_26 g_26 H locs hq_26 hP _ hS => ?_)
          obtain ⟨w16_26, w17_26, rfl, rfl, rfl, rfl, p0_26, p1_26⟩ := hq_26
          show W p l e (gRm 3 63) s m args below meth c _ _ 0 0 Q (F0 m 61 ls [])
          have hP : gWd D (rwT k ad) (va_up (va_up (va_up (va_up v 6 (v 6)) 9 (v 9)) 16 w16_26) 17 w17_26) (va_up (va_up f 12 (f 12)) 13 (f 13)) g H := ⟨hP.1, (gF_up (V := rwV) (F := rwF) (gF_up (V := rwV) (F := rwF) (gR_up (V := rwV) (F := rwF) (gR_up (V := rwV) (F := rwF) (gR_up (V := rwV) (F := rwF) (gR_up (V := rwV) (F := rwF) ⟨hok.1, hok.2⟩ 6 (hP.2.1 6)) 9 (hP.2.1 9)) 16 (hP.2.1 16)) 17 (hP.2.1 17)) 12 (hP.2.2 12)) 13 (hP.2.2 13))⟩
          replace p0_26 : (0 : Int) = 0 ∨ w16_24 ≠ 0 → w16_26 = w16_24 ∧ w17_26 = w17_24 := p0_26
          replace p1_26 : (0 : Int) ≠ 0 → w16_24 = 0 → w16_26 = (3 : Int) ∧ w17_26 = pp := p1_26
          have rw16_26 : 0 ≤ w16_26 ∧ w16_26 ≤ 5 := hP.2.1 16
          have rw17_26 : (-1) ≤ w17_26 ∧ w17_26 ≤ 700 := hP.2.1 17
          first | replace p0_26 := p0_26 (by omega) | clear p0_26
          first | replace p1_26 := p1_26 (by omega) (by omega) | clear p1_26
          refine lv_aload_n hx hb dX3_readKey_61 rfl (lv_at hl 1 rfl) ?_
          refine g_cv (As := []) (rest := []) (n := 0) C hml (e_La_goOn l D k A ad hD (va_up (va_up (va_up (va_up v 6 (v 6)) 9 (v 9)) 16 w16_26) 17 w17_26) (va_up (va_up f 12 (f 12)) 13 (f 13)) g nn pp (show tAt (f 0) nn (f 6) (f 7) (f 8) (v 5) (v 6) pp from hc)) mM_X3_70 mI_X3_goOn mE_X3_goOn mN_X3 mC_X3_goOn (by decide +kernel) 9 (ci := 3) rfl rfl hP hS (fun _ h => h) ⟨Nat.le_of_ble_eq_true rfl, Nat.le_of_ble_eq_true rfl⟩ ⟨Nat.zero_le _, Nat.zero_le _⟩ hl.1 rfl rfl (Nat.le_of_ble_eq_true rfl) dX3_readKey_62 (fun r_27 v_27 f_27 g_27 H locs hq_27 hP _ hS => ?_)
          obtain ⟨z_27, w6_27, rfl, rfl, rfl, rfl, p0_27, p1_27, p2_27, p3_27⟩ := hq_27
          show W p l e (gRm 3 63) s m args below meth c _ _ 0 0 Q (F0 m 65 ls [.int (iI z_27)])
          have hP : gWd D (rwT k ad) (va_up (va_up (va_up (va_up v 6 w6_27) 9 (v 9)) 16 w16_26) 17 w17_26) (va_up (va_up f 12 (f 12)) 13 (f 13)) g H := ⟨hP.1, (gF_up (V := rwV) (F := rwF) (gF_up (V := rwV) (F := rwF) (gR_up (V := rwV) (F := rwF) (gR_up (V := rwV) (F := rwF) (gR_up (V := rwV) (F := rwF) (gR_up (V := rwV) (F := rwF) ⟨hok.1, hok.2⟩ 6 (hP.2.1 6)) 9 (hP.2.1 9)) 16 (hP.2.1 16)) 17 (hP.2.1 17)) 12 (hP.2.2 12)) 13 (hP.2.2 13))⟩
          replace p0_27 : 0 ≤ z_27 ∧ z_27 ≤ 1 := p0_27
          replace p1_27 : z_27 = 1 ↔ w16_26 = 0 := p1_27
          replace p2_27 : w16_26 ≠ 0 → w6_27 = (v 6) := p2_27
          replace p3_27 : w16_26 = 0 → (tK (f 0) nn pp) ≠ 256 → (tK (f 0) nn pp) ≠ 257 → tAt (f 0) nn (f 6) (f 7) (f 8) (v 5) w6_27 (tX (f 0) nn pp) := p3_27
          have rw6_27 : 0 ≤ w6_27 ∧ w6_27 ≤ 700 := hP.2.1 6
          first | replace p2_27 := p2_27 (by omega) | clear p2_27
          try have hc2 := p3_27 (by omega) (by omega) (by omega)
          clear p3_27
          refine gi_zne (tgt := 69) hx hb dX3_readKey_65 (by decide) (by omega) (fun c_28 => ?_) (fun c_28 => ?_)
          · exfalso; omega
          · exact g_vret hQ C hr hlocks hP hS dX3_readKey_68 ⟨w6_27, (v 9), w16_26, w17_26, (f 12), (f 13), rfl, rfl, rfl, rfl, (by first | exact oX_ok (ky1_d (by omega) (by omega) (by omega)) (by omega) (by omega) hH3 | exact oX_bad (ky1_a (by omega)) (by omega) (by omega) (by omega) (tAt_eq hc (by omega)) | exact oX_bad (ky1_b (by omega) (by omega)) (by decide) (by omega) (by omega) (tAt_eq hc (by omega)) | exact oX_bad (ky1_c (by omega) (by omega) (by omega)) (by omega) (by omega) (by omega) (tAt_eq hc2 (by omega))), (by first | omega | (split <;> omega))⟩
        · refine lv_iconst (v := iI 1) hx hb dX3_readKey_52 rfl ?_
          refine lv_goto (tgt := 57) hx hb dX3_readKey_53 (by decide) ?_
          refine lv_iconst (v := iI 3) hx hb dX3_readKey_57 rfl ?_
          refine g_cv (As := [.int (iI 1), .int (iI 3)]) (rest := []) (n := 2) C hml (e_La_refuseIf l D k A ad hD (va_up (va_up (va_up (va_up v 6 (v 6)) 9 (v 9)) 16 w16_24) 17 w17_24) (va_up (va_up f 12 (f 12)) 13 (f 13)) g 1 3 nn pp (by decide) (by decide) (show tAt (f 0) nn (f 6) (f 7) (f 8) (v 5) (v 6) pp from hc) (show 1 ≤ (3 : Int) ∧ (3 : Int) ≤ 5 from by omega)) mM_X3_66 mI_X3_refuseIf mE_X3_refuseIf mN_X3 mC_X3_refuseIf (by decide +kernel) 9 (ci := 3) rfl rfl hP hS (fun _ h => h) ⟨Nat.le_of_ble_eq_true rfl, Nat.le_of_ble_eq_true rfl⟩ ⟨Nat.zero_le _, Nat.zero_le _⟩ hl.1 rfl rfl (Nat.le_of_ble_eq_true rfl) dX3_readKey_58 (fun r_29 v_29 f_29 g_29 H locs hq_29 hP _ hS => ?_)
          obtain ⟨w16_29, w17_29, rfl, rfl, rfl, rfl, p0_29, p1_29⟩ := hq_29
          show W p l e (gRm 3 63) s m args below meth c _ _ 0 0 Q (F0 m 61 ls [])
          have hP : gWd D (rwT k ad) (va_up (va_up (va_up (va_up v 6 (v 6)) 9 (v 9)) 16 w16_29) 17 w17_29) (va_up (va_up f 12 (f 12)) 13 (f 13)) g H := ⟨hP.1, (gF_up (V := rwV) (F := rwF) (gF_up (V := rwV) (F := rwF) (gR_up (V := rwV) (F := rwF) (gR_up (V := rwV) (F := rwF) (gR_up (V := rwV) (F := rwF) (gR_up (V := rwV) (F := rwF) ⟨hok.1, hok.2⟩ 6 (hP.2.1 6)) 9 (hP.2.1 9)) 16 (hP.2.1 16)) 17 (hP.2.1 17)) 12 (hP.2.2 12)) 13 (hP.2.2 13))⟩
          replace p0_29 : (1 : Int) = 0 ∨ w16_24 ≠ 0 → w16_29 = w16_24 ∧ w17_29 = w17_24 := p0_29
          replace p1_29 : (1 : Int) ≠ 0 → w16_24 = 0 → w16_29 = (3 : Int) ∧ w17_29 = pp := p1_29
          have rw16_29 : 0 ≤ w16_29 ∧ w16_29 ≤ 5 := hP.2.1 16
          have rw17_29 : (-1) ≤ w17_29 ∧ w17_29 ≤ 700 := hP.2.1 17
          first | replace p0_29 := p0_29 (by omega) | clear p0_29
          first | replace p1_29 := p1_29 (by omega) (by omega) | clear p1_29
          refine lv_aload_n hx hb dX3_readKey_61 rfl (lv_at hl 1 rfl) ?_
          refine g_cv (As := []) (rest := []) (n := 0) C hml (e_La_goOn l D k A ad hD (va_up (va_up (va_up (va_up v 6 (v 6)) 9 (v 9)) 16 w16_29) 17 w17_29) (va_up (va_up f 12 (f 12)) 13 (f 13)) g nn pp (show tAt (f 0) nn (f 6) (f 7) (f 8) (v 5) (v 6) pp from hc)) mM_X3_70 mI_X3_goOn mE_X3_goOn mN_X3 mC_X3_goOn (by decide +kernel) 9 (ci := 3) rfl rfl hP hS (fun _ h => h) ⟨Nat.le_of_ble_eq_true rfl, Nat.le_of_ble_eq_true rfl⟩ ⟨Nat.zero_le _, Nat.zero_le _⟩ hl.1 rfl rfl (Nat.le_of_ble_eq_true rfl) dX3_readKey_62 (fun r_30 v_30 f_30 g_30 H locs hq_30 hP _ hS => ?_)
          obtain ⟨z_30, w6_30, rfl, rfl, rfl, rfl, p0_30, p1_30, p2_30, p3_30⟩ := hq_30
          show W p l e (gRm 3 63) s m args below meth c _ _ 0 0 Q (F0 m 65 ls [.int (iI z_30)])
          have hP : gWd D (rwT k ad) (va_up (va_up (va_up (va_up v 6 w6_30) 9 (v 9)) 16 w16_29) 17 w17_29) (va_up (va_up f 12 (f 12)) 13 (f 13)) g H := ⟨hP.1, (gF_up (V := rwV) (F := rwF) (gF_up (V := rwV) (F := rwF) (gR_up (V := rwV) (F := rwF) (gR_up (V := rwV) (F := rwF) (gR_up (V := rwV) (F := rwF) (gR_up (V := rwV) (F := rwF) ⟨hok.1, hok.2⟩ 6 (hP.2.1 6)) 9 (hP.2.1 9)) 16 (hP.2.1 16)) 17 (hP.2.1 17)) 12 (hP.2.2 12)) 13 (hP.2.2 13))⟩
          replace p0_30 : 0 ≤ z_30 ∧ z_30 ≤ 1 := p0_30
          replace p1_30 : z_30 = 1 ↔ w16_29 = 0 := p1_30
          replace p2_30 : w16_29 ≠ 0 → w6_30 = (v 6) := p2_30
          replace p3_30 : w16_29 = 0 → (tK (f 0) nn pp) ≠ 256 → (tK (f 0) nn pp) ≠ 257 → tAt (f 0) nn (f 6) (f 7) (f 8) (v 5) w6_30 (tX (f 0) nn pp) := p3_30
          have rw6_30 : 0 ≤ w6_30 ∧ w6_30 ≤ 700 := hP.2.1 6
          first | replace p2_30 := p2_30 (by omega) | clear p2_30
          try have hc2 := p3_30 (by omega) (by omega) (by omega)
          clear p3_30
          refine gi_zne (tgt := 69) hx hb dX3_readKey_65 (by decide) (by omega) (fun c_31 => ?_) (fun c_31 => ?_)
          · exfalso; omega
          · exact g_vret hQ C hr hlocks hP hS dX3_readKey_68 ⟨w6_30, (v 9), w16_29, w17_29, (f 12), (f 13), rfl, rfl, rfl, rfl, (by first | exact oX_ok (ky1_d (by omega) (by omega) (by omega)) (by omega) (by omega) hH3 | exact oX_bad (ky1_a (by omega)) (by omega) (by omega) (by omega) (tAt_eq hc (by omega)) | exact oX_bad (ky1_b (by omega) (by omega)) (by decide) (by omega) (by omega) (tAt_eq hc (by omega)) | exact oX_bad (ky1_c (by omega) (by omega) (by omega)) (by omega) (by omega) (by omega) (tAt_eq hc2 (by omega))), (by first | omega | (split <;> omega))⟩
  · refine lv_iconst (v := iI 1) hx hb dX3_readKey_13 rfl ?_
    refine lv_goto (tgt := 18) hx hb dX3_readKey_14 (by decide) ?_
    refine lv_istore_n (lv' := [(1, .int (iI 1)), (0, .ref (ad 9))]) hx hb dX3_readKey_18 rfl hl (by decide) rfl (fun ls hl => ?_)
    refine lv_iload_n hx hb dX3_readKey_19 rfl (lv_at hl 0 rfl) ?_
    refine gi_zne (tgt := 40) hx hb dX3_readKey_20 (by decide) (by decide) (fun c_32 => ?_) (fun c_32 => ?_)
    · refine lv_aload_n hx hb dX3_readKey_40 rfl (lv_at hl 1 rfl) ?_
      refine lv_aload_n hx hb dX3_readKey_41 rfl (lv_at hl 1 rfl) ?_
      refine rwG_reader_draft C hP mF_X3_21 dX3_readKey_42 ?_
      refine rwG_reader_draft_keys C hP mF_X3_116 dX3_readKey_45 ?_
      show W p l e (gRm 3 63) s m args below meth c _ _ 0 0 Q (F0 m 48 ls [.int (iI (v 9)), .ref (ad 9)])
      refine lv_iconst (v := iI 4) hx hb dX3_readKey_48 rfl ?_
      refine gi_clt (tgt := 56) hx hb dX3_readKey_49 (by decide) (by omega) (by decide) (fun c_33 => ?_) (fun c_33 => ?_)
      · refine lv_iconst (v := iI 0) hx hb dX3_readKey_56 rfl ?_
        refine lv_iconst (v := iI 3) hx hb dX3_readKey_57 rfl ?_
        refine g_cv (As := [.int (iI 0), .int (iI 3)]) (rest := []) (n := 2) C hml (e_La_refuseIf l D k A ad hD (va_up (va_up (va_up (va_up v 6 (v 6)) 9 (v 9)) 16 (v 16)) 17 (v 17)) (va_up (va_up f 12 (f 12)) 13 (f 13)) g 0 3 nn pp (by decide) (by decide) (show tAt (f 0) nn (f 6) (f 7) (f 8) (v 5) (v 6) pp from hc) (show 1 ≤ (3 : Int) ∧ (3 : Int) ≤ 5 from by omega)) mM_X3_66 mI_X3_refuseIf mE_X3_refuseIf mN_X3 mC_X3_refuseIf (by decide +kernel) 9 (ci := 3) rfl rfl hP hS (fun _ h => h) ⟨Nat.le_of_ble_eq_true rfl, Nat.le_of_ble_eq_true rfl⟩ ⟨Nat.zero_le _, Nat.zero_le _⟩ hl.1 rfl rfl (Nat.le_of_ble_eq_true rfl) dX3_readKey_58 (fun r_34 v_34 f_34 g_34 H locs hq_34 hP _ hS => ?_)
        obtain ⟨w16_34, w17_34, rfl, rfl, rfl, rfl, p0_34, p1_34⟩ := hq_34
        show W p l e (gRm 3 63) s m args below meth c _ _ 0 0 Q (F0 m 61 ls [])
        have hP : gWd D (rwT k ad) (va_up (va_up (va_up (va_up v 6 (v 6)) 9 (v 9)) 16 w16_34) 17 w17_34) (va_up (va_up f 12 (f 12)) 13 (f 13)) g H := ⟨hP.1, (gF_up (V := rwV) (F := rwF) (gF_up (V := rwV) (F := rwF) (gR_up (V := rwV) (F := rwF) (gR_up (V := rwV) (F := rwF) (gR_up (V := rwV) (F := rwF) (gR_up (V := rwV) (F := rwF) ⟨hok.1, hok.2⟩ 6 (hP.2.1 6)) 9 (hP.2.1 9)) 16 (hP.2.1 16)) 17 (hP.2.1 17)) 12 (hP.2.2 12)) 13 (hP.2.2 13))⟩
        replace p0_34 : (0 : Int) = 0 ∨ (v 16) ≠ 0 → w16_34 = (v 16) ∧ w17_34 = (v 17) := p0_34
        replace p1_34 : (0 : Int) ≠ 0 → (v 16) = 0 → w16_34 = (3 : Int) ∧ w17_34 = pp := p1_34
        have rw16_34 : 0 ≤ w16_34 ∧ w16_34 ≤ 5 := hP.2.1 16
        have rw17_34 : (-1) ≤ w17_34 ∧ w17_34 ≤ 700 := hP.2.1 17
        first | replace p0_34 := p0_34 (by omega) | clear p0_34
        first | replace p1_34 := p1_34 (by omega) (by omega) | clear p1_34
        refine lv_aload_n hx hb dX3_readKey_61 rfl (lv_at hl 1 rfl) ?_
        refine g_cv (As := []) (rest := []) (n := 0) C hml (e_La_goOn l D k A ad hD (va_up (va_up (va_up (va_up v 6 (v 6)) 9 (v 9)) 16 w16_34) 17 w17_34) (va_up (va_up f 12 (f 12)) 13 (f 13)) g nn pp (show tAt (f 0) nn (f 6) (f 7) (f 8) (v 5) (v 6) pp from hc)) mM_X3_70 mI_X3_goOn mE_X3_goOn mN_X3 mC_X3_goOn (by decide +kernel) 9 (ci := 3) rfl rfl hP hS (fun _ h => h) ⟨Nat.le_of_ble_eq_true rfl, Nat.le_of_ble_eq_true rfl⟩ ⟨Nat.zero_le _, Nat.zero_le _⟩ hl.1 rfl rfl (Nat.le_of_ble_eq_true rfl) dX3_readKey_62 (fun r_35 v_35 f_35 g_35 H locs hq_35 hP _ hS => ?_)
        obtain ⟨z_35, w6_35, rfl, rfl, rfl, rfl, p0_35, p1_35, p2_35, p3_35⟩ := hq_35
        show W p l e (gRm 3 63) s m args below meth c _ _ 0 0 Q (F0 m 65 ls [.int (iI z_35)])
        have hP : gWd D (rwT k ad) (va_up (va_up (va_up (va_up v 6 w6_35) 9 (v 9)) 16 w16_34) 17 w17_34) (va_up (va_up f 12 (f 12)) 13 (f 13)) g H := ⟨hP.1, (gF_up (V := rwV) (F := rwF) (gF_up (V := rwV) (F := rwF) (gR_up (V := rwV) (F := rwF) (gR_up (V := rwV) (F := rwF) (gR_up (V := rwV) (F := rwF) (gR_up (V := rwV) (F := rwF) ⟨hok.1, hok.2⟩ 6 (hP.2.1 6)) 9 (hP.2.1 9)) 16 (hP.2.1 16)) 17 (hP.2.1 17)) 12 (hP.2.2 12)) 13 (hP.2.2 13))⟩
        replace p0_35 : 0 ≤ z_35 ∧ z_35 ≤ 1 := p0_35
        replace p1_35 : z_35 = 1 ↔ w16_34 = 0 := p1_35
        replace p2_35 : w16_34 ≠ 0 → w6_35 = (v 6) := p2_35
        replace p3_35 : w16_34 = 0 → (tK (f 0) nn pp) ≠ 256 → (tK (f 0) nn pp) ≠ 257 → tAt (f 0) nn (f 6) (f 7) (f 8) (v 5) w6_35 (tX (f 0) nn pp) := p3_35
        have rw6_35 : 0 ≤ w6_35 ∧ w6_35 ≤ 700 := hP.2.1 6
        first | replace p2_35 := p2_35 (by omega) | clear p2_35
        try have hc2 := p3_35 (by omega) (by omega) (by omega)
        clear p3_35
        refine gi_zne (tgt := 69) hx hb dX3_readKey_65 (by decide) (by omega) (fun c_36 => ?_) (fun c_36 => ?_)
        · refine lv_aload_n hx hb dX3_readKey_69 rfl (lv_at hl 1 rfl) ?_
          refine rwG_reader_tokens C hP mF_X3_12 dX3_readKey_70 ?_
          refine g_cv (As := []) (rest := []) (n := 0) C hml (e_To_kind l D k A ad hD (va_up (va_up (va_up (va_up v 6 w6_35) 9 (v 9)) 16 w16_34) 17 w17_34) (va_up (va_up f 12 (f 12)) 13 (f 13)) g nn (tX (f 0) nn pp) (show tAt (f 0) nn (f 6) (f 7) (f 8) (v 5) w6_35 (tX (f 0) nn pp) from hc2)) mM_X3_56 mI_X6_kind mE_X6_kind mN_X6 mC_X6_kind (by decide +kernel) 10 (ci := 6) rfl rfl hP hS (fun _ h => h) ⟨Nat.le_of_ble_eq_true rfl, Nat.le_of_ble_eq_true rfl⟩ ⟨Nat.zero_le _, Nat.zero_le _⟩ hl.1 rfl rfl (Nat.le_of_ble_eq_true rfl) dX3_readKey_73 (fun r_37 v_37 f_37 g_37 H locs hq_37 hP _ hS => ?_)
          obtain ⟨z_37, rfl, rfl, rfl, rfl, p0_37, p1_37⟩ := hq_37
          show W p l e (gRm 3 63) s m args below meth c _ _ 0 0 Q (F0 m 76 ls [.int (iI z_37)])
          replace p0_37 : z_37 = (tK (f 0) nn (tX (f 0) nn pp)) := p0_37
          replace p1_37 : 40 ≤ z_37 ∧ z_37 ≤ 277 := p1_37
          have hz_37 : inR z_37 := (by first | omega | (rw [p0_37]; split <;> omega))
          refine lv_sipush (v := iI 268) hx hb dX3_readKey_76 (by decide) ?_
          refine gi_sub (z := (z_37 - 268)) hx hb dX3_readKey_79 rfl ?_
          refine lv_istore_n (lv' := [(2, .int (iI (z_37 - 268))), (1, .int (iI 1)), (0, .ref (ad 9))]) hx hb dX3_readKey_80 rfl hl (by decide) rfl (fun ls hl => ?_)
          refine lv_iload_n hx hb dX3_readKey_81 rfl (lv_at hl 0 rfl) ?_
          refine gi_zlt (tgt := 90) hx hb dX3_readKey_82 (by decide) (by omega) (fun c_38 => ?_) (fun c_38 => ?_)
          · refine lv_aload_n hx hb dX3_readKey_90 rfl (lv_at hl 2 rfl) ?_
            refine g_cv (As := []) (rest := []) (n := 0) C hml (e_La_refuseToken l D k A ad hD (va_up (va_up (va_up (va_up v 6 w6_35) 9 (v 9)) 16 w16_34) 17 w17_34) (va_up (va_up f 12 (f 12)) 13 (f 13)) g nn (tX (f 0) nn pp) (show tAt (f 0) nn (f 6) (f 7) (f 8) (v 5) w6_35 (tX (f 0) nn pp) from hc2)) mM_X3_88 mI_X3_refuseToken mE_X3_refuseToken mN_X3 mC_X3_refuseToken (by decide +kernel) 9 (ci := 3) rfl rfl hP hS (fun _ h => h) ⟨Nat.le_of_ble_eq_true rfl, Nat.le_of_ble_eq_true rfl⟩ ⟨Nat.zero_le _, Nat.zero_le _⟩ hl.1 rfl rfl (Nat.le_of_ble_eq_true rfl) dX3_readKey_91 (fun r_39 v_39 f_39 g_39 H locs hq_39 hP _ hS => ?_)
            obtain ⟨w16_39, w17_39, rfl, rfl, rfl, rfl, p0_39, p1_39⟩ := hq_39
            show W p l e (gRm 3 63) s m args below meth c _ _ 0 0 Q (F0 m 94 ls [])
            have hP : gWd D (rwT k ad) (va_up (va_up (va_up (va_up v 6 w6_35) 9 (v 9)) 16 w16_39) 17 w17_39) (va_up (va_up f 12 (f 12)) 13 (f 13)) g H := ⟨hP.1, (gF_up (V := rwV) (F := rwF) (gF_up (V := rwV) (F := rwF) (gR_up (V := rwV) (F := rwF) (gR_up (V := rwV) (F := rwF) (gR_up (V := rwV) (F := rwF) (gR_up (V := rwV) (F := rwF) ⟨hok.1, hok.2⟩ 6 (hP.2.1 6)) 9 (hP.2.1 9)) 16 (hP.2.1 16)) 17 (hP.2.1 17)) 12 (hP.2.2 12)) 13 (hP.2.2 13))⟩
            replace p0_39 : w16_34 = 0 → w16_39 = (fk (f 0) nn (tX (f 0) nn pp)) ∧ w17_39 = (tX (f 0) nn pp) := p0_39
            replace p1_39 : w16_34 ≠ 0 → w16_39 = w16_34 ∧ w17_39 = w17_34 := p1_39
            have rw16_39 : 0 ≤ w16_39 ∧ w16_39 ≤ 5 := hP.2.1 16
            have rw17_39 : (-1) ≤ w17_39 ∧ w17_39 ≤ 700 := hP.2.1 17
            first | replace p0_39 := p0_39 (by omega) | clear p0_39
            first | replace p1_39 := p1_39 (by omega) | clear p1_39
            refine lv_goto (tgt := 106) hx hb dX3_readKey_94 (by decide) ?_
            refine lv_aload_n hx hb dX3_readKey_106 rfl (lv_at hl 2 rfl) ?_
            refine g_cv (As := []) (rest := []) (n := 0) C hml (e_La_goOn l D k A ad hD (va_up (va_up (va_up (va_up v 6 w6_35) 9 (v 9)) 16 w16_39) 17 w17_39) (va_up (va_up f 12 (f 12)) 13 (f 13)) g nn (tX (f 0) nn pp) (show tAt (f 0) nn (f 6) (f 7) (f 8) (v 5) w6_35 (tX (f 0) nn pp) from hc2)) mM_X3_70 mI_X3_goOn mE_X3_goOn mN_X3 mC_X3_goOn (by decide +kernel) 9 (ci := 3) rfl rfl hP hS (fun _ h => h) ⟨Nat.le_of_ble_eq_true rfl, Nat.le_of_ble_eq_true rfl⟩ ⟨Nat.zero_le _, Nat.zero_le _⟩ hl.1 rfl rfl (Nat.le_of_ble_eq_true rfl) dX3_readKey_107 (fun r_40 v_40 f_40 g_40 H locs hq_40 hP _ hS => ?_)
            obtain ⟨z_40, w6_40, rfl, rfl, rfl, rfl, p0_40, p1_40, p2_40, p3_40⟩ := hq_40
            show W p l e (gRm 3 63) s m args below meth c _ _ 0 0 Q (F0 m 110 ls [.int (iI z_40)])
            have hP : gWd D (rwT k ad) (va_up (va_up (va_up (va_up v 6 w6_40) 9 (v 9)) 16 w16_39) 17 w17_39) (va_up (va_up f 12 (f 12)) 13 (f 13)) g H := ⟨hP.1, (gF_up (V := rwV) (F := rwF) (gF_up (V := rwV) (F := rwF) (gR_up (V := rwV) (F := rwF) (gR_up (V := rwV) (F := rwF) (gR_up (V := rwV) (F := rwF) (gR_up (V := rwV) (F := rwF) ⟨hok.1, hok.2⟩ 6 (hP.2.1 6)) 9 (hP.2.1 9)) 16 (hP.2.1 16)) 17 (hP.2.1 17)) 12 (hP.2.2 12)) 13 (hP.2.2 13))⟩
            replace p0_40 : 0 ≤ z_40 ∧ z_40 ≤ 1 := p0_40
            replace p1_40 : z_40 = 1 ↔ w16_39 = 0 := p1_40
            replace p2_40 : w16_39 ≠ 0 → w6_40 = w6_35 := p2_40
            replace p3_40 : w16_39 = 0 → (tK (f 0) nn (tX (f 0) nn pp)) ≠ 256 → (tK (f 0) nn (tX (f 0) nn pp)) ≠ 257 → tAt (f 0) nn (f 6) (f 7) (f 8) (v 5) w6_40 (tX (f 0) nn (tX (f 0) nn pp)) := p3_40
            have rw6_40 : 0 ≤ w6_40 ∧ w6_40 ≤ 700 := hP.2.1 6
            first | replace p2_40 := p2_40 (by omega) | clear p2_40
            try have hH3 := p3_40 (by omega) (by omega) (by omega)
            clear p3_40
            refine lv_pop hx hb dX3_readKey_110 rfl ?_
            exact g_vret hQ C hr hlocks hP hS dX3_readKey_111 ⟨w6_40, (v 9), w16_39, w17_39, (f 12), (f 13), rfl, rfl, rfl, rfl, (by first | exact oX_ok (ky1_d (by omega) (by omega) (by omega)) (by omega) (by omega) hH3 | exact oX_bad (ky1_a (by omega)) (by omega) (by omega) (by omega) (tAt_eq hc (by omega)) | exact oX_bad (ky1_b (by omega) (by omega)) (by decide) (by omega) (by omega) (tAt_eq hc (by omega)) | exact oX_bad (ky1_c (by omega) (by omega) (by omega)) (by omega) (by omega) (by omega) (tAt_eq hc2 (by omega))), (by first | omega | (split <;> omega))⟩
          · refine lv_iload_n hx hb dX3_readKey_85 rfl (lv_at hl 0 rfl) ?_
            refine lv_iconst (v := iI 3) hx hb dX3_readKey_86 rfl ?_
            refine gi_cle (tgt := 97) hx hb dX3_readKey_87 (by decide) (by omega) (by decide) (fun c_41 => ?_) (fun c_41 => ?_)
            · refine lv_aload_n hx hb dX3_readKey_97 rfl (lv_at hl 2 rfl) ?_
              refine rwG_reader_draft C hP mF_X3_21 dX3_readKey_98 ?_
              refine lv_iload_n hx hb dX3_readKey_101 rfl (lv_at hl 0 rfl) ?_
              refine lv_iload_n hx hb dX3_readKey_102 rfl (lv_at hl 1 rfl) ?_
              refine g_cv (As := [.int (iI (z_37 - 268)), .int (iI 1)]) (rest := []) (n := 2) C hml (e_La_addKey l D k A ad hD (va_up (va_up (va_up (va_up v 6 w6_35) 9 (v 9)) 16 w16_34) 17 w17_34) (va_up (va_up f 12 (f 12)) 13 (f 13)) g (z_37 - 268) 1 (by omega) (by decide) (show 0 ≤ (z_37 - 268) ∧ (z_37 - 268) ≤ 3 from by omega)) mM_X3_122 mI_X4_addKey mE_X4_addKey mN_X4 mC_X4_addKey (by decide +kernel) 14 (ci := 4) rfl rfl hP hS (fun _ h => h) ⟨Nat.le_of_ble_eq_true rfl, Nat.le_of_ble_eq_true rfl⟩ ⟨Nat.zero_le _, Nat.zero_le _⟩ hl.1 rfl rfl (Nat.le_of_ble_eq_true rfl) dX3_readKey_103 (fun r_42 v_42 f_42 g_42 H locs hq_42 hP _ hS => ?_)
              obtain ⟨w9_42, a12_42, a13_42, rfl, rfl, rfl, rfl, p0_42⟩ := hq_42
              show W p l e (gRm 3 63) s m args below meth c _ _ 0 0 Q (F0 m 106 ls [])
              have hP : gWd D (rwT k ad) (va_up (va_up (va_up (va_up v 6 w6_35) 9 w9_42) 16 w16_34) 17 w17_34) (va_up (va_up f 12 a12_42) 13 a13_42) g H := ⟨hP.1, (gF_up (V := rwV) (F := rwF) (gF_up (V := rwV) (F := rwF) (gR_up (V := rwV) (F := rwF) (gR_up (V := rwV) (F := rwF) (gR_up (V := rwV) (F := rwF) (gR_up (V := rwV) (F := rwF) ⟨hok.1, hok.2⟩ 6 (hP.2.1 6)) 9 (hP.2.1 9)) 16 (hP.2.1 16)) 17 (hP.2.1 17)) 12 (hP.2.2 12)) 13 (hP.2.2 13))⟩
              replace p0_42 : (v 9) < 4 → w9_42 = (v 9) + 1 := p0_42
              have rw9_42 : 0 ≤ w9_42 ∧ w9_42 ≤ 4 := hP.2.1 9
              first | replace p0_42 := p0_42 (by omega) | clear p0_42
              refine lv_aload_n hx hb dX3_readKey_106 rfl (lv_at hl 2 rfl) ?_
              refine g_cv (As := []) (rest := []) (n := 0) C hml (e_La_goOn l D k A ad hD (va_up (va_up (va_up (va_up v 6 w6_35) 9 w9_42) 16 w16_34) 17 w17_34) (va_up (va_up f 12 a12_42) 13 a13_42) g nn (tX (f 0) nn pp) (show tAt (f 0) nn (f 6) (f 7) (f 8) (v 5) w6_35 (tX (f 0) nn pp) from hc2)) mM_X3_70 mI_X3_goOn mE_X3_goOn mN_X3 mC_X3_goOn (by decide +kernel) 9 (ci := 3) rfl rfl hP hS (fun _ h => h) ⟨Nat.le_of_ble_eq_true rfl, Nat.le_of_ble_eq_true rfl⟩ ⟨Nat.zero_le _, Nat.zero_le _⟩ hl.1 rfl rfl (Nat.le_of_ble_eq_true rfl) dX3_readKey_107 (fun r_43 v_43 f_43 g_43 H locs hq_43 hP _ hS => ?_)
              obtain ⟨z_43, w6_43, rfl, rfl, rfl, rfl, p0_43, p1_43, p2_43, p3_43⟩ := hq_43
              show W p l e (gRm 3 63) s m args below meth c _ _ 0 0 Q (F0 m 110 ls [.int (iI z_43)])
              have hP : gWd D (rwT k ad) (va_up (va_up (va_up (va_up v 6 w6_43) 9 w9_42) 16 w16_34) 17 w17_34) (va_up (va_up f 12 a12_42) 13 a13_42) g H := ⟨hP.1, (gF_up (V := rwV) (F := rwF) (gF_up (V := rwV) (F := rwF) (gR_up (V := rwV) (F := rwF) (gR_up (V := rwV) (F := rwF) (gR_up (V := rwV) (F := rwF) (gR_up (V := rwV) (F := rwF) ⟨hok.1, hok.2⟩ 6 (hP.2.1 6)) 9 (hP.2.1 9)) 16 (hP.2.1 16)) 17 (hP.2.1 17)) 12 (hP.2.2 12)) 13 (hP.2.2 13))⟩
              replace p0_43 : 0 ≤ z_43 ∧ z_43 ≤ 1 := p0_43
              replace p1_43 : z_43 = 1 ↔ w16_34 = 0 := p1_43
              replace p2_43 : w16_34 ≠ 0 → w6_43 = w6_35 := p2_43
              replace p3_43 : w16_34 = 0 → (tK (f 0) nn (tX (f 0) nn pp)) ≠ 256 → (tK (f 0) nn (tX (f 0) nn pp)) ≠ 257 → tAt (f 0) nn (f 6) (f 7) (f 8) (v 5) w6_43 (tX (f 0) nn (tX (f 0) nn pp)) := p3_43
              have rw6_43 : 0 ≤ w6_43 ∧ w6_43 ≤ 700 := hP.2.1 6
              first | replace p2_43 := p2_43 (by omega) | clear p2_43
              try have hH3 := p3_43 (by omega) (by omega) (by omega)
              clear p3_43
              refine lv_pop hx hb dX3_readKey_110 rfl ?_
              exact g_vret hQ C hr hlocks hP hS dX3_readKey_111 ⟨w6_43, w9_42, w16_34, w17_34, a12_42, a13_42, rfl, rfl, rfl, rfl, (by first | exact oX_ok (ky1_d (by omega) (by omega) (by omega)) (by omega) (by omega) hH3 | exact oX_bad (ky1_a (by omega)) (by omega) (by omega) (by omega) (tAt_eq hc (by omega)) | exact oX_bad (ky1_b (by omega) (by omega)) (by decide) (by omega) (by omega) (tAt_eq hc (by omega)) | exact oX_bad (ky1_c (by omega) (by omega) (by omega)) (by omega) (by omega) (by omega) (tAt_eq hc2 (by omega))), (by first | omega | (split <;> omega))⟩
            · refine lv_aload_n hx hb dX3_readKey_90 rfl (lv_at hl 2 rfl) ?_
              refine g_cv (As := []) (rest := []) (n := 0) C hml (e_La_refuseToken l D k A ad hD (va_up (va_up (va_up (va_up v 6 w6_35) 9 (v 9)) 16 w16_34) 17 w17_34) (va_up (va_up f 12 (f 12)) 13 (f 13)) g nn (tX (f 0) nn pp) (show tAt (f 0) nn (f 6) (f 7) (f 8) (v 5) w6_35 (tX (f 0) nn pp) from hc2)) mM_X3_88 mI_X3_refuseToken mE_X3_refuseToken mN_X3 mC_X3_refuseToken (by decide +kernel) 9 (ci := 3) rfl rfl hP hS (fun _ h => h) ⟨Nat.le_of_ble_eq_true rfl, Nat.le_of_ble_eq_true rfl⟩ ⟨Nat.zero_le _, Nat.zero_le _⟩ hl.1 rfl rfl (Nat.le_of_ble_eq_true rfl) dX3_readKey_91 (fun r_44 v_44 f_44 g_44 H locs hq_44 hP _ hS => ?_)
              obtain ⟨w16_44, w17_44, rfl, rfl, rfl, rfl, p0_44, p1_44⟩ := hq_44
              show W p l e (gRm 3 63) s m args below meth c _ _ 0 0 Q (F0 m 94 ls [])
              have hP : gWd D (rwT k ad) (va_up (va_up (va_up (va_up v 6 w6_35) 9 (v 9)) 16 w16_44) 17 w17_44) (va_up (va_up f 12 (f 12)) 13 (f 13)) g H := ⟨hP.1, (gF_up (V := rwV) (F := rwF) (gF_up (V := rwV) (F := rwF) (gR_up (V := rwV) (F := rwF) (gR_up (V := rwV) (F := rwF) (gR_up (V := rwV) (F := rwF) (gR_up (V := rwV) (F := rwF) ⟨hok.1, hok.2⟩ 6 (hP.2.1 6)) 9 (hP.2.1 9)) 16 (hP.2.1 16)) 17 (hP.2.1 17)) 12 (hP.2.2 12)) 13 (hP.2.2 13))⟩
              replace p0_44 : w16_34 = 0 → w16_44 = (fk (f 0) nn (tX (f 0) nn pp)) ∧ w17_44 = (tX (f 0) nn pp) := p0_44
              replace p1_44 : w16_34 ≠ 0 → w16_44 = w16_34 ∧ w17_44 = w17_34 := p1_44
              have rw16_44 : 0 ≤ w16_44 ∧ w16_44 ≤ 5 := hP.2.1 16
              have rw17_44 : (-1) ≤ w17_44 ∧ w17_44 ≤ 700 := hP.2.1 17
              first | replace p0_44 := p0_44 (by omega) | clear p0_44
              first | replace p1_44 := p1_44 (by omega) | clear p1_44
              refine lv_goto (tgt := 106) hx hb dX3_readKey_94 (by decide) ?_
              refine lv_aload_n hx hb dX3_readKey_106 rfl (lv_at hl 2 rfl) ?_
              refine g_cv (As := []) (rest := []) (n := 0) C hml (e_La_goOn l D k A ad hD (va_up (va_up (va_up (va_up v 6 w6_35) 9 (v 9)) 16 w16_44) 17 w17_44) (va_up (va_up f 12 (f 12)) 13 (f 13)) g nn (tX (f 0) nn pp) (show tAt (f 0) nn (f 6) (f 7) (f 8) (v 5) w6_35 (tX (f 0) nn pp) from hc2)) mM_X3_70 mI_X3_goOn mE_X3_goOn mN_X3 mC_X3_goOn (by decide +kernel) 9 (ci := 3) rfl rfl hP hS (fun _ h => h) ⟨Nat.le_of_ble_eq_true rfl, Nat.le_of_ble_eq_true rfl⟩ ⟨Nat.zero_le _, Nat.zero_le _⟩ hl.1 rfl rfl (Nat.le_of_ble_eq_true rfl) dX3_readKey_107 (fun r_45 v_45 f_45 g_45 H locs hq_45 hP _ hS => ?_)
              obtain ⟨z_45, w6_45, rfl, rfl, rfl, rfl, p0_45, p1_45, p2_45, p3_45⟩ := hq_45
              show W p l e (gRm 3 63) s m args below meth c _ _ 0 0 Q (F0 m 110 ls [.int (iI z_45)])
              have hP : gWd D (rwT k ad) (va_up (va_up (va_up (va_up v 6 w6_45) 9 (v 9)) 16 w16_44) 17 w17_44) (va_up (va_up f 12 (f 12)) 13 (f 13)) g H := ⟨hP.1, (gF_up (V := rwV) (F := rwF) (gF_up (V := rwV) (F := rwF) (gR_up (V := rwV) (F := rwF) (gR_up (V := rwV) (F := rwF) (gR_up (V := rwV) (F := rwF) (gR_up (V := rwV) (F := rwF) ⟨hok.1, hok.2⟩ 6 (hP.2.1 6)) 9 (hP.2.1 9)) 16 (hP.2.1 16)) 17 (hP.2.1 17)) 12 (hP.2.2 12)) 13 (hP.2.2 13))⟩
              replace p0_45 : 0 ≤ z_45 ∧ z_45 ≤ 1 := p0_45
              replace p1_45 : z_45 = 1 ↔ w16_44 = 0 := p1_45
              replace p2_45 : w16_44 ≠ 0 → w6_45 = w6_35 := p2_45
              replace p3_45 : w16_44 = 0 → (tK (f 0) nn (tX (f 0) nn pp)) ≠ 256 → (tK (f 0) nn (tX (f 0) nn pp)) ≠ 257 → tAt (f 0) nn (f 6) (f 7) (f 8) (v 5) w6_45 (tX (f 0) nn (tX (f 0) nn pp)) := p3_45
              have rw6_45 : 0 ≤ w6_45 ∧ w6_45 ≤ 700 := hP.2.1 6
              first | replace p2_45 := p2_45 (by omega) | clear p2_45
              try have hH3 := p3_45 (by omega) (by omega) (by omega)
              clear p3_45
              refine lv_pop hx hb dX3_readKey_110 rfl ?_
              exact g_vret hQ C hr hlocks hP hS dX3_readKey_111 ⟨w6_45, (v 9), w16_44, w17_44, (f 12), (f 13), rfl, rfl, rfl, rfl, (by first | exact oX_ok (ky1_d (by omega) (by omega) (by omega)) (by omega) (by omega) hH3 | exact oX_bad (ky1_a (by omega)) (by omega) (by omega) (by omega) (tAt_eq hc (by omega)) | exact oX_bad (ky1_b (by omega) (by omega)) (by decide) (by omega) (by omega) (tAt_eq hc (by omega)) | exact oX_bad (ky1_c (by omega) (by omega) (by omega)) (by omega) (by omega) (by omega) (tAt_eq hc2 (by omega))), (by first | omega | (split <;> omega))⟩
        · exfalso; omega
      · refine lv_iconst (v := iI 1) hx hb dX3_readKey_52 rfl ?_
        refine lv_goto (tgt := 57) hx hb dX3_readKey_53 (by decide) ?_
        refine lv_iconst (v := iI 3) hx hb dX3_readKey_57 rfl ?_
        refine g_cv (As := [.int (iI 1), .int (iI 3)]) (rest := []) (n := 2) C hml (e_La_refuseIf l D k A ad hD (va_up (va_up (va_up (va_up v 6 (v 6)) 9 (v 9)) 16 (v 16)) 17 (v 17)) (va_up (va_up f 12 (f 12)) 13 (f 13)) g 1 3 nn pp (by decide) (by decide) (show tAt (f 0) nn (f 6) (f 7) (f 8) (v 5) (v 6) pp from hc) (show 1 ≤ (3 : Int) ∧ (3 : Int) ≤ 5 from by omega)) mM_X3_66 mI_X3_refuseIf mE_X3_refuseIf mN_X3 mC_X3_refuseIf (by decide +kernel) 9 (ci := 3) rfl rfl hP hS (fun _ h => h) ⟨Nat.le_of_ble_eq_true rfl, Nat.le_of_ble_eq_true rfl⟩ ⟨Nat.zero_le _, Nat.zero_le _⟩ hl.1 rfl rfl (Nat.le_of_ble_eq_true rfl) dX3_readKey_58 (fun r_46 v_46 f_46 g_46 H locs hq_46 hP _ hS => ?_)
        obtain ⟨w16_46, w17_46, rfl, rfl, rfl, rfl, p0_46, p1_46⟩ := hq_46
        show W p l e (gRm 3 63) s m args below meth c _ _ 0 0 Q (F0 m 61 ls [])
        have hP : gWd D (rwT k ad) (va_up (va_up (va_up (va_up v 6 (v 6)) 9 (v 9)) 16 w16_46) 17 w17_46) (va_up (va_up f 12 (f 12)) 13 (f 13)) g H := ⟨hP.1, (gF_up (V := rwV) (F := rwF) (gF_up (V := rwV) (F := rwF) (gR_up (V := rwV) (F := rwF) (gR_up (V := rwV) (F := rwF) (gR_up (V := rwV) (F := rwF) (gR_up (V := rwV) (F := rwF) ⟨hok.1, hok.2⟩ 6 (hP.2.1 6)) 9 (hP.2.1 9)) 16 (hP.2.1 16)) 17 (hP.2.1 17)) 12 (hP.2.2 12)) 13 (hP.2.2 13))⟩
        replace p0_46 : (1 : Int) = 0 ∨ (v 16) ≠ 0 → w16_46 = (v 16) ∧ w17_46 = (v 17) := p0_46
        replace p1_46 : (1 : Int) ≠ 0 → (v 16) = 0 → w16_46 = (3 : Int) ∧ w17_46 = pp := p1_46
        have rw16_46 : 0 ≤ w16_46 ∧ w16_46 ≤ 5 := hP.2.1 16
        have rw17_46 : (-1) ≤ w17_46 ∧ w17_46 ≤ 700 := hP.2.1 17
        first | replace p0_46 := p0_46 (by omega) | clear p0_46
        first | replace p1_46 := p1_46 (by omega) (by omega) | clear p1_46
        refine lv_aload_n hx hb dX3_readKey_61 rfl (lv_at hl 1 rfl) ?_
        refine g_cv (As := []) (rest := []) (n := 0) C hml (e_La_goOn l D k A ad hD (va_up (va_up (va_up (va_up v 6 (v 6)) 9 (v 9)) 16 w16_46) 17 w17_46) (va_up (va_up f 12 (f 12)) 13 (f 13)) g nn pp (show tAt (f 0) nn (f 6) (f 7) (f 8) (v 5) (v 6) pp from hc)) mM_X3_70 mI_X3_goOn mE_X3_goOn mN_X3 mC_X3_goOn (by decide +kernel) 9 (ci := 3) rfl rfl hP hS (fun _ h => h) ⟨Nat.le_of_ble_eq_true rfl, Nat.le_of_ble_eq_true rfl⟩ ⟨Nat.zero_le _, Nat.zero_le _⟩ hl.1 rfl rfl (Nat.le_of_ble_eq_true rfl) dX3_readKey_62 (fun r_47 v_47 f_47 g_47 H locs hq_47 hP _ hS => ?_)
        obtain ⟨z_47, w6_47, rfl, rfl, rfl, rfl, p0_47, p1_47, p2_47, p3_47⟩ := hq_47
        show W p l e (gRm 3 63) s m args below meth c _ _ 0 0 Q (F0 m 65 ls [.int (iI z_47)])
        have hP : gWd D (rwT k ad) (va_up (va_up (va_up (va_up v 6 w6_47) 9 (v 9)) 16 w16_46) 17 w17_46) (va_up (va_up f 12 (f 12)) 13 (f 13)) g H := ⟨hP.1, (gF_up (V := rwV) (F := rwF) (gF_up (V := rwV) (F := rwF) (gR_up (V := rwV) (F := rwF) (gR_up (V := rwV) (F := rwF) (gR_up (V := rwV) (F := rwF) (gR_up (V := rwV) (F := rwF) ⟨hok.1, hok.2⟩ 6 (hP.2.1 6)) 9 (hP.2.1 9)) 16 (hP.2.1 16)) 17 (hP.2.1 17)) 12 (hP.2.2 12)) 13 (hP.2.2 13))⟩
        replace p0_47 : 0 ≤ z_47 ∧ z_47 ≤ 1 := p0_47
        replace p1_47 : z_47 = 1 ↔ w16_46 = 0 := p1_47
        replace p2_47 : w16_46 ≠ 0 → w6_47 = (v 6) := p2_47
        replace p3_47 : w16_46 = 0 → (tK (f 0) nn pp) ≠ 256 → (tK (f 0) nn pp) ≠ 257 → tAt (f 0) nn (f 6) (f 7) (f 8) (v 5) w6_47 (tX (f 0) nn pp) := p3_47
        have rw6_47 : 0 ≤ w6_47 ∧ w6_47 ≤ 700 := hP.2.1 6
        first | replace p2_47 := p2_47 (by omega) | clear p2_47
        try have hc2 := p3_47 (by omega) (by omega) (by omega)
        clear p3_47
        refine gi_zne (tgt := 69) hx hb dX3_readKey_65 (by decide) (by omega) (fun c_48 => ?_) (fun c_48 => ?_)
        · exfalso; omega
        · exact g_vret hQ C hr hlocks hP hS dX3_readKey_68 ⟨w6_47, (v 9), w16_46, w17_46, (f 12), (f 13), rfl, rfl, rfl, rfl, (by first | exact oX_ok (ky1_d (by omega) (by omega) (by omega)) (by omega) (by omega) hH3 | exact oX_bad (ky1_a (by omega)) (by omega) (by omega) (by omega) (tAt_eq hc (by omega)) | exact oX_bad (ky1_b (by omega) (by omega)) (by decide) (by omega) (by omega) (tAt_eq hc (by omega)) | exact oX_bad (ky1_c (by omega) (by omega) (by omega)) (by omega) (by omega) (by omega) (tAt_eq hc2 (by omega))), (by first | omega | (split <;> omega))⟩
    · exfalso; omega

set_option maxHeartbeats 4000000 in
set_option maxRecDepth 100000 in
theorem e_La_readKeys (l : Launch) (D : va_G) (k : Nat → ClassId) (A : Nat → Prop) (ad : Nat → Nat) (hD : rwD A k ad) (v : gV) (f g : gF) (nn : Int) (pp : Int) (hc : tAt (f 0) nn (f 6) (f 7) (f 8) (v 5) (v 6) pp) (hk : (tK (f 0) nn pp) ≠ 256 ∧ (tK (f 0) nn pp) ≠ 257) : GM l D k A (rwT k ad) yX3_readKeys cX3_readKeys 2 none 4 85 [.ref (ad 9)] v f g (fun r v1 f1 g1 => ∃ (w6 : Int) (w9 : Int) (w16 : Int) (w17 : Int) (a12_ : Int → Int) (a13_ : Int → Int), r = none ∧ (va_up (va_up (va_up (va_up v 6 w6) 9 w9) 16 w16) 17 w17) = v1 ∧ (va_up (va_up f 12 a12_) 13 a13_) = f1 ∧ g = g1 ∧ ((v 16) = 0 → oX (f 0) nn (f 6) (f 7) (f 8) (v 5) (kys (f 0) nn 4 (tX (f 0) nn pp)) w16 w17 (v 17) w6) ∧ ((v 16) ≠ 0 → w16 = (v 16) ∧ w17 = (v 17) ∧ w6 = (v 6))) := by
  refine GM.of (by decide) (Nat.le_of_ble_eq_true rfl) ?_
  intro p e s m args below meth c Q ls hQ C hml hr hlocks hP hl
  have hx := C.1
  have hb := C.2.1
  have hok := hP.2
  have hS : va_S A s.heap s.heap [] := va_S.rf
  have hl : lv_has ls 2 [(0, .ref (ad 9))] := hl
  have hP : gWd D (rwT k ad) (va_up (va_up (va_up (va_up v 6 (v 6)) 9 (v 9)) 16 (v 16)) 17 (v 17)) (va_up (va_up f 12 (f 12)) 13 (f 13)) g s.heap := by rw [va_id, va_id, va_id, va_id, va_id, va_id]; exact hP
  have r_1 : 0 ≤ (v 16) ∧ (v 16) ≤ 5 := hok.1 16
  refine lv_aload_n hx hb dX3_readKeys_0 rfl (lv_at hl 0 rfl) ?_
  refine rwG_reader_draft C hP mF_X3_21 dX3_readKeys_1 ?_
  refine lv_iconst (v := iI 0) hx hb dX3_readKeys_4 rfl ?_
  refine rwP_reader_draft_keys (v1 := (va_up (va_up (va_up (va_up v 6 (v 6)) 9 0) 16 (v 16)) 17 (v 17))) C hP hD hS mF_X3_116 (by decide) rfl (Or.inr (gF_up (V := rwV) (F := rwF) (gF_up (V := rwV) (F := rwF) (gR_up (V := rwV) (F := rwF) (gR_up (V := rwV) (F := rwF) (gR_up (V := rwV) (F := rwF) (gR_up (V := rwV) (F := rwF) ⟨hok.1, hok.2⟩ 6 (hP.2.1 6)) 9 (show 0 ≤ 0 ∧ 0 ≤ 4 from by decide)) 16 (hP.2.1 16)) 17 (hP.2.1 17)) 12 (hP.2.2 12)) 13 (hP.2.2 13))) dX3_readKeys_5 (fun H locs hP hS => ?_)
  refine lv_iconst (v := iI 0) hx hb dX3_readKeys_8 rfl ?_
  refine lv_istore_n (lv' := [(1, .int (iI 0)), (0, .ref (ad 9))]) hx hb dX3_readKeys_9 rfl hl (by decide) rfl (fun ls hl => ?_)
  have L_2 : ∀ (n : Nat) (x1 : Int) (qq : Int) (y6_2 : Int) (y9_2 : Int) (y16_2 : Int) (y17_2 : Int) (c12_2 : Int → Int) (c13_2 : Int → Int) (H : Heap) (locs : List Loc) (ls : Array Slot), 5 - x1 < (n : Int) → (0 ≤ x1 ∧ x1 ≤ 5) → (tAt (f 0) nn (f 6) (f 7) (f 8) (v 5) y6_2 qq) → (y16_2 = 0 → (tK (f 0) nn qq ≠ 256 ∧ tK (f 0) nn qq ≠ 257) ∧ y17_2 = (v 17) ∧ y9_2 = x1 ∧ x1 ≤ 4) → (y16_2 = 0 → kys (f 0) nn (4 - x1).toNat (tX (f 0) nn qq) = (kys (f 0) nn 4 (tX (f 0) nn pp))) → (y16_2 ≠ 0 → (v 16) = 0 → oX (f 0) nn (f 6) (f 7) (f 8) (v 5) (kys (f 0) nn 4 (tX (f 0) nn pp)) y16_2 y17_2 (v 17) y6_2) → ((v 16) ≠ 0 → y16_2 = (v 16) ∧ y17_2 = (v 17) ∧ y6_2 = (v 6)) → gWd D (rwT k ad) (va_up (va_up (va_up (va_up v 6 y6_2) 9 y9_2) 16 y16_2) 17 y17_2) (va_up (va_up f 12 c12_2) 13 c13_2) g H → va_S A s.heap H locs → lv_has ls 2 [(0, .ref (ad 9)), (1, .int (iI x1))] → W p l e (gRm 4 85) s m args below meth c H locs 0 0 Q (F0 m 10 ls []) := by
    intro n
    induction n with
    | zero =>
      intro x1 qq y6_2 y9_2 y16_2 y17_2 c12_2 c13_2 H locs ls hn_2 i2_0 i2_1 i2_2 i2_3 i2_4 i2_5 hP hS hl
      have ry6_2 : 0 ≤ y6_2 ∧ y6_2 ≤ 700 := hP.2.1 6
      have ry9_2 : 0 ≤ y9_2 ∧ y9_2 ≤ 4 := hP.2.1 9
      have ry16_2 : 0 ≤ y16_2 ∧ y16_2 ≤ 5 := hP.2.1 16
      have ry17_2 : (-1) ≤ y17_2 ∧ y17_2 ≤ 700 := hP.2.1 17
      exfalso; omega
    | succ n ih_10 =>
      intro x1 qq y6_2 y9_2 y16_2 y17_2 c12_2 c13_2 H locs ls hn_2 i2_0 i2_1 i2_2 i2_3 i2_4 i2_5 hP hS hl
      have ry6_2 : 0 ≤ y6_2 ∧ y6_2 ≤ 700 := hP.2.1 6
      have ry9_2 : 0 ≤ y9_2 ∧ y9_2 ≤ 4 := hP.2.1 9
      have ry16_2 : 0 ≤ y16_2 ∧ y16_2 ≤ 5 := hP.2.1 16
      have ry17_2 : (-1) ≤ y17_2 ∧ y17_2 ≤ 700 := hP.2.1 17
      have hJ1 := i2_1
      have hJ2 := i2_2
      have hJ3 := i2_3
      have hJ4 := i2_4
      refine lv_iload_n hx hb dX3_readKeys_10 rfl (lv_at hl 1 rfl) ?_
      refine lv_iconst (v := iI 4) hx hb dX3_readKeys_11 rfl ?_
      refine gi_cgt (tgt := 45) hx hb dX3_readKeys_12 (by decide) (by omega) (by decide) (fun c_3 => ?_) (fun c_3 => ?_)
      · exact g_vret hQ C hr hlocks hP hS dX3_readKeys_45 ⟨y6_2, y9_2, y16_2, y17_2, c12_2, c13_2, rfl, rfl, rfl, rfl, (by first | exact fun h => (by rw [← hJ3 hf0, kys_stop (by omega) (by omega) (Or.inr (by omega))]; exact ⟨hOX.1, fun h9 => by have := hOX.2.1 h9; omega, hOX.2.2.1, hOX.2.2.2⟩) | exact fun h => (by have q := hJ4 (by omega) h; exact ⟨q.1, q.2.1, q.2.2.1, tAt_eq q.2.2.2 (by omega)⟩) | (intro h; exfalso; omega)), (by first | omega | (split <;> omega))⟩
      · refine lv_aload_n hx hb dX3_readKeys_15 rfl (lv_at hl 0 rfl) ?_
        refine g_cv (As := []) (rest := []) (n := 0) C hml (e_La_goOn l D k A ad hD (va_up (va_up (va_up (va_up v 6 y6_2) 9 y9_2) 16 y16_2) 17 y17_2) (va_up (va_up f 12 c12_2) 13 c13_2) g nn qq (show tAt (f 0) nn (f 6) (f 7) (f 8) (v 5) y6_2 qq from hJ1)) mM_X3_70 mI_X3_goOn mE_X3_goOn mN_X3 mC_X3_goOn (by decide +kernel) 9 (ci := 3) rfl rfl hP hS (fun _ h => h) ⟨Nat.le_of_ble_eq_true rfl, Nat.le_of_ble_eq_true rfl⟩ ⟨Nat.zero_le _, Nat.zero_le _⟩ hl.1 rfl rfl (Nat.le_of_ble_eq_true rfl) dX3_readKeys_16 (fun r_4 v_4 f_4 g_4 H locs hq_4 hP _ hS => ?_)
        obtain ⟨z_4, w6_4, rfl, rfl, rfl, rfl, p0_4, p1_4, p2_4, p3_4⟩ := hq_4
        show W p l e (gRm 4 85) s m args below meth c _ _ 0 0 Q (F0 m 19 ls [.int (iI z_4)])
        have hP : gWd D (rwT k ad) (va_up (va_up (va_up (va_up v 6 w6_4) 9 y9_2) 16 y16_2) 17 y17_2) (va_up (va_up f 12 c12_2) 13 c13_2) g H := ⟨hP.1, (gF_up (V := rwV) (F := rwF) (gF_up (V := rwV) (F := rwF) (gR_up (V := rwV) (F := rwF) (gR_up (V := rwV) (F := rwF) (gR_up (V := rwV) (F := rwF) (gR_up (V := rwV) (F := rwF) ⟨hok.1, hok.2⟩ 6 (hP.2.1 6)) 9 (hP.2.1 9)) 16 (hP.2.1 16)) 17 (hP.2.1 17)) 12 (hP.2.2 12)) 13 (hP.2.2 13))⟩
        replace p0_4 : 0 ≤ z_4 ∧ z_4 ≤ 1 := p0_4
        replace p1_4 : z_4 = 1 ↔ y16_2 = 0 := p1_4
        replace p2_4 : y16_2 ≠ 0 → w6_4 = y6_2 := p2_4
        replace p3_4 : y16_2 = 0 → (tK (f 0) nn qq) ≠ 256 → (tK (f 0) nn qq) ≠ 257 → tAt (f 0) nn (f 6) (f 7) (f 8) (v 5) w6_4 (tX (f 0) nn qq) := p3_4
        have rw6_4 : 0 ≤ w6_4 ∧ w6_4 ≤ 700 := hP.2.1 6
        have hG3 := p3_4
        clear p3_4
        refine gi_zeq (tgt := 45) hx hb dX3_readKeys_19 (by decide) (by omega) (fun c_5 => ?_) (fun c_5 => ?_)
        · exact g_vret hQ C hr hlocks hP hS dX3_readKeys_45 ⟨w6_4, y9_2, y16_2, y17_2, c12_2, c13_2, rfl, rfl, rfl, rfl, (by first | exact fun h => (by rw [← hJ3 hf0, kys_stop (by omega) (by omega) (Or.inr (by omega))]; exact ⟨hOX.1, fun h9 => by have := hOX.2.1 h9; omega, hOX.2.2.1, hOX.2.2.2⟩) | exact fun h => (by have q := hJ4 (by omega) h; exact ⟨q.1, q.2.1, q.2.2.1, tAt_eq q.2.2.2 (by omega)⟩) | (intro h; exfalso; omega)), (by first | omega | (split <;> omega))⟩
        · have hf0 : y16_2 = 0 := by omega
          have hc2 := hG3 hf0 (hJ2 hf0).1.1 (hJ2 hf0).1.2
          have hkx := (hJ2 hf0).2.2.1
          have hx4 := (hJ2 hf0).2.2.2
          refine lv_aload_n hx hb dX3_readKeys_22 rfl (lv_at hl 0 rfl) ?_
          refine g_cv (As := []) (rest := []) (n := 0) C hml (e_La_readKey l D k A ad hD (va_up (va_up (va_up (va_up v 6 w6_4) 9 y9_2) 16 y16_2) 17 y17_2) (va_up (va_up f 12 c12_2) 13 c13_2) g nn (tX (f 0) nn qq) (show tAt (f 0) nn (f 6) (f 7) (f 8) (v 5) w6_4 (tX (f 0) nn qq) from hc2) (show y16_2 = 0 from by omega)) mM_X3_119 mI_X3_readKey mE_X3_readKey mN_X3 mC_X3_readKey (by decide +kernel) 9 (ci := 3) rfl rfl hP hS (fun _ h => h) ⟨Nat.le_of_ble_eq_true rfl, Nat.le_of_ble_eq_true rfl⟩ ⟨Nat.zero_le _, Nat.zero_le _⟩ hl.1 rfl rfl (Nat.le_of_ble_eq_true rfl) dX3_readKeys_23 (fun r_6 v_6 f_6 g_6 H locs hq_6 hP _ hS => ?_)
          obtain ⟨w6_6, w9_6, w16_6, w17_6, a12_6, a13_6, rfl, rfl, rfl, rfl, p0_6, p1_6⟩ := hq_6
          show W p l e (gRm 4 85) s m args below meth c _ _ 0 0 Q (F0 m 26 ls [])
          have hP : gWd D (rwT k ad) (va_up (va_up (va_up (va_up v 6 w6_6) 9 w9_6) 16 w16_6) 17 w17_6) (va_up (va_up f 12 a12_6) 13 a13_6) g H := ⟨hP.1, (gF_up (V := rwV) (F := rwF) (gF_up (V := rwV) (F := rwF) (gR_up (V := rwV) (F := rwF) (gR_up (V := rwV) (F := rwF) (gR_up (V := rwV) (F := rwF) (gR_up (V := rwV) (F := rwF) ⟨hok.1, hok.2⟩ 6 (hP.2.1 6)) 9 (hP.2.1 9)) 16 (hP.2.1 16)) 17 (hP.2.1 17)) 12 (hP.2.2 12)) 13 (hP.2.2 13))⟩
          replace p0_6 : oX (f 0) nn (f 6) (f 7) (f 8) (v 5) (ky1 (f 0) nn y9_2 (tX (f 0) nn qq)) w16_6 w17_6 y17_2 w6_6 := p0_6
          replace p1_6 : w16_6 = 0 → w9_6 = y9_2 + 1 := p1_6
          have rw6_6 : 0 ≤ w6_6 ∧ w6_6 ≤ 700 := hP.2.1 6
          have rw9_6 : 0 ≤ w9_6 ∧ w9_6 ≤ 4 := hP.2.1 9
          have rw16_6 : 0 ≤ w16_6 ∧ w16_6 ≤ 5 := hP.2.1 16
          have rw17_6 : (-1) ≤ w17_6 ∧ w17_6 ≤ 700 := hP.2.1 17
          have hOX := p0_6
          have hWk := p1_6
          rw [hkx] at hOX
          refine lv_aload_n hx hb dX3_readKeys_26 rfl (lv_at hl 0 rfl) ?_
          refine rwG_reader_tokens C hP mF_X3_12 dX3_readKeys_27 ?_
          refine g_cv (As := []) (rest := []) (n := 0) C hml (e_To_kind l D k A ad hD (va_up (va_up (va_up (va_up v 6 w6_6) 9 w9_6) 16 w16_6) 17 w17_6) (va_up (va_up f 12 a12_6) 13 a13_6) g nn (ky1 (f 0) nn x1 (tX (f 0) nn qq)).2 (show tAt (f 0) nn (f 6) (f 7) (f 8) (v 5) w6_6 (ky1 (f 0) nn x1 (tX (f 0) nn qq)).2 from hOX.2.2.2)) mM_X3_56 mI_X6_kind mE_X6_kind mN_X6 mC_X6_kind (by decide +kernel) 10 (ci := 6) rfl rfl hP hS (fun _ h => h) ⟨Nat.le_of_ble_eq_true rfl, Nat.le_of_ble_eq_true rfl⟩ ⟨Nat.zero_le _, Nat.zero_le _⟩ hl.1 rfl rfl (Nat.le_of_ble_eq_true rfl) dX3_readKeys_30 (fun r_7 v_7 f_7 g_7 H locs hq_7 hP _ hS => ?_)
          obtain ⟨z_7, rfl, rfl, rfl, rfl, p0_7, p1_7⟩ := hq_7
          show W p l e (gRm 4 85) s m args below meth c _ _ 0 0 Q (F0 m 33 ls [.int (iI z_7)])
          replace p0_7 : z_7 = (tK (f 0) nn (ky1 (f 0) nn x1 (tX (f 0) nn qq)).2) := p0_7
          replace p1_7 : 40 ≤ z_7 ∧ z_7 ≤ 277 := p1_7
          have hz_7 : inR z_7 := (by first | omega | (rw [p0_7]; split <;> omega))
          have hKK := p0_7
          refine lv_bipush (v := iI 44) hx hb dX3_readKeys_33 (by decide) ?_
          refine gi_ceq (tgt := 39) hx hb dX3_readKeys_35 (by decide) (by omega) (by decide) (fun c_8 => ?_) (fun c_8 => ?_)
          · refine lv_iinc (v := iI (x1 + 1)) (lv' := [(1, .int (iI (x1 + 1))), (0, .ref (ad 9))]) hx hb dX3_readKeys_39 hl (k := 1) rfl (by show iI _ + iI 1 = _; rw [iI_add]) (by decide) rfl (fun ls hl => ?_)
            refine lv_goto (tgt := 10) hx hb dX3_readKeys_42 (by decide) ?_
            exact ih_10 (x1 + 1) ((ky1 (f 0) nn x1 (tX (f 0) nn qq)).2) w6_6 w9_6 w16_6 w17_6 a12_6 a13_6 _ _ _ (by omega) (by omega) hOX.2.2.2 (fun h => ⟨by omega, by have := hOX.2.1 (by have := hOX.1; omega); omega, by have := hWk h; omega, by have := ky1_lt (B := (f 0)) (n := nn) (c := x1) (p := tX (f 0) nn qq) (by have := hOX.1; omega); omega⟩) (fun h => by rw [← hJ3 hf0]; exact (kys_go (by omega) (by omega) (by have := hOX.1; omega) (by omega)).symm) (fun h1 h2 => by rw [← hJ3 hf0, kys_stop (by omega) (by omega) (Or.inl (by have := hOX.1; omega))]; exact ⟨hOX.1, fun h9 => absurd h9 (by have := hOX.1; omega), hOX.2.2.1, hOX.2.2.2⟩) (by omega) hP hS (lv_sub hl [1, 0] rfl)
          · exact g_vret hQ C hr hlocks hP hS dX3_readKeys_38 ⟨w6_6, w9_6, w16_6, w17_6, a12_6, a13_6, rfl, rfl, rfl, rfl, (by first | exact fun h => (by rw [← hJ3 hf0, kys_stop (by omega) (by omega) (Or.inr (by omega))]; exact ⟨hOX.1, fun h9 => by have := hOX.2.1 h9; omega, hOX.2.2.1, hOX.2.2.2⟩) | exact fun h => (by have q := hJ4 (by omega) h; exact ⟨q.1, q.2.1, q.2.2.1, tAt_eq q.2.2.2 (by omega)⟩) | (intro h; exfalso; omega)), (by first | omega | (split <;> omega))⟩
  exact L_2 6 0 (pp) (v 6) 0 (v 16) (v 17) (f 12) (f 13) _ _ _ (by omega) (by omega) hc (fun _ => ⟨hk, rfl, rfl, by decide⟩) (fun _ => rfl) (fun h1 h2 => absurd h2 h1) (by omega) hP hS (lv_sub hl [1, 0] rfl)
