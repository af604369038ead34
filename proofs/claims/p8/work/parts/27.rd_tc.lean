set_option maxHeartbeats 4000000 in
set_option maxRecDepth 100000 in
theorem e_La_note (l : Launch) (D : va_G) (k : Nat → ClassId) (A : Nat → Prop) (ad : Nat → Nat) (hD : rwD A k ad) (v : gV) (f g : gF) (a1 : Int) (nn : Int) (pp : Int) (h_a1 : inR a1) (hc : tAt (f 0) nn (f 6) (f 7) (f 8) (v 5) (v 6) pp) (h1 : 0 ≤ a1 ∧ a1 ≤ 5) : GM l D k A (rwT k ad) yX3_note cX3_note 2 none 1 20 [.ref (ad 9), .int (iI a1)] v f g (fun r v1 f1 g1 => ∃ (w16 : Int) (w17 : Int), r = none ∧ (va_up (va_up v 16 w16) 17 w17) = v1 ∧ f = f1 ∧ g = g1 ∧ ((v 16) = 0 → w16 = a1) ∧ ((v 16) = 0 → a1 ≠ 0 → w17 = pp) ∧ ((v 16) ≠ 0 ∨ a1 = 0 → w16 = (v 16) ∧ w17 = (v 17))) := by
  refine GM.of (by decide) (Nat.le_of_ble_eq_true rfl) ?_
  intro p e s m args below meth c Q ls hQ C hml hr hlocks hP hl
  have hx := C.1
  have hb := C.2.1
  have hok := hP.2
  have hS : va_S A s.heap s.heap [] := va_S.rf
  have hl : lv_has ls 2 [(0, .ref (ad 9)), (1, .int (iI a1))] := hl
  have hP : gWd D (rwT k ad) (va_up (va_up v 16 (v 16)) 17 (v 17)) f g s.heap := by rw [va_id, va_id]; exact hP
  have r_1 : 0 ≤ (v 16) ∧ (v 16) ≤ 5 := hok.1 16
  refine lv_aload_n hx hb dX3_note_0 rfl (lv_at hl 0 rfl) ?_
  refine rwG_reader_fault C hP mF_X3_32 dX3_note_1 ?_
  show W p l e (gRm 1 20) s m args below meth c _ _ 0 0 Q (F0 m 4 ls [.int (iI (v 16))])
  refine gi_zne (tgt := 27) hx hb dX3_note_4 (by decide) (by omega) (fun c_2 => ?_) (fun c_2 => ?_)
  · exact g_vret hQ C hr hlocks hP hS dX3_note_27 ⟨(v 16), (v 17), rfl, rfl, rfl, rfl, (by first | omega | (split <;> omega)), (by first | omega | (split <;> omega)), (by first | omega | (split <;> omega))⟩
  · refine lv_iload_n hx hb dX3_note_7 rfl (lv_at hl 1 rfl) ?_
    refine gi_zeq (tgt := 27) hx hb dX3_note_8 (by decide) (by omega) (fun c_3 => ?_) (fun c_3 => ?_)
    · exact g_vret hQ C hr hlocks hP hS dX3_note_27 ⟨(v 16), (v 17), rfl, rfl, rfl, rfl, (by first | omega | (split <;> omega)), (by first | omega | (split <;> omega)), (by first | omega | (split <;> omega))⟩
    · refine lv_aload_n hx hb dX3_note_11 rfl (lv_at hl 0 rfl) ?_
      refine lv_iload_n hx hb dX3_note_12 rfl (lv_at hl 1 rfl) ?_
      refine rwP_reader_fault (v1 := (va_up (va_up v 16 a1) 17 (v 17))) C hP hD hS mF_X3_32 (by omega) rfl (Or.inr (gR_up (V := rwV) (F := rwF) (gR_up (V := rwV) (F := rwF) ⟨hok.1, hok.2⟩ 16 (show 0 ≤ a1 ∧ a1 ≤ 5 from by omega)) 17 (hP.2.1 17))) dX3_note_13 (fun H locs hP hS => ?_)
      refine lv_aload_n hx hb dX3_note_16 rfl (lv_at hl 0 rfl) ?_
      refine lv_aload_n hx hb dX3_note_17 rfl (lv_at hl 0 rfl) ?_
      refine rwG_reader_tokens C hP mF_X3_12 dX3_note_18 ?_
      refine g_cv (As := []) (rest := [.ref (ad 9)]) (n := 0) C hml (e_To_place l D k A ad hD (va_up (va_up v 16 a1) 17 (v 17)) f g nn pp (show tAt (f 0) nn (f 6) (f 7) (f 8) (v 5) (v 6) pp from hc)) mM_X3_94 mI_X6_place mE_X6_place mN_X6 mC_X6_place (by decide +kernel) 10 (ci := 6) rfl rfl hP hS (fun _ h => h) ⟨Nat.le_of_ble_eq_true rfl, Nat.le_of_ble_eq_true rfl⟩ ⟨Nat.zero_le _, Nat.zero_le _⟩ hl.1 rfl rfl (Nat.le_of_ble_eq_true rfl) dX3_note_21 (fun r_4 v_4 f_4 g_4 H locs hq_4 hP _ hS => ?_)
      obtain ⟨z_4, rfl, rfl, rfl, rfl, p0_4, p1_4⟩ := hq_4
      show W p l e (gRm 1 20) s m args below meth c _ _ 0 0 Q (F0 m 24 ls [.int (iI z_4), .ref (ad 9)])
      replace p0_4 : z_4 = pp := p0_4
      replace p1_4 : 0 ≤ z_4 ∧ z_4 ≤ 700 := p1_4
      have hz_4 : inR z_4 := (by first | omega | (rw [p0_4]; split <;> omega))
      refine rwP_reader_faultPlace (v1 := (va_up (va_up v 16 a1) 17 z_4)) C hP hD hS mF_X3_36 (by omega) rfl (Or.inr (gR_up (V := rwV) (F := rwF) (gR_up (V := rwV) (F := rwF) ⟨hok.1, hok.2⟩ 16 (hP.2.1 16)) 17 (show (-1) ≤ z_4 ∧ z_4 ≤ 700 from by omega))) dX3_note_24 (fun H locs hP hS => ?_)
      exact g_vret hQ C hr hlocks hP hS dX3_note_27 ⟨a1, z_4, rfl, rfl, rfl, rfl, (by first | omega | (split <;> omega)), (by first | omega | (split <;> omega)), (by first | omega | (split <;> omega))⟩

set_option maxHeartbeats 4000000 in
set_option maxRecDepth 100000 in
theorem e_La_refuseIf (l : Launch) (D : va_G) (k : Nat → ClassId) (A : Nat → Prop) (ad : Nat → Nat) (hD : rwD A k ad) (v : gV) (f g : gF) (a1 : Int) (a2 : Int) (nn : Int) (pp : Int) (h_a1 : inR a1) (h_a2 : inR a2) (hc : tAt (f 0) nn (f 6) (f 7) (f 8) (v 5) (v 6) pp) (h2 : 1 ≤ a2 ∧ a2 ≤ 5) : GM l D k A (rwT k ad) yX3_refuseIf cX3_refuseIf 3 none 2 41 [.ref (ad 9), .int (iI a1), .int (iI a2)] v f g (fun r v1 f1 g1 => ∃ (w16 : Int) (w17 : Int), r = none ∧ (va_up (va_up v 16 w16) 17 w17) = v1 ∧ f = f1 ∧ g = g1 ∧ (a1 = 0 ∨ (v 16) ≠ 0 → w16 = (v 16) ∧ w17 = (v 17)) ∧ (a1 ≠ 0 → (v 16) = 0 → w16 = a2 ∧ w17 = pp)) := by
  refine GM.of (by decide) (Nat.le_of_ble_eq_true rfl) ?_
  intro p e s m args below meth c Q ls hQ C hml hr hlocks hP hl
  have hx := C.1
  have hb := C.2.1
  have hok := hP.2
  have hS : va_S A s.heap s.heap [] := va_S.rf
  have hl : lv_has ls 3 [(0, .ref (ad 9)), (1, .int (iI a1)), (2, .int (iI a2))] := hl
  have hP : gWd D (rwT k ad) (va_up (va_up v 16 (v 16)) 17 (v 17)) f g s.heap := by rw [va_id, va_id]; exact hP
  have r_1 : 0 ≤ (v 16) ∧ (v 16) ≤ 5 := hok.1 16
  refine lv_iload_n hx hb dX3_refuseIf_0 rfl (lv_at hl 1 rfl) ?_
  refine gi_zeq (tgt := 9) hx hb dX3_refuseIf_1 (by decide) (by omega) (fun c_2 => ?_) (fun c_2 => ?_)
  · exact g_vret hQ C hr hlocks hP hS dX3_refuseIf_9 ⟨(v 16), (v 17), rfl, rfl, rfl, rfl, (by first | omega | (split <;> omega)), (by first | omega | (split <;> omega))⟩
  · refine lv_aload_n hx hb dX3_refuseIf_4 rfl (lv_at hl 0 rfl) ?_
    refine lv_iload_n hx hb dX3_refuseIf_5 rfl (lv_at hl 2 rfl) ?_
    refine g_cv (As := [.int (iI a2)]) (rest := []) (n := 1) C hml (e_La_note l D k A ad hD (va_up (va_up v 16 (v 16)) 17 (v 17)) f g a2 nn pp (by omega) (show tAt (f 0) nn (f 6) (f 7) (f 8) (v 5) (v 6) pp from hc) (show 0 ≤ a2 ∧ a2 ≤ 5 from by omega)) mM_X3_78 mI_X3_note mE_X3_note mN_X3 mC_X3_note (by decide +kernel) 9 (ci := 3) rfl rfl hP hS (fun _ h => h) ⟨Nat.le_of_ble_eq_true rfl, Nat.le_of_ble_eq_true rfl⟩ ⟨Nat.zero_le _, Nat.zero_le _⟩ hl.1 rfl rfl (Nat.le_of_ble_eq_true rfl) dX3_refuseIf_6 (fun r_3 v_3 f_3 g_3 H locs hq_3 hP _ hS => ?_)
    obtain ⟨w16_3, w17_3, rfl, rfl, rfl, rfl, p0_3, p1_3, p2_3⟩ := hq_3
    show W p l e (gRm 2 41) s m args below meth c _ _ 0 0 Q (F0 m 9 ls [])
    have hP : gWd D (rwT k ad) (va_up (va_up v 16 w16_3) 17 w17_3) f g H := ⟨hP.1, (gR_up (V := rwV) (F := rwF) (gR_up (V := rwV) (F := rwF) ⟨hok.1, hok.2⟩ 16 (hP.2.1 16)) 17 (hP.2.1 17))⟩
    replace p0_3 : (v 16) = 0 → w16_3 = a2 := p0_3
    replace p1_3 : (v 16) = 0 → a2 ≠ 0 → w17_3 = pp := p1_3
    replace p2_3 : (v 16) ≠ 0 ∨ a2 = 0 → w16_3 = (v 16) ∧ w17_3 = (v 17) := p2_3
    have rw16_3 : 0 ≤ w16_3 ∧ w16_3 ≤ 5 := hP.2.1 16
    have rw17_3 : (-1) ≤ w17_3 ∧ w17_3 ≤ 700 := hP.2.1 17
    exact g_vret hQ C hr hlocks hP hS dX3_refuseIf_9 ⟨w16_3, w17_3, rfl, rfl, rfl, rfl, (by first | omega | (split <;> omega)), (by first | omega | (split <;> omega))⟩

set_option maxHeartbeats 4000000 in
set_option maxRecDepth 100000 in
theorem e_La_refuseToken (l : Launch) (D : va_G) (k : Nat → ClassId) (A : Nat → Prop) (ad : Nat → Nat) (hD : rwD A k ad) (v : gV) (f g : gF) (nn : Int) (pp : Int) (hc : tAt (f 0) nn (f 6) (f 7) (f 8) (v 5) (v 6) pp) : GM l D k A (rwT k ad) yX3_refuseToken cX3_refuseToken 1 none 2 41 [.ref (ad 9)] v f g (fun r v1 f1 g1 => ∃ (w16 : Int) (w17 : Int), r = none ∧ (va_up (va_up v 16 w16) 17 w17) = v1 ∧ f = f1 ∧ g = g1 ∧ ((v 16) = 0 → w16 = (fk (f 0) nn pp) ∧ w17 = pp) ∧ ((v 16) ≠ 0 → w16 = (v 16) ∧ w17 = (v 17))) := by
  refine GM.of (by decide) (Nat.le_of_ble_eq_true rfl) ?_
  intro p e s m args below meth c Q ls hQ C hml hr hlocks hP hl
  have hx := C.1
  have hb := C.2.1
  have hok := hP.2
  have hS : va_S A s.heap s.heap [] := va_S.rf
  have hl : lv_has ls 1 [(0, .ref (ad 9))] := hl
  have hP : gWd D (rwT k ad) (va_up (va_up v 16 (v 16)) 17 (v 17)) f g s.heap := by rw [va_id, va_id]; exact hP
  have r_1 : 0 ≤ (v 16) ∧ (v 16) ≤ 5 := hok.1 16
  refine lv_aload_n hx hb dX3_refuseToken_0 rfl (lv_at hl 0 rfl) ?_
  refine lv_aload_n hx hb dX3_refuseToken_1 rfl (lv_at hl 0 rfl) ?_
  refine rwG_reader_tokens C hP mF_X3_12 dX3_refuseToken_2 ?_
  refine g_cv (As := []) (rest := [.ref (ad 9)]) (n := 0) C hml (e_To_kind l D k A ad hD (va_up (va_up v 16 (v 16)) 17 (v 17)) f g nn pp (show tAt (f 0) nn (f 6) (f 7) (f 8) (v 5) (v 6) pp from hc)) mM_X3_56 mI_X6_kind mE_X6_kind mN_X6 mC_X6_kind (by decide +kernel) 10 (ci := 6) rfl rfl hP hS (fun _ h => h) ⟨Nat.le_of_ble_eq_true rfl, Nat.le_of_ble_eq_true rfl⟩ ⟨Nat.zero_le _, Nat.zero_le _⟩ hl.1 rfl rfl (Nat.le_of_ble_eq_true rfl) dX3_refuseToken_5 (fun r_2 v_2 f_2 g_2 H locs hq_2 hP _ hS => ?_)
  obtain ⟨z_2, rfl, rfl, rfl, rfl, p0_2, p1_2⟩ := hq_2
  show W p l e (gRm 2 41) s m args below meth c _ _ 0 0 Q (F0 m 8 ls [.int (iI z_2), .ref (ad 9)])
  replace p0_2 : z_2 = (tK (f 0) nn pp) := p0_2
  replace p1_2 : 40 ≤ z_2 ∧ z_2 ≤ 277 := p1_2
  have hz_2 : inR z_2 := (by first | omega | (rw [p0_2]; split <;> omega))
  refine lv_sipush (v := iI 257) hx hb dX3_refuseToken_8 (by decide) ?_
  refine gi_cne (tgt := 18) hx hb dX3_refuseToken_11 (by decide) (by omega) (by decide) (fun c_3 => ?_) (fun c_3 => ?_)
  · refine lv_iconst (v := iI 2) hx hb dX3_refuseToken_18 rfl ?_
    refine g_cv (As := [.int (iI 2)]) (rest := []) (n := 1) C hml (e_La_note l D k A ad hD (va_up (va_up v 16 (v 16)) 17 (v 17)) f g 2 nn pp (by decide) (show tAt (f 0) nn (f 6) (f 7) (f 8) (v 5) (v 6) pp from hc) (show 0 ≤ (2 : Int) ∧ (2 : Int) ≤ 5 from by omega)) mM_X3_78 mI_X3_note mE_X3_note mN_X3 mC_X3_note (by decide +kernel) 9 (ci := 3) rfl rfl hP hS (fun _ h => h) ⟨Nat.le_of_ble_eq_true rfl, Nat.le_of_ble_eq_true rfl⟩ ⟨Nat.zero_le _, Nat.zero_le _⟩ hl.1 rfl rfl (Nat.le_of_ble_eq_true rfl) dX3_refuseToken_19 (fun r_4 v_4 f_4 g_4 H locs hq_4 hP _ hS => ?_)
    obtain ⟨w16_4, w17_4, rfl, rfl, rfl, rfl, p0_4, p1_4, p2_4⟩ := hq_4
    show W p l e (gRm 2 41) s m args below meth c _ _ 0 0 Q (F0 m 22 ls [])
    have hP : gWd D (rwT k ad) (va_up (va_up v 16 w16_4) 17 w17_4) f g H := ⟨hP.1, (gR_up (V := rwV) (F := rwF) (gR_up (V := rwV) (F := rwF) ⟨hok.1, hok.2⟩ 16 (hP.2.1 16)) 17 (hP.2.1 17))⟩
    replace p0_4 : (v 16) = 0 → w16_4 = (2 : Int) := p0_4
    replace p1_4 : (v 16) = 0 → (2 : Int) ≠ 0 → w17_4 = pp := p1_4
    replace p2_4 : (v 16) ≠ 0 ∨ (2 : Int) = 0 → w16_4 = (v 16) ∧ w17_4 = (v 17) := p2_4
    have rw16_4 : 0 ≤ w16_4 ∧ w16_4 ≤ 5 := hP.2.1 16
    have rw17_4 : (-1) ≤ w17_4 ∧ w17_4 ≤ 700 := hP.2.1 17
    exact g_vret hQ C hr hlocks hP hS dX3_refuseToken_22 ⟨w16_4, w17_4, rfl, rfl, rfl, rfl, (by first | (intro h; rw [fk_p (by omega)]; omega) | (intro h; rw [fk_n (by omega)]; omega)), (by first | omega | (split <;> omega))⟩
  · refine lv_iconst (v := iI 1) hx hb dX3_refuseToken_14 rfl ?_
    refine lv_goto (tgt := 19) hx hb dX3_refuseToken_15 (by decide) ?_
    refine g_cv (As := [.int (iI 1)]) (rest := []) (n := 1) C hml (e_La_note l D k A ad hD (va_up (va_up v 16 (v 16)) 17 (v 17)) f g 1 nn pp (by decide) (show tAt (f 0) nn (f 6) (f 7) (f 8) (v 5) (v 6) pp from hc) (show 0 ≤ (1 : Int) ∧ (1 : Int) ≤ 5 from by omega)) mM_X3_78 mI_X3_note mE_X3_note mN_X3 mC_X3_note (by decide +kernel) 9 (ci := 3) rfl rfl hP hS (fun _ h => h) ⟨Nat.le_of_ble_eq_true rfl, Nat.le_of_ble_eq_true rfl⟩ ⟨Nat.zero_le _, Nat.zero_le _⟩ hl.1 rfl rfl (Nat.le_of_ble_eq_true rfl) dX3_refuseToken_19 (fun r_5 v_5 f_5 g_5 H locs hq_5 hP _ hS => ?_)
    obtain ⟨w16_5, w17_5, rfl, rfl, rfl, rfl, p0_5, p1_5, p2_5⟩ := hq_5
    show W p l e (gRm 2 41) s m args below meth c _ _ 0 0 Q (F0 m 22 ls [])
    have hP : gWd D (rwT k ad) (va_up (va_up v 16 w16_5) 17 w17_5) f g H := ⟨hP.1, (gR_up (V := rwV) (F := rwF) (gR_up (V := rwV) (F := rwF) ⟨hok.1, hok.2⟩ 16 (hP.2.1 16)) 17 (hP.2.1 17))⟩
    replace p0_5 : (v 16) = 0 → w16_5 = (1 : Int) := p0_5
    replace p1_5 : (v 16) = 0 → (1 : Int) ≠ 0 → w17_5 = pp := p1_5
    replace p2_5 : (v 16) ≠ 0 ∨ (1 : Int) = 0 → w16_5 = (v 16) ∧ w17_5 = (v 17) := p2_5
    have rw16_5 : 0 ≤ w16_5 ∧ w16_5 ≤ 5 := hP.2.1 16
    have rw17_5 : (-1) ≤ w17_5 ∧ w17_5 ≤ 700 := hP.2.1 17
    exact g_vret hQ C hr hlocks hP hS dX3_refuseToken_22 ⟨w16_5, w17_5, rfl, rfl, rfl, rfl, (by first | (intro h; rw [fk_p (by omega)]; omega) | (intro h; rw [fk_n (by omega)]; omega)), (by first | omega | (split <;> omega))⟩

set_option maxHeartbeats 4000000 in
set_option maxRecDepth 100000 in
theorem e_La_goOn (l : Launch) (D : va_G) (k : Nat → ClassId) (A : Nat → Prop) (ad : Nat → Nat) (hD : rwD A k ad) (v : gV) (f g : gF) (nn : Int) (pp : Int) (hc : tAt (f 0) nn (f 6) (f 7) (f 8) (v 5) (v 6) pp) : GM l D k A (rwT k ad) yX3_goOn cX3_goOn 1 (some .boolean) 1 20 [.ref (ad 9)] v f g (fun r v1 f1 g1 => ∃ (z : Int) (w6 : Int), r = some (.int (iI z)) ∧ (va_up v 6 w6) = v1 ∧ f = f1 ∧ g = g1 ∧ (0 ≤ z ∧ z ≤ 1) ∧ (z = 1 ↔ (v 16) = 0) ∧ ((v 16) ≠ 0 → w6 = (v 6)) ∧ ((v 16) = 0 → (tK (f 0) nn pp) ≠ 256 → (tK (f 0) nn pp) ≠ 257 → tAt (f 0) nn (f 6) (f 7) (f 8) (v 5) w6 (tX (f 0) nn pp))) := by
  refine GM.of (by decide) (Nat.le_of_ble_eq_true rfl) ?_
  intro p e s m args below meth c Q ls hQ C hml hr hlocks hP hl
  have hx := C.1
  have hb := C.2.1
  have hok := hP.2
  have hS : va_S A s.heap s.heap [] := va_S.rf
  have hl : lv_has ls 1 [(0, .ref (ad 9))] := hl
  have hP : gWd D (rwT k ad) (va_up v 6 (v 6)) f g s.heap := by rw [va_id]; exact hP
  have r_1 : 0 ≤ (v 16) ∧ (v 16) ≤ 5 := hok.1 16
  refine lv_aload_n hx hb dX3_goOn_0 rfl (lv_at hl 0 rfl) ?_
  refine rwG_reader_fault C hP mF_X3_32 dX3_goOn_1 ?_
  show W p l e (gRm 1 20) s m args below meth c _ _ 0 0 Q (F0 m 4 ls [.int (iI (v 16))])
  refine gi_zne (tgt := 14) hx hb dX3_goOn_4 (by decide) (by omega) (fun c_2 => ?_) (fun c_2 => ?_)
  · refine lv_aload_n hx hb dX3_goOn_14 rfl (lv_at hl 0 rfl) ?_
    refine rwG_reader_fault C hP mF_X3_32 dX3_goOn_15 ?_
    show W p l e (gRm 1 20) s m args below meth c _ _ 0 0 Q (F0 m 18 ls [.int (iI (v 16))])
    refine gi_zne (tgt := 25) hx hb dX3_goOn_18 (by decide) (by omega) (fun c_3 => ?_) (fun c_3 => ?_)
    · refine lv_iconst (v := iI 0) hx hb dX3_goOn_25 rfl ?_
      exact g_zret hQ C hr hlocks (by decide) hP hS dX3_goOn_26 ⟨0, (v 6), rfl, rfl, rfl, rfl, (by first | omega | (split <;> omega)), (by first | omega | (split <;> omega)), (by first | omega | (split <;> omega)), (by first | (intro h; exfalso; omega) | exact fun _ => hSt)⟩
    · refine lv_iconst (v := iI 1) hx hb dX3_goOn_21 rfl ?_
      refine lv_goto (tgt := 26) hx hb dX3_goOn_22 (by decide) ?_
      exact g_zret hQ C hr hlocks (by decide) hP hS dX3_goOn_26 ⟨1, (v 6), rfl, rfl, rfl, rfl, (by first | omega | (split <;> omega)), (by first | omega | (split <;> omega)), (by first | omega | (split <;> omega)), (by first | (intro h; exfalso; omega) | exact fun _ => hSt)⟩
  · refine lv_aload_n hx hb dX3_goOn_7 rfl (lv_at hl 0 rfl) ?_
    refine rwG_reader_tokens C hP mF_X3_12 dX3_goOn_8 ?_
    refine g_cv (As := []) (rest := []) (n := 0) C hml (e_To_step l D k A ad hD (va_up v 6 (v 6)) f g nn pp (show tAt (f 0) nn (f 6) (f 7) (f 8) (v 5) (v 6) pp from hc)) mM_X3_97 mI_X6_step mE_X6_step mN_X6 mC_X6_step (by decide +kernel) 10 (ci := 6) rfl rfl hP hS (fun _ h => h) ⟨Nat.le_of_ble_eq_true rfl, Nat.le_of_ble_eq_true rfl⟩ ⟨Nat.zero_le _, Nat.zero_le _⟩ hl.1 rfl rfl (Nat.le_of_ble_eq_true rfl) dX3_goOn_11 (fun r_4 v_4 f_4 g_4 H locs hq_4 hP _ hS => ?_)
    obtain ⟨w6_4, rfl, rfl, rfl, rfl, p0_4⟩ := hq_4
    show W p l e (gRm 1 20) s m args below meth c _ _ 0 0 Q (F0 m 14 ls [])
    have hP : gWd D (rwT k ad) (va_up v 6 w6_4) f g H := ⟨hP.1, (gR_up (V := rwV) (F := rwF) ⟨hok.1, hok.2⟩ 6 (hP.2.1 6))⟩
    replace p0_4 : (tK (f 0) nn pp) ≠ 256 → (tK (f 0) nn pp) ≠ 257 → tAt (f 0) nn (f 6) (f 7) (f 8) (v 5) w6_4 (tX (f 0) nn pp) := p0_4
    have rw6_4 : 0 ≤ w6_4 ∧ w6_4 ≤ 700 := hP.2.1 6
    have hSt := p0_4
    refine lv_aload_n hx hb dX3_goOn_14 rfl (lv_at hl 0 rfl) ?_
    refine rwG_reader_fault C hP mF_X3_32 dX3_goOn_15 ?_
    show W p l e (gRm 1 20) s m args below meth c _ _ 0 0 Q (F0 m 18 ls [.int (iI (v 16))])
    refine gi_zne (tgt := 25) hx hb dX3_goOn_18 (by decide) (by omega) (fun c_5 => ?_) (fun c_5 => ?_)
    · refine lv_iconst (v := iI 0) hx hb dX3_goOn_25 rfl ?_
      exact g_zret hQ C hr hlocks (by decide) hP hS dX3_goOn_26 ⟨0, w6_4, rfl, rfl, rfl, rfl, (by first | omega | (split <;> omega)), (by first | omega | (split <;> omega)), (by first | omega | (split <;> omega)), (by first | (intro h; exfalso; omega) | exact fun _ => hSt)⟩
    · refine lv_iconst (v := iI 1) hx hb dX3_goOn_21 rfl ?_
      refine lv_goto (tgt := 26) hx hb dX3_goOn_22 (by decide) ?_
      exact g_zret hQ C hr hlocks (by decide) hP hS dX3_goOn_26 ⟨1, w6_4, rfl, rfl, rfl, rfl, (by first | omega | (split <;> omega)), (by first | omega | (split <;> omega)), (by first | omega | (split <;> omega)), (by first | (intro h; exfalso; omega) | exact fun _ => hSt)⟩

set_option maxHeartbeats 4000000 in
set_option maxRecDepth 100000 in
theorem e_La_pass (l : Launch) (D : va_G) (k : Nat → ClassId) (A : Nat → Prop) (ad : Nat → Nat) (hD : rwD A k ad) (v : gV) (f g : gF) (a1 : Int) (nn : Int) (pp : Int) (h_a1 : inR a1) (hc : tAt (f 0) nn (f 6) (f 7) (f 8) (v 5) (v 6) pp) (ha : a1 ≠ 256 ∧ a1 ≠ 257) : GM l D k A (rwT k ad) yX3_pass cX3_pass 2 none 3 61 [.ref (ad 9), .int (iI a1)] v f g (fun r v1 f1 g1 => ∃ (w6 : Int) (w16 : Int) (w17 : Int), r = none ∧ (va_up (va_up (va_up v 6 w6) 16 w16) 17 w17) = v1 ∧ f = f1 ∧ g = g1 ∧ ((v 16) = 0 → (tK (f 0) nn pp) = a1 → w16 = 0 ∧ w17 = (v 17)) ∧ ((v 16) = 0 → (tK (f 0) nn pp) ≠ a1 → w16 = (fk (f 0) nn pp) ∧ w17 = pp ∧ w6 = (v 6)) ∧ ((v 16) ≠ 0 → w16 = (v 16) ∧ w17 = (v 17) ∧ w6 = (v 6)) ∧ ((v 16) = 0 → (tK (f 0) nn pp) = a1 → tAt (f 0) nn (f 6) (f 7) (f 8) (v 5) w6 (tX (f 0) nn pp))) := by
  refine GM.of (by decide) (Nat.le_of_ble_eq_true rfl) ?_
  intro p e s m args below meth c Q ls hQ C hml hr hlocks hP hl
  have hx := C.1
  have hb := C.2.1
  have hok := hP.2
  have hS : va_S A s.heap s.heap [] := va_S.rf
  have hl : lv_has ls 2 [(0, .ref (ad 9)), (1, .int (iI a1))] := hl
  have hP : gWd D (rwT k ad) (va_up (va_up (va_up v 6 (v 6)) 16 (v 16)) 17 (v 17)) f g s.heap := by rw [va_id, va_id, va_id]; exact hP
  have hfk := fk_rng (f 0) nn pp
  have r_1 : 0 ≤ (v 16) ∧ (v 16) ≤ 5 := hok.1 16
  refine lv_aload_n hx hb dX3_pass_0 rfl (lv_at hl 0 rfl) ?_
  refine rwG_reader_tokens C hP mF_X3_12 dX3_pass_1 ?_
  refine g_cv (As := []) (rest := []) (n := 0) C hml (e_To_kind l D k A ad hD (va_up (va_up (va_up v 6 (v 6)) 16 (v 16)) 17 (v 17)) f g nn pp (show tAt (f 0) nn (f 6) (f 7) (f 8) (v 5) (v 6) pp from hc)) mM_X3_56 mI_X6_kind mE_X6_kind mN_X6 mC_X6_kind (by decide +kernel) 10 (ci := 6) rfl rfl hP hS (fun _ h => h) ⟨Nat.le_of_ble_eq_true rfl, Nat.le_of_ble_eq_true rfl⟩ ⟨Nat.zero_le _, Nat.zero_le _⟩ hl.1 rfl rfl (Nat.le_of_ble_eq_true rfl) dX3_pass_4 (fun r_2 v_2 f_2 g_2 H locs hq_2 hP _ hS => ?_)
  obtain ⟨z_2, rfl, rfl, rfl, rfl, p0_2, p1_2⟩ := hq_2
  show W p l e (gRm 3 61) s m args below meth c _ _ 0 0 Q (F0 m 7 ls [.int (iI z_2)])
  replace p0_2 : z_2 = (tK (f 0) nn pp) := p0_2
  replace p1_2 : 40 ≤ z_2 ∧ z_2 ≤ 277 := p1_2
  have hz_2 : inR z_2 := (by first | omega | (rw [p0_2]; split <;> omega))
  refine lv_iload_n hx hb dX3_pass_7 rfl (lv_at hl 1 rfl) ?_
  refine gi_ceq (tgt := 15) hx hb dX3_pass_8 (by decide) (by omega) (by omega) (fun c_3 => ?_) (fun c_3 => ?_)
  · refine lv_aload_n hx hb dX3_pass_15 rfl (lv_at hl 0 rfl) ?_
    refine g_cv (As := []) (rest := []) (n := 0) C hml (e_La_goOn l D k A ad hD (va_up (va_up (va_up v 6 (v 6)) 16 (v 16)) 17 (v 17)) f g nn pp (show tAt (f 0) nn (f 6) (f 7) (f 8) (v 5) (v 6) pp from hc)) mM_X3_70 mI_X3_goOn mE_X3_goOn mN_X3 mC_X3_goOn (by decide +kernel) 9 (ci := 3) rfl rfl hP hS (fun _ h => h) ⟨Nat.le_of_ble_eq_true rfl, Nat.le_of_ble_eq_true rfl⟩ ⟨Nat.zero_le _, Nat.zero_le _⟩ hl.1 rfl rfl (Nat.le_of_ble_eq_true rfl) dX3_pass_16 (fun r_4 v_4 f_4 g_4 H locs hq_4 hP _ hS => ?_)
    obtain ⟨z_4, w6_4, rfl, rfl, rfl, rfl, p0_4, p1_4, p2_4, p3_4⟩ := hq_4
    show W p l e (gRm 3 61) s m args below meth c _ _ 0 0 Q (F0 m 19 ls [.int (iI z_4)])
    have hP : gWd D (rwT k ad) (va_up (va_up (va_up v 6 w6_4) 16 (v 16)) 17 (v 17)) f g H := ⟨hP.1, (gR_up (V := rwV) (F := rwF) (gR_up (V := rwV) (F := rwF) (gR_up (V := rwV) (F := rwF) ⟨hok.1, hok.2⟩ 6 (hP.2.1 6)) 16 (hP.2.1 16)) 17 (hP.2.1 17))⟩
    replace p0_4 : 0 ≤ z_4 ∧ z_4 ≤ 1 := p0_4
    replace p1_4 : z_4 = 1 ↔ (v 16) = 0 := p1_4
    replace p2_4 : (v 16) ≠ 0 → w6_4 = (v 6) := p2_4
    replace p3_4 : (v 16) = 0 → (tK (f 0) nn pp) ≠ 256 → (tK (f 0) nn pp) ≠ 257 → tAt (f 0) nn (f 6) (f 7) (f 8) (v 5) w6_4 (tX (f 0) nn pp) := p3_4
    have rw6_4 : 0 ≤ w6_4 ∧ w6_4 ≤ 700 := hP.2.1 6
    have hG2 := p2_4
    have hG3 := p3_4
    refine lv_pop hx hb dX3_pass_19 rfl ?_
    exact g_vret hQ C hr hlocks hP hS dX3_pass_20 ⟨w6_4, (v 16), (v 17), rfl, rfl, rfl, rfl, (by first | omega | (split <;> omega)), (by first | omega | (split <;> omega)), (by first | omega | (split <;> omega)), (by first | (intro h1 h2; exfalso; omega) | exact fun h1 h2 => hG3 h1 (by omega) (by omega))⟩
  · refine lv_aload_n hx hb dX3_pass_11 rfl (lv_at hl 0 rfl) ?_
    refine g_cv (As := []) (rest := []) (n := 0) C hml (e_La_refuseToken l D k A ad hD (va_up (va_up (va_up v 6 (v 6)) 16 (v 16)) 17 (v 17)) f g nn pp (show tAt (f 0) nn (f 6) (f 7) (f 8) (v 5) (v 6) pp from hc)) mM_X3_88 mI_X3_refuseToken mE_X3_refuseToken mN_X3 mC_X3_refuseToken (by decide +kernel) 9 (ci := 3) rfl rfl hP hS (fun _ h => h) ⟨Nat.le_of_ble_eq_true rfl, Nat.le_of_ble_eq_true rfl⟩ ⟨Nat.zero_le _, Nat.zero_le _⟩ hl.1 rfl rfl (Nat.le_of_ble_eq_true rfl) dX3_pass_12 (fun r_5 v_5 f_5 g_5 H locs hq_5 hP _ hS => ?_)
    obtain ⟨w16_5, w17_5, rfl, rfl, rfl, rfl, p0_5, p1_5⟩ := hq_5
    show W p l e (gRm 3 61) s m args below meth c _ _ 0 0 Q (F0 m 15 ls [])
    have hP : gWd D (rwT k ad) (va_up (va_up (va_up v 6 (v 6)) 16 w16_5) 17 w17_5) f g H := ⟨hP.1, (gR_up (V := rwV) (F := rwF) (gR_up (V := rwV) (F := rwF) (gR_up (V := rwV) (F := rwF) ⟨hok.1, hok.2⟩ 6 (hP.2.1 6)) 16 (hP.2.1 16)) 17 (hP.2.1 17))⟩
    replace p0_5 : (v 16) = 0 → w16_5 = (fk (f 0) nn pp) ∧ w17_5 = pp := p0_5
    replace p1_5 : (v 16) ≠ 0 → w16_5 = (v 16) ∧ w17_5 = (v 17) := p1_5
    have rw16_5 : 0 ≤ w16_5 ∧ w16_5 ≤ 5 := hP.2.1 16
    have rw17_5 : (-1) ≤ w17_5 ∧ w17_5 ≤ 700 := hP.2.1 17
    refine lv_aload_n hx hb dX3_pass_15 rfl (lv_at hl 0 rfl) ?_
    refine g_cv (As := []) (rest := []) (n := 0) C hml (e_La_goOn l D k A ad hD (va_up (va_up (va_up v 6 (v 6)) 16 w16_5) 17 w17_5) f g nn pp (show tAt (f 0) nn (f 6) (f 7) (f 8) (v 5) (v 6) pp from hc)) mM_X3_70 mI_X3_goOn mE_X3_goOn mN_X3 mC_X3_goOn (by decide +kernel) 9 (ci := 3) rfl rfl hP hS (fun _ h => h) ⟨Nat.le_of_ble_eq_true rfl, Nat.le_of_ble_eq_true rfl⟩ ⟨Nat.zero_le _, Nat.zero_le _⟩ hl.1 rfl rfl (Nat.le_of_ble_eq_true rfl) dX3_pass_16 (fun r_6 v_6 f_6 g_6 H locs hq_6 hP _ hS => ?_)
    obtain ⟨z_6, w6_6, rfl, rfl, rfl, rfl, p0_6, p1_6, p2_6, p3_6⟩ := hq_6
    show W p l e (gRm 3 61) s m args below meth c _ _ 0 0 Q (F0 m 19 ls [.int (iI z_6)])
    have hP : gWd D (rwT k ad) (va_up (va_up (va_up v 6 w6_6) 16 w16_5) 17 w17_5) f g H := ⟨hP.1, (gR_up (V := rwV) (F := rwF) (gR_up (V := rwV) (F := rwF) (gR_up (V := rwV) (F := rwF) ⟨hok.1, hok.2⟩ 6 (hP.2.1 6)) 16 (hP.2.1 16)) 17 (hP.2.1 17))⟩
    replace p0_6 : 0 ≤ z_6 ∧ z_6 ≤ 1 := p0_6
    replace p1_6 : z_6 = 1 ↔ w16_5 = 0 := p1_6
    replace p2_6 : w16_5 ≠ 0 → w6_6 = (v 6) := p2_6
    replace p3_6 : w16_5 = 0 → (tK (f 0) nn pp) ≠ 256 → (tK (f 0) nn pp) ≠ 257 → tAt (f 0) nn (f 6) (f 7) (f 8) (v 5) w6_6 (tX (f 0) nn pp) := p3_6
    have rw6_6 : 0 ≤ w6_6 ∧ w6_6 ≤ 700 := hP.2.1 6
    have hG2 := p2_6
    have hG3 := p3_6
    refine lv_pop hx hb dX3_pass_19 rfl ?_
    exact g_vret hQ C hr hlocks hP hS dX3_pass_20 ⟨w6_6, w16_5, w17_5, rfl, rfl, rfl, rfl, (by first | omega | (split <;> omega)), (by first | omega | (split <;> omega)), (by first | omega | (split <;> omega)), (by first | (intro h1 h2; exfalso; omega) | exact fun h1 h2 => hG3 h1 (by omega) (by omega))⟩
