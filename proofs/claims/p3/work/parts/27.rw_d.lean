set_option maxHeartbeats 4000000 in
set_option maxRecDepth 100000 in
theorem c_X6_isLetter (l : Launch) (D : va_G) (k : Nat → ClassId) (A : Nat → Prop) (ad : Nat → Nat) (hD : rwD A k ad) (v : gV) (f g : gF) (a1 : Int) (h_a1 : inR a1) : GM l D k A (rwT k ad) yX6_isLetter cX6_isLetter 1 (some .boolean) 0 0 [.int (iI a1)] v f g (fun r v1 f1 g1 => ∃ (z : Int), r = some (.int (iI z)) ∧ v = v1 ∧ f = f1 ∧ g = g1 ∧ (z = (if 97 ≤ a1 ∧ a1 ≤ 122 then 1 else 0))) := by
  refine GM.of (by decide) (Nat.le_of_ble_eq_true rfl) ?_
  intro p e s m args below meth c Q ls hQ C hml hr hlocks hP hl
  have hx := C.1
  have hb := C.2.1
  have hok := hP.2
  have hS : va_S A s.heap s.heap [] := va_S.rf
  have hl : lv_has ls 1 [(0, .int (iI a1))] := hl
  refine lv_iload_n hx hb dX6_isLetter_0 rfl (lv_at hl 0 rfl) ?_
  refine lv_bipush (v := iI 97) hx hb dX6_isLetter_1 (by decide) ?_
  refine gi_clt (tgt := 16) hx hb dX6_isLetter_3 (by decide) (by omega) (by decide) (fun c_1 => ?_) (fun c_1 => ?_)
  · refine lv_iconst (v := iI 0) hx hb dX6_isLetter_16 rfl ?_
    exact g_zret hQ C hr hlocks (by decide) hP hS dX6_isLetter_17 ⟨0, rfl, rfl, rfl, rfl, (by first | omega | (split <;> omega))⟩
  · refine lv_iload_n hx hb dX6_isLetter_6 rfl (lv_at hl 0 rfl) ?_
    refine lv_bipush (v := iI 122) hx hb dX6_isLetter_7 (by decide) ?_
    refine gi_cgt (tgt := 16) hx hb dX6_isLetter_9 (by decide) (by omega) (by decide) (fun c_2 => ?_) (fun c_2 => ?_)
    · refine lv_iconst (v := iI 0) hx hb dX6_isLetter_16 rfl ?_
      exact g_zret hQ C hr hlocks (by decide) hP hS dX6_isLetter_17 ⟨0, rfl, rfl, rfl, rfl, (by first | omega | (split <;> omega))⟩
    · refine lv_iconst (v := iI 1) hx hb dX6_isLetter_12 rfl ?_
      refine lv_goto (tgt := 17) hx hb dX6_isLetter_13 (by decide) ?_
      exact g_zret hQ C hr hlocks (by decide) hP hS dX6_isLetter_17 ⟨1, rfl, rfl, rfl, rfl, (by first | omega | (split <;> omega))⟩

set_option maxHeartbeats 4000000 in
set_option maxRecDepth 100000 in
theorem c_X6_isDigit (l : Launch) (D : va_G) (k : Nat → ClassId) (A : Nat → Prop) (ad : Nat → Nat) (hD : rwD A k ad) (v : gV) (f g : gF) (a1 : Int) (h_a1 : inR a1) : GM l D k A (rwT k ad) yX6_isDigit cX6_isDigit 1 (some .boolean) 0 0 [.int (iI a1)] v f g (fun r v1 f1 g1 => ∃ (z : Int), r = some (.int (iI z)) ∧ v = v1 ∧ f = f1 ∧ g = g1 ∧ (z = (if 48 ≤ a1 ∧ a1 ≤ 57 then 1 else 0))) := by
  refine GM.of (by decide) (Nat.le_of_ble_eq_true rfl) ?_
  intro p e s m args below meth c Q ls hQ C hml hr hlocks hP hl
  have hx := C.1
  have hb := C.2.1
  have hok := hP.2
  have hS : va_S A s.heap s.heap [] := va_S.rf
  have hl : lv_has ls 1 [(0, .int (iI a1))] := hl
  refine lv_iload_n hx hb dX6_isDigit_0 rfl (lv_at hl 0 rfl) ?_
  refine lv_bipush (v := iI 48) hx hb dX6_isDigit_1 (by decide) ?_
  refine gi_clt (tgt := 16) hx hb dX6_isDigit_3 (by decide) (by omega) (by decide) (fun c_1 => ?_) (fun c_1 => ?_)
  · refine lv_iconst (v := iI 0) hx hb dX6_isDigit_16 rfl ?_
    exact g_zret hQ C hr hlocks (by decide) hP hS dX6_isDigit_17 ⟨0, rfl, rfl, rfl, rfl, (by first | omega | (split <;> omega))⟩
  · refine lv_iload_n hx hb dX6_isDigit_6 rfl (lv_at hl 0 rfl) ?_
    refine lv_bipush (v := iI 57) hx hb dX6_isDigit_7 (by decide) ?_
    refine gi_cgt (tgt := 16) hx hb dX6_isDigit_9 (by decide) (by omega) (by decide) (fun c_2 => ?_) (fun c_2 => ?_)
    · refine lv_iconst (v := iI 0) hx hb dX6_isDigit_16 rfl ?_
      exact g_zret hQ C hr hlocks (by decide) hP hS dX6_isDigit_17 ⟨0, rfl, rfl, rfl, rfl, (by first | omega | (split <;> omega))⟩
    · refine lv_iconst (v := iI 1) hx hb dX6_isDigit_12 rfl ?_
      refine lv_goto (tgt := 17) hx hb dX6_isDigit_13 (by decide) ?_
      exact g_zret hQ C hr hlocks (by decide) hP hS dX6_isDigit_17 ⟨1, rfl, rfl, rfl, rfl, (by first | omega | (split <;> omega))⟩

set_option maxHeartbeats 4000000 in
set_option maxRecDepth 100000 in
theorem c_X6_isSign (l : Launch) (D : va_G) (k : Nat → ClassId) (A : Nat → Prop) (ad : Nat → Nat) (hD : rwD A k ad) (v : gV) (f g : gF) (a1 : Int) (h_a1 : inR a1) : GM l D k A (rwT k ad) yX6_isSign cX6_isSign 1 (some .boolean) 0 0 [.int (iI a1)] v f g (fun r v1 f1 g1 => ∃ (z : Int), r = some (.int (iI z)) ∧ v = v1 ∧ f = f1 ∧ g = g1 ∧ (0 ≤ z ∧ z ≤ 1)) := by
  refine GM.of (by decide) (Nat.le_of_ble_eq_true rfl) ?_
  intro p e s m args below meth c Q ls hQ C hml hr hlocks hP hl
  have hx := C.1
  have hb := C.2.1
  have hok := hP.2
  have hS : va_S A s.heap s.heap [] := va_S.rf
  have hl : lv_has ls 1 [(0, .int (iI a1))] := hl
  refine lv_iload_n hx hb dX6_isSign_0 rfl (lv_at hl 0 rfl) ?_
  refine lv_bipush (v := iI 43) hx hb dX6_isSign_1 (by decide) ?_
  refine gi_ceq (tgt := 42) hx hb dX6_isSign_3 (by decide) (by omega) (by decide) (fun c_1 => ?_) (fun c_1 => ?_)
  · refine lv_iconst (v := iI 1) hx hb dX6_isSign_42 rfl ?_
    refine lv_goto (tgt := 47) hx hb dX6_isSign_43 (by decide) ?_
    exact g_zret hQ C hr hlocks (by decide) hP hS dX6_isSign_47 ⟨1, rfl, rfl, rfl, rfl, (by first | omega | (split <;> omega))⟩
  · refine lv_iload_n hx hb dX6_isSign_6 rfl (lv_at hl 0 rfl) ?_
    refine lv_bipush (v := iI 45) hx hb dX6_isSign_7 (by decide) ?_
    refine gi_ceq (tgt := 42) hx hb dX6_isSign_9 (by decide) (by omega) (by decide) (fun c_2 => ?_) (fun c_2 => ?_)
    · refine lv_iconst (v := iI 1) hx hb dX6_isSign_42 rfl ?_
      refine lv_goto (tgt := 47) hx hb dX6_isSign_43 (by decide) ?_
      exact g_zret hQ C hr hlocks (by decide) hP hS dX6_isSign_47 ⟨1, rfl, rfl, rfl, rfl, (by first | omega | (split <;> omega))⟩
    · refine lv_iload_n hx hb dX6_isSign_12 rfl (lv_at hl 0 rfl) ?_
      refine lv_bipush (v := iI 42) hx hb dX6_isSign_13 (by decide) ?_
      refine gi_ceq (tgt := 42) hx hb dX6_isSign_15 (by decide) (by omega) (by decide) (fun c_3 => ?_) (fun c_3 => ?_)
      · refine lv_iconst (v := iI 1) hx hb dX6_isSign_42 rfl ?_
        refine lv_goto (tgt := 47) hx hb dX6_isSign_43 (by decide) ?_
        exact g_zret hQ C hr hlocks (by decide) hP hS dX6_isSign_47 ⟨1, rfl, rfl, rfl, rfl, (by first | omega | (split <;> omega))⟩
      · refine lv_iload_n hx hb dX6_isSign_18 rfl (lv_at hl 0 rfl) ?_
        refine lv_bipush (v := iI 40) hx hb dX6_isSign_19 (by decide) ?_
        refine gi_ceq (tgt := 42) hx hb dX6_isSign_21 (by decide) (by omega) (by decide) (fun c_4 => ?_) (fun c_4 => ?_)
        · refine lv_iconst (v := iI 1) hx hb dX6_isSign_42 rfl ?_
          refine lv_goto (tgt := 47) hx hb dX6_isSign_43 (by decide) ?_
          exact g_zret hQ C hr hlocks (by decide) hP hS dX6_isSign_47 ⟨1, rfl, rfl, rfl, rfl, (by first | omega | (split <;> omega))⟩
        · refine lv_iload_n hx hb dX6_isSign_24 rfl (lv_at hl 0 rfl) ?_
          refine lv_bipush (v := iI 41) hx hb dX6_isSign_25 (by decide) ?_
          refine gi_ceq (tgt := 42) hx hb dX6_isSign_27 (by decide) (by omega) (by decide) (fun c_5 => ?_) (fun c_5 => ?_)
          · refine lv_iconst (v := iI 1) hx hb dX6_isSign_42 rfl ?_
            refine lv_goto (tgt := 47) hx hb dX6_isSign_43 (by decide) ?_
            exact g_zret hQ C hr hlocks (by decide) hP hS dX6_isSign_47 ⟨1, rfl, rfl, rfl, rfl, (by first | omega | (split <;> omega))⟩
          · refine lv_iload_n hx hb dX6_isSign_30 rfl (lv_at hl 0 rfl) ?_
            refine lv_bipush (v := iI 44) hx hb dX6_isSign_31 (by decide) ?_
            refine gi_ceq (tgt := 42) hx hb dX6_isSign_33 (by decide) (by omega) (by decide) (fun c_6 => ?_) (fun c_6 => ?_)
            · refine lv_iconst (v := iI 1) hx hb dX6_isSign_42 rfl ?_
              refine lv_goto (tgt := 47) hx hb dX6_isSign_43 (by decide) ?_
              exact g_zret hQ C hr hlocks (by decide) hP hS dX6_isSign_47 ⟨1, rfl, rfl, rfl, rfl, (by first | omega | (split <;> omega))⟩
            · refine lv_iload_n hx hb dX6_isSign_36 rfl (lv_at hl 0 rfl) ?_
              refine lv_bipush (v := iI 59) hx hb dX6_isSign_37 (by decide) ?_
              refine gi_cne (tgt := 46) hx hb dX6_isSign_39 (by decide) (by omega) (by decide) (fun c_7 => ?_) (fun c_7 => ?_)
              · refine lv_iconst (v := iI 0) hx hb dX6_isSign_46 rfl ?_
                exact g_zret hQ C hr hlocks (by decide) hP hS dX6_isSign_47 ⟨0, rfl, rfl, rfl, rfl, (by first | omega | (split <;> omega))⟩
              · refine lv_iconst (v := iI 1) hx hb dX6_isSign_42 rfl ?_
                refine lv_goto (tgt := 47) hx hb dX6_isSign_43 (by decide) ?_
                exact g_zret hQ C hr hlocks (by decide) hP hS dX6_isSign_47 ⟨1, rfl, rfl, rfl, rfl, (by first | omega | (split <;> omega))⟩

set_option maxHeartbeats 4000000 in
set_option maxRecDepth 100000 in
theorem c_X6_kind (l : Launch) (D : va_G) (k : Nat → ClassId) (A : Nat → Prop) (ad : Nat → Nat) (hD : rwD A k ad) (v : gV) (f g : gF) : GM l D k A (rwT k ad) yX6_kind cX6_kind 1 (some .int) 0 0 [.ref (ad 10)] v f g (fun r v1 f1 g1 => ∃ (z : Int), r = some (.int (iI z)) ∧ v = v1 ∧ f = f1 ∧ g = g1 ∧ (z = ((f 6) (v 6))) ∧ (0 ≤ z ∧ z ≤ 300)) := by
  refine GM.of (by decide) (Nat.le_of_ble_eq_true rfl) ?_
  intro p e s m args below meth c Q ls hQ C hml hr hlocks hP hl
  have hx := C.1
  have hb := C.2.1
  have hok := hP.2
  have hS : va_S A s.heap s.heap [] := va_S.rf
  have hl : lv_has ls 1 [(0, .ref (ad 10))] := hl
  refine lv_aload_n hx hb dX6_kind_0 rfl (lv_at hl 0 rfl) ?_
  refine rwG_reader_tokens_kinds C hP mF_X6_9 dX6_kind_1 ?_
  refine lv_aload_n hx hb dX6_kind_4 rfl (lv_at hl 0 rfl) ?_
  refine rwG_reader_tokens_at C hP mF_X6_21 dX6_kind_5 ?_
  have r_1 : 0 ≤ (v 6) ∧ (v 6) ≤ 700 := hok.1 6
  refine rwL_reader_tokens_kinds C hP (by omega) (by omega) dX6_kind_8 ?_
  have r_2 : 0 ≤ (f 6 (v 6)) ∧ (f 6 (v 6)) ≤ 300 := hP.2.2 6 (v 6)
  exact g_iret hQ C hr hlocks hP hS dX6_kind_9 ⟨(f 6 (v 6)), rfl, rfl, rfl, rfl, (by first | omega | (split <;> omega)), (by first | omega | (split <;> omega))⟩

set_option maxHeartbeats 4000000 in
set_option maxRecDepth 100000 in
theorem c_X6_place (l : Launch) (D : va_G) (k : Nat → ClassId) (A : Nat → Prop) (ad : Nat → Nat) (hD : rwD A k ad) (v : gV) (f g : gF) : GM l D k A (rwT k ad) yX6_place cX6_place 1 (some .int) 0 0 [.ref (ad 10)] v f g (fun r v1 f1 g1 => ∃ (z : Int), r = some (.int (iI z)) ∧ v = v1 ∧ f = f1 ∧ g = g1 ∧ (z = ((f 7) (v 6))) ∧ (0 ≤ z ∧ z ≤ 700)) := by
  refine GM.of (by decide) (Nat.le_of_ble_eq_true rfl) ?_
  intro p e s m args below meth c Q ls hQ C hml hr hlocks hP hl
  have hx := C.1
  have hb := C.2.1
  have hok := hP.2
  have hS : va_S A s.heap s.heap [] := va_S.rf
  have hl : lv_has ls 1 [(0, .ref (ad 10))] := hl
  refine lv_aload_n hx hb dX6_place_0 rfl (lv_at hl 0 rfl) ?_
  refine rwG_reader_tokens_places C hP mF_X6_15 dX6_place_1 ?_
  refine lv_aload_n hx hb dX6_place_4 rfl (lv_at hl 0 rfl) ?_
  refine rwG_reader_tokens_at C hP mF_X6_21 dX6_place_5 ?_
  have r_1 : 0 ≤ (v 6) ∧ (v 6) ≤ 700 := hok.1 6
  refine rwL_reader_tokens_places C hP (by omega) (by omega) dX6_place_8 ?_
  have r_2 : 0 ≤ (f 7 (v 6)) ∧ (f 7 (v 6)) ≤ 700 := hP.2.2 7 (v 6)
  exact g_iret hQ C hr hlocks hP hS dX6_place_9 ⟨(f 7 (v 6)), rfl, rfl, rfl, rfl, (by first | omega | (split <;> omega)), (by first | omega | (split <;> omega))⟩

set_option maxHeartbeats 4000000 in
set_option maxRecDepth 100000 in
theorem c_X6_value (l : Launch) (D : va_G) (k : Nat → ClassId) (A : Nat → Prop) (ad : Nat → Nat) (hD : rwD A k ad) (v : gV) (f g : gF) : GM l D k A (rwT k ad) yX6_value cX6_value 1 (some .int) 0 0 [.ref (ad 10)] v f g (fun r v1 f1 g1 => ∃ (z : Int), r = some (.int (iI z)) ∧ v = v1 ∧ f = f1 ∧ g = g1 ∧ (z = ((f 8) (v 6))) ∧ (0 ≤ z ∧ z ≤ 999999)) := by
  refine GM.of (by decide) (Nat.le_of_ble_eq_true rfl) ?_
  intro p e s m args below meth c Q ls hQ C hml hr hlocks hP hl
  have hx := C.1
  have hb := C.2.1
  have hok := hP.2
  have hS : va_S A s.heap s.heap [] := va_S.rf
  have hl : lv_has ls 1 [(0, .ref (ad 10))] := hl
  refine lv_aload_n hx hb dX6_value_0 rfl (lv_at hl 0 rfl) ?_
  refine rwG_reader_tokens_values C hP mF_X6_18 dX6_value_1 ?_
  refine lv_aload_n hx hb dX6_value_4 rfl (lv_at hl 0 rfl) ?_
  refine rwG_reader_tokens_at C hP mF_X6_21 dX6_value_5 ?_
  have r_1 : 0 ≤ (v 6) ∧ (v 6) ≤ 700 := hok.1 6
  refine rwL_reader_tokens_values C hP (by omega) (by omega) dX6_value_8 ?_
  have r_2 : 0 ≤ (f 8 (v 6)) ∧ (f 8 (v 6)) ≤ 999999 := hP.2.2 8 (v 6)
  exact g_iret hQ C hr hlocks hP hS dX6_value_9 ⟨(f 8 (v 6)), rfl, rfl, rfl, rfl, (by first | omega | (split <;> omega)), (by first | omega | (split <;> omega))⟩

set_option maxHeartbeats 4000000 in
set_option maxRecDepth 100000 in
theorem c_X6_step (l : Launch) (D : va_G) (k : Nat → ClassId) (A : Nat → Prop) (ad : Nat → Nat) (hD : rwD A k ad) (v : gV) (f g : gF) : GM l D k A (rwT k ad) yX6_step cX6_step 1 none 0 0 [.ref (ad 10)] v f g (fun r v1 f1 g1 => ∃ (w6 : Int), r = none ∧ (va_up v 6 w6) = v1 ∧ f = f1 ∧ g = g1) := by
  refine GM.of (by decide) (Nat.le_of_ble_eq_true rfl) ?_
  intro p e s m args below meth c Q ls hQ C hml hr hlocks hP hl
  have hx := C.1
  have hb := C.2.1
  have hok := hP.2
  have hS : va_S A s.heap s.heap [] := va_S.rf
  have hl : lv_has ls 1 [(0, .ref (ad 10))] := hl
  have hP : gWd D (rwT k ad) (va_up v 6 (v 6)) f g s.heap := by rw [va_id]; exact hP
  refine lv_aload_n hx hb dX6_step_0 rfl (lv_at hl 0 rfl) ?_
  refine rwG_reader_tokens_at C hP mF_X6_21 dX6_step_1 ?_
  show W p l e (gRm 0 0) s m args below meth c _ _ 0 0 Q (F0 m 4 ls [.int (iI (v 6))])
  have r_1 : 0 ≤ (v 6) ∧ (v 6) ≤ 700 := hok.1 6
  refine lv_iconst (v := iI 1) hx hb dX6_step_4 rfl ?_
  refine gi_add (z := ((v 6) + 1)) hx hb dX6_step_5 rfl ?_
  refine lv_aload_n hx hb dX6_step_6 rfl (lv_at hl 0 rfl) ?_
  refine rwG_reader_tokens_many C hP mF_X6_25 dX6_step_7 ?_
  show W p l e (gRm 0 0) s m args below meth c _ _ 0 0 Q (F0 m 10 ls [.int (iI (v 5)), .int (iI ((v 6) + 1))])
  have r_2 : 0 ≤ (v 5) ∧ (v 5) ≤ 701 := hok.1 5
  refine gi_cge (tgt := 23) hx hb dX6_step_10 (by decide) (by omega) (by omega) (fun c_3 => ?_) (fun c_3 => ?_)
  · exact g_vret hQ C hr hlocks hP hS dX6_step_23 ⟨(v 6), rfl, rfl, rfl, rfl⟩
  · refine lv_aload_n hx hb dX6_step_13 rfl (lv_at hl 0 rfl) ?_
    refine lv_dup hx hb dX6_step_14 rfl ?_
    refine rwG_reader_tokens_at C hP mF_X6_21 dX6_step_15 ?_
    show W p l e (gRm 0 0) s m args below meth c _ _ 0 0 Q (F0 m 18 ls [.int (iI (v 6)), .ref (ad 10)])
    refine lv_iconst (v := iI 1) hx hb dX6_step_18 rfl ?_
    refine gi_add (z := ((v 6) + 1)) hx hb dX6_step_19 rfl ?_
    refine rwP_reader_tokens_at (v1 := (va_up v 6 ((v 6) + 1))) C hP hD hS mF_X6_21 (by omega) rfl (Or.inr (gR_up (V := rwV) (F := rwF) ⟨hok.1, hok.2⟩ 6 (show 0 ≤ ((v 6) + 1) ∧ ((v 6) + 1) ≤ 700 from by omega))) dX6_step_20 (fun H locs hP hS => ?_)
    exact g_vret hQ C hr hlocks hP hS dX6_step_23 ⟨((v 6) + 1), rfl, rfl, rfl, rfl⟩

set_option maxHeartbeats 4000000 in
set_option maxRecDepth 100000 in
theorem c_X6_put (l : Launch) (D : va_G) (k : Nat → ClassId) (A : Nat → Prop) (ad : Nat → Nat) (hD : rwD A k ad) (v : gV) (f g : gF) (a1 : Int) (a2 : Int) (a3 : Int) (h_a1 : inR a1) (h_a2 : inR a2) (h_a3 : inR a3) (h1 : 0 ≤ a1 ∧ a1 ≤ 300) (h2 : 0 ≤ a2 ∧ a2 ≤ 700) (h3 : 0 ≤ a3 ∧ a3 ≤ 999999) : GM l D k A (rwT k ad) yX6_put cX6_put 4 none 0 0 [.ref (ad 10), .int (iI a1), .int (iI a2), .int (iI a3)] v f g (fun r v1 f1 g1 => ∃ (w5 : Int) (a6_ : Int → Int) (a7_ : Int → Int) (a8_ : Int → Int), r = none ∧ (va_up v 5 w5) = v1 ∧ (va_up (va_up (va_up f 6 a6_) 7 a7_) 8 a8_) = f1 ∧ g = g1) := by
  refine GM.of (by decide) (Nat.le_of_ble_eq_true rfl) ?_
  intro p e s m args below meth c Q ls hQ C hml hr hlocks hP hl
  have hx := C.1
  have hb := C.2.1
  have hok := hP.2
  have hS : va_S A s.heap s.heap [] := va_S.rf
  have hl : lv_has ls 4 [(0, .ref (ad 10)), (1, .int (iI a1)), (2, .int (iI a2)), (3, .int (iI a3))] := hl
  have hP : gWd D (rwT k ad) (va_up v 5 (v 5)) (va_up (va_up (va_up f 6 (f 6)) 7 (f 7)) 8 (f 8)) g s.heap := by rw [va_id, va_id, va_id, va_id]; exact hP
  refine lv_aload_n hx hb dX6_put_0 rfl (lv_at hl 0 rfl) ?_
  refine rwG_reader_tokens_many C hP mF_X6_25 dX6_put_1 ?_
  show W p l e (gRm 0 0) s m args below meth c _ _ 0 0 Q (F0 m 4 ls [.int (iI (v 5))])
  have r_1 : 0 ≤ (v 5) ∧ (v 5) ≤ 701 := hok.1 5
  refine lv_aload_n hx hb dX6_put_4 rfl (lv_at hl 0 rfl) ?_
  refine rwG_reader_tokens_kinds C hP mF_X6_9 dX6_put_5 ?_
  refine rwN_reader_tokens_kinds C hP dX6_put_8 ?_
  refine gi_cge (tgt := 52) hx hb dX6_put_9 (by decide) (by omega) (by decide) (fun c_2 => ?_) (fun c_2 => ?_)
  · exact g_vret hQ C hr hlocks hP hS dX6_put_52 ⟨(v 5), (f 6), (f 7), (f 8), rfl, rfl, rfl, rfl⟩
  · refine lv_aload_n hx hb dX6_put_12 rfl (lv_at hl 0 rfl) ?_
    refine rwG_reader_tokens_kinds C hP mF_X6_9 dX6_put_13 ?_
    refine lv_aload_n hx hb dX6_put_16 rfl (lv_at hl 0 rfl) ?_
    refine rwG_reader_tokens_many C hP mF_X6_25 dX6_put_17 ?_
    show W p l e (gRm 0 0) s m args below meth c _ _ 0 0 Q (F0 m 20 ls [.int (iI (v 5)), .ref (ad 11)])
    refine lv_iload_n hx hb dX6_put_20 rfl (lv_at hl 1 rfl) ?_
    refine rwS_reader_tokens_kinds (f1 := (va_up (va_up (va_up f 6 (u1 (f 6) (v 5) a1)) 7 (f 7)) 8 (f 8))) C hP hD hS (by omega) (by omega) (by omega) rfl (Or.inr (gF_up (V := rwV) (F := rwF) (gF_up (V := rwV) (F := rwF) (gF_up (V := rwV) (F := rwF) (gR_up (V := rwV) (F := rwF) ⟨hok.1, hok.2⟩ 5 (hP.2.1 5)) 6 (u1_rng (hP.2.2 6) (show 0 ≤ a1 ∧ a1 ≤ 300 from (by omega)))) 7 (hP.2.2 7)) 8 (hP.2.2 8))) dX6_put_21 (fun H locs hP hS => ?_)
    refine lv_aload_n hx hb dX6_put_22 rfl (lv_at hl 0 rfl) ?_
    refine rwG_reader_tokens_places C hP mF_X6_15 dX6_put_23 ?_
    refine lv_aload_n hx hb dX6_put_26 rfl (lv_at hl 0 rfl) ?_
    refine rwG_reader_tokens_many C hP mF_X6_25 dX6_put_27 ?_
    show W p l e (gRm 0 0) s m args below meth c _ _ 0 0 Q (F0 m 30 ls [.int (iI (v 5)), .ref (ad 12)])
    refine lv_iload_n hx hb dX6_put_30 rfl (lv_at hl 2 rfl) ?_
    refine rwS_reader_tokens_places (f1 := (va_up (va_up (va_up f 6 (u1 (f 6) (v 5) a1)) 7 (u1 (f 7) (v 5) a2)) 8 (f 8))) C hP hD hS (by omega) (by omega) (by omega) rfl (Or.inr (gF_up (V := rwV) (F := rwF) (gF_up (V := rwV) (F := rwF) (gF_up (V := rwV) (F := rwF) (gR_up (V := rwV) (F := rwF) ⟨hok.1, hok.2⟩ 5 (hP.2.1 5)) 6 (hP.2.2 6)) 7 (u1_rng (hP.2.2 7) (show 0 ≤ a2 ∧ a2 ≤ 700 from (by omega)))) 8 (hP.2.2 8))) dX6_put_31 (fun H locs hP hS => ?_)
    refine lv_aload_n hx hb dX6_put_32 rfl (lv_at hl 0 rfl) ?_
    refine rwG_reader_tokens_values C hP mF_X6_18 dX6_put_33 ?_
    refine lv_aload_n hx hb dX6_put_36 rfl (lv_at hl 0 rfl) ?_
    refine rwG_reader_tokens_many C hP mF_X6_25 dX6_put_37 ?_
    show W p l e (gRm 0 0) s m args below meth c _ _ 0 0 Q (F0 m 40 ls [.int (iI (v 5)), .ref (ad 13)])
    refine lv_iload_n hx hb dX6_put_40 rfl (lv_at hl 3 rfl) ?_
    refine rwS_reader_tokens_values (f1 := (va_up (va_up (va_up f 6 (u1 (f 6) (v 5) a1)) 7 (u1 (f 7) (v 5) a2)) 8 (u1 (f 8) (v 5) a3))) C hP hD hS (by omega) (by omega) (by omega) rfl (Or.inr (gF_up (V := rwV) (F := rwF) (gF_up (V := rwV) (F := rwF) (gF_up (V := rwV) (F := rwF) (gR_up (V := rwV) (F := rwF) ⟨hok.1, hok.2⟩ 5 (hP.2.1 5)) 6 (hP.2.2 6)) 7 (hP.2.2 7)) 8 (u1_rng (hP.2.2 8) (show 0 ≤ a3 ∧ a3 ≤ 999999 from (by omega))))) dX6_put_41 (fun H locs hP hS => ?_)
    refine lv_aload_n hx hb dX6_put_42 rfl (lv_at hl 0 rfl) ?_
    refine lv_dup hx hb dX6_put_43 rfl ?_
    refine rwG_reader_tokens_many C hP mF_X6_25 dX6_put_44 ?_
    show W p l e (gRm 0 0) s m args below meth c _ _ 0 0 Q (F0 m 47 ls [.int (iI (v 5)), .ref (ad 10)])
    refine lv_iconst (v := iI 1) hx hb dX6_put_47 rfl ?_
    refine gi_add (z := ((v 5) + 1)) hx hb dX6_put_48 rfl ?_
    refine rwP_reader_tokens_many (v1 := (va_up v 5 ((v 5) + 1))) C hP hD hS mF_X6_25 (by omega) rfl (Or.inr (gF_up (V := rwV) (F := rwF) (gF_up (V := rwV) (F := rwF) (gF_up (V := rwV) (F := rwF) (gR_up (V := rwV) (F := rwF) ⟨hok.1, hok.2⟩ 5 (show 0 ≤ ((v 5) + 1) ∧ ((v 5) + 1) ≤ 701 from by omega)) 6 (hP.2.2 6)) 7 (hP.2.2 7)) 8 (hP.2.2 8))) dX6_put_49 (fun H locs hP hS => ?_)
    exact g_vret hQ C hr hlocks hP hS dX6_put_52 ⟨((v 5) + 1), (u1 (f 6) (v 5) a1), (u1 (f 7) (v 5) a2), (u1 (f 8) (v 5) a3), rfl, rfl, rfl, rfl⟩

set_option maxHeartbeats 4000000 in
set_option maxRecDepth 100000 in
theorem c_X6_putNumber (l : Launch) (D : va_G) (k : Nat → ClassId) (A : Nat → Prop) (ad : Nat → Nat) (hD : rwD A k ad) (v : gV) (f g : gF) (a2 : Int) (a3 : Int) (h_a2 : inR a2) (h_a3 : inR a3) (h2 : 0 ≤ a2 ∧ a2 ≤ a3) (h3 : a3 ≤ 700) : GM l D k A (rwT k ad) yX6_putNumber cX6_putNumber 6 (some .int) 1 23 [.ref (ad 10), .ref (ad 1), .int (iI a2), .int (iI a3)] v f g (fun r v1 f1 g1 => ∃ (z : Int) (w5 : Int) (a6_ : Int → Int) (a7_ : Int → Int) (a8_ : Int → Int), r = some (.int (iI z)) ∧ (va_up v 5 w5) = v1 ∧ (va_up (va_up (va_up f 6 a6_) 7 a7_) 8 a8_) = f1 ∧ g = g1 ∧ (a2 ≤ z ∧ z ≤ a3)) := by
  refine GM.of (by decide) (Nat.le_of_ble_eq_true rfl) ?_
  intro p e s m args below meth c Q ls hQ C hml hr hlocks hP hl
  have hx := C.1
  have hb := C.2.1
  have hok := hP.2
  have hS : va_S A s.heap s.heap [] := va_S.rf
  have hl : lv_has ls 6 [(0, .ref (ad 10)), (1, .ref (ad 1)), (2, .int (iI a2)), (3, .int (iI a3))] := hl
  have hP : gWd D (rwT k ad) (va_up v 5 (v 5)) (va_up (va_up (va_up f 6 (f 6)) 7 (f 7)) 8 (f 8)) g s.heap := by rw [va_id, va_id, va_id, va_id]; exact hP
  refine lv_iload_n hx hb dX6_putNumber_0 rfl (lv_at hl 2 rfl) ?_
  refine lv_istore (lv' := [(4, .int (iI a2)), (0, .ref (ad 10)), (1, .ref (ad 1)), (2, .int (iI a2)), (3, .int (iI a3))]) hx hb dX6_putNumber_1 hl (by decide) rfl (fun ls hl => ?_)
  refine lv_iconst (v := iI 0) hx hb dX6_putNumber_3 rfl ?_
  refine lv_istore (lv' := [(5, .int (iI 0)), (4, .int (iI a2)), (0, .ref (ad 10)), (1, .ref (ad 1)), (2, .int (iI a2)), (3, .int (iI a3))]) hx hb dX6_putNumber_4 hl (by decide) rfl (fun ls hl => ?_)
  have L_1 : ∀ (n : Nat) (x4 : Int) (x5 : Int) (H : Heap) (locs : List Loc) (ls : Array Slot), 700 - x4 < (n : Int) → (a2 ≤ x4 ∧ x4 ≤ a3) → (0 ≤ x5) → (((x5 = 0 ∧ x4 = a2) ∨ (x5 ≤ 9 ∧ x4 = a2 + 1) ∨ (x5 ≤ 99 ∧ x4 = a2 + 2) ∨ (x5 ≤ 999 ∧ x4 = a2 + 3) ∨ (x5 ≤ 9999 ∧ x4 = a2 + 4) ∨ (x5 ≤ 99999 ∧ x4 = a2 + 5) ∨ (x5 ≤ 999999 ∧ a2 + 6 ≤ x4))) → gWd D (rwT k ad) (va_up v 5 (v 5)) (va_up (va_up (va_up f 6 (f 6)) 7 (f 7)) 8 (f 8)) g H → va_S A s.heap H locs → lv_has ls 6 [(0, .ref (ad 10)), (1, .ref (ad 1)), (2, .int (iI a2)), (3, .int (iI a3)), (4, .int (iI x4)), (5, .int (iI x5))] → W p l e (gRm 1 23) s m args below meth c H locs 0 0 Q (F0 m 6 ls []) := by
    intro n
    induction n with
    | zero =>
      intro x4 x5 H locs ls hn_1 i1_0 i1_1 i1_2 hP hS hl
      exfalso; omega
    | succ n ih_6 =>
      intro x4 x5 H locs ls hn_1 i1_0 i1_1 i1_2 hP hS hl
      refine lv_iload hx hb dX6_putNumber_6 (lv_at hl 4 rfl) ?_
      refine lv_iload_n hx hb dX6_putNumber_8 rfl (lv_at hl 3 rfl) ?_
      refine gi_cge (tgt := 52) hx hb dX6_putNumber_9 (by decide) (by omega) (by omega) (fun c_2 => ?_) (fun c_2 => ?_)
      · refine lv_aload_n hx hb dX6_putNumber_52 rfl (lv_at hl 0 rfl) ?_
        refine lv_iload hx hb dX6_putNumber_53 (lv_at hl 4 rfl) ?_
        refine lv_iload_n hx hb dX6_putNumber_55 rfl (lv_at hl 2 rfl) ?_
        refine gi_sub (z := (x4 - a2)) hx hb dX6_putNumber_56 rfl ?_
        refine lv_bipush (v := iI 6) hx hb dX6_putNumber_57 (by decide) ?_
        refine gi_cle (tgt := 68) hx hb dX6_putNumber_59 (by decide) (by omega) (by decide) (fun c_3 => ?_) (fun c_3 => ?_)
        · refine lv_sipush (v := iI 258) hx hb dX6_putNumber_68 (by decide) ?_
          refine lv_iload_n hx hb dX6_putNumber_71 rfl (lv_at hl 2 rfl) ?_
          refine lv_iload hx hb dX6_putNumber_72 (lv_at hl 5 rfl) ?_
          refine g_cv (As := [.int (iI 258), .int (iI a2), .int (iI x5)]) (rest := []) (n := 3) C hml (c_X6_put l D k A ad hD (va_up v 5 (v 5)) (va_up (va_up (va_up f 6 (f 6)) 7 (f 7)) 8 (f 8)) g 258 a2 x5 (by decide) (by omega) (by omega) (show 0 ≤ (258 : Int) ∧ (258 : Int) ≤ 300 from by omega) (show 0 ≤ a2 ∧ a2 ≤ 700 from by omega) (show 0 ≤ x5 ∧ x5 ≤ 999999 from by omega)) mM_X6_45 mI_X6_put mE_X6_put mN_X6 mC_X6_put (by decide +kernel) 10 (ci := 6) rfl rfl hP hS (fun _ h => h) ⟨Nat.le_of_ble_eq_true rfl, Nat.le_of_ble_eq_true rfl⟩ ⟨Nat.zero_le _, Nat.zero_le _⟩ hl.1 rfl rfl (Nat.le_of_ble_eq_true rfl) dX6_putNumber_74 (fun r_4 v_4 f_4 g_4 H locs hq_4 hP _ hS => ?_)
          obtain ⟨w5_4, a6_4, a7_4, a8_4, rfl, rfl, rfl, rfl⟩ := hq_4
          show W p l e (gRm 1 23) s m args below meth c _ _ 0 0 Q (F0 m 77 ls [])
          have hP : gWd D (rwT k ad) (va_up v 5 w5_4) (va_up (va_up (va_up f 6 a6_4) 7 a7_4) 8 a8_4) g H := ⟨hP.1, (gF_up (V := rwV) (F := rwF) (gF_up (V := rwV) (F := rwF) (gF_up (V := rwV) (F := rwF) (gR_up (V := rwV) (F := rwF) ⟨hok.1, hok.2⟩ 5 (hP.2.1 5)) 6 (hP.2.2 6)) 7 (hP.2.2 7)) 8 (hP.2.2 8))⟩
          have rw5_4 : 0 ≤ w5_4 ∧ w5_4 ≤ 701 := hP.2.1 5
          refine lv_iload hx hb dX6_putNumber_77 (lv_at hl 4 rfl) ?_
          exact g_iret hQ C hr hlocks hP hS dX6_putNumber_79 ⟨x4, w5_4, a6_4, a7_4, a8_4, rfl, rfl, rfl, rfl, (by first | omega | (split <;> omega))⟩
        · refine lv_sipush (v := iI 257) hx hb dX6_putNumber_62 (by decide) ?_
          refine lv_goto (tgt := 71) hx hb dX6_putNumber_65 (by decide) ?_
          refine lv_iload_n hx hb dX6_putNumber_71 rfl (lv_at hl 2 rfl) ?_
          refine lv_iload hx hb dX6_putNumber_72 (lv_at hl 5 rfl) ?_
          refine g_cv (As := [.int (iI 257), .int (iI a2), .int (iI x5)]) (rest := []) (n := 3) C hml (c_X6_put l D k A ad hD (va_up v 5 (v 5)) (va_up (va_up (va_up f 6 (f 6)) 7 (f 7)) 8 (f 8)) g 257 a2 x5 (by decide) (by omega) (by omega) (show 0 ≤ (257 : Int) ∧ (257 : Int) ≤ 300 from by omega) (show 0 ≤ a2 ∧ a2 ≤ 700 from by omega) (show 0 ≤ x5 ∧ x5 ≤ 999999 from by omega)) mM_X6_45 mI_X6_put mE_X6_put mN_X6 mC_X6_put (by decide +kernel) 10 (ci := 6) rfl rfl hP hS (fun _ h => h) ⟨Nat.le_of_ble_eq_true rfl, Nat.le_of_ble_eq_true rfl⟩ ⟨Nat.zero_le _, Nat.zero_le _⟩ hl.1 rfl rfl (Nat.le_of_ble_eq_true rfl) dX6_putNumber_74 (fun r_5 v_5 f_5 g_5 H locs hq_5 hP _ hS => ?_)
          obtain ⟨w5_5, a6_5, a7_5, a8_5, rfl, rfl, rfl, rfl⟩ := hq_5
          show W p l e (gRm 1 23) s m args below meth c _ _ 0 0 Q (F0 m 77 ls [])
          have hP : gWd D (rwT k ad) (va_up v 5 w5_5) (va_up (va_up (va_up f 6 a6_5) 7 a7_5) 8 a8_5) g H := ⟨hP.1, (gF_up (V := rwV) (F := rwF) (gF_up (V := rwV) (F := rwF) (gF_up (V := rwV) (F := rwF) (gR_up (V := rwV) (F := rwF) ⟨hok.1, hok.2⟩ 5 (hP.2.1 5)) 6 (hP.2.2 6)) 7 (hP.2.2 7)) 8 (hP.2.2 8))⟩
          have rw5_5 : 0 ≤ w5_5 ∧ w5_5 ≤ 701 := hP.2.1 5
          refine lv_iload hx hb dX6_putNumber_77 (lv_at hl 4 rfl) ?_
          exact g_iret hQ C hr hlocks hP hS dX6_putNumber_79 ⟨x4, w5_5, a6_5, a7_5, a8_5, rfl, rfl, rfl, rfl, (by first | omega | (split <;> omega))⟩
      · refine lv_aload_n hx hb dX6_putNumber_12 rfl (lv_at hl 1 rfl) ?_
        refine lv_iload hx hb dX6_putNumber_13 (lv_at hl 4 rfl) ?_
        refine rwL_tape C hP (by omega) (by omega) dX6_putNumber_15 ?_
        show W p l e (gRm 1 23) s m args below meth c _ _ 0 0 Q (F0 m 16 ls [.int (iI (f 0 x4))])
        have r_6 : 0 ≤ (f 0 x4) ∧ (f 0 x4) ≤ 255 := hP.2.2 0 x4
        refine g_cs (As := [.int (iI (f 0 x4))]) (rest := []) (n := 1) C hml (c_X6_isDigit l D k A ad hD (va_up v 5 (v 5)) (va_up (va_up (va_up f 6 (f 6)) 7 (f 7)) 8 (f 8)) g (f 0 x4) (by omega)) mM_X6_36 mS_X6_isDigit mN_X6 mC_X6_isDigit (by decide +kernel) hP hS (fun _ h => h) ⟨Nat.le_of_ble_eq_true rfl, Nat.le_of_ble_eq_true rfl⟩ ⟨Nat.zero_le _, Nat.zero_le _⟩ hl.1 rfl rfl (Nat.le_of_ble_eq_true rfl) dX6_putNumber_16 (fun r_7 v_7 f_7 g_7 H locs hq_7 hP _ hS => ?_)
        obtain ⟨z_7, rfl, rfl, rfl, rfl, p0_7⟩ := hq_7
        show W p l e (gRm 1 23) s m args below meth c _ _ 0 0 Q (F0 m 19 ls [.int (iI z_7)])
        have p0_7 : z_7 = (if 48 ≤ (f 0 x4) ∧ (f 0 x4) ≤ 57 then 1 else 0) := p0_7
        have w_7 := gif (P := 48 ≤ (f 0 x4) ∧ (f 0 x4) ≤ 57) p0_7
        have hz_7 : inR z_7 := (by first | omega | (rw [p0_7]; split <;> omega))
        refine gi_zeq (tgt := 52) hx hb dX6_putNumber_19 (by decide) (by omega) (fun c_8 => ?_) (fun c_8 => ?_)
        · refine lv_aload_n hx hb dX6_putNumber_52 rfl (lv_at hl 0 rfl) ?_
          refine lv_iload hx hb dX6_putNumber_53 (lv_at hl 4 rfl) ?_
          refine lv_iload_n hx hb dX6_putNumber_55 rfl (lv_at hl 2 rfl) ?_
          refine gi_sub (z := (x4 - a2)) hx hb dX6_putNumber_56 rfl ?_
          refine lv_bipush (v := iI 6) hx hb dX6_putNumber_57 (by decide) ?_
          refine gi_cle (tgt := 68) hx hb dX6_putNumber_59 (by decide) (by omega) (by decide) (fun c_9 => ?_) (fun c_9 => ?_)
          · refine lv_sipush (v := iI 258) hx hb dX6_putNumber_68 (by decide) ?_
            refine lv_iload_n hx hb dX6_putNumber_71 rfl (lv_at hl 2 rfl) ?_
            refine lv_iload hx hb dX6_putNumber_72 (lv_at hl 5 rfl) ?_
            refine g_cv (As := [.int (iI 258), .int (iI a2), .int (iI x5)]) (rest := []) (n := 3) C hml (c_X6_put l D k A ad hD (va_up v 5 (v 5)) (va_up (va_up (va_up f 6 (f 6)) 7 (f 7)) 8 (f 8)) g 258 a2 x5 (by decide) (by omega) (by omega) (show 0 ≤ (258 : Int) ∧ (258 : Int) ≤ 300 from by omega) (show 0 ≤ a2 ∧ a2 ≤ 700 from by omega) (show 0 ≤ x5 ∧ x5 ≤ 999999 from by omega)) mM_X6_45 mI_X6_put mE_X6_put mN_X6 mC_X6_put (by decide +kernel) 10 (ci := 6) rfl rfl hP hS (fun _ h => h) ⟨Nat.le_of_ble_eq_true rfl, Nat.le_of_ble_eq_true rfl⟩ ⟨Nat.zero_le _, Nat.zero_le _⟩ hl.1 rfl rfl (Nat.le_of_ble_eq_true rfl) dX6_putNumber_74 (fun r_10 v_10 f_10 g_10 H locs hq_10 hP _ hS => ?_)
            obtain ⟨w5_10, a6_10, a7_10, a8_10, rfl, rfl, rfl, rfl⟩ := hq_10
            show W p l e (gRm 1 23) s m args below meth c _ _ 0 0 Q (F0 m 77 ls [])
            have hP : gWd D (rwT k ad) (va_up v 5 w5_10) (va_up (va_up (va_up f 6 a6_10) 7 a7_10) 8 a8_10) g H := ⟨hP.1, (gF_up (V := rwV) (F := rwF) (gF_up (V := rwV) (F := rwF) (gF_up (V := rwV) (F := rwF) (gR_up (V := rwV) (F := rwF) ⟨hok.1, hok.2⟩ 5 (hP.2.1 5)) 6 (hP.2.2 6)) 7 (hP.2.2 7)) 8 (hP.2.2 8))⟩
            have rw5_10 : 0 ≤ w5_10 ∧ w5_10 ≤ 701 := hP.2.1 5
            refine lv_iload hx hb dX6_putNumber_77 (lv_at hl 4 rfl) ?_
            exact g_iret hQ C hr hlocks hP hS dX6_putNumber_79 ⟨x4, w5_10, a6_10, a7_10, a8_10, rfl, rfl, rfl, rfl, (by first | omega | (split <;> omega))⟩
          · refine lv_sipush (v := iI 257) hx hb dX6_putNumber_62 (by decide) ?_
            refine lv_goto (tgt := 71) hx hb dX6_putNumber_65 (by decide) ?_
            refine lv_iload_n hx hb dX6_putNumber_71 rfl (lv_at hl 2 rfl) ?_
            refine lv_iload hx hb dX6_putNumber_72 (lv_at hl 5 rfl) ?_
            refine g_cv (As := [.int (iI 257), .int (iI a2), .int (iI x5)]) (rest := []) (n := 3) C hml (c_X6_put l D k A ad hD (va_up v 5 (v 5)) (va_up (va_up (va_up f 6 (f 6)) 7 (f 7)) 8 (f 8)) g 257 a2 x5 (by decide) (by omega) (by omega) (show 0 ≤ (257 : Int) ∧ (257 : Int) ≤ 300 from by omega) (show 0 ≤ a2 ∧ a2 ≤ 700 from by omega) (show 0 ≤ x5 ∧ x5 ≤ 999999 from by omega)) mM_X6_45 mI_X6_put mE_X6_put mN_X6 mC_X6_put (by decide +kernel) 10 (ci := 6) rfl rfl hP hS (fun _ h => h) ⟨Nat.le_of_ble_eq_true rfl, Nat.le_of_ble_eq_true rfl⟩ ⟨Nat.zero_le _, Nat.zero_le _⟩ hl.1 rfl rfl (Nat.le_of_ble_eq_true rfl) dX6_putNumber_74 (fun r_11 v_11 f_11 g_11 H locs hq_11 hP _ hS => ?_)
            obtain ⟨w5_11, a6_11, a7_11, a8_11, rfl, rfl, rfl, rfl⟩ := hq_11
            show W p l e (gRm 1 23) s m args below meth c _ _ 0 0 Q (F0 m 77 ls [])
            have hP : gWd D (rwT k ad) (va_up v 5 w5_11) (va_up (va_up (va_up f 6 a6_11) 7 a7_11) 8 a8_11) g H := ⟨hP.1, (gF_up (V := rwV) (F := rwF) (gF_up (V := rwV) (F := rwF) (gF_up (V := rwV) (F := rwF) (gR_up (V := rwV) (F := rwF) ⟨hok.1, hok.2⟩ 5 (hP.2.1 5)) 6 (hP.2.2 6)) 7 (hP.2.2 7)) 8 (hP.2.2 8))⟩
            have rw5_11 : 0 ≤ w5_11 ∧ w5_11 ≤ 701 := hP.2.1 5
            refine lv_iload hx hb dX6_putNumber_77 (lv_at hl 4 rfl) ?_
            exact g_iret hQ C hr hlocks hP hS dX6_putNumber_79 ⟨x4, w5_11, a6_11, a7_11, a8_11, rfl, rfl, rfl, rfl, (by first | omega | (split <;> omega))⟩
        · refine lv_iload hx hb dX6_putNumber_22 (lv_at hl 4 rfl) ?_
          refine lv_iload_n hx hb dX6_putNumber_24 rfl (lv_at hl 2 rfl) ?_
          refine gi_sub (z := (x4 - a2)) hx hb dX6_putNumber_25 rfl ?_
          refine lv_bipush (v := iI 6) hx hb dX6_putNumber_26 (by decide) ?_
          refine gi_cge (tgt := 46) hx hb dX6_putNumber_28 (by decide) (by omega) (by decide) (fun c_12 => ?_) (fun c_12 => ?_)
          · refine lv_iinc (v := iI (x4 + 1)) (lv' := [(4, .int (iI (x4 + 1))), (0, .ref (ad 10)), (1, .ref (ad 1)), (2, .int (iI a2)), (3, .int (iI a3)), (5, .int (iI x5))]) hx hb dX6_putNumber_46 hl (k := 4) rfl (by show iI _ + iI 1 = _; rw [iI_add]) (by decide) rfl (fun ls hl => ?_)
            refine lv_goto (tgt := 6) hx hb dX6_putNumber_49 (by decide) ?_
            exact ih_6 (x4 + 1) x5 _ _ _ (by omega) (by omega) (by omega) (by omega) hP hS (lv_sub hl [1, 2, 3, 4, 0, 5] rfl)
          · refine lv_iload hx hb dX6_putNumber_31 (lv_at hl 5 rfl) ?_
            refine lv_bipush (v := iI 10) hx hb dX6_putNumber_33 (by decide) ?_
            refine gi_mul (z := (x5 * 10)) hx hb dX6_putNumber_35 rfl ?_
            refine lv_aload_n hx hb dX6_putNumber_36 rfl (lv_at hl 1 rfl) ?_
            refine lv_iload hx hb dX6_putNumber_37 (lv_at hl 4 rfl) ?_
            refine rwL_tape C hP (by omega) (by omega) dX6_putNumber_39 ?_
            show W p l e (gRm 1 23) s m args below meth c _ _ 0 0 Q (F0 m 40 ls [.int (iI (f 0 x4)), .int (iI (x5 * 10))])
            refine gi_add (z := ((x5 * 10) + (f 0 x4))) hx hb dX6_putNumber_40 rfl ?_
            refine lv_bipush (v := iI 48) hx hb dX6_putNumber_41 (by decide) ?_
            refine gi_sub (z := (((x5 * 10) + (f 0 x4)) - 48)) hx hb dX6_putNumber_43 rfl ?_
            refine lv_istore (lv' := [(5, .int (iI (((x5 * 10) + (f 0 x4)) - 48))), (0, .ref (ad 10)), (1, .ref (ad 1)), (2, .int (iI a2)), (3, .int (iI a3)), (4, .int (iI x4))]) hx hb dX6_putNumber_44 hl (by decide) rfl (fun ls hl => ?_)
            refine lv_iinc (v := iI (x4 + 1)) (lv' := [(4, .int (iI (x4 + 1))), (5, .int (iI (((x5 * 10) + (f 0 x4)) - 48))), (0, .ref (ad 10)), (1, .ref (ad 1)), (2, .int (iI a2)), (3, .int (iI a3))]) hx hb dX6_putNumber_46 hl (k := 5) rfl (by show iI _ + iI 1 = _; rw [iI_add]) (by decide) rfl (fun ls hl => ?_)
            refine lv_goto (tgt := 6) hx hb dX6_putNumber_49 (by decide) ?_
            exact ih_6 (x4 + 1) (((x5 * 10) + (f 0 x4)) - 48) _ _ _ (by omega) (by omega) (by omega) (by omega) hP hS (lv_sub hl [2, 3, 4, 5, 0, 1] rfl)
  exact L_1 701 a2 0 _ _ _ (by omega) (by omega) (by omega) (by omega) hP hS (lv_sub hl [2, 3, 4, 5, 1, 0] rfl)

set_option maxHeartbeats 4000000 in
set_option maxRecDepth 100000 in
theorem c_X4_addItem (l : Launch) (D : va_G) (k : Nat → ClassId) (A : Nat → Prop) (ad : Nat → Nat) (hD : rwD A k ad) (v : gV) (f g : gF) (a1 : Int) (a2 : Int) (h_a1 : inR a1) (h_a2 : inR a2) (h1 : 0 ≤ a1 ∧ a1 ≤ 10) (h2 : 0 ≤ a2 ∧ a2 ≤ 999999) : GM l D k A (rwT k ad) yX4_addItem cX4_addItem 3 none 0 0 [.ref (ad 14), .int (iI a1), .int (iI a2)] v f g (fun r v1 f1 g1 => ∃ (w8 : Int) (a10_ : Int → Int) (a11_ : Int → Int), r = none ∧ (va_up v 8 w8) = v1 ∧ (va_up (va_up f 10 a10_) 11 a11_) = f1 ∧ g = g1) := by
  refine GM.of (by decide) (Nat.le_of_ble_eq_true rfl) ?_
  intro p e s m args below meth c Q ls hQ C hml hr hlocks hP hl
  have hx := C.1
  have hb := C.2.1
  have hok := hP.2
  have hS : va_S A s.heap s.heap [] := va_S.rf
  have hl : lv_has ls 3 [(0, .ref (ad 14)), (1, .int (iI a1)), (2, .int (iI a2))] := hl
  have hP : gWd D (rwT k ad) (va_up v 8 (v 8)) (va_up (va_up f 10 (f 10)) 11 (f 11)) g s.heap := by rw [va_id, va_id, va_id]; exact hP
  refine lv_aload_n hx hb dX4_addItem_0 rfl (lv_at hl 0 rfl) ?_
  refine rwG_reader_draft_items C hP mF_X4_35 dX4_addItem_1 ?_
  show W p l e (gRm 0 0) s m args below meth c _ _ 0 0 Q (F0 m 4 ls [.int (iI (v 8))])
  have r_1 : 0 ≤ (v 8) ∧ (v 8) ≤ 40 := hok.1 8
  refine lv_bipush (v := iI 40) hx hb dX4_addItem_4 (by decide) ?_
  refine gi_cge (tgt := 39) hx hb dX4_addItem_6 (by decide) (by omega) (by decide) (fun c_2 => ?_) (fun c_2 => ?_)
  · exact g_vret hQ C hr hlocks hP hS dX4_addItem_39 ⟨(v 8), (f 10), (f 11), rfl, rfl, rfl, rfl⟩
  · refine lv_aload_n hx hb dX4_addItem_9 rfl (lv_at hl 0 rfl) ?_
    refine rwG_reader_draft_item C hP mF_X4_15 dX4_addItem_10 ?_
    refine lv_aload_n hx hb dX4_addItem_13 rfl (lv_at hl 0 rfl) ?_
    refine rwG_reader_draft_items C hP mF_X4_35 dX4_addItem_14 ?_
    show W p l e (gRm 0 0) s m args below meth c _ _ 0 0 Q (F0 m 17 ls [.int (iI (v 8)), .ref (ad 16)])
    refine lv_iload_n hx hb dX4_addItem_17 rfl (lv_at hl 1 rfl) ?_
    refine rwS_reader_draft_item (f1 := (va_up (va_up f 10 (u1 (f 10) (v 8) a1)) 11 (f 11))) C hP hD hS (by omega) (by omega) (by omega) rfl (Or.inr (gF_up (V := rwV) (F := rwF) (gF_up (V := rwV) (F := rwF) (gR_up (V := rwV) (F := rwF) ⟨hok.1, hok.2⟩ 8 (hP.2.1 8)) 10 (u1_rng (hP.2.2 10) (show 0 ≤ a1 ∧ a1 ≤ 10 from (by omega)))) 11 (hP.2.2 11))) dX4_addItem_18 (fun H locs hP hS => ?_)
    refine lv_aload_n hx hb dX4_addItem_19 rfl (lv_at hl 0 rfl) ?_
    refine rwG_reader_draft_number C hP mF_X4_18 dX4_addItem_20 ?_
    refine lv_aload_n hx hb dX4_addItem_23 rfl (lv_at hl 0 rfl) ?_
    refine rwG_reader_draft_items C hP mF_X4_35 dX4_addItem_24 ?_
    show W p l e (gRm 0 0) s m args below meth c _ _ 0 0 Q (F0 m 27 ls [.int (iI (v 8)), .ref (ad 17)])
    refine lv_iload_n hx hb dX4_addItem_27 rfl (lv_at hl 2 rfl) ?_
    refine rwS_reader_draft_number (f1 := (va_up (va_up f 10 (u1 (f 10) (v 8) a1)) 11 (u1 (f 11) (v 8) a2))) C hP hD hS (by omega) (by omega) (by omega) rfl (Or.inr (gF_up (V := rwV) (F := rwF) (gF_up (V := rwV) (F := rwF) (gR_up (V := rwV) (F := rwF) ⟨hok.1, hok.2⟩ 8 (hP.2.1 8)) 10 (hP.2.2 10)) 11 (u1_rng (hP.2.2 11) (show 0 ≤ a2 ∧ a2 ≤ 999999 from (by omega))))) dX4_addItem_28 (fun H locs hP hS => ?_)
    refine lv_aload_n hx hb dX4_addItem_29 rfl (lv_at hl 0 rfl) ?_
    refine lv_dup hx hb dX4_addItem_30 rfl ?_
    refine rwG_reader_draft_items C hP mF_X4_35 dX4_addItem_31 ?_
    show W p l e (gRm 0 0) s m args below meth c _ _ 0 0 Q (F0 m 34 ls [.int (iI (v 8)), .ref (ad 14)])
    refine lv_iconst (v := iI 1) hx hb dX4_addItem_34 rfl ?_
    refine gi_add (z := ((v 8) + 1)) hx hb dX4_addItem_35 rfl ?_
    refine rwP_reader_draft_items (v1 := (va_up v 8 ((v 8) + 1))) C hP hD hS mF_X4_35 (by omega) rfl (Or.inr (gF_up (V := rwV) (F := rwF) (gF_up (V := rwV) (F := rwF) (gR_up (V := rwV) (F := rwF) ⟨hok.1, hok.2⟩ 8 (show 0 ≤ ((v 8) + 1) ∧ ((v 8) + 1) ≤ 40 from by omega)) 10 (hP.2.2 10)) 11 (hP.2.2 11))) dX4_addItem_36 (fun H locs hP hS => ?_)
    exact g_vret hQ C hr hlocks hP hS dX4_addItem_39 ⟨((v 8) + 1), (u1 (f 10) (v 8) a1), (u1 (f 11) (v 8) a2), rfl, rfl, rfl, rfl⟩

set_option maxHeartbeats 4000000 in
set_option maxRecDepth 100000 in
theorem c_X4_addKey (l : Launch) (D : va_G) (k : Nat → ClassId) (A : Nat → Prop) (ad : Nat → Nat) (hD : rwD A k ad) (v : gV) (f g : gF) (a1 : Int) (a2 : Int) (h_a1 : inR a1) (h_a2 : inR a2) (h1 : 0 ≤ a1 ∧ a1 ≤ 3) : GM l D k A (rwT k ad) yX4_addKey cX4_addKey 3 none 0 0 [.ref (ad 14), .int (iI a1), .int (iI a2)] v f g (fun r v1 f1 g1 => ∃ (w9 : Int) (a12_ : Int → Int) (a13_ : Int → Int), r = none ∧ (va_up v 9 w9) = v1 ∧ (va_up (va_up f 12 a12_) 13 a13_) = f1 ∧ g = g1) := by
  refine GM.of (by decide) (Nat.le_of_ble_eq_true rfl) ?_
  intro p e s m args below meth c Q ls hQ C hml hr hlocks hP hl
  have hx := C.1
  have hb := C.2.1
  have hok := hP.2
  have hS : va_S A s.heap s.heap [] := va_S.rf
  have hl : lv_has ls 3 [(0, .ref (ad 14)), (1, .int (iI a1)), (2, .int (iI a2))] := hl
  have hP : gWd D (rwT k ad) (va_up v 9 (v 9)) (va_up (va_up f 12 (f 12)) 13 (f 13)) g s.heap := by rw [va_id, va_id, va_id]; exact hP
  refine lv_aload_n hx hb dX4_addKey_0 rfl (lv_at hl 0 rfl) ?_
  refine rwG_reader_draft_keys C hP mF_X4_42 dX4_addKey_1 ?_
  show W p l e (gRm 0 0) s m args below meth c _ _ 0 0 Q (F0 m 4 ls [.int (iI (v 9))])
  have r_1 : 0 ≤ (v 9) ∧ (v 9) ≤ 4 := hok.1 9
  refine lv_iconst (v := iI 4) hx hb dX4_addKey_4 rfl ?_
  refine gi_cge (tgt := 46) hx hb dX4_addKey_5 (by decide) (by omega) (by decide) (fun c_2 => ?_) (fun c_2 => ?_)
  · exact g_vret hQ C hr hlocks hP hS dX4_addKey_46 ⟨(v 9), (f 12), (f 13), rfl, rfl, rfl, rfl⟩
  · refine lv_aload_n hx hb dX4_addKey_8 rfl (lv_at hl 0 rfl) ?_
    refine rwG_reader_draft_keyKind C hP mF_X4_21 dX4_addKey_9 ?_
    refine lv_aload_n hx hb dX4_addKey_12 rfl (lv_at hl 0 rfl) ?_
    refine rwG_reader_draft_keys C hP mF_X4_42 dX4_addKey_13 ?_
    show W p l e (gRm 0 0) s m args below meth c _ _ 0 0 Q (F0 m 16 ls [.int (iI (v 9)), .ref (ad 18)])
    refine lv_iload_n hx hb dX4_addKey_16 rfl (lv_at hl 1 rfl) ?_
    refine rwS_reader_draft_keyKind (f1 := (va_up (va_up f 12 (u1 (f 12) (v 9) a1)) 13 (f 13))) C hP hD hS (by omega) (by omega) (by omega) rfl (Or.inr (gF_up (V := rwV) (F := rwF) (gF_up (V := rwV) (F := rwF) (gR_up (V := rwV) (F := rwF) ⟨hok.1, hok.2⟩ 9 (hP.2.1 9)) 12 (u1_rng (hP.2.2 12) (show 0 ≤ a1 ∧ a1 ≤ 3 from (by omega)))) 13 (hP.2.2 13))) dX4_addKey_17 (fun H locs hP hS => ?_)
    refine lv_aload_n hx hb dX4_addKey_18 rfl (lv_at hl 0 rfl) ?_
    refine rwG_reader_draft_keyDown C hP mF_X4_24 dX4_addKey_19 ?_
    refine lv_aload_n hx hb dX4_addKey_22 rfl (lv_at hl 0 rfl) ?_
    refine rwG_reader_draft_keys C hP mF_X4_42 dX4_addKey_23 ?_
    show W p l e (gRm 0 0) s m args below meth c _ _ 0 0 Q (F0 m 26 ls [.int (iI (v 9)), .ref (ad 19)])
    refine lv_iload_n hx hb dX4_addKey_26 rfl (lv_at hl 2 rfl) ?_
    refine gi_zeq (tgt := 34) hx hb dX4_addKey_27 (by decide) (by omega) (fun c_3 => ?_) (fun c_3 => ?_)
    · refine lv_iconst (v := iI 0) hx hb dX4_addKey_34 rfl ?_
      refine rwS_reader_draft_keyDown (f1 := (va_up (va_up f 12 (u1 (f 12) (v 9) a1)) 13 (u1 (f 13) (v 9) 0))) C hP hD hS (by omega) (by omega) (by decide) rfl (Or.inr (gF_up (V := rwV) (F := rwF) (gF_up (V := rwV) (F := rwF) (gR_up (V := rwV) (F := rwF) ⟨hok.1, hok.2⟩ 9 (hP.2.1 9)) 12 (hP.2.2 12)) 13 (u1_rng (hP.2.2 13) (show 0 ≤ 0 ∧ 0 ≤ 1 from (by decide))))) dX4_addKey_35 (fun H locs hP hS => ?_)
      refine lv_aload_n hx hb dX4_addKey_36 rfl (lv_at hl 0 rfl) ?_
      refine lv_dup hx hb dX4_addKey_37 rfl ?_
      refine rwG_reader_draft_keys C hP mF_X4_42 dX4_addKey_38 ?_
      show W p l e (gRm 0 0) s m args below meth c _ _ 0 0 Q (F0 m 41 ls [.int (iI (v 9)), .ref (ad 14)])
      refine lv_iconst (v := iI 1) hx hb dX4_addKey_41 rfl ?_
      refine gi_add (z := ((v 9) + 1)) hx hb dX4_addKey_42 rfl ?_
      refine rwP_reader_draft_keys (v1 := (va_up v 9 ((v 9) + 1))) C hP hD hS mF_X4_42 (by omega) rfl (Or.inr (gF_up (V := rwV) (F := rwF) (gF_up (V := rwV) (F := rwF) (gR_up (V := rwV) (F := rwF) ⟨hok.1, hok.2⟩ 9 (show 0 ≤ ((v 9) + 1) ∧ ((v 9) + 1) ≤ 4 from by omega)) 12 (hP.2.2 12)) 13 (hP.2.2 13))) dX4_addKey_43 (fun H locs hP hS => ?_)
      exact g_vret hQ C hr hlocks hP hS dX4_addKey_46 ⟨((v 9) + 1), (u1 (f 12) (v 9) a1), (u1 (f 13) (v 9) 0), rfl, rfl, rfl, rfl⟩
    · refine lv_iconst (v := iI 1) hx hb dX4_addKey_30 rfl ?_
      refine lv_goto (tgt := 35) hx hb dX4_addKey_31 (by decide) ?_
      refine rwS_reader_draft_keyDown (f1 := (va_up (va_up f 12 (u1 (f 12) (v 9) a1)) 13 (u1 (f 13) (v 9) 1))) C hP hD hS (by omega) (by omega) (by decide) rfl (Or.inr (gF_up (V := rwV) (F := rwF) (gF_up (V := rwV) (F := rwF) (gR_up (V := rwV) (F := rwF) ⟨hok.1, hok.2⟩ 9 (hP.2.1 9)) 12 (hP.2.2 12)) 13 (u1_rng (hP.2.2 13) (show 0 ≤ 1 ∧ 1 ≤ 1 from (by decide))))) dX4_addKey_35 (fun H locs hP hS => ?_)
      refine lv_aload_n hx hb dX4_addKey_36 rfl (lv_at hl 0 rfl) ?_
      refine lv_dup hx hb dX4_addKey_37 rfl ?_
      refine rwG_reader_draft_keys C hP mF_X4_42 dX4_addKey_38 ?_
      show W p l e (gRm 0 0) s m args below meth c _ _ 0 0 Q (F0 m 41 ls [.int (iI (v 9)), .ref (ad 14)])
      refine lv_iconst (v := iI 1) hx hb dX4_addKey_41 rfl ?_
      refine gi_add (z := ((v 9) + 1)) hx hb dX4_addKey_42 rfl ?_
      refine rwP_reader_draft_keys (v1 := (va_up v 9 ((v 9) + 1))) C hP hD hS mF_X4_42 (by omega) rfl (Or.inr (gF_up (V := rwV) (F := rwF) (gF_up (V := rwV) (F := rwF) (gR_up (V := rwV) (F := rwF) ⟨hok.1, hok.2⟩ 9 (show 0 ≤ ((v 9) + 1) ∧ ((v 9) + 1) ≤ 4 from by omega)) 12 (hP.2.2 12)) 13 (hP.2.2 13))) dX4_addKey_43 (fun H locs hP hS => ?_)
      exact g_vret hQ C hr hlocks hP hS dX4_addKey_46 ⟨((v 9) + 1), (u1 (f 12) (v 9) a1), (u1 (f 13) (v 9) 1), rfl, rfl, rfl, rfl⟩

set_option maxHeartbeats 4000000 in
set_option maxRecDepth 100000 in
theorem c_X4_setUntold (l : Launch) (D : va_G) (k : Nat → ClassId) (A : Nat → Prop) (ad : Nat → Nat) (hD : rwD A k ad) (v : gV) (f g : gF) : GM l D k A (rwT k ad) yX4_setUntold cX4_setUntold 1 none 1 22 [.ref (ad 14)] v f g (fun r v1 f1 g1 => ∃ (w8 : Int) (w9 : Int) (a10_ : Int → Int) (a11_ : Int → Int) (a12_ : Int → Int) (a13_ : Int → Int), r = none ∧ (va_up (va_up (va_up (va_up v 7 0) 8 w8) 9 w9) 10 0) = v1 ∧ (va_up (va_up (va_up (va_up f 10 a10_) 11 a11_) 12 a12_) 13 a13_) = f1 ∧ g = g1) := by
  refine GM.of (by decide) (Nat.le_of_ble_eq_true rfl) ?_
  intro p e s m args below meth c Q ls hQ C hml hr hlocks hP hl
  have hx := C.1
  have hb := C.2.1
  have hok := hP.2
  have hS : va_S A s.heap s.heap [] := va_S.rf
  have hl : lv_has ls 1 [(0, .ref (ad 14))] := hl
  have hP : gWd D (rwT k ad) (va_up (va_up (va_up (va_up v 7 (v 7)) 8 (v 8)) 9 (v 9)) 10 (v 10)) (va_up (va_up (va_up (va_up f 10 (f 10)) 11 (f 11)) 12 (f 12)) 13 (f 13)) g s.heap := by rw [va_id, va_id, va_id, va_id, va_id, va_id, va_id, va_id]; exact hP
  refine lv_aload_n hx hb dX4_setUntold_0 rfl (lv_at hl 0 rfl) ?_
  refine lv_iconst (v := iI 0) hx hb dX4_setUntold_1 rfl ?_
  refine rwP_reader_draft_rounds (v1 := (va_up (va_up (va_up (va_up v 7 0) 8 (v 8)) 9 (v 9)) 10 (v 10))) C hP hD hS mF_X4_31 (by decide) rfl (Or.inr (gF_up (V := rwV) (F := rwF) (gF_up (V := rwV) (F := rwF) (gF_up (V := rwV) (F := rwF) (gF_up (V := rwV) (F := rwF) (gR_up (V := rwV) (F := rwF) (gR_up (V := rwV) (F := rwF) (gR_up (V := rwV) (F := rwF) (gR_up (V := rwV) (F := rwF) ⟨hok.1, hok.2⟩ 7 (show 0 ≤ 0 ∧ 0 ≤ 4 from by decide)) 8 (hP.2.1 8)) 9 (hP.2.1 9)) 10 (hP.2.1 10)) 10 (hP.2.2 10)) 11 (hP.2.2 11)) 12 (hP.2.2 12)) 13 (hP.2.2 13))) dX4_setUntold_2 (fun H locs hP hS => ?_)
  refine lv_aload_n hx hb dX4_setUntold_5 rfl (lv_at hl 0 rfl) ?_
  refine lv_iconst (v := iI 0) hx hb dX4_setUntold_6 rfl ?_
  refine rwP_reader_draft_items (v1 := (va_up (va_up (va_up (va_up v 7 0) 8 0) 9 (v 9)) 10 (v 10))) C hP hD hS mF_X4_35 (by decide) rfl (Or.inr (gF_up (V := rwV) (F := rwF) (gF_up (V := rwV) (F := rwF) (gF_up (V := rwV) (F := rwF) (gF_up (V := rwV) (F := rwF) (gR_up (V := rwV) (F := rwF) (gR_up (V := rwV) (F := rwF) (gR_up (V := rwV) (F := rwF) (gR_up (V := rwV) (F := rwF) ⟨hok.1, hok.2⟩ 7 (hP.2.1 7)) 8 (show 0 ≤ 0 ∧ 0 ≤ 40 from by decide)) 9 (hP.2.1 9)) 10 (hP.2.1 10)) 10 (hP.2.2 10)) 11 (hP.2.2 11)) 12 (hP.2.2 12)) 13 (hP.2.2 13))) dX4_setUntold_7 (fun H locs hP hS => ?_)
  refine lv_aload_n hx hb dX4_setUntold_10 rfl (lv_at hl 0 rfl) ?_
  refine lv_bipush (v := iI 6) hx hb dX4_setUntold_11 (by decide) ?_
  refine lv_bipush (v := iI 100) hx hb dX4_setUntold_13 (by decide) ?_
  refine g_cv (As := [.int (iI 6), .int (iI 100)]) (rest := []) (n := 2) C hml (c_X4_addItem l D k A ad hD (va_up (va_up (va_up (va_up v 7 0) 8 0) 9 (v 9)) 10 (v 10)) (va_up (va_up (va_up (va_up f 10 (f 10)) 11 (f 11)) 12 (f 12)) 13 (f 13)) g 6 100 (by decide) (by decide) (show 0 ≤ (6 : Int) ∧ (6 : Int) ≤ 10 from by omega) (show 0 ≤ (100 : Int) ∧ (100 : Int) ≤ 999999 from by omega)) mM_X4_38 mI_X4_addItem mE_X4_addItem mN_X4 mC_X4_addItem (by decide +kernel) 14 (ci := 4) rfl rfl hP hS (fun _ h => h) ⟨Nat.le_of_ble_eq_true rfl, Nat.le_of_ble_eq_true rfl⟩ ⟨Nat.zero_le _, Nat.zero_le _⟩ hl.1 rfl rfl (Nat.le_of_ble_eq_true rfl) dX4_setUntold_15 (fun r_1 v_1 f_1 g_1 H locs hq_1 hP _ hS => ?_)
  obtain ⟨w8_1, a10_1, a11_1, rfl, rfl, rfl, rfl⟩ := hq_1
  show W p l e (gRm 1 22) s m args below meth c _ _ 0 0 Q (F0 m 18 ls [])
  have hP : gWd D (rwT k ad) (va_up (va_up (va_up (va_up v 7 0) 8 w8_1) 9 (v 9)) 10 (v 10)) (va_up (va_up (va_up (va_up f 10 a10_1) 11 a11_1) 12 (f 12)) 13 (f 13)) g H := ⟨hP.1, (gF_up (V := rwV) (F := rwF) (gF_up (V := rwV) (F := rwF) (gF_up (V := rwV) (F := rwF) (gF_up (V := rwV) (F := rwF) (gR_up (V := rwV) (F := rwF) (gR_up (V := rwV) (F := rwF) (gR_up (V := rwV) (F := rwF) (gR_up (V := rwV) (F := rwF) ⟨hok.1, hok.2⟩ 7 (hP.2.1 7)) 8 (hP.2.1 8)) 9 (hP.2.1 9)) 10 (hP.2.1 10)) 10 (hP.2.2 10)) 11 (hP.2.2 11)) 12 (hP.2.2 12)) 13 (hP.2.2 13))⟩
  have rw8_1 : 0 ≤ w8_1 ∧ w8_1 ≤ 40 := hP.2.1 8
  refine lv_aload_n hx hb dX4_setUntold_18 rfl (lv_at hl 0 rfl) ?_
  refine lv_iconst (v := iI 0) hx hb dX4_setUntold_19 rfl ?_
  refine lv_iconst (v := iI 0) hx hb dX4_setUntold_20 rfl ?_
  refine g_cv (As := [.int (iI 0), .int (iI 0)]) (rest := []) (n := 2) C hml (c_X4_addItem l D k A ad hD (va_up (va_up (va_up (va_up v 7 0) 8 w8_1) 9 (v 9)) 10 (v 10)) (va_up (va_up (va_up (va_up f 10 a10_1) 11 a11_1) 12 (f 12)) 13 (f 13)) g 0 0 (by decide) (by decide) (show 0 ≤ (0 : Int) ∧ (0 : Int) ≤ 10 from by omega) (show 0 ≤ (0 : Int) ∧ (0 : Int) ≤ 999999 from by omega)) mM_X4_38 mI_X4_addItem mE_X4_addItem mN_X4 mC_X4_addItem (by decide +kernel) 14 (ci := 4) rfl rfl hP hS (fun _ h => h) ⟨Nat.le_of_ble_eq_true rfl, Nat.le_of_ble_eq_true rfl⟩ ⟨Nat.zero_le _, Nat.zero_le _⟩ hl.1 rfl rfl (Nat.le_of_ble_eq_true rfl) dX4_setUntold_21 (fun r_2 v_2 f_2 g_2 H locs hq_2 hP _ hS => ?_)
  obtain ⟨w8_2, a10_2, a11_2, rfl, rfl, rfl, rfl⟩ := hq_2
  show W p l e (gRm 1 22) s m args below meth c _ _ 0 0 Q (F0 m 24 ls [])
  have hP : gWd D (rwT k ad) (va_up (va_up (va_up (va_up v 7 0) 8 w8_2) 9 (v 9)) 10 (v 10)) (va_up (va_up (va_up (va_up f 10 a10_2) 11 a11_2) 12 (f 12)) 13 (f 13)) g H := ⟨hP.1, (gF_up (V := rwV) (F := rwF) (gF_up (V := rwV) (F := rwF) (gF_up (V := rwV) (F := rwF) (gF_up (V := rwV) (F := rwF) (gR_up (V := rwV) (F := rwF) (gR_up (V := rwV) (F := rwF) (gR_up (V := rwV) (F := rwF) (gR_up (V := rwV) (F := rwF) ⟨hok.1, hok.2⟩ 7 (hP.2.1 7)) 8 (hP.2.1 8)) 9 (hP.2.1 9)) 10 (hP.2.1 10)) 10 (hP.2.2 10)) 11 (hP.2.2 11)) 12 (hP.2.2 12)) 13 (hP.2.2 13))⟩
  have rw8_2 : 0 ≤ w8_2 ∧ w8_2 ≤ 40 := hP.2.1 8
  refine lv_aload_n hx hb dX4_setUntold_24 rfl (lv_at hl 0 rfl) ?_
  refine lv_bipush (v := iI 9) hx hb dX4_setUntold_25 (by decide) ?_
  refine lv_iconst (v := iI 0) hx hb dX4_setUntold_27 rfl ?_
  refine g_cv (As := [.int (iI 9), .int (iI 0)]) (rest := []) (n := 2) C hml (c_X4_addItem l D k A ad hD (va_up (va_up (va_up (va_up v 7 0) 8 w8_2) 9 (v 9)) 10 (v 10)) (va_up (va_up (va_up (va_up f 10 a10_2) 11 a11_2) 12 (f 12)) 13 (f 13)) g 9 0 (by decide) (by decide) (show 0 ≤ (9 : Int) ∧ (9 : Int) ≤ 10 from by omega) (show 0 ≤ (0 : Int) ∧ (0 : Int) ≤ 999999 from by omega)) mM_X4_38 mI_X4_addItem mE_X4_addItem mN_X4 mC_X4_addItem (by decide +kernel) 14 (ci := 4) rfl rfl hP hS (fun _ h => h) ⟨Nat.le_of_ble_eq_true rfl, Nat.le_of_ble_eq_true rfl⟩ ⟨Nat.zero_le _, Nat.zero_le _⟩ hl.1 rfl rfl (Nat.le_of_ble_eq_true rfl) dX4_setUntold_28 (fun r_3 v_3 f_3 g_3 H locs hq_3 hP _ hS => ?_)
  obtain ⟨w8_3, a10_3, a11_3, rfl, rfl, rfl, rfl⟩ := hq_3
  show W p l e (gRm 1 22) s m args below meth c _ _ 0 0 Q (F0 m 31 ls [])
  have hP : gWd D (rwT k ad) (va_up (va_up (va_up (va_up v 7 0) 8 w8_3) 9 (v 9)) 10 (v 10)) (va_up (va_up (va_up (va_up f 10 a10_3) 11 a11_3) 12 (f 12)) 13 (f 13)) g H := ⟨hP.1, (gF_up (V := rwV) (F := rwF) (gF_up (V := rwV) (F := rwF) (gF_up (V := rwV) (F := rwF) (gF_up (V := rwV) (F := rwF) (gR_up (V := rwV) (F := rwF) (gR_up (V := rwV) (F := rwF) (gR_up (V := rwV) (F := rwF) (gR_up (V := rwV) (F := rwF) ⟨hok.1, hok.2⟩ 7 (hP.2.1 7)) 8 (hP.2.1 8)) 9 (hP.2.1 9)) 10 (hP.2.1 10)) 10 (hP.2.2 10)) 11 (hP.2.2 11)) 12 (hP.2.2 12)) 13 (hP.2.2 13))⟩
  have rw8_3 : 0 ≤ w8_3 ∧ w8_3 ≤ 40 := hP.2.1 8
  refine lv_aload_n hx hb dX4_setUntold_31 rfl (lv_at hl 0 rfl) ?_
  refine lv_iconst (v := iI 1) hx hb dX4_setUntold_32 rfl ?_
  refine lv_iconst (v := iI 0) hx hb dX4_setUntold_33 rfl ?_
  refine g_cv (As := [.int (iI 1), .int (iI 0)]) (rest := []) (n := 2) C hml (c_X4_addItem l D k A ad hD (va_up (va_up (va_up (va_up v 7 0) 8 w8_3) 9 (v 9)) 10 (v 10)) (va_up (va_up (va_up (va_up f 10 a10_3) 11 a11_3) 12 (f 12)) 13 (f 13)) g 1 0 (by decide) (by decide) (show 0 ≤ (1 : Int) ∧ (1 : Int) ≤ 10 from by omega) (show 0 ≤ (0 : Int) ∧ (0 : Int) ≤ 999999 from by omega)) mM_X4_38 mI_X4_addItem mE_X4_addItem mN_X4 mC_X4_addItem (by decide +kernel) 14 (ci := 4) rfl rfl hP hS (fun _ h => h) ⟨Nat.le_of_ble_eq_true rfl, Nat.le_of_ble_eq_true rfl⟩ ⟨Nat.zero_le _, Nat.zero_le _⟩ hl.1 rfl rfl (Nat.le_of_ble_eq_true rfl) dX4_setUntold_34 (fun r_4 v_4 f_4 g_4 H locs hq_4 hP _ hS => ?_)
  obtain ⟨w8_4, a10_4, a11_4, rfl, rfl, rfl, rfl⟩ := hq_4
  show W p l e (gRm 1 22) s m args below meth c _ _ 0 0 Q (F0 m 37 ls [])
  have hP : gWd D (rwT k ad) (va_up (va_up (va_up (va_up v 7 0) 8 w8_4) 9 (v 9)) 10 (v 10)) (va_up (va_up (va_up (va_up f 10 a10_4) 11 a11_4) 12 (f 12)) 13 (f 13)) g H := ⟨hP.1, (gF_up (V := rwV) (F := rwF) (gF_up (V := rwV) (F := rwF) (gF_up (V := rwV) (F := rwF) (gF_up (V := rwV) (F := rwF) (gR_up (V := rwV) (F := rwF) (gR_up (V := rwV) (F := rwF) (gR_up (V := rwV) (F := rwF) (gR_up (V := rwV) (F := rwF) ⟨hok.1, hok.2⟩ 7 (hP.2.1 7)) 8 (hP.2.1 8)) 9 (hP.2.1 9)) 10 (hP.2.1 10)) 10 (hP.2.2 10)) 11 (hP.2.2 11)) 12 (hP.2.2 12)) 13 (hP.2.2 13))⟩
  have rw8_4 : 0 ≤ w8_4 ∧ w8_4 ≤ 40 := hP.2.1 8
  refine lv_aload_n hx hb dX4_setUntold_37 rfl (lv_at hl 0 rfl) ?_
  refine lv_bipush (v := iI 7) hx hb dX4_setUntold_38 (by decide) ?_
  refine lv_iconst (v := iI 0) hx hb dX4_setUntold_40 rfl ?_
  refine g_cv (As := [.int (iI 7), .int (iI 0)]) (rest := []) (n := 2) C hml (c_X4_addItem l D k A ad hD (va_up (va_up (va_up (va_up v 7 0) 8 w8_4) 9 (v 9)) 10 (v 10)) (va_up (va_up (va_up (va_up f 10 a10_4) 11 a11_4) 12 (f 12)) 13 (f 13)) g 7 0 (by decide) (by decide) (show 0 ≤ (7 : Int) ∧ (7 : Int) ≤ 10 from by omega) (show 0 ≤ (0 : Int) ∧ (0 : Int) ≤ 999999 from by omega)) mM_X4_38 mI_X4_addItem mE_X4_addItem mN_X4 mC_X4_addItem (by decide +kernel) 14 (ci := 4) rfl rfl hP hS (fun _ h => h) ⟨Nat.le_of_ble_eq_true rfl, Nat.le_of_ble_eq_true rfl⟩ ⟨Nat.zero_le _, Nat.zero_le _⟩ hl.1 rfl rfl (Nat.le_of_ble_eq_true rfl) dX4_setUntold_41 (fun r_5 v_5 f_5 g_5 H locs hq_5 hP _ hS => ?_)
  obtain ⟨w8_5, a10_5, a11_5, rfl, rfl, rfl, rfl⟩ := hq_5
  show W p l e (gRm 1 22) s m args below meth c _ _ 0 0 Q (F0 m 44 ls [])
  have hP : gWd D (rwT k ad) (va_up (va_up (va_up (va_up v 7 0) 8 w8_5) 9 (v 9)) 10 (v 10)) (va_up (va_up (va_up (va_up f 10 a10_5) 11 a11_5) 12 (f 12)) 13 (f 13)) g H := ⟨hP.1, (gF_up (V := rwV) (F := rwF) (gF_up (V := rwV) (F := rwF) (gF_up (V := rwV) (F := rwF) (gF_up (V := rwV) (F := rwF) (gR_up (V := rwV) (F := rwF) (gR_up (V := rwV) (F := rwF) (gR_up (V := rwV) (F := rwF) (gR_up (V := rwV) (F := rwF) ⟨hok.1, hok.2⟩ 7 (hP.2.1 7)) 8 (hP.2.1 8)) 9 (hP.2.1 9)) 10 (hP.2.1 10)) 10 (hP.2.2 10)) 11 (hP.2.2 11)) 12 (hP.2.2 12)) 13 (hP.2.2 13))⟩
  have rw8_5 : 0 ≤ w8_5 ∧ w8_5 ≤ 40 := hP.2.1 8
  refine lv_aload_n hx hb dX4_setUntold_44 rfl (lv_at hl 0 rfl) ?_
  refine lv_iconst (v := iI 0) hx hb dX4_setUntold_45 rfl ?_
  refine rwP_reader_draft_keys (v1 := (va_up (va_up (va_up (va_up v 7 0) 8 w8_5) 9 0) 10 (v 10))) C hP hD hS mF_X4_42 (by decide) rfl (Or.inr (gF_up (V := rwV) (F := rwF) (gF_up (V := rwV) (F := rwF) (gF_up (V := rwV) (F := rwF) (gF_up (V := rwV) (F := rwF) (gR_up (V := rwV) (F := rwF) (gR_up (V := rwV) (F := rwF) (gR_up (V := rwV) (F := rwF) (gR_up (V := rwV) (F := rwF) ⟨hok.1, hok.2⟩ 7 (hP.2.1 7)) 8 (hP.2.1 8)) 9 (show 0 ≤ 0 ∧ 0 ≤ 4 from by decide)) 10 (hP.2.1 10)) 10 (hP.2.2 10)) 11 (hP.2.2 11)) 12 (hP.2.2 12)) 13 (hP.2.2 13))) dX4_setUntold_46 (fun H locs hP hS => ?_)
  refine lv_aload_n hx hb dX4_setUntold_49 rfl (lv_at hl 0 rfl) ?_
  refine lv_iconst (v := iI 0) hx hb dX4_setUntold_50 rfl ?_
  refine lv_iconst (v := iI 1) hx hb dX4_setUntold_51 rfl ?_
  refine g_cv (As := [.int (iI 0), .int (iI 1)]) (rest := []) (n := 2) C hml (c_X4_addKey l D k A ad hD (va_up (va_up (va_up (va_up v 7 0) 8 w8_5) 9 0) 10 (v 10)) (va_up (va_up (va_up (va_up f 10 a10_5) 11 a11_5) 12 (f 12)) 13 (f 13)) g 0 1 (by decide) (by decide) (show 0 ≤ (0 : Int) ∧ (0 : Int) ≤ 3 from by omega)) mM_X4_45 mI_X4_addKey mE_X4_addKey mN_X4 mC_X4_addKey (by decide +kernel) 14 (ci := 4) rfl rfl hP hS (fun _ h => h) ⟨Nat.le_of_ble_eq_true rfl, Nat.le_of_ble_eq_true rfl⟩ ⟨Nat.zero_le _, Nat.zero_le _⟩ hl.1 rfl rfl (Nat.le_of_ble_eq_true rfl) dX4_setUntold_52 (fun r_6 v_6 f_6 g_6 H locs hq_6 hP _ hS => ?_)
  obtain ⟨w9_6, a12_6, a13_6, rfl, rfl, rfl, rfl⟩ := hq_6
  show W p l e (gRm 1 22) s m args below meth c _ _ 0 0 Q (F0 m 55 ls [])
  have hP : gWd D (rwT k ad) (va_up (va_up (va_up (va_up v 7 0) 8 w8_5) 9 w9_6) 10 (v 10)) (va_up (va_up (va_up (va_up f 10 a10_5) 11 a11_5) 12 a12_6) 13 a13_6) g H := ⟨hP.1, (gF_up (V := rwV) (F := rwF) (gF_up (V := rwV) (F := rwF) (gF_up (V := rwV) (F := rwF) (gF_up (V := rwV) (F := rwF) (gR_up (V := rwV) (F := rwF) (gR_up (V := rwV) (F := rwF) (gR_up (V := rwV) (F := rwF) (gR_up (V := rwV) (F := rwF) ⟨hok.1, hok.2⟩ 7 (hP.2.1 7)) 8 (hP.2.1 8)) 9 (hP.2.1 9)) 10 (hP.2.1 10)) 10 (hP.2.2 10)) 11 (hP.2.2 11)) 12 (hP.2.2 12)) 13 (hP.2.2 13))⟩
  have rw9_6 : 0 ≤ w9_6 ∧ w9_6 ≤ 4 := hP.2.1 9
  refine lv_aload_n hx hb dX4_setUntold_55 rfl (lv_at hl 0 rfl) ?_
  refine lv_iconst (v := iI 0) hx hb dX4_setUntold_56 rfl ?_
  refine rwP_reader_draft_back (v1 := (va_up (va_up (va_up (va_up v 7 0) 8 w8_5) 9 w9_6) 10 0)) C hP hD hS mF_X4_49 (by decide) (by decide) rfl (Or.inr (gF_up (V := rwV) (F := rwF) (gF_up (V := rwV) (F := rwF) (gF_up (V := rwV) (F := rwF) (gF_up (V := rwV) (F := rwF) (gR_up (V := rwV) (F := rwF) (gR_up (V := rwV) (F := rwF) (gR_up (V := rwV) (F := rwF) (gR_up (V := rwV) (F := rwF) ⟨hok.1, hok.2⟩ 7 (hP.2.1 7)) 8 (hP.2.1 8)) 9 (hP.2.1 9)) 10 (show 0 ≤ 0 ∧ 0 ≤ 1 from by decide)) 10 (hP.2.2 10)) 11 (hP.2.2 11)) 12 (hP.2.2 12)) 13 (hP.2.2 13))) dX4_setUntold_57 (fun H locs hP hS => ?_)
  exact g_vret hQ C hr hlocks hP hS dX4_setUntold_60 ⟨w8_5, w9_6, a10_5, a11_5, a12_6, a13_6, rfl, rfl, rfl, rfl⟩

set_option maxHeartbeats 4000000 in
set_option maxRecDepth 100000 in
theorem c_X4_take (l : Launch) (D : va_G) (k : Nat → ClassId) (A : Nat → Prop) (ad : Nat → Nat) (hD : rwD A k ad) (v : gV) (f g : gF) : GM l D k A (rwT k ad) yX4_take cX4_take 2 none 1 64 [.ref (ad 2), .ref (ad 14)] v f g (fun r v1 f1 g1 => r = none ∧ (va_up (va_up (va_up (va_up v 1 (v 7)) 2 (v 8)) 3 (v 9)) 4 (v 10)) = v1 ∧ (va_up (va_up (va_up (va_up (va_up f 1 (gcpy 16 (f 9) (f 1))) 2 (gcpy 40 (f 10) (f 2))) 3 (gcpy 40 (f 11) (f 3))) 4 (gcpy 4 (f 12) (f 4))) 5 (gcpy 4 (f 13) (f 5))) = f1 ∧ g = g1) := by
  refine GM.of (by decide) (Nat.le_of_ble_eq_true rfl) ?_
  intro p e s m args below meth c Q ls hQ C hml hr hlocks hP hl
  have hx := C.1
  have hb := C.2.1
  have hok := hP.2
  have hS : va_S A s.heap s.heap [] := va_S.rf
  have hl : lv_has ls 2 [(0, .ref (ad 2)), (1, .ref (ad 14))] := hl
  have hP : gWd D (rwT k ad) (va_up (va_up (va_up (va_up v 1 (v 1)) 2 (v 2)) 3 (v 3)) 4 (v 4)) (va_up (va_up (va_up (va_up (va_up f 1 (f 1)) 2 (f 2)) 3 (f 3)) 4 (f 4)) 5 (f 5)) g s.heap := by rw [va_id, va_id, va_id, va_id, va_id, va_id, va_id, va_id, va_id]; exact hP
  refine lv_aload_n hx hb dX4_take_0 rfl (lv_at hl 0 rfl) ?_
  refine lv_aload_n hx hb dX4_take_1 rfl (lv_at hl 1 rfl) ?_
  refine rwG_reader_draft_rounds C hP mF_X4_31 dX4_take_2 ?_
  show W p l e (gRm 1 64) s m args below meth c _ _ 0 0 Q (F0 m 5 ls [.int (iI (v 7)), .ref (ad 2)])
  have r_1 : 0 ≤ (v 7) ∧ (v 7) ≤ 4 := hok.1 7
  refine rwP_laws_rounds (v1 := (va_up (va_up (va_up (va_up v 1 (v 7)) 2 (v 2)) 3 (v 3)) 4 (v 4))) C hP hD hS mF_X4_31 (by omega) rfl (Or.inr (gF_up (V := rwV) (F := rwF) (gF_up (V := rwV) (F := rwF) (gF_up (V := rwV) (F := rwF) (gF_up (V := rwV) (F := rwF) (gF_up (V := rwV) (F := rwF) (gR_up (V := rwV) (F := rwF) (gR_up (V := rwV) (F := rwF) (gR_up (V := rwV) (F := rwF) (gR_up (V := rwV) (F := rwF) ⟨hok.1, hok.2⟩ 1 (show 0 ≤ (v 7) ∧ (v 7) ≤ 4 from by omega)) 2 (hP.2.1 2)) 3 (hP.2.1 3)) 4 (hP.2.1 4)) 1 (hP.2.2 1)) 2 (hP.2.2 2)) 3 (hP.2.2 3)) 4 (hP.2.2 4)) 5 (hP.2.2 5))) dX4_take_5 (fun H locs hP hS => ?_)
  refine lv_aload_n hx hb dX4_take_8 rfl (lv_at hl 1 rfl) ?_
  refine rwG_reader_draft_shape C hP mF_X4_9 dX4_take_9 ?_
  refine lv_iconst (v := iI 0) hx hb dX4_take_12 rfl ?_
  refine lv_aload_n hx hb dX4_take_13 rfl (lv_at hl 0 rfl) ?_
  refine rwG_laws_shape C hP mF_X4_9 dX4_take_14 ?_
  refine lv_iconst (v := iI 0) hx hb dX4_take_17 rfl ?_
  refine lv_aload_n hx hb dX4_take_18 rfl (lv_at hl 0 rfl) ?_
  refine rwG_laws_shape C hP mF_X4_9 dX4_take_19 ?_
  refine rwN_laws_shape C hP dX4_take_22 ?_
  refine g_copy (ws' := rwW k ad (va_up (va_up (va_up (va_up v 1 (v 7)) 2 (v 2)) 3 (v 3)) 4 (v 4)) (va_up (va_up (va_up (va_up (va_up f 1 (gcpy 16 (f 9) (f 1))) 2 (f 2)) 3 (f 3)) 4 (f 4)) 5 (f 5)) g) C hml hl.1 hP.1 (hD _ _ _) hS 15 3 rfl rfl mM_X4_53 rfl (by decide) rfl (Nat.le_of_ble_eq_true rfl) (by decide) dX4_take_23 (fun H locs hP2 hS => ?_)
  have hP : gWd D (rwT k ad) (va_up (va_up (va_up (va_up v 1 (v 7)) 2 (v 2)) 3 (v 3)) 4 (v 4)) (va_up (va_up (va_up (va_up (va_up f 1 (gcpy 16 (f 9) (f 1))) 2 (f 2)) 3 (f 3)) 4 (f 4)) 5 (f 5)) g H := ⟨hP2, (gF_up (V := rwV) (F := rwF) (gF_up (V := rwV) (F := rwF) (gF_up (V := rwV) (F := rwF) (gF_up (V := rwV) (F := rwF) (gF_up (V := rwV) (F := rwF) (gR_up (V := rwV) (F := rwF) (gR_up (V := rwV) (F := rwF) (gR_up (V := rwV) (F := rwF) (gR_up (V := rwV) (F := rwF) ⟨hok.1, hok.2⟩ 1 (hP.2.1 1)) 2 (hP.2.1 2)) 3 (hP.2.1 3)) 4 (hP.2.1 4)) 1 (gcpy_rng (hP.2.2 9) (hP.2.2 1))) 2 (hP.2.2 2)) 3 (hP.2.2 3)) 4 (hP.2.2 4)) 5 (hP.2.2 5))⟩
  refine lv_aload_n hx hb dX4_take_26 rfl (lv_at hl 1 rfl) ?_
  refine rwG_reader_draft_item C hP mF_X4_15 dX4_take_27 ?_
  refine lv_iconst (v := iI 0) hx hb dX4_take_30 rfl ?_
  refine lv_aload_n hx hb dX4_take_31 rfl (lv_at hl 0 rfl) ?_
  refine rwG_laws_item C hP mF_X4_15 dX4_take_32 ?_
  refine lv_iconst (v := iI 0) hx hb dX4_take_35 rfl ?_
  refine lv_aload_n hx hb dX4_take_36 rfl (lv_at hl 0 rfl) ?_
  refine rwG_laws_item C hP mF_X4_15 dX4_take_37 ?_
  refine rwN_laws_item C hP dX4_take_40 ?_
  refine g_copy (ws' := rwW k ad (va_up (va_up (va_up (va_up v 1 (v 7)) 2 (v 2)) 3 (v 3)) 4 (v 4)) (va_up (va_up (va_up (va_up (va_up f 1 (gcpy 16 (f 9) (f 1))) 2 (gcpy 40 (f 10) (f 2))) 3 (f 3)) 4 (f 4)) 5 (f 5)) g) C hml hl.1 hP.1 (hD _ _ _) hS 16 4 rfl rfl mM_X4_53 rfl (by decide) rfl (Nat.le_of_ble_eq_true rfl) (by decide) dX4_take_41 (fun H locs hP2 hS => ?_)
  have hP : gWd D (rwT k ad) (va_up (va_up (va_up (va_up v 1 (v 7)) 2 (v 2)) 3 (v 3)) 4 (v 4)) (va_up (va_up (va_up (va_up (va_up f 1 (gcpy 16 (f 9) (f 1))) 2 (gcpy 40 (f 10) (f 2))) 3 (f 3)) 4 (f 4)) 5 (f 5)) g H := ⟨hP2, (gF_up (V := rwV) (F := rwF) (gF_up (V := rwV) (F := rwF) (gF_up (V := rwV) (F := rwF) (gF_up (V := rwV) (F := rwF) (gF_up (V := rwV) (F := rwF) (gR_up (V := rwV) (F := rwF) (gR_up (V := rwV) (F := rwF) (gR_up (V := rwV) (F := rwF) (gR_up (V := rwV) (F := rwF) ⟨hok.1, hok.2⟩ 1 (hP.2.1 1)) 2 (hP.2.1 2)) 3 (hP.2.1 3)) 4 (hP.2.1 4)) 1 (hP.2.2 1)) 2 (gcpy_rng (hP.2.2 10) (hP.2.2 2))) 3 (hP.2.2 3)) 4 (hP.2.2 4)) 5 (hP.2.2 5))⟩
  refine lv_aload_n hx hb dX4_take_44 rfl (lv_at hl 1 rfl) ?_
  refine rwG_reader_draft_number C hP mF_X4_18 dX4_take_45 ?_
  refine lv_iconst (v := iI 0) hx hb dX4_take_48 rfl ?_
  refine lv_aload_n hx hb dX4_take_49 rfl (lv_at hl 0 rfl) ?_
  refine rwG_laws_number C hP mF_X4_18 dX4_take_50 ?_
  refine lv_iconst (v := iI 0) hx hb dX4_take_53 rfl ?_
  refine lv_aload_n hx hb dX4_take_54 rfl (lv_at hl 0 rfl) ?_
  refine rwG_laws_number C hP mF_X4_18 dX4_take_55 ?_
  refine rwN_laws_number C hP dX4_take_58 ?_
  refine g_copy (ws' := rwW k ad (va_up (va_up (va_up (va_up v 1 (v 7)) 2 (v 2)) 3 (v 3)) 4 (v 4)) (va_up (va_up (va_up (va_up (va_up f 1 (gcpy 16 (f 9) (f 1))) 2 (gcpy 40 (f 10) (f 2))) 3 (gcpy 40 (f 11) (f 3))) 4 (f 4)) 5 (f 5)) g) C hml hl.1 hP.1 (hD _ _ _) hS 17 5 rfl rfl mM_X4_53 rfl (by decide) rfl (Nat.le_of_ble_eq_true rfl) (by decide) dX4_take_59 (fun H locs hP2 hS => ?_)
  have hP : gWd D (rwT k ad) (va_up (va_up (va_up (va_up v 1 (v 7)) 2 (v 2)) 3 (v 3)) 4 (v 4)) (va_up (va_up (va_up (va_up (va_up f 1 (gcpy 16 (f 9) (f 1))) 2 (gcpy 40 (f 10) (f 2))) 3 (gcpy 40 (f 11) (f 3))) 4 (f 4)) 5 (f 5)) g H := ⟨hP2, (gF_up (V := rwV) (F := rwF) (gF_up (V := rwV) (F := rwF) (gF_up (V := rwV) (F := rwF) (gF_up (V := rwV) (F := rwF) (gF_up (V := rwV) (F := rwF) (gR_up (V := rwV) (F := rwF) (gR_up (V := rwV) (F := rwF) (gR_up (V := rwV) (F := rwF) (gR_up (V := rwV) (F := rwF) ⟨hok.1, hok.2⟩ 1 (hP.2.1 1)) 2 (hP.2.1 2)) 3 (hP.2.1 3)) 4 (hP.2.1 4)) 1 (hP.2.2 1)) 2 (hP.2.2 2)) 3 (gcpy_rng (hP.2.2 11) (hP.2.2 3))) 4 (hP.2.2 4)) 5 (hP.2.2 5))⟩
  refine lv_aload_n hx hb dX4_take_62 rfl (lv_at hl 0 rfl) ?_
  refine lv_aload_n hx hb dX4_take_63 rfl (lv_at hl 1 rfl) ?_
  refine rwG_reader_draft_items C hP mF_X4_35 dX4_take_64 ?_
  show W p l e (gRm 1 64) s m args below meth c _ _ 0 0 Q (F0 m 67 ls [.int (iI (v 8)), .ref (ad 2)])
  have r_2 : 0 ≤ (v 8) ∧ (v 8) ≤ 40 := hok.1 8
  refine rwP_laws_items (v1 := (va_up (va_up (va_up (va_up v 1 (v 7)) 2 (v 8)) 3 (v 3)) 4 (v 4))) C hP hD hS mF_X4_35 (by omega) rfl (Or.inr (gF_up (V := rwV) (F := rwF) (gF_up (V := rwV) (F := rwF) (gF_up (V := rwV) (F := rwF) (gF_up (V := rwV) (F := rwF) (gF_up (V := rwV) (F := rwF) (gR_up (V := rwV) (F := rwF) (gR_up (V := rwV) (F := rwF) (gR_up (V := rwV) (F := rwF) (gR_up (V := rwV) (F := rwF) ⟨hok.1, hok.2⟩ 1 (hP.2.1 1)) 2 (show 0 ≤ (v 8) ∧ (v 8) ≤ 40 from by omega)) 3 (hP.2.1 3)) 4 (hP.2.1 4)) 1 (hP.2.2 1)) 2 (hP.2.2 2)) 3 (hP.2.2 3)) 4 (hP.2.2 4)) 5 (hP.2.2 5))) dX4_take_67 (fun H locs hP hS => ?_)
  refine lv_aload_n hx hb dX4_take_70 rfl (lv_at hl 1 rfl) ?_
  refine rwG_reader_draft_keyKind C hP mF_X4_21 dX4_take_71 ?_
  refine lv_iconst (v := iI 0) hx hb dX4_take_74 rfl ?_
  refine lv_aload_n hx hb dX4_take_75 rfl (lv_at hl 0 rfl) ?_
  refine rwG_laws_keyKind C hP mF_X4_21 dX4_take_76 ?_
  refine lv_iconst (v := iI 0) hx hb dX4_take_79 rfl ?_
  refine lv_aload_n hx hb dX4_take_80 rfl (lv_at hl 0 rfl) ?_
  refine rwG_laws_keyKind C hP mF_X4_21 dX4_take_81 ?_
  refine rwN_laws_keyKind C hP dX4_take_84 ?_
  refine g_copy (ws' := rwW k ad (va_up (va_up (va_up (va_up v 1 (v 7)) 2 (v 8)) 3 (v 3)) 4 (v 4)) (va_up (va_up (va_up (va_up (va_up f 1 (gcpy 16 (f 9) (f 1))) 2 (gcpy 40 (f 10) (f 2))) 3 (gcpy 40 (f 11) (f 3))) 4 (gcpy 4 (f 12) (f 4))) 5 (f 5)) g) C hml hl.1 hP.1 (hD _ _ _) hS 18 6 rfl rfl mM_X4_53 rfl (by decide) rfl (Nat.le_of_ble_eq_true rfl) (by decide) dX4_take_85 (fun H locs hP2 hS => ?_)
  have hP : gWd D (rwT k ad) (va_up (va_up (va_up (va_up v 1 (v 7)) 2 (v 8)) 3 (v 3)) 4 (v 4)) (va_up (va_up (va_up (va_up (va_up f 1 (gcpy 16 (f 9) (f 1))) 2 (gcpy 40 (f 10) (f 2))) 3 (gcpy 40 (f 11) (f 3))) 4 (gcpy 4 (f 12) (f 4))) 5 (f 5)) g H := ⟨hP2, (gF_up (V := rwV) (F := rwF) (gF_up (V := rwV) (F := rwF) (gF_up (V := rwV) (F := rwF) (gF_up (V := rwV) (F := rwF) (gF_up (V := rwV) (F := rwF) (gR_up (V := rwV) (F := rwF) (gR_up (V := rwV) (F := rwF) (gR_up (V := rwV) (F := rwF) (gR_up (V := rwV) (F := rwF) ⟨hok.1, hok.2⟩ 1 (hP.2.1 1)) 2 (hP.2.1 2)) 3 (hP.2.1 3)) 4 (hP.2.1 4)) 1 (hP.2.2 1)) 2 (hP.2.2 2)) 3 (hP.2.2 3)) 4 (gcpy_rng (hP.2.2 12) (hP.2.2 4))) 5 (hP.2.2 5))⟩
  refine lv_aload_n hx hb dX4_take_88 rfl (lv_at hl 1 rfl) ?_
  refine rwG_reader_draft_keyDown C hP mF_X4_24 dX4_take_89 ?_
  refine lv_iconst (v := iI 0) hx hb dX4_take_92 rfl ?_
  refine lv_aload_n hx hb dX4_take_93 rfl (lv_at hl 0 rfl) ?_
  refine rwG_laws_keyDown C hP mF_X4_24 dX4_take_94 ?_
  refine lv_iconst (v := iI 0) hx hb dX4_take_97 rfl ?_
  refine lv_aload_n hx hb dX4_take_98 rfl (lv_at hl 0 rfl) ?_
  refine rwG_laws_keyDown C hP mF_X4_24 dX4_take_99 ?_
  refine rwN_laws_keyDown C hP dX4_take_102 ?_
  refine g_copy (ws' := rwW k ad (va_up (va_up (va_up (va_up v 1 (v 7)) 2 (v 8)) 3 (v 3)) 4 (v 4)) (va_up (va_up (va_up (va_up (va_up f 1 (gcpy 16 (f 9) (f 1))) 2 (gcpy 40 (f 10) (f 2))) 3 (gcpy 40 (f 11) (f 3))) 4 (gcpy 4 (f 12) (f 4))) 5 (gcpy 4 (f 13) (f 5))) g) C hml hl.1 hP.1 (hD _ _ _) hS 19 7 rfl rfl mM_X4_53 rfl (by decide) rfl (Nat.le_of_ble_eq_true rfl) (by decide) dX4_take_103 (fun H locs hP2 hS => ?_)
  have hP : gWd D (rwT k ad) (va_up (va_up (va_up (va_up v 1 (v 7)) 2 (v 8)) 3 (v 3)) 4 (v 4)) (va_up (va_up (va_up (va_up (va_up f 1 (gcpy 16 (f 9) (f 1))) 2 (gcpy 40 (f 10) (f 2))) 3 (gcpy 40 (f 11) (f 3))) 4 (gcpy 4 (f 12) (f 4))) 5 (gcpy 4 (f 13) (f 5))) g H := ⟨hP2, (gF_up (V := rwV) (F := rwF) (gF_up (V := rwV) (F := rwF) (gF_up (V := rwV) (F := rwF) (gF_up (V := rwV) (F := rwF) (gF_up (V := rwV) (F := rwF) (gR_up (V := rwV) (F := rwF) (gR_up (V := rwV) (F := rwF) (gR_up (V := rwV) (F := rwF) (gR_up (V := rwV) (F := rwF) ⟨hok.1, hok.2⟩ 1 (hP.2.1 1)) 2 (hP.2.1 2)) 3 (hP.2.1 3)) 4 (hP.2.1 4)) 1 (hP.2.2 1)) 2 (hP.2.2 2)) 3 (hP.2.2 3)) 4 (hP.2.2 4)) 5 (gcpy_rng (hP.2.2 13) (hP.2.2 5)))⟩
  refine lv_aload_n hx hb dX4_take_106 rfl (lv_at hl 0 rfl) ?_
  refine lv_aload_n hx hb dX4_take_107 rfl (lv_at hl 1 rfl) ?_
  refine rwG_reader_draft_keys C hP mF_X4_42 dX4_take_108 ?_
  show W p l e (gRm 1 64) s m args below meth c _ _ 0 0 Q (F0 m 111 ls [.int (iI (v 9)), .ref (ad 2)])
  have r_3 : 0 ≤ (v 9) ∧ (v 9) ≤ 4 := hok.1 9
  refine rwP_laws_keys (v1 := (va_up (va_up (va_up (va_up v 1 (v 7)) 2 (v 8)) 3 (v 9)) 4 (v 4))) C hP hD hS mF_X4_42 (by omega) rfl (Or.inr (gF_up (V := rwV) (F := rwF) (gF_up (V := rwV) (F := rwF) (gF_up (V := rwV) (F := rwF) (gF_up (V := rwV) (F := rwF) (gF_up (V := rwV) (F := rwF) (gR_up (V := rwV) (F := rwF) (gR_up (V := rwV) (F := rwF) (gR_up (V := rwV) (F := rwF) (gR_up (V := rwV) (F := rwF) ⟨hok.1, hok.2⟩ 1 (hP.2.1 1)) 2 (hP.2.1 2)) 3 (show 0 ≤ (v 9) ∧ (v 9) ≤ 4 from by omega)) 4 (hP.2.1 4)) 1 (hP.2.2 1)) 2 (hP.2.2 2)) 3 (hP.2.2 3)) 4 (hP.2.2 4)) 5 (hP.2.2 5))) dX4_take_111 (fun H locs hP hS => ?_)
  refine lv_aload_n hx hb dX4_take_114 rfl (lv_at hl 0 rfl) ?_
  refine lv_aload_n hx hb dX4_take_115 rfl (lv_at hl 1 rfl) ?_
  refine rwG_reader_draft_back C hP mF_X4_49 dX4_take_116 ?_
  show W p l e (gRm 1 64) s m args below meth c _ _ 0 0 Q (F0 m 119 ls [.int (iI (v 10)), .ref (ad 2)])
  have r_4 : 0 ≤ (v 10) ∧ (v 10) ≤ 1 := hok.1 10
  refine rwP_laws_back (v1 := (va_up (va_up (va_up (va_up v 1 (v 7)) 2 (v 8)) 3 (v 9)) 4 (v 10))) C hP hD hS mF_X4_49 (by omega) (by omega) rfl (Or.inr (gF_up (V := rwV) (F := rwF) (gF_up (V := rwV) (F := rwF) (gF_up (V := rwV) (F := rwF) (gF_up (V := rwV) (F := rwF) (gF_up (V := rwV) (F := rwF) (gR_up (V := rwV) (F := rwF) (gR_up (V := rwV) (F := rwF) (gR_up (V := rwV) (F := rwF) (gR_up (V := rwV) (F := rwF) ⟨hok.1, hok.2⟩ 1 (hP.2.1 1)) 2 (hP.2.1 2)) 3 (hP.2.1 3)) 4 (show 0 ≤ (v 10) ∧ (v 10) ≤ 1 from by omega)) 1 (hP.2.2 1)) 2 (hP.2.2 2)) 3 (hP.2.2 3)) 4 (hP.2.2 4)) 5 (hP.2.2 5))) dX4_take_119 (fun H locs hP hS => ?_)
  exact g_vret hQ C hr hlocks hP hS dX4_take_122 ⟨rfl, rfl, rfl, rfl⟩

set_option maxHeartbeats 4000000 in
set_option maxRecDepth 100000 in
theorem c_X3_note (l : Launch) (D : va_G) (k : Nat → ClassId) (A : Nat → Prop) (ad : Nat → Nat) (hD : rwD A k ad) (v : gV) (f g : gF) (a1 : Int) (h_a1 : inR a1) (h1 : 0 ≤ a1 ∧ a1 ≤ 5) : GM l D k A (rwT k ad) yX3_note cX3_note 2 none 1 20 [.ref (ad 9), .int (iI a1)] v f g (fun r v1 f1 g1 => ∃ (w16 : Int) (w17 : Int), r = none ∧ (va_up (va_up v 16 w16) 17 w17) = v1 ∧ f = f1 ∧ g = g1 ∧ (a1 ≠ 0 → w16 ≠ 0) ∧ ((v 16) ≠ 0 → w16 ≠ 0) ∧ (a1 = 0 → w16 = (v 16))) := by
  refine GM.of (by decide) (Nat.le_of_ble_eq_true rfl) ?_
  intro p e s m args below meth c Q ls hQ C hml hr hlocks hP hl
  have hx := C.1
  have hb := C.2.1
  have hok := hP.2
  have hS : va_S A s.heap s.heap [] := va_S.rf
  have hl : lv_has ls 2 [(0, .ref (ad 9)), (1, .int (iI a1))] := hl
  have hP : gWd D (rwT k ad) (va_up (va_up v 16 (v 16)) 17 (v 17)) f g s.heap := by rw [va_id, va_id]; exact hP
  refine lv_aload_n hx hb dX3_note_0 rfl (lv_at hl 0 rfl) ?_
  refine rwG_reader_fault C hP mF_X3_32 dX3_note_1 ?_
  show W p l e (gRm 1 20) s m args below meth c _ _ 0 0 Q (F0 m 4 ls [.int (iI (v 16))])
  have r_1 : 0 ≤ (v 16) ∧ (v 16) ≤ 5 := hok.1 16
  refine gi_zne (tgt := 27) hx hb dX3_note_4 (by decide) (by omega) (fun c_2 => ?_) (fun c_2 => ?_)
  · exact g_vret hQ C hr hlocks hP hS dX3_note_27 ⟨(v 16), (v 17), rfl, rfl, rfl, rfl, (by first | omega | (split <;> omega)), (by first | omega | (split <;> omega)), (by first | omega | (split <;> omega))⟩
  · refine lv_iload_n hx hb dX3_note_7 rfl (lv_at hl 1 rfl) ?_
    refine gi_zeq (tgt := 27) hx hb dX3_note_8 (by decide) (by omega) (fun c_3 => ?_) (fun c_3 => ?_)
    · exact g_vret hQ C hr hlocks hP hS dX3_note_27 ⟨(v 16), (v 17), rfl, rfl, rfl, rfl, (by first | omega | (split <;> omega)), (by first | omega | (split <;> omega)), (by first | omega | (split <;> omega))⟩
    · refine lv_aload_n hx hb dX3_note_11 rfl (lv_at hl 0 rfl) ?_
      refine lv_iload_n hx hb dX3_note_12 rfl (lv_at hl 1 rfl) ?_
      refine rwP_reader_fault (v1 := (va_up (va_up v 16 a1) 17 (v 17))) C hP hD hS mF_X3_32 (by omega) rfl (Or.inr (gR_up (V := rwV) (F := rwF) (gR_up (V := rwV) (F := rwF) ⟨hok.1, hok.2⟩ 16 (show 0 ≤ a1 ∧ a1 ≤ 5 from by omega)) 17 (hP.2.1 17))) dX3_note_13 (fun H locs hP hS => ?_)
      refine lv_aload_n hx hb dX3_note_16 rfl (lv_at hl 0 rfl) ?_
      refine lv_aload_n hx hb dX3_note_17 rfl (lv_at hl 0 rfl) ?_
      refine rwG_reader_tokens C hP mF_X3_12 dX3_note_18 ?_
      refine g_cv (As := []) (rest := [.ref (ad 9)]) (n := 0) C hml (c_X6_place l D k A ad hD (va_up (va_up v 16 a1) 17 (v 17)) f g) mM_X3_94 mI_X6_place mE_X6_place mN_X6 mC_X6_place (by decide +kernel) 10 (ci := 6) rfl rfl hP hS (fun _ h => h) ⟨Nat.le_of_ble_eq_true rfl, Nat.le_of_ble_eq_true rfl⟩ ⟨Nat.zero_le _, Nat.zero_le _⟩ hl.1 rfl rfl (Nat.le_of_ble_eq_true rfl) dX3_note_21 (fun r_4 v_4 f_4 g_4 H locs hq_4 hP _ hS => ?_)
      obtain ⟨z_4, rfl, rfl, rfl, rfl, p0_4, p1_4⟩ := hq_4
      show W p l e (gRm 1 20) s m args below meth c _ _ 0 0 Q (F0 m 24 ls [.int (iI z_4), .ref (ad 9)])
      have p0_4 : z_4 = ((f 7) (v 6)) := p0_4
      have p1_4 : 0 ≤ z_4 ∧ z_4 ≤ 700 := p1_4
      have hz_4 : inR z_4 := (by first | omega | (rw [p0_4]; split <;> omega))
      refine rwP_reader_faultPlace (v1 := (va_up (va_up v 16 a1) 17 z_4)) C hP hD hS mF_X3_36 (by omega) rfl (Or.inr (gR_up (V := rwV) (F := rwF) (gR_up (V := rwV) (F := rwF) ⟨hok.1, hok.2⟩ 16 (hP.2.1 16)) 17 (show (-1) ≤ z_4 ∧ z_4 ≤ 700 from by omega))) dX3_note_24 (fun H locs hP hS => ?_)
      exact g_vret hQ C hr hlocks hP hS dX3_note_27 ⟨a1, z_4, rfl, rfl, rfl, rfl, (by first | omega | (split <;> omega)), (by first | omega | (split <;> omega)), (by first | omega | (split <;> omega))⟩

set_option maxHeartbeats 4000000 in
set_option maxRecDepth 100000 in
theorem c_X3_refuseIf (l : Launch) (D : va_G) (k : Nat → ClassId) (A : Nat → Prop) (ad : Nat → Nat) (hD : rwD A k ad) (v : gV) (f g : gF) (a1 : Int) (a2 : Int) (h_a1 : inR a1) (h_a2 : inR a2) (h2 : 1 ≤ a2 ∧ a2 ≤ 5) : GM l D k A (rwT k ad) yX3_refuseIf cX3_refuseIf 3 none 2 41 [.ref (ad 9), .int (iI a1), .int (iI a2)] v f g (fun r v1 f1 g1 => ∃ (w16 : Int) (w17 : Int), r = none ∧ (va_up (va_up v 16 w16) 17 w17) = v1 ∧ f = f1 ∧ g = g1 ∧ (a1 ≠ 0 → w16 ≠ 0) ∧ ((v 16) ≠ 0 → w16 ≠ 0) ∧ (a1 = 0 → w16 = (v 16))) := by
  refine GM.of (by decide) (Nat.le_of_ble_eq_true rfl) ?_
  intro p e s m args below meth c Q ls hQ C hml hr hlocks hP hl
  have hx := C.1
  have hb := C.2.1
  have hok := hP.2
  have hS : va_S A s.heap s.heap [] := va_S.rf
  have hl : lv_has ls 3 [(0, .ref (ad 9)), (1, .int (iI a1)), (2, .int (iI a2))] := hl
  have hP : gWd D (rwT k ad) (va_up (va_up v 16 (v 16)) 17 (v 17)) f g s.heap := by rw [va_id, va_id]; exact hP
  refine lv_iload_n hx hb dX3_refuseIf_0 rfl (lv_at hl 1 rfl) ?_
  refine gi_zeq (tgt := 9) hx hb dX3_refuseIf_1 (by decide) (by omega) (fun c_1 => ?_) (fun c_1 => ?_)
  · exact g_vret hQ C hr hlocks hP hS dX3_refuseIf_9 ⟨(v 16), (v 17), rfl, rfl, rfl, rfl, (by first | omega | (split <;> omega)), (by first | omega | (split <;> omega)), (by first | omega | (split <;> omega))⟩
  · refine lv_aload_n hx hb dX3_refuseIf_4 rfl (lv_at hl 0 rfl) ?_
    refine lv_iload_n hx hb dX3_refuseIf_5 rfl (lv_at hl 2 rfl) ?_
    refine g_cv (As := [.int (iI a2)]) (rest := []) (n := 1) C hml (c_X3_note l D k A ad hD (va_up (va_up v 16 (v 16)) 17 (v 17)) f g a2 (by omega) (show 0 ≤ a2 ∧ a2 ≤ 5 from by omega)) mM_X3_78 mI_X3_note mE_X3_note mN_X3 mC_X3_note (by decide +kernel) 9 (ci := 3) rfl rfl hP hS (fun _ h => h) ⟨Nat.le_of_ble_eq_true rfl, Nat.le_of_ble_eq_true rfl⟩ ⟨Nat.zero_le _, Nat.zero_le _⟩ hl.1 rfl rfl (Nat.le_of_ble_eq_true rfl) dX3_refuseIf_6 (fun r_2 v_2 f_2 g_2 H locs hq_2 hP _ hS => ?_)
    obtain ⟨w16_2, w17_2, rfl, rfl, rfl, rfl, p0_2, p1_2, p2_2⟩ := hq_2
    show W p l e (gRm 2 41) s m args below meth c _ _ 0 0 Q (F0 m 9 ls [])
    have hP : gWd D (rwT k ad) (va_up (va_up v 16 w16_2) 17 w17_2) f g H := ⟨hP.1, (gR_up (V := rwV) (F := rwF) (gR_up (V := rwV) (F := rwF) ⟨hok.1, hok.2⟩ 16 (hP.2.1 16)) 17 (hP.2.1 17))⟩
    have p0_2 : a2 ≠ 0 → w16_2 ≠ 0 := p0_2
    have p1_2 : (v 16) ≠ 0 → w16_2 ≠ 0 := p1_2
    have p2_2 : a2 = 0 → w16_2 = (v 16) := p2_2
    have rw16_2 : 0 ≤ w16_2 ∧ w16_2 ≤ 5 := hP.2.1 16
    have rw17_2 : (-1) ≤ w17_2 ∧ w17_2 ≤ 700 := hP.2.1 17
    exact g_vret hQ C hr hlocks hP hS dX3_refuseIf_9 ⟨w16_2, w17_2, rfl, rfl, rfl, rfl, (by first | omega | (split <;> omega)), (by first | omega | (split <;> omega)), (by first | omega | (split <;> omega))⟩

set_option maxHeartbeats 4000000 in
set_option maxRecDepth 100000 in
theorem c_X3_refuseToken (l : Launch) (D : va_G) (k : Nat → ClassId) (A : Nat → Prop) (ad : Nat → Nat) (hD : rwD A k ad) (v : gV) (f g : gF) : GM l D k A (rwT k ad) yX3_refuseToken cX3_refuseToken 1 none 2 41 [.ref (ad 9)] v f g (fun r v1 f1 g1 => ∃ (w16 : Int) (w17 : Int), r = none ∧ (va_up (va_up v 16 w16) 17 w17) = v1 ∧ f = f1 ∧ g = g1 ∧ (w16 ≠ 0)) := by
  refine GM.of (by decide) (Nat.le_of_ble_eq_true rfl) ?_
  intro p e s m args below meth c Q ls hQ C hml hr hlocks hP hl
  have hx := C.1
  have hb := C.2.1
  have hok := hP.2
  have hS : va_S A s.heap s.heap [] := va_S.rf
  have hl : lv_has ls 1 [(0, .ref (ad 9))] := hl
  have hP : gWd D (rwT k ad) (va_up (va_up v 16 (v 16)) 17 (v 17)) f g s.heap := by rw [va_id, va_id]; exact hP
  refine lv_aload_n hx hb dX3_refuseToken_0 rfl (lv_at hl 0 rfl) ?_
  refine lv_aload_n hx hb dX3_refuseToken_1 rfl (lv_at hl 0 rfl) ?_
  refine rwG_reader_tokens C hP mF_X3_12 dX3_refuseToken_2 ?_
  refine g_cv (As := []) (rest := [.ref (ad 9)]) (n := 0) C hml (c_X6_kind l D k A ad hD (va_up (va_up v 16 (v 16)) 17 (v 17)) f g) mM_X3_56 mI_X6_kind mE_X6_kind mN_X6 mC_X6_kind (by decide +kernel) 10 (ci := 6) rfl rfl hP hS (fun _ h => h) ⟨Nat.le_of_ble_eq_true rfl, Nat.le_of_ble_eq_true rfl⟩ ⟨Nat.zero_le _, Nat.zero_le _⟩ hl.1 rfl rfl (Nat.le_of_ble_eq_true rfl) dX3_refuseToken_5 (fun r_1 v_1 f_1 g_1 H locs hq_1 hP _ hS => ?_)
  obtain ⟨z_1, rfl, rfl, rfl, rfl, p0_1, p1_1⟩ := hq_1
  show W p l e (gRm 2 41) s m args below meth c _ _ 0 0 Q (F0 m 8 ls [.int (iI z_1), .ref (ad 9)])
  have p0_1 : z_1 = ((f 6) (v 6)) := p0_1
  have p1_1 : 0 ≤ z_1 ∧ z_1 ≤ 300 := p1_1
  have hz_1 : inR z_1 := (by first | omega | (rw [p0_1]; split <;> omega))
  refine lv_sipush (v := iI 257) hx hb dX3_refuseToken_8 (by decide) ?_
  refine gi_cne (tgt := 18) hx hb dX3_refuseToken_11 (by decide) (by omega) (by decide) (fun c_2 => ?_) (fun c_2 => ?_)
  · refine lv_iconst (v := iI 2) hx hb dX3_refuseToken_18 rfl ?_
    refine g_cv (As := [.int (iI 2)]) (rest := []) (n := 1) C hml (c_X3_note l D k A ad hD (va_up (va_up v 16 (v 16)) 17 (v 17)) f g 2 (by decide) (show 0 ≤ (2 : Int) ∧ (2 : Int) ≤ 5 from by omega)) mM_X3_78 mI_X3_note mE_X3_note mN_X3 mC_X3_note (by decide +kernel) 9 (ci := 3) rfl rfl hP hS (fun _ h => h) ⟨Nat.le_of_ble_eq_true rfl, Nat.le_of_ble_eq_true rfl⟩ ⟨Nat.zero_le _, Nat.zero_le _⟩ hl.1 rfl rfl (Nat.le_of_ble_eq_true rfl) dX3_refuseToken_19 (fun r_3 v_3 f_3 g_3 H locs hq_3 hP _ hS => ?_)
    obtain ⟨w16_3, w17_3, rfl, rfl, rfl, rfl, p0_3, p1_3, p2_3⟩ := hq_3
    show W p l e (gRm 2 41) s m args below meth c _ _ 0 0 Q (F0 m 22 ls [])
    have hP : gWd D (rwT k ad) (va_up (va_up v 16 w16_3) 17 w17_3) f g H := ⟨hP.1, (gR_up (V := rwV) (F := rwF) (gR_up (V := rwV) (F := rwF) ⟨hok.1, hok.2⟩ 16 (hP.2.1 16)) 17 (hP.2.1 17))⟩
    have p0_3 : (2 : Int) ≠ 0 → w16_3 ≠ 0 := p0_3
    have p1_3 : (v 16) ≠ 0 → w16_3 ≠ 0 := p1_3
    have p2_3 : (2 : Int) = 0 → w16_3 = (v 16) := p2_3
    have rw16_3 : 0 ≤ w16_3 ∧ w16_3 ≤ 5 := hP.2.1 16
    have rw17_3 : (-1) ≤ w17_3 ∧ w17_3 ≤ 700 := hP.2.1 17
    exact g_vret hQ C hr hlocks hP hS dX3_refuseToken_22 ⟨w16_3, w17_3, rfl, rfl, rfl, rfl, (by first | omega | (split <;> omega))⟩
  · refine lv_iconst (v := iI 1) hx hb dX3_refuseToken_14 rfl ?_
    refine lv_goto (tgt := 19) hx hb dX3_refuseToken_15 (by decide) ?_
    refine g_cv (As := [.int (iI 1)]) (rest := []) (n := 1) C hml (c_X3_note l D k A ad hD (va_up (va_up v 16 (v 16)) 17 (v 17)) f g 1 (by decide) (show 0 ≤ (1 : Int) ∧ (1 : Int) ≤ 5 from by omega)) mM_X3_78 mI_X3_note mE_X3_note mN_X3 mC_X3_note (by decide +kernel) 9 (ci := 3) rfl rfl hP hS (fun _ h => h) ⟨Nat.le_of_ble_eq_true rfl, Nat.le_of_ble_eq_true rfl⟩ ⟨Nat.zero_le _, Nat.zero_le _⟩ hl.1 rfl rfl (Nat.le_of_ble_eq_true rfl) dX3_refuseToken_19 (fun r_4 v_4 f_4 g_4 H locs hq_4 hP _ hS => ?_)
    obtain ⟨w16_4, w17_4, rfl, rfl, rfl, rfl, p0_4, p1_4, p2_4⟩ := hq_4
    show W p l e (gRm 2 41) s m args below meth c _ _ 0 0 Q (F0 m 22 ls [])
    have hP : gWd D (rwT k ad) (va_up (va_up v 16 w16_4) 17 w17_4) f g H := ⟨hP.1, (gR_up (V := rwV) (F := rwF) (gR_up (V := rwV) (F := rwF) ⟨hok.1, hok.2⟩ 16 (hP.2.1 16)) 17 (hP.2.1 17))⟩
    have p0_4 : (1 : Int) ≠ 0 → w16_4 ≠ 0 := p0_4
    have p1_4 : (v 16) ≠ 0 → w16_4 ≠ 0 := p1_4
    have p2_4 : (1 : Int) = 0 → w16_4 = (v 16) := p2_4
    have rw16_4 : 0 ≤ w16_4 ∧ w16_4 ≤ 5 := hP.2.1 16
    have rw17_4 : (-1) ≤ w17_4 ∧ w17_4 ≤ 700 := hP.2.1 17
    exact g_vret hQ C hr hlocks hP hS dX3_refuseToken_22 ⟨w16_4, w17_4, rfl, rfl, rfl, rfl, (by first | omega | (split <;> omega))⟩

set_option maxHeartbeats 4000000 in
set_option maxRecDepth 100000 in
theorem c_X3_goOn (l : Launch) (D : va_G) (k : Nat → ClassId) (A : Nat → Prop) (ad : Nat → Nat) (hD : rwD A k ad) (v : gV) (f g : gF) : GM l D k A (rwT k ad) yX3_goOn cX3_goOn 1 (some .boolean) 1 20 [.ref (ad 9)] v f g (fun r v1 f1 g1 => ∃ (z : Int) (w6 : Int), r = some (.int (iI z)) ∧ (va_up v 6 w6) = v1 ∧ f = f1 ∧ g = g1 ∧ (0 ≤ z ∧ z ≤ 1) ∧ (z = 1 ↔ (v 16) = 0)) := by
  refine GM.of (by decide) (Nat.le_of_ble_eq_true rfl) ?_
  intro p e s m args below meth c Q ls hQ C hml hr hlocks hP hl
  have hx := C.1
  have hb := C.2.1
  have hok := hP.2
  have hS : va_S A s.heap s.heap [] := va_S.rf
  have hl : lv_has ls 1 [(0, .ref (ad 9))] := hl
  have hP : gWd D (rwT k ad) (va_up v 6 (v 6)) f g s.heap := by rw [va_id]; exact hP
  have r_1 : 0 ≤ (v 16) ∧ (v 16) ≤ 5 := hok.1 16
  refine lv_aload_n hx hb dX3_goOn_0 rfl (lv_at hl 0 rfl) ?_
  refine rwG_reader_fault C hP mF_X3_32 dX3_goOn_1 ?_
  show W p l e (gRm 1 20) s m args below meth c _ _ 0 0 Q (F0 m 4 ls [.int (iI (v 16))])
  refine gi_zne (tgt := 14) hx hb dX3_goOn_4 (by decide) (by omega) (fun c_2 => ?_) (fun c_2 => ?_)
  · refine lv_aload_n hx hb dX3_goOn_14 rfl (lv_at hl 0 rfl) ?_
    refine rwG_reader_fault C hP mF_X3_32 dX3_goOn_15 ?_
    show W p l e (gRm 1 20) s m args below meth c _ _ 0 0 Q (F0 m 18 ls [.int (iI (v 16))])
    refine gi_zne (tgt := 25) hx hb dX3_goOn_18 (by decide) (by omega) (fun c_3 => ?_) (fun c_3 => ?_)
    · refine lv_iconst (v := iI 0) hx hb dX3_goOn_25 rfl ?_
      exact g_zret hQ C hr hlocks (by decide) hP hS dX3_goOn_26 ⟨0, (v 6), rfl, rfl, rfl, rfl, (by first | omega | (split <;> omega)), (by first | omega | (split <;> omega))⟩
    · refine lv_iconst (v := iI 1) hx hb dX3_goOn_21 rfl ?_
      refine lv_goto (tgt := 26) hx hb dX3_goOn_22 (by decide) ?_
      exact g_zret hQ C hr hlocks (by decide) hP hS dX3_goOn_26 ⟨1, (v 6), rfl, rfl, rfl, rfl, (by first | omega | (split <;> omega)), (by first | omega | (split <;> omega))⟩
  · refine lv_aload_n hx hb dX3_goOn_7 rfl (lv_at hl 0 rfl) ?_
    refine rwG_reader_tokens C hP mF_X3_12 dX3_goOn_8 ?_
    refine g_cv (As := []) (rest := []) (n := 0) C hml (c_X6_step l D k A ad hD (va_up v 6 (v 6)) f g) mM_X3_97 mI_X6_step mE_X6_step mN_X6 mC_X6_step (by decide +kernel) 10 (ci := 6) rfl rfl hP hS (fun _ h => h) ⟨Nat.le_of_ble_eq_true rfl, Nat.le_of_ble_eq_true rfl⟩ ⟨Nat.zero_le _, Nat.zero_le _⟩ hl.1 rfl rfl (Nat.le_of_ble_eq_true rfl) dX3_goOn_11 (fun r_4 v_4 f_4 g_4 H locs hq_4 hP _ hS => ?_)
    obtain ⟨w6_4, rfl, rfl, rfl, rfl⟩ := hq_4
    show W p l e (gRm 1 20) s m args below meth c _ _ 0 0 Q (F0 m 14 ls [])
    have hP : gWd D (rwT k ad) (va_up v 6 w6_4) f g H := ⟨hP.1, (gR_up (V := rwV) (F := rwF) ⟨hok.1, hok.2⟩ 6 (hP.2.1 6))⟩
    have rw6_4 : 0 ≤ w6_4 ∧ w6_4 ≤ 700 := hP.2.1 6
    refine lv_aload_n hx hb dX3_goOn_14 rfl (lv_at hl 0 rfl) ?_
    refine rwG_reader_fault C hP mF_X3_32 dX3_goOn_15 ?_
    show W p l e (gRm 1 20) s m args below meth c _ _ 0 0 Q (F0 m 18 ls [.int (iI (v 16))])
    refine gi_zne (tgt := 25) hx hb dX3_goOn_18 (by decide) (by omega) (fun c_5 => ?_) (fun c_5 => ?_)
    · refine lv_iconst (v := iI 0) hx hb dX3_goOn_25 rfl ?_
      exact g_zret hQ C hr hlocks (by decide) hP hS dX3_goOn_26 ⟨0, w6_4, rfl, rfl, rfl, rfl, (by first | omega | (split <;> omega)), (by first | omega | (split <;> omega))⟩
    · refine lv_iconst (v := iI 1) hx hb dX3_goOn_21 rfl ?_
      refine lv_goto (tgt := 26) hx hb dX3_goOn_22 (by decide) ?_
      exact g_zret hQ C hr hlocks (by decide) hP hS dX3_goOn_26 ⟨1, w6_4, rfl, rfl, rfl, rfl, (by first | omega | (split <;> omega)), (by first | omega | (split <;> omega))⟩

set_option maxHeartbeats 4000000 in
set_option maxRecDepth 100000 in
theorem c_X3_pass (l : Launch) (D : va_G) (k : Nat → ClassId) (A : Nat → Prop) (ad : Nat → Nat) (hD : rwD A k ad) (v : gV) (f g : gF) (a1 : Int) (h_a1 : inR a1) : GM l D k A (rwT k ad) yX3_pass cX3_pass 2 none 3 61 [.ref (ad 9), .int (iI a1)] v f g (fun r v1 f1 g1 => ∃ (w6 : Int) (w16 : Int) (w17 : Int), r = none ∧ (va_up (va_up (va_up v 6 w6) 16 w16) 17 w17) = v1 ∧ f = f1 ∧ g = g1 ∧ ((v 16) ≠ 0 → w16 ≠ 0)) := by
  refine GM.of (by decide) (Nat.le_of_ble_eq_true rfl) ?_
  intro p e s m args below meth c Q ls hQ C hml hr hlocks hP hl
  have hx := C.1
  have hb := C.2.1
  have hok := hP.2
  have hS : va_S A s.heap s.heap [] := va_S.rf
  have hl : lv_has ls 2 [(0, .ref (ad 9)), (1, .int (iI a1))] := hl
  have hP : gWd D (rwT k ad) (va_up (va_up (va_up v 6 (v 6)) 16 (v 16)) 17 (v 17)) f g s.heap := by rw [va_id, va_id, va_id]; exact hP
  refine lv_aload_n hx hb dX3_pass_0 rfl (lv_at hl 0 rfl) ?_
  refine rwG_reader_tokens C hP mF_X3_12 dX3_pass_1 ?_
  refine g_cv (As := []) (rest := []) (n := 0) C hml (c_X6_kind l D k A ad hD (va_up (va_up (va_up v 6 (v 6)) 16 (v 16)) 17 (v 17)) f g) mM_X3_56 mI_X6_kind mE_X6_kind mN_X6 mC_X6_kind (by decide +kernel) 10 (ci := 6) rfl rfl hP hS (fun _ h => h) ⟨Nat.le_of_ble_eq_true rfl, Nat.le_of_ble_eq_true rfl⟩ ⟨Nat.zero_le _, Nat.zero_le _⟩ hl.1 rfl rfl (Nat.le_of_ble_eq_true rfl) dX3_pass_4 (fun r_1 v_1 f_1 g_1 H locs hq_1 hP _ hS => ?_)
  obtain ⟨z_1, rfl, rfl, rfl, rfl, p0_1, p1_1⟩ := hq_1
  show W p l e (gRm 3 61) s m args below meth c _ _ 0 0 Q (F0 m 7 ls [.int (iI z_1)])
  have p0_1 : z_1 = ((f 6) (v 6)) := p0_1
  have p1_1 : 0 ≤ z_1 ∧ z_1 ≤ 300 := p1_1
  have hz_1 : inR z_1 := (by first | omega | (rw [p0_1]; split <;> omega))
  refine lv_iload_n hx hb dX3_pass_7 rfl (lv_at hl 1 rfl) ?_
  refine gi_ceq (tgt := 15) hx hb dX3_pass_8 (by decide) (by omega) (by omega) (fun c_2 => ?_) (fun c_2 => ?_)
  · refine lv_aload_n hx hb dX3_pass_15 rfl (lv_at hl 0 rfl) ?_
    refine g_cv (As := []) (rest := []) (n := 0) C hml (c_X3_goOn l D k A ad hD (va_up (va_up (va_up v 6 (v 6)) 16 (v 16)) 17 (v 17)) f g) mM_X3_70 mI_X3_goOn mE_X3_goOn mN_X3 mC_X3_goOn (by decide +kernel) 9 (ci := 3) rfl rfl hP hS (fun _ h => h) ⟨Nat.le_of_ble_eq_true rfl, Nat.le_of_ble_eq_true rfl⟩ ⟨Nat.zero_le _, Nat.zero_le _⟩ hl.1 rfl rfl (Nat.le_of_ble_eq_true rfl) dX3_pass_16 (fun r_3 v_3 f_3 g_3 H locs hq_3 hP _ hS => ?_)
    obtain ⟨z_3, w6_3, rfl, rfl, rfl, rfl, p0_3, p1_3⟩ := hq_3
    show W p l e (gRm 3 61) s m args below meth c _ _ 0 0 Q (F0 m 19 ls [.int (iI z_3)])
    have hP : gWd D (rwT k ad) (va_up (va_up (va_up v 6 w6_3) 16 (v 16)) 17 (v 17)) f g H := ⟨hP.1, (gR_up (V := rwV) (F := rwF) (gR_up (V := rwV) (F := rwF) (gR_up (V := rwV) (F := rwF) ⟨hok.1, hok.2⟩ 6 (hP.2.1 6)) 16 (hP.2.1 16)) 17 (hP.2.1 17))⟩
    have p0_3 : 0 ≤ z_3 ∧ z_3 ≤ 1 := p0_3
    have p1_3 : z_3 = 1 ↔ (v 16) = 0 := p1_3
    have rw6_3 : 0 ≤ w6_3 ∧ w6_3 ≤ 700 := hP.2.1 6
    refine lv_pop hx hb dX3_pass_19 rfl ?_
    exact g_vret hQ C hr hlocks hP hS dX3_pass_20 ⟨w6_3, (v 16), (v 17), rfl, rfl, rfl, rfl, (by first | omega | (split <;> omega))⟩
  · refine lv_aload_n hx hb dX3_pass_11 rfl (lv_at hl 0 rfl) ?_
    refine g_cv (As := []) (rest := []) (n := 0) C hml (c_X3_refuseToken l D k A ad hD (va_up (va_up (va_up v 6 (v 6)) 16 (v 16)) 17 (v 17)) f g) mM_X3_88 mI_X3_refuseToken mE_X3_refuseToken mN_X3 mC_X3_refuseToken (by decide +kernel) 9 (ci := 3) rfl rfl hP hS (fun _ h => h) ⟨Nat.le_of_ble_eq_true rfl, Nat.le_of_ble_eq_true rfl⟩ ⟨Nat.zero_le _, Nat.zero_le _⟩ hl.1 rfl rfl (Nat.le_of_ble_eq_true rfl) dX3_pass_12 (fun r_4 v_4 f_4 g_4 H locs hq_4 hP _ hS => ?_)
    obtain ⟨w16_4, w17_4, rfl, rfl, rfl, rfl, p0_4⟩ := hq_4
    show W p l e (gRm 3 61) s m args below meth c _ _ 0 0 Q (F0 m 15 ls [])
    have hP : gWd D (rwT k ad) (va_up (va_up (va_up v 6 (v 6)) 16 w16_4) 17 w17_4) f g H := ⟨hP.1, (gR_up (V := rwV) (F := rwF) (gR_up (V := rwV) (F := rwF) (gR_up (V := rwV) (F := rwF) ⟨hok.1, hok.2⟩ 6 (hP.2.1 6)) 16 (hP.2.1 16)) 17 (hP.2.1 17))⟩
    have p0_4 : w16_4 ≠ 0 := p0_4
    have rw16_4 : 0 ≤ w16_4 ∧ w16_4 ≤ 5 := hP.2.1 16
    have rw17_4 : (-1) ≤ w17_4 ∧ w17_4 ≤ 700 := hP.2.1 17
    refine lv_aload_n hx hb dX3_pass_15 rfl (lv_at hl 0 rfl) ?_
    refine g_cv (As := []) (rest := []) (n := 0) C hml (c_X3_goOn l D k A ad hD (va_up (va_up (va_up v 6 (v 6)) 16 w16_4) 17 w17_4) f g) mM_X3_70 mI_X3_goOn mE_X3_goOn mN_X3 mC_X3_goOn (by decide +kernel) 9 (ci := 3) rfl rfl hP hS (fun _ h => h) ⟨Nat.le_of_ble_eq_true rfl, Nat.le_of_ble_eq_true rfl⟩ ⟨Nat.zero_le _, Nat.zero_le _⟩ hl.1 rfl rfl (Nat.le_of_ble_eq_true rfl) dX3_pass_16 (fun r_5 v_5 f_5 g_5 H locs hq_5 hP _ hS => ?_)
    obtain ⟨z_5, w6_5, rfl, rfl, rfl, rfl, p0_5, p1_5⟩ := hq_5
    show W p l e (gRm 3 61) s m args below meth c _ _ 0 0 Q (F0 m 19 ls [.int (iI z_5)])
    have hP : gWd D (rwT k ad) (va_up (va_up (va_up v 6 w6_5) 16 w16_4) 17 w17_4) f g H := ⟨hP.1, (gR_up (V := rwV) (F := rwF) (gR_up (V := rwV) (F := rwF) (gR_up (V := rwV) (F := rwF) ⟨hok.1, hok.2⟩ 6 (hP.2.1 6)) 16 (hP.2.1 16)) 17 (hP.2.1 17))⟩
    have p0_5 : 0 ≤ z_5 ∧ z_5 ≤ 1 := p0_5
    have p1_5 : z_5 = 1 ↔ w16_4 = 0 := p1_5
    have rw6_5 : 0 ≤ w6_5 ∧ w6_5 ≤ 700 := hP.2.1 6
    refine lv_pop hx hb dX3_pass_19 rfl ?_
    exact g_vret hQ C hr hlocks hP hS dX3_pass_20 ⟨w6_5, w16_4, w17_4, rfl, rfl, rfl, rfl, (by first | omega | (split <;> omega))⟩

set_option maxHeartbeats 4000000 in
set_option maxRecDepth 100000 in
theorem c_X3_readTies (l : Launch) (D : va_G) (k : Nat → ClassId) (A : Nat → Prop) (ad : Nat → Nat) (hD : rwD A k ad) (v : gV) (f g : gF) : GM l D k A (rwT k ad) yX3_readTies cX3_readTies 1 none 4 82 [.ref (ad 9)] v f g (fun r v1 f1 g1 => ∃ (w6 : Int) (w10 : Int) (w16 : Int) (w17 : Int), r = none ∧ (va_up (va_up (va_up (va_up v 6 w6) 10 w10) 16 w16) 17 w17) = v1 ∧ f = f1 ∧ g = g1 ∧ ((v 16) ≠ 0 → w16 ≠ 0)) := by
  refine GM.of (by decide) (Nat.le_of_ble_eq_true rfl) ?_
  intro p e s m args below meth c Q ls hQ C hml hr hlocks hP hl
  have hx := C.1
  have hb := C.2.1
  have hok := hP.2
  have hS : va_S A s.heap s.heap [] := va_S.rf
  have hl : lv_has ls 1 [(0, .ref (ad 9))] := hl
  have hP : gWd D (rwT k ad) (va_up (va_up (va_up (va_up v 6 (v 6)) 10 (v 10)) 16 (v 16)) 17 (v 17)) f g s.heap := by rw [va_id, va_id, va_id, va_id]; exact hP
  refine lv_aload_n hx hb dX3_readTies_0 rfl (lv_at hl 0 rfl) ?_
  refine g_cv (As := []) (rest := []) (n := 0) C hml (c_X3_goOn l D k A ad hD (va_up (va_up (va_up (va_up v 6 (v 6)) 10 (v 10)) 16 (v 16)) 17 (v 17)) f g) mM_X3_70 mI_X3_goOn mE_X3_goOn mN_X3 mC_X3_goOn (by decide +kernel) 9 (ci := 3) rfl rfl hP hS (fun _ h => h) ⟨Nat.le_of_ble_eq_true rfl, Nat.le_of_ble_eq_true rfl⟩ ⟨Nat.zero_le _, Nat.zero_le _⟩ hl.1 rfl rfl (Nat.le_of_ble_eq_true rfl) dX3_readTies_1 (fun r_1 v_1 f_1 g_1 H locs hq_1 hP _ hS => ?_)
  obtain ⟨z_1, w6_1, rfl, rfl, rfl, rfl, p0_1, p1_1⟩ := hq_1
  show W p l e (gRm 4 82) s m args below meth c _ _ 0 0 Q (F0 m 4 ls [.int (iI z_1)])
  have hP : gWd D (rwT k ad) (va_up (va_up (va_up (va_up v 6 w6_1) 10 (v 10)) 16 (v 16)) 17 (v 17)) f g H := ⟨hP.1, (gR_up (V := rwV) (F := rwF) (gR_up (V := rwV) (F := rwF) (gR_up (V := rwV) (F := rwF) (gR_up (V := rwV) (F := rwF) ⟨hok.1, hok.2⟩ 6 (hP.2.1 6)) 10 (hP.2.1 10)) 16 (hP.2.1 16)) 17 (hP.2.1 17))⟩
  have p0_1 : 0 ≤ z_1 ∧ z_1 ≤ 1 := p0_1
  have p1_1 : z_1 = 1 ↔ (v 16) = 0 := p1_1
  have rw6_1 : 0 ≤ w6_1 ∧ w6_1 ≤ 700 := hP.2.1 6
  refine gi_zeq (tgt := 55) hx hb dX3_readTies_4 (by decide) (by omega) (fun c_2 => ?_) (fun c_2 => ?_)
  · exact g_vret hQ C hr hlocks hP hS dX3_readTies_55 ⟨w6_1, (v 10), (v 16), (v 17), rfl, rfl, rfl, rfl, (by first | omega | (split <;> omega))⟩
  · refine lv_aload_n hx hb dX3_readTies_7 rfl (lv_at hl 0 rfl) ?_
    refine rwG_reader_draft C hP mF_X3_21 dX3_readTies_8 ?_
    refine lv_aload_n hx hb dX3_readTies_11 rfl (lv_at hl 0 rfl) ?_
    refine rwG_reader_tokens C hP mF_X3_12 dX3_readTies_12 ?_
    refine g_cv (As := []) (rest := [.ref (ad 14)]) (n := 0) C hml (c_X6_kind l D k A ad hD (va_up (va_up (va_up (va_up v 6 w6_1) 10 (v 10)) 16 (v 16)) 17 (v 17)) f g) mM_X3_56 mI_X6_kind mE_X6_kind mN_X6 mC_X6_kind (by decide +kernel) 10 (ci := 6) rfl rfl hP hS (fun _ h => h) ⟨Nat.le_of_ble_eq_true rfl, Nat.le_of_ble_eq_true rfl⟩ ⟨Nat.zero_le _, Nat.zero_le _⟩ hl.1 rfl rfl (Nat.le_of_ble_eq_true rfl) dX3_readTies_15 (fun r_3 v_3 f_3 g_3 H locs hq_3 hP _ hS => ?_)
    obtain ⟨z_3, rfl, rfl, rfl, rfl, p0_3, p1_3⟩ := hq_3
    show W p l e (gRm 4 82) s m args below meth c _ _ 0 0 Q (F0 m 18 ls [.int (iI z_3), .ref (ad 14)])
    have p0_3 : z_3 = ((f 6) w6_1) := p0_3
    have p1_3 : 0 ≤ z_3 ∧ z_3 ≤ 300 := p1_3
    have hz_3 : inR z_3 := (by first | omega | (rw [p0_3]; split <;> omega))
    refine lv_sipush (v := iI 264) hx hb dX3_readTies_18 (by decide) ?_
    refine gi_cne (tgt := 28) hx hb dX3_readTies_21 (by decide) (by omega) (by decide) (fun c_4 => ?_) (fun c_4 => ?_)
    · refine lv_iconst (v := iI 0) hx hb dX3_readTies_28 rfl ?_
      refine rwP_reader_draft_back (v1 := (va_up (va_up (va_up (va_up v 6 w6_1) 10 0) 16 (v 16)) 17 (v 17))) C hP hD hS mF_X3_126 (by decide) (by decide) rfl (Or.inr (gR_up (V := rwV) (F := rwF) (gR_up (V := rwV) (F := rwF) (gR_up (V := rwV) (F := rwF) (gR_up (V := rwV) (F := rwF) ⟨hok.1, hok.2⟩ 6 (hP.2.1 6)) 10 (show 0 ≤ 0 ∧ 0 ≤ 1 from by decide)) 16 (hP.2.1 16)) 17 (hP.2.1 17))) dX3_readTies_29 (fun H locs hP hS => ?_)
      refine lv_aload_n hx hb dX3_readTies_32 rfl (lv_at hl 0 rfl) ?_
      refine lv_aload_n hx hb dX3_readTies_33 rfl (lv_at hl 0 rfl) ?_
      refine rwG_reader_draft C hP mF_X3_21 dX3_readTies_34 ?_
      refine rwG_reader_draft_back C hP mF_X3_126 dX3_readTies_37 ?_
      show W p l e (gRm 4 82) s m args below meth c _ _ 0 0 Q (F0 m 40 ls [.int (iI 0), .ref (ad 9)])
      refine gi_zeq (tgt := 49) hx hb dX3_readTies_40 (by decide) (by decide) (fun c_5 => ?_) (fun c_5 => ?_)
      · refine lv_sipush (v := iI 265) hx hb dX3_readTies_49 (by decide) ?_
        refine g_cv (As := [.int (iI 265)]) (rest := []) (n := 1) C hml (c_X3_pass l D k A ad hD (va_up (va_up (va_up (va_up v 6 w6_1) 10 0) 16 (v 16)) 17 (v 17)) f g 265 (by decide)) mM_X3_91 mI_X3_pass mE_X3_pass mN_X3 mC_X3_pass (by decide +kernel) 9 (ci := 3) rfl rfl hP hS (fun _ h => h) ⟨Nat.le_of_ble_eq_true rfl, Nat.le_of_ble_eq_true rfl⟩ ⟨Nat.zero_le _, Nat.zero_le _⟩ hl.1 rfl rfl (Nat.le_of_ble_eq_true rfl) dX3_readTies_52 (fun r_6 v_6 f_6 g_6 H locs hq_6 hP _ hS => ?_)
        obtain ⟨w6_6, w16_6, w17_6, rfl, rfl, rfl, rfl, p0_6⟩ := hq_6
        show W p l e (gRm 4 82) s m args below meth c _ _ 0 0 Q (F0 m 55 ls [])
        have hP : gWd D (rwT k ad) (va_up (va_up (va_up (va_up v 6 w6_6) 10 0) 16 w16_6) 17 w17_6) f g H := ⟨hP.1, (gR_up (V := rwV) (F := rwF) (gR_up (V := rwV) (F := rwF) (gR_up (V := rwV) (F := rwF) (gR_up (V := rwV) (F := rwF) ⟨hok.1, hok.2⟩ 6 (hP.2.1 6)) 10 (hP.2.1 10)) 16 (hP.2.1 16)) 17 (hP.2.1 17))⟩
        have p0_6 : (v 16) ≠ 0 → w16_6 ≠ 0 := p0_6
        have rw6_6 : 0 ≤ w6_6 ∧ w6_6 ≤ 700 := hP.2.1 6
        have rw16_6 : 0 ≤ w16_6 ∧ w16_6 ≤ 5 := hP.2.1 16
        have rw17_6 : (-1) ≤ w17_6 ∧ w17_6 ≤ 700 := hP.2.1 17
        exact g_vret hQ C hr hlocks hP hS dX3_readTies_55 ⟨w6_6, 0, w16_6, w17_6, rfl, rfl, rfl, rfl, (by first | omega | (split <;> omega))⟩
      · exfalso; omega
    · refine lv_iconst (v := iI 1) hx hb dX3_readTies_24 rfl ?_
      refine lv_goto (tgt := 29) hx hb dX3_readTies_25 (by decide) ?_
      refine rwP_reader_draft_back (v1 := (va_up (va_up (va_up (va_up v 6 w6_1) 10 1) 16 (v 16)) 17 (v 17))) C hP hD hS mF_X3_126 (by decide) (by decide) rfl (Or.inr (gR_up (V := rwV) (F := rwF) (gR_up (V := rwV) (F := rwF) (gR_up (V := rwV) (F := rwF) (gR_up (V := rwV) (F := rwF) ⟨hok.1, hok.2⟩ 6 (hP.2.1 6)) 10 (show 0 ≤ 1 ∧ 1 ≤ 1 from by decide)) 16 (hP.2.1 16)) 17 (hP.2.1 17))) dX3_readTies_29 (fun H locs hP hS => ?_)
      refine lv_aload_n hx hb dX3_readTies_32 rfl (lv_at hl 0 rfl) ?_
      refine lv_aload_n hx hb dX3_readTies_33 rfl (lv_at hl 0 rfl) ?_
      refine rwG_reader_draft C hP mF_X3_21 dX3_readTies_34 ?_
      refine rwG_reader_draft_back C hP mF_X3_126 dX3_readTies_37 ?_
      show W p l e (gRm 4 82) s m args below meth c _ _ 0 0 Q (F0 m 40 ls [.int (iI 1), .ref (ad 9)])
      refine gi_zeq (tgt := 49) hx hb dX3_readTies_40 (by decide) (by decide) (fun c_7 => ?_) (fun c_7 => ?_)
      · exfalso; omega
      · refine lv_sipush (v := iI 264) hx hb dX3_readTies_43 (by decide) ?_
        refine lv_goto (tgt := 52) hx hb dX3_readTies_46 (by decide) ?_
        refine g_cv (As := [.int (iI 264)]) (rest := []) (n := 1) C hml (c_X3_pass l D k A ad hD (va_up (va_up (va_up (va_up v 6 w6_1) 10 1) 16 (v 16)) 17 (v 17)) f g 264 (by decide)) mM_X3_91 mI_X3_pass mE_X3_pass mN_X3 mC_X3_pass (by decide +kernel) 9 (ci := 3) rfl rfl hP hS (fun _ h => h) ⟨Nat.le_of_ble_eq_true rfl, Nat.le_of_ble_eq_true rfl⟩ ⟨Nat.zero_le _, Nat.zero_le _⟩ hl.1 rfl rfl (Nat.le_of_ble_eq_true rfl) dX3_readTies_52 (fun r_8 v_8 f_8 g_8 H locs hq_8 hP _ hS => ?_)
        obtain ⟨w6_8, w16_8, w17_8, rfl, rfl, rfl, rfl, p0_8⟩ := hq_8
        show W p l e (gRm 4 82) s m args below meth c _ _ 0 0 Q (F0 m 55 ls [])
        have hP : gWd D (rwT k ad) (va_up (va_up (va_up (va_up v 6 w6_8) 10 1) 16 w16_8) 17 w17_8) f g H := ⟨hP.1, (gR_up (V := rwV) (F := rwF) (gR_up (V := rwV) (F := rwF) (gR_up (V := rwV) (F := rwF) (gR_up (V := rwV) (F := rwF) ⟨hok.1, hok.2⟩ 6 (hP.2.1 6)) 10 (hP.2.1 10)) 16 (hP.2.1 16)) 17 (hP.2.1 17))⟩
        have p0_8 : (v 16) ≠ 0 → w16_8 ≠ 0 := p0_8
        have rw6_8 : 0 ≤ w6_8 ∧ w6_8 ≤ 700 := hP.2.1 6
        have rw16_8 : 0 ≤ w16_8 ∧ w16_8 ≤ 5 := hP.2.1 16
        have rw17_8 : (-1) ≤ w17_8 ∧ w17_8 ≤ 700 := hP.2.1 17
        exact g_vret hQ C hr hlocks hP hS dX3_readTies_55 ⟨w6_8, 1, w16_8, w17_8, rfl, rfl, rfl, rfl, (by first | omega | (split <;> omega))⟩

set_option maxHeartbeats 4000000 in
set_option maxRecDepth 100000 in
theorem c_X3_readKey (l : Launch) (D : va_G) (k : Nat → ClassId) (A : Nat → Prop) (ad : Nat → Nat) (hD : rwD A k ad) (v : gV) (f g : gF) : GM l D k A (rwT k ad) yX3_readKey cX3_readKey 3 none 3 63 [.ref (ad 9)] v f g (fun r v1 f1 g1 => ∃ (w6 : Int) (w9 : Int) (w16 : Int) (w17 : Int) (a12_ : Int → Int) (a13_ : Int → Int), r = none ∧ (va_up (va_up (va_up (va_up v 6 w6) 9 w9) 16 w16) 17 w17) = v1 ∧ (va_up (va_up f 12 a12_) 13 a13_) = f1 ∧ g = g1 ∧ ((v 16) ≠ 0 → w16 ≠ 0)) := by
  refine GM.of (by decide) (Nat.le_of_ble_eq_true rfl) ?_
  intro p e s m args below meth c Q ls hQ C hml hr hlocks hP hl
  have hx := C.1
  have hb := C.2.1
  have hok := hP.2
  have hS : va_S A s.heap s.heap [] := va_S.rf
  have hl : lv_has ls 3 [(0, .ref (ad 9))] := hl
  have hP : gWd D (rwT k ad) (va_up (va_up (va_up (va_up v 6 (v 6)) 9 (v 9)) 16 (v 16)) 17 (v 17)) (va_up (va_up f 12 (f 12)) 13 (f 13)) g s.heap := by rw [va_id, va_id, va_id, va_id, va_id, va_id]; exact hP
  refine lv_aload_n hx hb dX3_readKey_0 rfl (lv_at hl 0 rfl) ?_
  refine rwG_reader_tokens C hP mF_X3_12 dX3_readKey_1 ?_
  refine g_cv (As := []) (rest := []) (n := 0) C hml (c_X6_kind l D k A ad hD (va_up (va_up (va_up (va_up v 6 (v 6)) 9 (v 9)) 16 (v 16)) 17 (v 17)) (va_up (va_up f 12 (f 12)) 13 (f 13)) g) mM_X3_56 mI_X6_kind mE_X6_kind mN_X6 mC_X6_kind (by decide +kernel) 10 (ci := 6) rfl rfl hP hS (fun _ h => h) ⟨Nat.le_of_ble_eq_true rfl, Nat.le_of_ble_eq_true rfl⟩ ⟨Nat.zero_le _, Nat.zero_le _⟩ hl.1 rfl rfl (Nat.le_of_ble_eq_true rfl) dX3_readKey_4 (fun r_1 v_1 f_1 g_1 H locs hq_1 hP _ hS => ?_)
  obtain ⟨z_1, rfl, rfl, rfl, rfl, p0_1, p1_1⟩ := hq_1
  show W p l e (gRm 3 63) s m args below meth c _ _ 0 0 Q (F0 m 7 ls [.int (iI z_1)])
  have p0_1 : z_1 = ((f 6) (v 6)) := p0_1
  have p1_1 : 0 ≤ z_1 ∧ z_1 ≤ 300 := p1_1
  have hz_1 : inR z_1 := (by first | omega | (rw [p0_1]; split <;> omega))
  refine lv_sipush (v := iI 267) hx hb dX3_readKey_7 (by decide) ?_
  refine gi_cne (tgt := 17) hx hb dX3_readKey_10 (by decide) (by omega) (by decide) (fun c_2 => ?_) (fun c_2 => ?_)
  · refine lv_iconst (v := iI 0) hx hb dX3_readKey_17 rfl ?_
    refine lv_istore_n (lv' := [(1, .int (iI 0)), (0, .ref (ad 9))]) hx hb dX3_readKey_18 rfl hl (by decide) rfl (fun ls hl => ?_)
    refine lv_iload_n hx hb dX3_readKey_19 rfl (lv_at hl 0 rfl) ?_
    refine gi_zne (tgt := 40) hx hb dX3_readKey_20 (by decide) (by decide) (fun c_3 => ?_) (fun c_3 => ?_)
    · exfalso; omega
    · refine lv_aload_n hx hb dX3_readKey_23 rfl (lv_at hl 1 rfl) ?_
      refine rwG_reader_tokens C hP mF_X3_12 dX3_readKey_24 ?_
      refine g_cv (As := []) (rest := []) (n := 0) C hml (c_X6_kind l D k A ad hD (va_up (va_up (va_up (va_up v 6 (v 6)) 9 (v 9)) 16 (v 16)) 17 (v 17)) (va_up (va_up f 12 (f 12)) 13 (f 13)) g) mM_X3_56 mI_X6_kind mE_X6_kind mN_X6 mC_X6_kind (by decide +kernel) 10 (ci := 6) rfl rfl hP hS (fun _ h => h) ⟨Nat.le_of_ble_eq_true rfl, Nat.le_of_ble_eq_true rfl⟩ ⟨Nat.zero_le _, Nat.zero_le _⟩ hl.1 rfl rfl (Nat.le_of_ble_eq_true rfl) dX3_readKey_27 (fun r_4 v_4 f_4 g_4 H locs hq_4 hP _ hS => ?_)
      obtain ⟨z_4, rfl, rfl, rfl, rfl, p0_4, p1_4⟩ := hq_4
      show W p l e (gRm 3 63) s m args below meth c _ _ 0 0 Q (F0 m 30 ls [.int (iI z_4)])
      have p0_4 : z_4 = ((f 6) (v 6)) := p0_4
      have p1_4 : 0 ≤ z_4 ∧ z_4 ≤ 300 := p1_4
      have hz_4 : inR z_4 := (by first | omega | (rw [p0_4]; split <;> omega))
      refine lv_sipush (v := iI 266) hx hb dX3_readKey_30 (by decide) ?_
      refine gi_ceq (tgt := 40) hx hb dX3_readKey_33 (by decide) (by omega) (by decide) (fun c_5 => ?_) (fun c_5 => ?_)
      · refine lv_aload_n hx hb dX3_readKey_40 rfl (lv_at hl 1 rfl) ?_
        refine lv_aload_n hx hb dX3_readKey_41 rfl (lv_at hl 1 rfl) ?_
        refine rwG_reader_draft C hP mF_X3_21 dX3_readKey_42 ?_
        refine rwG_reader_draft_keys C hP mF_X3_116 dX3_readKey_45 ?_
        show W p l e (gRm 3 63) s m args below meth c _ _ 0 0 Q (F0 m 48 ls [.int (iI (v 9)), .ref (ad 9)])
        have r_6 : 0 ≤ (v 9) ∧ (v 9) ≤ 4 := hok.1 9
        refine lv_iconst (v := iI 4) hx hb dX3_readKey_48 rfl ?_
        refine gi_clt (tgt := 56) hx hb dX3_readKey_49 (by decide) (by omega) (by decide) (fun c_7 => ?_) (fun c_7 => ?_)
        · refine lv_iconst (v := iI 0) hx hb dX3_readKey_56 rfl ?_
          refine lv_iconst (v := iI 3) hx hb dX3_readKey_57 rfl ?_
          refine g_cv (As := [.int (iI 0), .int (iI 3)]) (rest := []) (n := 2) C hml (c_X3_refuseIf l D k A ad hD (va_up (va_up (va_up (va_up v 6 (v 6)) 9 (v 9)) 16 (v 16)) 17 (v 17)) (va_up (va_up f 12 (f 12)) 13 (f 13)) g 0 3 (by decide) (by decide) (show 1 ≤ (3 : Int) ∧ (3 : Int) ≤ 5 from by omega)) mM_X3_66 mI_X3_refuseIf mE_X3_refuseIf mN_X3 mC_X3_refuseIf (by decide +kernel) 9 (ci := 3) rfl rfl hP hS (fun _ h => h) ⟨Nat.le_of_ble_eq_true rfl, Nat.le_of_ble_eq_true rfl⟩ ⟨Nat.zero_le _, Nat.zero_le _⟩ hl.1 rfl rfl (Nat.le_of_ble_eq_true rfl) dX3_readKey_58 (fun r_8 v_8 f_8 g_8 H locs hq_8 hP _ hS => ?_)
          obtain ⟨w16_8, w17_8, rfl, rfl, rfl, rfl, p0_8, p1_8, p2_8⟩ := hq_8
          show W p l e (gRm 3 63) s m args below meth c _ _ 0 0 Q (F0 m 61 ls [])
          have hP : gWd D (rwT k ad) (va_up (va_up (va_up (va_up v 6 (v 6)) 9 (v 9)) 16 w16_8) 17 w17_8) (va_up (va_up f 12 (f 12)) 13 (f 13)) g H := ⟨hP.1, (gF_up (V := rwV) (F := rwF) (gF_up (V := rwV) (F := rwF) (gR_up (V := rwV) (F := rwF) (gR_up (V := rwV) (F := rwF) (gR_up (V := rwV) (F := rwF) (gR_up (V := rwV) (F := rwF) ⟨hok.1, hok.2⟩ 6 (hP.2.1 6)) 9 (hP.2.1 9)) 16 (hP.2.1 16)) 17 (hP.2.1 17)) 12 (hP.2.2 12)) 13 (hP.2.2 13))⟩
          have p0_8 : (0 : Int) ≠ 0 → w16_8 ≠ 0 := p0_8
          have p1_8 : (v 16) ≠ 0 → w16_8 ≠ 0 := p1_8
          have p2_8 : (0 : Int) = 0 → w16_8 = (v 16) := p2_8
          have rw16_8 : 0 ≤ w16_8 ∧ w16_8 ≤ 5 := hP.2.1 16
          have rw17_8 : (-1) ≤ w17_8 ∧ w17_8 ≤ 700 := hP.2.1 17
          refine lv_aload_n hx hb dX3_readKey_61 rfl (lv_at hl 1 rfl) ?_
          refine g_cv (As := []) (rest := []) (n := 0) C hml (c_X3_goOn l D k A ad hD (va_up (va_up (va_up (va_up v 6 (v 6)) 9 (v 9)) 16 w16_8) 17 w17_8) (va_up (va_up f 12 (f 12)) 13 (f 13)) g) mM_X3_70 mI_X3_goOn mE_X3_goOn mN_X3 mC_X3_goOn (by decide +kernel) 9 (ci := 3) rfl rfl hP hS (fun _ h => h) ⟨Nat.le_of_ble_eq_true rfl, Nat.le_of_ble_eq_true rfl⟩ ⟨Nat.zero_le _, Nat.zero_le _⟩ hl.1 rfl rfl (Nat.le_of_ble_eq_true rfl) dX3_readKey_62 (fun r_9 v_9 f_9 g_9 H locs hq_9 hP _ hS => ?_)
          obtain ⟨z_9, w6_9, rfl, rfl, rfl, rfl, p0_9, p1_9⟩ := hq_9
          show W p l e (gRm 3 63) s m args below meth c _ _ 0 0 Q (F0 m 65 ls [.int (iI z_9)])
          have hP : gWd D (rwT k ad) (va_up (va_up (va_up (va_up v 6 w6_9) 9 (v 9)) 16 w16_8) 17 w17_8) (va_up (va_up f 12 (f 12)) 13 (f 13)) g H := ⟨hP.1, (gF_up (V := rwV) (F := rwF) (gF_up (V := rwV) (F := rwF) (gR_up (V := rwV) (F := rwF) (gR_up (V := rwV) (F := rwF) (gR_up (V := rwV) (F := rwF) (gR_up (V := rwV) (F := rwF) ⟨hok.1, hok.2⟩ 6 (hP.2.1 6)) 9 (hP.2.1 9)) 16 (hP.2.1 16)) 17 (hP.2.1 17)) 12 (hP.2.2 12)) 13 (hP.2.2 13))⟩
          have p0_9 : 0 ≤ z_9 ∧ z_9 ≤ 1 := p0_9
          have p1_9 : z_9 = 1 ↔ w16_8 = 0 := p1_9
          have rw6_9 : 0 ≤ w6_9 ∧ w6_9 ≤ 700 := hP.2.1 6
          refine gi_zne (tgt := 69) hx hb dX3_readKey_65 (by decide) (by omega) (fun c_10 => ?_) (fun c_10 => ?_)
          · refine lv_aload_n hx hb dX3_readKey_69 rfl (lv_at hl 1 rfl) ?_
            refine rwG_reader_tokens C hP mF_X3_12 dX3_readKey_70 ?_
            refine g_cv (As := []) (rest := []) (n := 0) C hml (c_X6_kind l D k A ad hD (va_up (va_up (va_up (va_up v 6 w6_9) 9 (v 9)) 16 w16_8) 17 w17_8) (va_up (va_up f 12 (f 12)) 13 (f 13)) g) mM_X3_56 mI_X6_kind mE_X6_kind mN_X6 mC_X6_kind (by decide +kernel) 10 (ci := 6) rfl rfl hP hS (fun _ h => h) ⟨Nat.le_of_ble_eq_true rfl, Nat.le_of_ble_eq_true rfl⟩ ⟨Nat.zero_le _, Nat.zero_le _⟩ hl.1 rfl rfl (Nat.le_of_ble_eq_true rfl) dX3_readKey_73 (fun r_11 v_11 f_11 g_11 H locs hq_11 hP _ hS => ?_)
            obtain ⟨z_11, rfl, rfl, rfl, rfl, p0_11, p1_11⟩ := hq_11
            show W p l e (gRm 3 63) s m args below meth c _ _ 0 0 Q (F0 m 76 ls [.int (iI z_11)])
            have p0_11 : z_11 = ((f 6) w6_9) := p0_11
            have p1_11 : 0 ≤ z_11 ∧ z_11 ≤ 300 := p1_11
            have hz_11 : inR z_11 := (by first | omega | (rw [p0_11]; split <;> omega))
            refine lv_sipush (v := iI 268) hx hb dX3_readKey_76 (by decide) ?_
            refine gi_sub (z := (z_11 - 268)) hx hb dX3_readKey_79 rfl ?_
            refine lv_istore_n (lv' := [(2, .int (iI (z_11 - 268))), (1, .int (iI 0)), (0, .ref (ad 9))]) hx hb dX3_readKey_80 rfl hl (by decide) rfl (fun ls hl => ?_)
            refine lv_iload_n hx hb dX3_readKey_81 rfl (lv_at hl 0 rfl) ?_
            refine gi_zlt (tgt := 90) hx hb dX3_readKey_82 (by decide) (by omega) (fun c_12 => ?_) (fun c_12 => ?_)
            · refine lv_aload_n hx hb dX3_readKey_90 rfl (lv_at hl 2 rfl) ?_
              refine g_cv (As := []) (rest := []) (n := 0) C hml (c_X3_refuseToken l D k A ad hD (va_up (va_up (va_up (va_up v 6 w6_9) 9 (v 9)) 16 w16_8) 17 w17_8) (va_up (va_up f 12 (f 12)) 13 (f 13)) g) mM_X3_88 mI_X3_refuseToken mE_X3_refuseToken mN_X3 mC_X3_refuseToken (by decide +kernel) 9 (ci := 3) rfl rfl hP hS (fun _ h => h) ⟨Nat.le_of_ble_eq_true rfl, Nat.le_of_ble_eq_true rfl⟩ ⟨Nat.zero_le _, Nat.zero_le _⟩ hl.1 rfl rfl (Nat.le_of_ble_eq_true rfl) dX3_readKey_91 (fun r_13 v_13 f_13 g_13 H locs hq_13 hP _ hS => ?_)
              obtain ⟨w16_13, w17_13, rfl, rfl, rfl, rfl, p0_13⟩ := hq_13
              show W p l e (gRm 3 63) s m args below meth c _ _ 0 0 Q (F0 m 94 ls [])
              have hP : gWd D (rwT k ad) (va_up (va_up (va_up (va_up v 6 w6_9) 9 (v 9)) 16 w16_13) 17 w17_13) (va_up (va_up f 12 (f 12)) 13 (f 13)) g H := ⟨hP.1, (gF_up (V := rwV) (F := rwF) (gF_up (V := rwV) (F := rwF) (gR_up (V := rwV) (F := rwF) (gR_up (V := rwV) (F := rwF) (gR_up (V := rwV) (F := rwF) (gR_up (V := rwV) (F := rwF) ⟨hok.1, hok.2⟩ 6 (hP.2.1 6)) 9 (hP.2.1 9)) 16 (hP.2.1 16)) 17 (hP.2.1 17)) 12 (hP.2.2 12)) 13 (hP.2.2 13))⟩
              have p0_13 : w16_13 ≠ 0 := p0_13
              have rw16_13 : 0 ≤ w16_13 ∧ w16_13 ≤ 5 := hP.2.1 16
              have rw17_13 : (-1) ≤ w17_13 ∧ w17_13 ≤ 700 := hP.2.1 17
              refine lv_goto (tgt := 106) hx hb dX3_readKey_94 (by decide) ?_
              refine lv_aload_n hx hb dX3_readKey_106 rfl (lv_at hl 2 rfl) ?_
              refine g_cv (As := []) (rest := []) (n := 0) C hml (c_X3_goOn l D k A ad hD (va_up (va_up (va_up (va_up v 6 w6_9) 9 (v 9)) 16 w16_13) 17 w17_13) (va_up (va_up f 12 (f 12)) 13 (f 13)) g) mM_X3_70 mI_X3_goOn mE_X3_goOn mN_X3 mC_X3_goOn (by decide +kernel) 9 (ci := 3) rfl rfl hP hS (fun _ h => h) ⟨Nat.le_of_ble_eq_true rfl, Nat.le_of_ble_eq_true rfl⟩ ⟨Nat.zero_le _, Nat.zero_le _⟩ hl.1 rfl rfl (Nat.le_of_ble_eq_true rfl) dX3_readKey_107 (fun r_14 v_14 f_14 g_14 H locs hq_14 hP _ hS => ?_)
              obtain ⟨z_14, w6_14, rfl, rfl, rfl, rfl, p0_14, p1_14⟩ := hq_14
              show W p l e (gRm 3 63) s m args below meth c _ _ 0 0 Q (F0 m 110 ls [.int (iI z_14)])
              have hP : gWd D (rwT k ad) (va_up (va_up (va_up (va_up v 6 w6_14) 9 (v 9)) 16 w16_13) 17 w17_13) (va_up (va_up f 12 (f 12)) 13 (f 13)) g H := ⟨hP.1, (gF_up (V := rwV) (F := rwF) (gF_up (V := rwV) (F := rwF) (gR_up (V := rwV) (F := rwF) (gR_up (V := rwV) (F := rwF) (gR_up (V := rwV) (F := rwF) (gR_up (V := rwV) (F := rwF) ⟨hok.1, hok.2⟩ 6 (hP.2.1 6)) 9 (hP.2.1 9)) 16 (hP.2.1 16)) 17 (hP.2.1 17)) 12 (hP.2.2 12)) 13 (hP.2.2 13))⟩
              have p0_14 : 0 ≤ z_14 ∧ z_14 ≤ 1 := p0_14
              have p1_14 : z_14 = 1 ↔ w16_13 = 0 := p1_14
              have rw6_14 : 0 ≤ w6_14 ∧ w6_14 ≤ 700 := hP.2.1 6
              refine lv_pop hx hb dX3_readKey_110 rfl ?_
              exact g_vret hQ C hr hlocks hP hS dX3_readKey_111 ⟨w6_14, (v 9), w16_13, w17_13, (f 12), (f 13), rfl, rfl, rfl, rfl, (by first | omega | (split <;> omega))⟩
            · refine lv_iload_n hx hb dX3_readKey_85 rfl (lv_at hl 0 rfl) ?_
              refine lv_iconst (v := iI 3) hx hb dX3_readKey_86 rfl ?_
              refine gi_cle (tgt := 97) hx hb dX3_readKey_87 (by decide) (by omega) (by decide) (fun c_15 => ?_) (fun c_15 => ?_)
              · refine lv_aload_n hx hb dX3_readKey_97 rfl (lv_at hl 2 rfl) ?_
                refine rwG_reader_draft C hP mF_X3_21 dX3_readKey_98 ?_
                refine lv_iload_n hx hb dX3_readKey_101 rfl (lv_at hl 0 rfl) ?_
                refine lv_iload_n hx hb dX3_readKey_102 rfl (lv_at hl 1 rfl) ?_
                refine g_cv (As := [.int (iI (z_11 - 268)), .int (iI 0)]) (rest := []) (n := 2) C hml (c_X4_addKey l D k A ad hD (va_up (va_up (va_up (va_up v 6 w6_9) 9 (v 9)) 16 w16_8) 17 w17_8) (va_up (va_up f 12 (f 12)) 13 (f 13)) g (z_11 - 268) 0 (by omega) (by decide) (show 0 ≤ (z_11 - 268) ∧ (z_11 - 268) ≤ 3 from by omega)) mM_X3_122 mI_X4_addKey mE_X4_addKey mN_X4 mC_X4_addKey (by decide +kernel) 14 (ci := 4) rfl rfl hP hS (fun _ h => h) ⟨Nat.le_of_ble_eq_true rfl, Nat.le_of_ble_eq_true rfl⟩ ⟨Nat.zero_le _, Nat.zero_le _⟩ hl.1 rfl rfl (Nat.le_of_ble_eq_true rfl) dX3_readKey_103 (fun r_16 v_16 f_16 g_16 H locs hq_16 hP _ hS => ?_)
                obtain ⟨w9_16, a12_16, a13_16, rfl, rfl, rfl, rfl⟩ := hq_16
                show W p l e (gRm 3 63) s m args below meth c _ _ 0 0 Q (F0 m 106 ls [])
                have hP : gWd D (rwT k ad) (va_up (va_up (va_up (va_up v 6 w6_9) 9 w9_16) 16 w16_8) 17 w17_8) (va_up (va_up f 12 a12_16) 13 a13_16) g H := ⟨hP.1, (gF_up (V := rwV) (F := rwF) (gF_up (V := rwV) (F := rwF) (gR_up (V := rwV) (F := rwF) (gR_up (V := rwV) (F := rwF) (gR_up (V := rwV) (F := rwF) (gR_up (V := rwV) (F := rwF) ⟨hok.1, hok.2⟩ 6 (hP.2.1 6)) 9 (hP.2.1 9)) 16 (hP.2.1 16)) 17 (hP.2.1 17)) 12 (hP.2.2 12)) 13 (hP.2.2 13))⟩
                have rw9_16 : 0 ≤ w9_16 ∧ w9_16 ≤ 4 := hP.2.1 9
                refine lv_aload_n hx hb dX3_readKey_106 rfl (lv_at hl 2 rfl) ?_
                refine g_cv (As := []) (rest := []) (n := 0) C hml (c_X3_goOn l D k A ad hD (va_up (va_up (va_up (va_up v 6 w6_9) 9 w9_16) 16 w16_8) 17 w17_8) (va_up (va_up f 12 a12_16) 13 a13_16) g) mM_X3_70 mI_X3_goOn mE_X3_goOn mN_X3 mC_X3_goOn (by decide +kernel) 9 (ci := 3) rfl rfl hP hS (fun _ h => h) ⟨Nat.le_of_ble_eq_true rfl, Nat.le_of_ble_eq_true rfl⟩ ⟨Nat.zero_le _, Nat.zero_le _⟩ hl.1 rfl rfl (Nat.le_of_ble_eq_true rfl) dX3_readKey_107 (fun r_17 v_17 f_17 g_17 H locs hq_17 hP _ hS => ?_)
                obtain ⟨z_17, w6_17, rfl, rfl, rfl, rfl, p0_17, p1_17⟩ := hq_17
                show W p l e (gRm 3 63) s m args below meth c _ _ 0 0 Q (F0 m 110 ls [.int (iI z_17)])
                have hP : gWd D (rwT k ad) (va_up (va_up (va_up (va_up v 6 w6_17) 9 w9_16) 16 w16_8) 17 w17_8) (va_up (va_up f 12 a12_16) 13 a13_16) g H := ⟨hP.1, (gF_up (V := rwV) (F := rwF) (gF_up (V := rwV) (F := rwF) (gR_up (V := rwV) (F := rwF) (gR_up (V := rwV) (F := rwF) (gR_up (V := rwV) (F := rwF) (gR_up (V := rwV) (F := rwF) ⟨hok.1, hok.2⟩ 6 (hP.2.1 6)) 9 (hP.2.1 9)) 16 (hP.2.1 16)) 17 (hP.2.1 17)) 12 (hP.2.2 12)) 13 (hP.2.2 13))⟩
                have p0_17 : 0 ≤ z_17 ∧ z_17 ≤ 1 := p0_17
                have p1_17 : z_17 = 1 ↔ w16_8 = 0 := p1_17
                have rw6_17 : 0 ≤ w6_17 ∧ w6_17 ≤ 700 := hP.2.1 6
                refine lv_pop hx hb dX3_readKey_110 rfl ?_
                exact g_vret hQ C hr hlocks hP hS dX3_readKey_111 ⟨w6_17, w9_16, w16_8, w17_8, a12_16, a13_16, rfl, rfl, rfl, rfl, (by first | omega | (split <;> omega))⟩
              · refine lv_aload_n hx hb dX3_readKey_90 rfl (lv_at hl 2 rfl) ?_
                refine g_cv (As := []) (rest := []) (n := 0) C hml (c_X3_refuseToken l D k A ad hD (va_up (va_up (va_up (va_up v 6 w6_9) 9 (v 9)) 16 w16_8) 17 w17_8) (va_up (va_up f 12 (f 12)) 13 (f 13)) g) mM_X3_88 mI_X3_refuseToken mE_X3_refuseToken mN_X3 mC_X3_refuseToken (by decide +kernel) 9 (ci := 3) rfl rfl hP hS (fun _ h => h) ⟨Nat.le_of_ble_eq_true rfl, Nat.le_of_ble_eq_true rfl⟩ ⟨Nat.zero_le _, Nat.zero_le _⟩ hl.1 rfl rfl (Nat.le_of_ble_eq_true rfl) dX3_readKey_91 (fun r_18 v_18 f_18 g_18 H locs hq_18 hP _ hS => ?_)
                obtain ⟨w16_18, w17_18, rfl, rfl, rfl, rfl, p0_18⟩ := hq_18
                show W p l e (gRm 3 63) s m args below meth c _ _ 0 0 Q (F0 m 94 ls [])
                have hP : gWd D (rwT k ad) (va_up (va_up (va_up (va_up v 6 w6_9) 9 (v 9)) 16 w16_18) 17 w17_18) (va_up (va_up f 12 (f 12)) 13 (f 13)) g H := ⟨hP.1, (gF_up (V := rwV) (F := rwF) (gF_up (V := rwV) (F := rwF) (gR_up (V := rwV) (F := rwF) (gR_up (V := rwV) (F := rwF) (gR_up (V := rwV) (F := rwF) (gR_up (V := rwV) (F := rwF) ⟨hok.1, hok.2⟩ 6 (hP.2.1 6)) 9 (hP.2.1 9)) 16 (hP.2.1 16)) 17 (hP.2.1 17)) 12 (hP.2.2 12)) 13 (hP.2.2 13))⟩
                have p0_18 : w16_18 ≠ 0 := p0_18
                have rw16_18 : 0 ≤ w16_18 ∧ w16_18 ≤ 5 := hP.2.1 16
                have rw17_18 : (-1) ≤ w17_18 ∧ w17_18 ≤ 700 := hP.2.1 17
                refine lv_goto (tgt := 106) hx hb dX3_readKey_94 (by decide) ?_
                refine lv_aload_n hx hb dX3_readKey_106 rfl (lv_at hl 2 rfl) ?_
                refine g_cv (As := []) (rest := []) (n := 0) C hml (c_X3_goOn l D k A ad hD (va_up (va_up (va_up (va_up v 6 w6_9) 9 (v 9)) 16 w16_18) 17 w17_18) (va_up (va_up f 12 (f 12)) 13 (f 13)) g) mM_X3_70 mI_X3_goOn mE_X3_goOn mN_X3 mC_X3_goOn (by decide +kernel) 9 (ci := 3) rfl rfl hP hS (fun _ h => h) ⟨Nat.le_of_ble_eq_true rfl, Nat.le_of_ble_eq_true rfl⟩ ⟨Nat.zero_le _, Nat.zero_le _⟩ hl.1 rfl rfl (Nat.le_of_ble_eq_true rfl) dX3_readKey_107 (fun r_19 v_19 f_19 g_19 H locs hq_19 hP _ hS => ?_)
                obtain ⟨z_19, w6_19, rfl, rfl, rfl, rfl, p0_19, p1_19⟩ := hq_19
                show W p l e (gRm 3 63) s m args below meth c _ _ 0 0 Q (F0 m 110 ls [.int (iI z_19)])
                have hP : gWd D (rwT k ad) (va_up (va_up (va_up (va_up v 6 w6_19) 9 (v 9)) 16 w16_18) 17 w17_18) (va_up (va_up f 12 (f 12)) 13 (f 13)) g H := ⟨hP.1, (gF_up (V := rwV) (F := rwF) (gF_up (V := rwV) (F := rwF) (gR_up (V := rwV) (F := rwF) (gR_up (V := rwV) (F := rwF) (gR_up (V := rwV) (F := rwF) (gR_up (V := rwV) (F := rwF) ⟨hok.1, hok.2⟩ 6 (hP.2.1 6)) 9 (hP.2.1 9)) 16 (hP.2.1 16)) 17 (hP.2.1 17)) 12 (hP.2.2 12)) 13 (hP.2.2 13))⟩
                have p0_19 : 0 ≤ z_19 ∧ z_19 ≤ 1 := p0_19
                have p1_19 : z_19 = 1 ↔ w16_18 = 0 := p1_19
                have rw6_19 : 0 ≤ w6_19 ∧ w6_19 ≤ 700 := hP.2.1 6
                refine lv_pop hx hb dX3_readKey_110 rfl ?_
                exact g_vret hQ C hr hlocks hP hS dX3_readKey_111 ⟨w6_19, (v 9), w16_18, w17_18, (f 12), (f 13), rfl, rfl, rfl, rfl, (by first | omega | (split <;> omega))⟩
          · exact g_vret hQ C hr hlocks hP hS dX3_readKey_68 ⟨w6_9, (v 9), w16_8, w17_8, (f 12), (f 13), rfl, rfl, rfl, rfl, (by first | omega | (split <;> omega))⟩
        · refine lv_iconst (v := iI 1) hx hb dX3_readKey_52 rfl ?_
          refine lv_goto (tgt := 57) hx hb dX3_readKey_53 (by decide) ?_
          refine lv_iconst (v := iI 3) hx hb dX3_readKey_57 rfl ?_
          refine g_cv (As := [.int (iI 1), .int (iI 3)]) (rest := []) (n := 2) C hml (c_X3_refuseIf l D k A ad hD (va_up (va_up (va_up (va_up v 6 (v 6)) 9 (v 9)) 16 (v 16)) 17 (v 17)) (va_up (va_up f 12 (f 12)) 13 (f 13)) g 1 3 (by decide) (by decide) (show 1 ≤ (3 : Int) ∧ (3 : Int) ≤ 5 from by omega)) mM_X3_66 mI_X3_refuseIf mE_X3_refuseIf mN_X3 mC_X3_refuseIf (by decide +kernel) 9 (ci := 3) rfl rfl hP hS (fun _ h => h) ⟨Nat.le_of_ble_eq_true rfl, Nat.le_of_ble_eq_true rfl⟩ ⟨Nat.zero_le _, Nat.zero_le _⟩ hl.1 rfl rfl (Nat.le_of_ble_eq_true rfl) dX3_readKey_58 (fun r_20 v_20 f_20 g_20 H locs hq_20 hP _ hS => ?_)
          obtain ⟨w16_20, w17_20, rfl, rfl, rfl, rfl, p0_20, p1_20, p2_20⟩ := hq_20
          show W p l e (gRm 3 63) s m args below meth c _ _ 0 0 Q (F0 m 61 ls [])
          have hP : gWd D (rwT k ad) (va_up (va_up (va_up (va_up v 6 (v 6)) 9 (v 9)) 16 w16_20) 17 w17_20) (va_up (va_up f 12 (f 12)) 13 (f 13)) g H := ⟨hP.1, (gF_up (V := rwV) (F := rwF) (gF_up (V := rwV) (F := rwF) (gR_up (V := rwV) (F := rwF) (gR_up (V := rwV) (F := rwF) (gR_up (V := rwV) (F := rwF) (gR_up (V := rwV) (F := rwF) ⟨hok.1, hok.2⟩ 6 (hP.2.1 6)) 9 (hP.2.1 9)) 16 (hP.2.1 16)) 17 (hP.2.1 17)) 12 (hP.2.2 12)) 13 (hP.2.2 13))⟩
          have p0_20 : (1 : Int) ≠ 0 → w16_20 ≠ 0 := p0_20
          have p1_20 : (v 16) ≠ 0 → w16_20 ≠ 0 := p1_20
          have p2_20 : (1 : Int) = 0 → w16_20 = (v 16) := p2_20
          have rw16_20 : 0 ≤ w16_20 ∧ w16_20 ≤ 5 := hP.2.1 16
          have rw17_20 : (-1) ≤ w17_20 ∧ w17_20 ≤ 700 := hP.2.1 17
          refine lv_aload_n hx hb dX3_readKey_61 rfl (lv_at hl 1 rfl) ?_
          refine g_cv (As := []) (rest := []) (n := 0) C hml (c_X3_goOn l D k A ad hD (va_up (va_up (va_up (va_up v 6 (v 6)) 9 (v 9)) 16 w16_20) 17 w17_20) (va_up (va_up f 12 (f 12)) 13 (f 13)) g) mM_X3_70 mI_X3_goOn mE_X3_goOn mN_X3 mC_X3_goOn (by decide +kernel) 9 (ci := 3) rfl rfl hP hS (fun _ h => h) ⟨Nat.le_of_ble_eq_true rfl, Nat.le_of_ble_eq_true rfl⟩ ⟨Nat.zero_le _, Nat.zero_le _⟩ hl.1 rfl rfl (Nat.le_of_ble_eq_true rfl) dX3_readKey_62 (fun r_21 v_21 f_21 g_21 H locs hq_21 hP _ hS => ?_)
          obtain ⟨z_21, w6_21, rfl, rfl, rfl, rfl, p0_21, p1_21⟩ := hq_21
          show W p l e (gRm 3 63) s m args below meth c _ _ 0 0 Q (F0 m 65 ls [.int (iI z_21)])
          have hP : gWd D (rwT k ad) (va_up (va_up (va_up (va_up v 6 w6_21) 9 (v 9)) 16 w16_20) 17 w17_20) (va_up (va_up f 12 (f 12)) 13 (f 13)) g H := ⟨hP.1, (gF_up (V := rwV) (F := rwF) (gF_up (V := rwV) (F := rwF) (gR_up (V := rwV) (F := rwF) (gR_up (V := rwV) (F := rwF) (gR_up (V := rwV) (F := rwF) (gR_up (V := rwV) (F := rwF) ⟨hok.1, hok.2⟩ 6 (hP.2.1 6)) 9 (hP.2.1 9)) 16 (hP.2.1 16)) 17 (hP.2.1 17)) 12 (hP.2.2 12)) 13 (hP.2.2 13))⟩
          have p0_21 : 0 ≤ z_21 ∧ z_21 ≤ 1 := p0_21
          have p1_21 : z_21 = 1 ↔ w16_20 = 0 := p1_21
          have rw6_21 : 0 ≤ w6_21 ∧ w6_21 ≤ 700 := hP.2.1 6
          refine gi_zne (tgt := 69) hx hb dX3_readKey_65 (by decide) (by omega) (fun c_22 => ?_) (fun c_22 => ?_)
          · refine lv_aload_n hx hb dX3_readKey_69 rfl (lv_at hl 1 rfl) ?_
            refine rwG_reader_tokens C hP mF_X3_12 dX3_readKey_70 ?_
            refine g_cv (As := []) (rest := []) (n := 0) C hml (c_X6_kind l D k A ad hD (va_up (va_up (va_up (va_up v 6 w6_21) 9 (v 9)) 16 w16_20) 17 w17_20) (va_up (va_up f 12 (f 12)) 13 (f 13)) g) mM_X3_56 mI_X6_kind mE_X6_kind mN_X6 mC_X6_kind (by decide +kernel) 10 (ci := 6) rfl rfl hP hS (fun _ h => h) ⟨Nat.le_of_ble_eq_true rfl, Nat.le_of_ble_eq_true rfl⟩ ⟨Nat.zero_le _, Nat.zero_le _⟩ hl.1 rfl rfl (Nat.le_of_ble_eq_true rfl) dX3_readKey_73 (fun r_23 v_23 f_23 g_23 H locs hq_23 hP _ hS => ?_)
            obtain ⟨z_23, rfl, rfl, rfl, rfl, p0_23, p1_23⟩ := hq_23
            show W p l e (gRm 3 63) s m args below meth c _ _ 0 0 Q (F0 m 76 ls [.int (iI z_23)])
            have p0_23 : z_23 = ((f 6) w6_21) := p0_23
            have p1_23 : 0 ≤ z_23 ∧ z_23 ≤ 300 := p1_23
            have hz_23 : inR z_23 := (by first | omega | (rw [p0_23]; split <;> omega))
            refine lv_sipush (v := iI 268) hx hb dX3_readKey_76 (by decide) ?_
            refine gi_sub (z := (z_23 - 268)) hx hb dX3_readKey_79 rfl ?_
            refine lv_istore_n (lv' := [(2, .int (iI (z_23 - 268))), (1, .int (iI 0)), (0, .ref (ad 9))]) hx hb dX3_readKey_80 rfl hl (by decide) rfl (fun ls hl => ?_)
            refine lv_iload_n hx hb dX3_readKey_81 rfl (lv_at hl 0 rfl) ?_
            refine gi_zlt (tgt := 90) hx hb dX3_readKey_82 (by decide) (by omega) (fun c_24 => ?_) (fun c_24 => ?_)
            · refine lv_aload_n hx hb dX3_readKey_90 rfl (lv_at hl 2 rfl) ?_
              refine g_cv (As := []) (rest := []) (n := 0) C hml (c_X3_refuseToken l D k A ad hD (va_up (va_up (va_up (va_up v 6 w6_21) 9 (v 9)) 16 w16_20) 17 w17_20) (va_up (va_up f 12 (f 12)) 13 (f 13)) g) mM_X3_88 mI_X3_refuseToken mE_X3_refuseToken mN_X3 mC_X3_refuseToken (by decide +kernel) 9 (ci := 3) rfl rfl hP hS (fun _ h => h) ⟨Nat.le_of_ble_eq_true rfl, Nat.le_of_ble_eq_true rfl⟩ ⟨Nat.zero_le _, Nat.zero_le _⟩ hl.1 rfl rfl (Nat.le_of_ble_eq_true rfl) dX3_readKey_91 (fun r_25 v_25 f_25 g_25 H locs hq_25 hP _ hS => ?_)
              obtain ⟨w16_25, w17_25, rfl, rfl, rfl, rfl, p0_25⟩ := hq_25
              show W p l e (gRm 3 63) s m args below meth c _ _ 0 0 Q (F0 m 94 ls [])
              have hP : gWd D (rwT k ad) (va_up (va_up (va_up (va_up v 6 w6_21) 9 (v 9)) 16 w16_25) 17 w17_25) (va_up (va_up f 12 (f 12)) 13 (f 13)) g H := ⟨hP.1, (gF_up (V := rwV) (F := rwF) (gF_up (V := rwV) (F := rwF) (gR_up (V := rwV) (F := rwF) (gR_up (V := rwV) (F := rwF) (gR_up (V := rwV) (F := rwF) (gR_up (V := rwV) (F := rwF) ⟨hok.1, hok.2⟩ 6 (hP.2.1 6)) 9 (hP.2.1 9)) 16 (hP.2.1 16)) 17 (hP.2.1 17)) 12 (hP.2.2 12)) 13 (hP.2.2 13))⟩
              have p0_25 : w16_25 ≠ 0 := p0_25
              have rw16_25 : 0 ≤ w16_25 ∧ w16_25 ≤ 5 := hP.2.1 16
              have rw17_25 : (-1) ≤ w17_25 ∧ w17_25 ≤ 700 := hP.2.1 17
              refine lv_goto (tgt := 106) hx hb dX3_readKey_94 (by decide) ?_
              refine lv_aload_n hx hb dX3_readKey_106 rfl (lv_at hl 2 rfl) ?_
              refine g_cv (As := []) (rest := []) (n := 0) C hml (c_X3_goOn l D k A ad hD (va_up (va_up (va_up (va_up v 6 w6_21) 9 (v 9)) 16 w16_25) 17 w17_25) (va_up (va_up f 12 (f 12)) 13 (f 13)) g) mM_X3_70 mI_X3_goOn mE_X3_goOn mN_X3 mC_X3_goOn (by decide +kernel) 9 (ci := 3) rfl rfl hP hS (fun _ h => h) ⟨Nat.le_of_ble_eq_true rfl, Nat.le_of_ble_eq_true rfl⟩ ⟨Nat.zero_le _, Nat.zero_le _⟩ hl.1 rfl rfl (Nat.le_of_ble_eq_true rfl) dX3_readKey_107 (fun r_26 v_26 f_26 g_26 H locs hq_26 hP _ hS => ?_)
              obtain ⟨z_26, w6_26, rfl, rfl, rfl, rfl, p0_26, p1_26⟩ := hq_26
              show W p l e (gRm 3 63) s m args below meth c _ _ 0 0 Q (F0 m 110 ls [.int (iI z_26)])
              have hP : gWd D (rwT k ad) (va_up (va_up (va_up (va_up v 6 w6_26) 9 (v 9)) 16 w16_25) 17 w17_25) (va_up (va_up f 12 (f 12)) 13 (f 13)) g H := ⟨hP.1, (gF_up (V := rwV) (F := rwF) (gF_up (V := rwV) (F := rwF) (gR_up (V := rwV) (F := rwF) (gR_up (V := rwV) (F := rwF) (gR_up (V := rwV) (F := rwF) (gR_up (V := rwV) (F := rwF) ⟨hok.1, hok.2⟩ 6 (hP.2.1 6)) 9 (hP.2.1 9)) 16 (hP.2.1 16)) 17 (hP.2.1 17)) 12 (hP.2.2 12)) 13 (hP.2.2 13))⟩
              have p0_26 : 0 ≤ z_26 ∧ z_26 ≤ 1 := p0_26
              have p1_26 : z_26 = 1 ↔ w16_25 = 0 := p1_26
              have rw6_26 : 0 ≤ w6_26 ∧ w6_26 ≤ 700 := hP.2.1 6
              refine lv_pop hx hb dX3_readKey_110 rfl ?_
              exact g_vret hQ C hr hlocks hP hS dX3_readKey_111 ⟨w6_26, (v 9), w16_25, w17_25, (f 12), (f 13), rfl, rfl, rfl, rfl, (by first | omega | (split <;> omega))⟩
            · refine lv_iload_n hx hb dX3_readKey_85 rfl (lv_at hl 0 rfl) ?_
              refine lv_iconst (v := iI 3) hx hb dX3_readKey_86 rfl ?_
              refine gi_cle (tgt := 97) hx hb dX3_readKey_87 (by decide) (by omega) (by decide) (fun c_27 => ?_) (fun c_27 => ?_)
              · refine lv_aload_n hx hb dX3_readKey_97 rfl (lv_at hl 2 rfl) ?_
                refine rwG_reader_draft C hP mF_X3_21 dX3_readKey_98 ?_
                refine lv_iload_n hx hb dX3_readKey_101 rfl (lv_at hl 0 rfl) ?_
                refine lv_iload_n hx hb dX3_readKey_102 rfl (lv_at hl 1 rfl) ?_
                refine g_cv (As := [.int (iI (z_23 - 268)), .int (iI 0)]) (rest := []) (n := 2) C hml (c_X4_addKey l D k A ad hD (va_up (va_up (va_up (va_up v 6 w6_21) 9 (v 9)) 16 w16_20) 17 w17_20) (va_up (va_up f 12 (f 12)) 13 (f 13)) g (z_23 - 268) 0 (by omega) (by decide) (show 0 ≤ (z_23 - 268) ∧ (z_23 - 268) ≤ 3 from by omega)) mM_X3_122 mI_X4_addKey mE_X4_addKey mN_X4 mC_X4_addKey (by decide +kernel) 14 (ci := 4) rfl rfl hP hS (fun _ h => h) ⟨Nat.le_of_ble_eq_true rfl, Nat.le_of_ble_eq_true rfl⟩ ⟨Nat.zero_le _, Nat.zero_le _⟩ hl.1 rfl rfl (Nat.le_of_ble_eq_true rfl) dX3_readKey_103 (fun r_28 v_28 f_28 g_28 H locs hq_28 hP _ hS => ?_)
                obtain ⟨w9_28, a12_28, a13_28, rfl, rfl, rfl, rfl⟩ := hq_28
                show W p l e (gRm 3 63) s m args below meth c _ _ 0 0 Q (F0 m 106 ls [])
                have hP : gWd D (rwT k ad) (va_up (va_up (va_up (va_up v 6 w6_21) 9 w9_28) 16 w16_20) 17 w17_20) (va_up (va_up f 12 a12_28) 13 a13_28) g H := ⟨hP.1, (gF_up (V := rwV) (F := rwF) (gF_up (V := rwV) (F := rwF) (gR_up (V := rwV) (F := rwF) (gR_up (V := rwV) (F := rwF) (gR_up (V := rwV) (F := rwF) (gR_up (V := rwV) (F := rwF) ⟨hok.1, hok.2⟩ 6 (hP.2.1 6)) 9 (hP.2.1 9)) 16 (hP.2.1 16)) 17 (hP.2.1 17)) 12 (hP.2.2 12)) 13 (hP.2.2 13))⟩
                have rw9_28 : 0 ≤ w9_28 ∧ w9_28 ≤ 4 := hP.2.1 9
                refine lv_aload_n hx hb dX3_readKey_106 rfl (lv_at hl 2 rfl) ?_
                refine g_cv (As := []) (rest := []) (n := 0) C hml (c_X3_goOn l D k A ad hD (va_up (va_up (va_up (va_up v 6 w6_21) 9 w9_28) 16 w16_20) 17 w17_20) (va_up (va_up f 12 a12_28) 13 a13_28) g) mM_X3_70 mI_X3_goOn mE_X3_goOn mN_X3 mC_X3_goOn (by decide +kernel) 9 (ci := 3) rfl rfl hP hS (fun _ h => h) ⟨Nat.le_of_ble_eq_true rfl, Nat.le_of_ble_eq_true rfl⟩ ⟨Nat.zero_le _, Nat.zero_le _⟩ hl.1 rfl rfl (Nat.le_of_ble_eq_true rfl) dX3_readKey_107 (fun r_29 v_29 f_29 g_29 H locs hq_29 hP _ hS => ?_)
                obtain ⟨z_29, w6_29, rfl, rfl, rfl, rfl, p0_29, p1_29⟩ := hq_29
                show W p l e (gRm 3 63) s m args below meth c _ _ 0 0 Q (F0 m 110 ls [.int (iI z_29)])
                have hP : gWd D (rwT k ad) (va_up (va_up (va_up (va_up v 6 w6_29) 9 w9_28) 16 w16_20) 17 w17_20) (va_up (va_up f 12 a12_28) 13 a13_28) g H := ⟨hP.1, (gF_up (V := rwV) (F := rwF) (gF_up (V := rwV) (F := rwF) (gR_up (V := rwV) (F := rwF) (gR_up (V := rwV) (F := rwF) (gR_up (V := rwV) (F := rwF) (gR_up (V := rwV) (F := rwF) ⟨hok.1, hok.2⟩ 6 (hP.2.1 6)) 9 (hP.2.1 9)) 16 (hP.2.1 16)) 17 (hP.2.1 17)) 12 (hP.2.2 12)) 13 (hP.2.2 13))⟩
                have p0_29 : 0 ≤ z_29 ∧ z_29 ≤ 1 := p0_29
                have p1_29 : z_29 = 1 ↔ w16_20 = 0 := p1_29
                have rw6_29 : 0 ≤ w6_29 ∧ w6_29 ≤ 700 := hP.2.1 6
                refine lv_pop hx hb dX3_readKey_110 rfl ?_
                exact g_vret hQ C hr hlocks hP hS dX3_readKey_111 ⟨w6_29, w9_28, w16_20, w17_20, a12_28, a13_28, rfl, rfl, rfl, rfl, (by first | omega | (split <;> omega))⟩
              · refine lv_aload_n hx hb dX3_readKey_90 rfl (lv_at hl 2 rfl) ?_
                refine g_cv (As := []) (rest := []) (n := 0) C hml (c_X3_refuseToken l D k A ad hD (va_up (va_up (va_up (va_up v 6 w6_21) 9 (v 9)) 16 w16_20) 17 w17_20) (va_up (va_up f 12 (f 12)) 13 (f 13)) g) mM_X3_88 mI_X3_refuseToken mE_X3_refuseToken mN_X3 mC_X3_refuseToken (by decide +kernel) 9 (ci := 3) rfl rfl hP hS (fun _ h => h) ⟨Nat.le_of_ble_eq_true rfl, Nat.le_of_ble_eq_true rfl⟩ ⟨Nat.zero_le _, Nat.zero_le _⟩ hl.1 rfl rfl (Nat.le_of_ble_eq_true rfl) dX3_readKey_91 (fun r_30 v_30 f_30 g_30 H locs hq_30 hP _ hS => ?_)
                obtain ⟨w16_30, w17_30, rfl, rfl, rfl, rfl, p0_30⟩ := hq_30
                show W p l e (gRm 3 63) s m args below meth c _ _ 0 0 Q (F0 m 94 ls [])
                have hP : gWd D (rwT k ad) (va_up (va_up (va_up (va_up v 6 w6_21) 9 (v 9)) 16 w16_30) 17 w17_30) (va_up (va_up f 12 (f 12)) 13 (f 13)) g H := ⟨hP.1, (gF_up (V := rwV) (F := rwF) (gF_up (V := rwV) (F := rwF) (gR_up (V := rwV) (F := rwF) (gR_up (V := rwV) (F := rwF) (gR_up (V := rwV) (F := rwF) (gR_up (V := rwV) (F := rwF) ⟨hok.1, hok.2⟩ 6 (hP.2.1 6)) 9 (hP.2.1 9)) 16 (hP.2.1 16)) 17 (hP.2.1 17)) 12 (hP.2.2 12)) 13 (hP.2.2 13))⟩
                have p0_30 : w16_30 ≠ 0 := p0_30
                have rw16_30 : 0 ≤ w16_30 ∧ w16_30 ≤ 5 := hP.2.1 16
                have rw17_30 : (-1) ≤ w17_30 ∧ w17_30 ≤ 700 := hP.2.1 17
                refine lv_goto (tgt := 106) hx hb dX3_readKey_94 (by decide) ?_
                refine lv_aload_n hx hb dX3_readKey_106 rfl (lv_at hl 2 rfl) ?_
                refine g_cv (As := []) (rest := []) (n := 0) C hml (c_X3_goOn l D k A ad hD (va_up (va_up (va_up (va_up v 6 w6_21) 9 (v 9)) 16 w16_30) 17 w17_30) (va_up (va_up f 12 (f 12)) 13 (f 13)) g) mM_X3_70 mI_X3_goOn mE_X3_goOn mN_X3 mC_X3_goOn (by decide +kernel) 9 (ci := 3) rfl rfl hP hS (fun _ h => h) ⟨Nat.le_of_ble_eq_true rfl, Nat.le_of_ble_eq_true rfl⟩ ⟨Nat.zero_le _, Nat.zero_le _⟩ hl.1 rfl rfl (Nat.le_of_ble_eq_true rfl) dX3_readKey_107 (fun r_31 v_31 f_31 g_31 H locs hq_31 hP _ hS => ?_)
                obtain ⟨z_31, w6_31, rfl, rfl, rfl, rfl, p0_31, p1_31⟩ := hq_31
                show W p l e (gRm 3 63) s m args below meth c _ _ 0 0 Q (F0 m 110 ls [.int (iI z_31)])
                have hP : gWd D (rwT k ad) (va_up (va_up (va_up (va_up v 6 w6_31) 9 (v 9)) 16 w16_30) 17 w17_30) (va_up (va_up f 12 (f 12)) 13 (f 13)) g H := ⟨hP.1, (gF_up (V := rwV) (F := rwF) (gF_up (V := rwV) (F := rwF) (gR_up (V := rwV) (F := rwF) (gR_up (V := rwV) (F := rwF) (gR_up (V := rwV) (F := rwF) (gR_up (V := rwV) (F := rwF) ⟨hok.1, hok.2⟩ 6 (hP.2.1 6)) 9 (hP.2.1 9)) 16 (hP.2.1 16)) 17 (hP.2.1 17)) 12 (hP.2.2 12)) 13 (hP.2.2 13))⟩
                have p0_31 : 0 ≤ z_31 ∧ z_31 ≤ 1 := p0_31
                have p1_31 : z_31 = 1 ↔ w16_30 = 0 := p1_31
                have rw6_31 : 0 ≤ w6_31 ∧ w6_31 ≤ 700 := hP.2.1 6
                refine lv_pop hx hb dX3_readKey_110 rfl ?_
                exact g_vret hQ C hr hlocks hP hS dX3_readKey_111 ⟨w6_31, (v 9), w16_30, w17_30, (f 12), (f 13), rfl, rfl, rfl, rfl, (by first | omega | (split <;> omega))⟩
          · exact g_vret hQ C hr hlocks hP hS dX3_readKey_68 ⟨w6_21, (v 9), w16_20, w17_20, (f 12), (f 13), rfl, rfl, rfl, rfl, (by first | omega | (split <;> omega))⟩
      · refine lv_aload_n hx hb dX3_readKey_36 rfl (lv_at hl 1 rfl) ?_
        refine g_cv (As := []) (rest := []) (n := 0) C hml (c_X3_refuseToken l D k A ad hD (va_up (va_up (va_up (va_up v 6 (v 6)) 9 (v 9)) 16 (v 16)) 17 (v 17)) (va_up (va_up f 12 (f 12)) 13 (f 13)) g) mM_X3_88 mI_X3_refuseToken mE_X3_refuseToken mN_X3 mC_X3_refuseToken (by decide +kernel) 9 (ci := 3) rfl rfl hP hS (fun _ h => h) ⟨Nat.le_of_ble_eq_true rfl, Nat.le_of_ble_eq_true rfl⟩ ⟨Nat.zero_le _, Nat.zero_le _⟩ hl.1 rfl rfl (Nat.le_of_ble_eq_true rfl) dX3_readKey_37 (fun r_32 v_32 f_32 g_32 H locs hq_32 hP _ hS => ?_)
        obtain ⟨w16_32, w17_32, rfl, rfl, rfl, rfl, p0_32⟩ := hq_32
        show W p l e (gRm 3 63) s m args below meth c _ _ 0 0 Q (F0 m 40 ls [])
        have hP : gWd D (rwT k ad) (va_up (va_up (va_up (va_up v 6 (v 6)) 9 (v 9)) 16 w16_32) 17 w17_32) (va_up (va_up f 12 (f 12)) 13 (f 13)) g H := ⟨hP.1, (gF_up (V := rwV) (F := rwF) (gF_up (V := rwV) (F := rwF) (gR_up (V := rwV) (F := rwF) (gR_up (V := rwV) (F := rwF) (gR_up (V := rwV) (F := rwF) (gR_up (V := rwV) (F := rwF) ⟨hok.1, hok.2⟩ 6 (hP.2.1 6)) 9 (hP.2.1 9)) 16 (hP.2.1 16)) 17 (hP.2.1 17)) 12 (hP.2.2 12)) 13 (hP.2.2 13))⟩
        have p0_32 : w16_32 ≠ 0 := p0_32
        have rw16_32 : 0 ≤ w16_32 ∧ w16_32 ≤ 5 := hP.2.1 16
        have rw17_32 : (-1) ≤ w17_32 ∧ w17_32 ≤ 700 := hP.2.1 17
        refine lv_aload_n hx hb dX3_readKey_40 rfl (lv_at hl 1 rfl) ?_
        refine lv_aload_n hx hb dX3_readKey_41 rfl (lv_at hl 1 rfl) ?_
        refine rwG_reader_draft C hP mF_X3_21 dX3_readKey_42 ?_
        refine rwG_reader_draft_keys C hP mF_X3_116 dX3_readKey_45 ?_
        show W p l e (gRm 3 63) s m args below meth c _ _ 0 0 Q (F0 m 48 ls [.int (iI (v 9)), .ref (ad 9)])
        have r_33 : 0 ≤ (v 9) ∧ (v 9) ≤ 4 := hok.1 9
        refine lv_iconst (v := iI 4) hx hb dX3_readKey_48 rfl ?_
        refine gi_clt (tgt := 56) hx hb dX3_readKey_49 (by decide) (by omega) (by decide) (fun c_34 => ?_) (fun c_34 => ?_)
        · refine lv_iconst (v := iI 0) hx hb dX3_readKey_56 rfl ?_
          refine lv_iconst (v := iI 3) hx hb dX3_readKey_57 rfl ?_
          refine g_cv (As := [.int (iI 0), .int (iI 3)]) (rest := []) (n := 2) C hml (c_X3_refuseIf l D k A ad hD (va_up (va_up (va_up (va_up v 6 (v 6)) 9 (v 9)) 16 w16_32) 17 w17_32) (va_up (va_up f 12 (f 12)) 13 (f 13)) g 0 3 (by decide) (by decide) (show 1 ≤ (3 : Int) ∧ (3 : Int) ≤ 5 from by omega)) mM_X3_66 mI_X3_refuseIf mE_X3_refuseIf mN_X3 mC_X3_refuseIf (by decide +kernel) 9 (ci := 3) rfl rfl hP hS (fun _ h => h) ⟨Nat.le_of_ble_eq_true rfl, Nat.le_of_ble_eq_true rfl⟩ ⟨Nat.zero_le _, Nat.zero_le _⟩ hl.1 rfl rfl (Nat.le_of_ble_eq_true rfl) dX3_readKey_58 (fun r_35 v_35 f_35 g_35 H locs hq_35 hP _ hS => ?_)
          obtain ⟨w16_35, w17_35, rfl, rfl, rfl, rfl, p0_35, p1_35, p2_35⟩ := hq_35
          show W p l e (gRm 3 63) s m args below meth c _ _ 0 0 Q (F0 m 61 ls [])
          have hP : gWd D (rwT k ad) (va_up (va_up (va_up (va_up v 6 (v 6)) 9 (v 9)) 16 w16_35) 17 w17_35) (va_up (va_up f 12 (f 12)) 13 (f 13)) g H := ⟨hP.1, (gF_up (V := rwV) (F := rwF) (gF_up (V := rwV) (F := rwF) (gR_up (V := rwV) (F := rwF) (gR_up (V := rwV) (F := rwF) (gR_up (V := rwV) (F := rwF) (gR_up (V := rwV) (F := rwF) ⟨hok.1, hok.2⟩ 6 (hP.2.1 6)) 9 (hP.2.1 9)) 16 (hP.2.1 16)) 17 (hP.2.1 17)) 12 (hP.2.2 12)) 13 (hP.2.2 13))⟩
          have p0_35 : (0 : Int) ≠ 0 → w16_35 ≠ 0 := p0_35
          have p1_35 : w16_32 ≠ 0 → w16_35 ≠ 0 := p1_35
          have p2_35 : (0 : Int) = 0 → w16_35 = w16_32 := p2_35
          have rw16_35 : 0 ≤ w16_35 ∧ w16_35 ≤ 5 := hP.2.1 16
          have rw17_35 : (-1) ≤ w17_35 ∧ w17_35 ≤ 700 := hP.2.1 17
          refine lv_aload_n hx hb dX3_readKey_61 rfl (lv_at hl 1 rfl) ?_
          refine g_cv (As := []) (rest := []) (n := 0) C hml (c_X3_goOn l D k A ad hD (va_up (va_up (va_up (va_up v 6 (v 6)) 9 (v 9)) 16 w16_35) 17 w17_35) (va_up (va_up f 12 (f 12)) 13 (f 13)) g) mM_X3_70 mI_X3_goOn mE_X3_goOn mN_X3 mC_X3_goOn (by decide +kernel) 9 (ci := 3) rfl rfl hP hS (fun _ h => h) ⟨Nat.le_of_ble_eq_true rfl, Nat.le_of_ble_eq_true rfl⟩ ⟨Nat.zero_le _, Nat.zero_le _⟩ hl.1 rfl rfl (Nat.le_of_ble_eq_true rfl) dX3_readKey_62 (fun r_36 v_36 f_36 g_36 H locs hq_36 hP _ hS => ?_)
          obtain ⟨z_36, w6_36, rfl, rfl, rfl, rfl, p0_36, p1_36⟩ := hq_36
          show W p l e (gRm 3 63) s m args below meth c _ _ 0 0 Q (F0 m 65 ls [.int (iI z_36)])
          have hP : gWd D (rwT k ad) (va_up (va_up (va_up (va_up v 6 w6_36) 9 (v 9)) 16 w16_35) 17 w17_35) (va_up (va_up f 12 (f 12)) 13 (f 13)) g H := ⟨hP.1, (gF_up (V := rwV) (F := rwF) (gF_up (V := rwV) (F := rwF) (gR_up (V := rwV) (F := rwF) (gR_up (V := rwV) (F := rwF) (gR_up (V := rwV) (F := rwF) (gR_up (V := rwV) (F := rwF) ⟨hok.1, hok.2⟩ 6 (hP.2.1 6)) 9 (hP.2.1 9)) 16 (hP.2.1 16)) 17 (hP.2.1 17)) 12 (hP.2.2 12)) 13 (hP.2.2 13))⟩
          have p0_36 : 0 ≤ z_36 ∧ z_36 ≤ 1 := p0_36
          have p1_36 : z_36 = 1 ↔ w16_35 = 0 := p1_36
          have rw6_36 : 0 ≤ w6_36 ∧ w6_36 ≤ 700 := hP.2.1 6
          refine gi_zne (tgt := 69) hx hb dX3_readKey_65 (by decide) (by omega) (fun c_37 => ?_) (fun c_37 => ?_)
          · refine lv_aload_n hx hb dX3_readKey_69 rfl (lv_at hl 1 rfl) ?_
            refine rwG_reader_tokens C hP mF_X3_12 dX3_readKey_70 ?_
            refine g_cv (As := []) (rest := []) (n := 0) C hml (c_X6_kind l D k A ad hD (va_up (va_up (va_up (va_up v 6 w6_36) 9 (v 9)) 16 w16_35) 17 w17_35) (va_up (va_up f 12 (f 12)) 13 (f 13)) g) mM_X3_56 mI_X6_kind mE_X6_kind mN_X6 mC_X6_kind (by decide +kernel) 10 (ci := 6) rfl rfl hP hS (fun _ h => h) ⟨Nat.le_of_ble_eq_true rfl, Nat.le_of_ble_eq_true rfl⟩ ⟨Nat.zero_le _, Nat.zero_le _⟩ hl.1 rfl rfl (Nat.le_of_ble_eq_true rfl) dX3_readKey_73 (fun r_38 v_38 f_38 g_38 H locs hq_38 hP _ hS => ?_)
            obtain ⟨z_38, rfl, rfl, rfl, rfl, p0_38, p1_38⟩ := hq_38
            show W p l e (gRm 3 63) s m args below meth c _ _ 0 0 Q (F0 m 76 ls [.int (iI z_38)])
            have p0_38 : z_38 = ((f 6) w6_36) := p0_38
            have p1_38 : 0 ≤ z_38 ∧ z_38 ≤ 300 := p1_38
            have hz_38 : inR z_38 := (by first | omega | (rw [p0_38]; split <;> omega))
            refine lv_sipush (v := iI 268) hx hb dX3_readKey_76 (by decide) ?_
            refine gi_sub (z := (z_38 - 268)) hx hb dX3_readKey_79 rfl ?_
            refine lv_istore_n (lv' := [(2, .int (iI (z_38 - 268))), (1, .int (iI 0)), (0, .ref (ad 9))]) hx hb dX3_readKey_80 rfl hl (by decide) rfl (fun ls hl => ?_)
            refine lv_iload_n hx hb dX3_readKey_81 rfl (lv_at hl 0 rfl) ?_
            refine gi_zlt (tgt := 90) hx hb dX3_readKey_82 (by decide) (by omega) (fun c_39 => ?_) (fun c_39 => ?_)
            · refine lv_aload_n hx hb dX3_readKey_90 rfl (lv_at hl 2 rfl) ?_
              refine g_cv (As := []) (rest := []) (n := 0) C hml (c_X3_refuseToken l D k A ad hD (va_up (va_up (va_up (va_up v 6 w6_36) 9 (v 9)) 16 w16_35) 17 w17_35) (va_up (va_up f 12 (f 12)) 13 (f 13)) g) mM_X3_88 mI_X3_refuseToken mE_X3_refuseToken mN_X3 mC_X3_refuseToken (by decide +kernel) 9 (ci := 3) rfl rfl hP hS (fun _ h => h) ⟨Nat.le_of_ble_eq_true rfl, Nat.le_of_ble_eq_true rfl⟩ ⟨Nat.zero_le _, Nat.zero_le _⟩ hl.1 rfl rfl (Nat.le_of_ble_eq_true rfl) dX3_readKey_91 (fun r_40 v_40 f_40 g_40 H locs hq_40 hP _ hS => ?_)
              obtain ⟨w16_40, w17_40, rfl, rfl, rfl, rfl, p0_40⟩ := hq_40
              show W p l e (gRm 3 63) s m args below meth c _ _ 0 0 Q (F0 m 94 ls [])
              have hP : gWd D (rwT k ad) (va_up (va_up (va_up (va_up v 6 w6_36) 9 (v 9)) 16 w16_40) 17 w17_40) (va_up (va_up f 12 (f 12)) 13 (f 13)) g H := ⟨hP.1, (gF_up (V := rwV) (F := rwF) (gF_up (V := rwV) (F := rwF) (gR_up (V := rwV) (F := rwF) (gR_up (V := rwV) (F := rwF) (gR_up (V := rwV) (F := rwF) (gR_up (V := rwV) (F := rwF) ⟨hok.1, hok.2⟩ 6 (hP.2.1 6)) 9 (hP.2.1 9)) 16 (hP.2.1 16)) 17 (hP.2.1 17)) 12 (hP.2.2 12)) 13 (hP.2.2 13))⟩
              have p0_40 : w16_40 ≠ 0 := p0_40
              have rw16_40 : 0 ≤ w16_40 ∧ w16_40 ≤ 5 := hP.2.1 16
              have rw17_40 : (-1) ≤ w17_40 ∧ w17_40 ≤ 700 := hP.2.1 17
              refine lv_goto (tgt := 106) hx hb dX3_readKey_94 (by decide) ?_
              refine lv_aload_n hx hb dX3_readKey_106 rfl (lv_at hl 2 rfl) ?_
              refine g_cv (As := []) (rest := []) (n := 0) C hml (c_X3_goOn l D k A ad hD (va_up (va_up (va_up (va_up v 6 w6_36) 9 (v 9)) 16 w16_40) 17 w17_40) (va_up (va_up f 12 (f 12)) 13 (f 13)) g) mM_X3_70 mI_X3_goOn mE_X3_goOn mN_X3 mC_X3_goOn (by decide +kernel) 9 (ci := 3) rfl rfl hP hS (fun _ h => h) ⟨Nat.le_of_ble_eq_true rfl, Nat.le_of_ble_eq_true rfl⟩ ⟨Nat.zero_le _, Nat.zero_le _⟩ hl.1 rfl rfl (Nat.le_of_ble_eq_true rfl) dX3_readKey_107 (fun r_41 v_41 f_41 g_41 H locs hq_41 hP _ hS => ?_)
              obtain ⟨z_41, w6_41, rfl, rfl, rfl, rfl, p0_41, p1_41⟩ := hq_41
              show W p l e (gRm 3 63) s m args below meth c _ _ 0 0 Q (F0 m 110 ls [.int (iI z_41)])
              have hP : gWd D (rwT k ad) (va_up (va_up (va_up (va_up v 6 w6_41) 9 (v 9)) 16 w16_40) 17 w17_40) (va_up (va_up f 12 (f 12)) 13 (f 13)) g H := ⟨hP.1, (gF_up (V := rwV) (F := rwF) (gF_up (V := rwV) (F := rwF) (gR_up (V := rwV) (F := rwF) (gR_up (V := rwV) (F := rwF) (gR_up (V := rwV) (F := rwF) (gR_up (V := rwV) (F := rwF) ⟨hok.1, hok.2⟩ 6 (hP.2.1 6)) 9 (hP.2.1 9)) 16 (hP.2.1 16)) 17 (hP.2.1 17)) 12 (hP.2.2 12)) 13 (hP.2.2 13))⟩
              have p0_41 : 0 ≤ z_41 ∧ z_41 ≤ 1 := p0_41
              have p1_41 : z_41 = 1 ↔ w16_40 = 0 := p1_41
              have rw6_41 : 0 ≤ w6_41 ∧ w6_41 ≤ 700 := hP.2.1 6
              refine lv_pop hx hb dX3_readKey_110 rfl ?_
              exact g_vret hQ C hr hlocks hP hS dX3_readKey_111 ⟨w6_41, (v 9), w16_40, w17_40, (f 12), (f 13), rfl, rfl, rfl, rfl, (by first | omega | (split <;> omega))⟩
            · refine lv_iload_n hx hb dX3_readKey_85 rfl (lv_at hl 0 rfl) ?_
              refine lv_iconst (v := iI 3) hx hb dX3_readKey_86 rfl ?_
              refine gi_cle (tgt := 97) hx hb dX3_readKey_87 (by decide) (by omega) (by decide) (fun c_42 => ?_) (fun c_42 => ?_)
              · refine lv_aload_n hx hb dX3_readKey_97 rfl (lv_at hl 2 rfl) ?_
                refine rwG_reader_draft C hP mF_X3_21 dX3_readKey_98 ?_
                refine lv_iload_n hx hb dX3_readKey_101 rfl (lv_at hl 0 rfl) ?_
                refine lv_iload_n hx hb dX3_readKey_102 rfl (lv_at hl 1 rfl) ?_
                refine g_cv (As := [.int (iI (z_38 - 268)), .int (iI 0)]) (rest := []) (n := 2) C hml (c_X4_addKey l D k A ad hD (va_up (va_up (va_up (va_up v 6 w6_36) 9 (v 9)) 16 w16_35) 17 w17_35) (va_up (va_up f 12 (f 12)) 13 (f 13)) g (z_38 - 268) 0 (by omega) (by decide) (show 0 ≤ (z_38 - 268) ∧ (z_38 - 268) ≤ 3 from by omega)) mM_X3_122 mI_X4_addKey mE_X4_addKey mN_X4 mC_X4_addKey (by decide +kernel) 14 (ci := 4) rfl rfl hP hS (fun _ h => h) ⟨Nat.le_of_ble_eq_true rfl, Nat.le_of_ble_eq_true rfl⟩ ⟨Nat.zero_le _, Nat.zero_le _⟩ hl.1 rfl rfl (Nat.le_of_ble_eq_true rfl) dX3_readKey_103 (fun r_43 v_43 f_43 g_43 H locs hq_43 hP _ hS => ?_)
                obtain ⟨w9_43, a12_43, a13_43, rfl, rfl, rfl, rfl⟩ := hq_43
                show W p l e (gRm 3 63) s m args below meth c _ _ 0 0 Q (F0 m 106 ls [])
                have hP : gWd D (rwT k ad) (va_up (va_up (va_up (va_up v 6 w6_36) 9 w9_43) 16 w16_35) 17 w17_35) (va_up (va_up f 12 a12_43) 13 a13_43) g H := ⟨hP.1, (gF_up (V := rwV) (F := rwF) (gF_up (V := rwV) (F := rwF) (gR_up (V := rwV) (F := rwF) (gR_up (V := rwV) (F := rwF) (gR_up (V := rwV) (F := rwF) (gR_up (V := rwV) (F := rwF) ⟨hok.1, hok.2⟩ 6 (hP.2.1 6)) 9 (hP.2.1 9)) 16 (hP.2.1 16)) 17 (hP.2.1 17)) 12 (hP.2.2 12)) 13 (hP.2.2 13))⟩
                have rw9_43 : 0 ≤ w9_43 ∧ w9_43 ≤ 4 := hP.2.1 9
                refine lv_aload_n hx hb dX3_readKey_106 rfl (lv_at hl 2 rfl) ?_
                refine g_cv (As := []) (rest := []) (n := 0) C hml (c_X3_goOn l D k A ad hD (va_up (va_up (va_up (va_up v 6 w6_36) 9 w9_43) 16 w16_35) 17 w17_35) (va_up (va_up f 12 a12_43) 13 a13_43) g) mM_X3_70 mI_X3_goOn mE_X3_goOn mN_X3 mC_X3_goOn (by decide +kernel) 9 (ci := 3) rfl rfl hP hS (fun _ h => h) ⟨Nat.le_of_ble_eq_true rfl, Nat.le_of_ble_eq_true rfl⟩ ⟨Nat.zero_le _, Nat.zero_le _⟩ hl.1 rfl rfl (Nat.le_of_ble_eq_true rfl) dX3_readKey_107 (fun r_44 v_44 f_44 g_44 H locs hq_44 hP _ hS => ?_)
                obtain ⟨z_44, w6_44, rfl, rfl, rfl, rfl, p0_44, p1_44⟩ := hq_44
                show W p l e (gRm 3 63) s m args below meth c _ _ 0 0 Q (F0 m 110 ls [.int (iI z_44)])
                have hP : gWd D (rwT k ad) (va_up (va_up (va_up (va_up v 6 w6_44) 9 w9_43) 16 w16_35) 17 w17_35) (va_up (va_up f 12 a12_43) 13 a13_43) g H := ⟨hP.1, (gF_up (V := rwV) (F := rwF) (gF_up (V := rwV) (F := rwF) (gR_up (V := rwV) (F := rwF) (gR_up (V := rwV) (F := rwF) (gR_up (V := rwV) (F := rwF) (gR_up (V := rwV) (F := rwF) ⟨hok.1, hok.2⟩ 6 (hP.2.1 6)) 9 (hP.2.1 9)) 16 (hP.2.1 16)) 17 (hP.2.1 17)) 12 (hP.2.2 12)) 13 (hP.2.2 13))⟩
                have p0_44 : 0 ≤ z_44 ∧ z_44 ≤ 1 := p0_44
                have p1_44 : z_44 = 1 ↔ w16_35 = 0 := p1_44
                have rw6_44 : 0 ≤ w6_44 ∧ w6_44 ≤ 700 := hP.2.1 6
                refine lv_pop hx hb dX3_readKey_110 rfl ?_
                exact g_vret hQ C hr hlocks hP hS dX3_readKey_111 ⟨w6_44, w9_43, w16_35, w17_35, a12_43, a13_43, rfl, rfl, rfl, rfl, (by first | omega | (split <;> omega))⟩
              · refine lv_aload_n hx hb dX3_readKey_90 rfl (lv_at hl 2 rfl) ?_
                refine g_cv (As := []) (rest := []) (n := 0) C hml (c_X3_refuseToken l D k A ad hD (va_up (va_up (va_up (va_up v 6 w6_36) 9 (v 9)) 16 w16_35) 17 w17_35) (va_up (va_up f 12 (f 12)) 13 (f 13)) g) mM_X3_88 mI_X3_refuseToken mE_X3_refuseToken mN_X3 mC_X3_refuseToken (by decide +kernel) 9 (ci := 3) rfl rfl hP hS (fun _ h => h) ⟨Nat.le_of_ble_eq_true rfl, Nat.le_of_ble_eq_true rfl⟩ ⟨Nat.zero_le _, Nat.zero_le _⟩ hl.1 rfl rfl (Nat.le_of_ble_eq_true rfl) dX3_readKey_91 (fun r_45 v_45 f_45 g_45 H locs hq_45 hP _ hS => ?_)
                obtain ⟨w16_45, w17_45, rfl, rfl, rfl, rfl, p0_45⟩ := hq_45
                show W p l e (gRm 3 63) s m args below meth c _ _ 0 0 Q (F0 m 94 ls [])
                have hP : gWd D (rwT k ad) (va_up (va_up (va_up (va_up v 6 w6_36) 9 (v 9)) 16 w16_45) 17 w17_45) (va_up (va_up f 12 (f 12)) 13 (f 13)) g H := ⟨hP.1, (gF_up (V := rwV) (F := rwF) (gF_up (V := rwV) (F := rwF) (gR_up (V := rwV) (F := rwF) (gR_up (V := rwV) (F := rwF) (gR_up (V := rwV) (F := rwF) (gR_up (V := rwV) (F := rwF) ⟨hok.1, hok.2⟩ 6 (hP.2.1 6)) 9 (hP.2.1 9)) 16 (hP.2.1 16)) 17 (hP.2.1 17)) 12 (hP.2.2 12)) 13 (hP.2.2 13))⟩
                have p0_45 : w16_45 ≠ 0 := p0_45
                have rw16_45 : 0 ≤ w16_45 ∧ w16_45 ≤ 5 := hP.2.1 16
                have rw17_45 : (-1) ≤ w17_45 ∧ w17_45 ≤ 700 := hP.2.1 17
                refine lv_goto (tgt := 106) hx hb dX3_readKey_94 (by decide) ?_
                refine lv_aload_n hx hb dX3_readKey_106 rfl (lv_at hl 2 rfl) ?_
                refine g_cv (As := []) (rest := []) (n := 0) C hml (c_X3_goOn l D k A ad hD (va_up (va_up (va_up (va_up v 6 w6_36) 9 (v 9)) 16 w16_45) 17 w17_45) (va_up (va_up f 12 (f 12)) 13 (f 13)) g) mM_X3_70 mI_X3_goOn mE_X3_goOn mN_X3 mC_X3_goOn (by decide +kernel) 9 (ci := 3) rfl rfl hP hS (fun _ h => h) ⟨Nat.le_of_ble_eq_true rfl, Nat.le_of_ble_eq_true rfl⟩ ⟨Nat.zero_le _, Nat.zero_le _⟩ hl.1 rfl rfl (Nat.le_of_ble_eq_true rfl) dX3_readKey_107 (fun r_46 v_46 f_46 g_46 H locs hq_46 hP _ hS => ?_)
                obtain ⟨z_46, w6_46, rfl, rfl, rfl, rfl, p0_46, p1_46⟩ := hq_46
                show W p l e (gRm 3 63) s m args below meth c _ _ 0 0 Q (F0 m 110 ls [.int (iI z_46)])
                have hP : gWd D (rwT k ad) (va_up (va_up (va_up (va_up v 6 w6_46) 9 (v 9)) 16 w16_45) 17 w17_45) (va_up (va_up f 12 (f 12)) 13 (f 13)) g H := ⟨hP.1, (gF_up (V := rwV) (F := rwF) (gF_up (V := rwV) (F := rwF) (gR_up (V := rwV) (F := rwF) (gR_up (V := rwV) (F := rwF) (gR_up (V := rwV) (F := rwF) (gR_up (V := rwV) (F := rwF) ⟨hok.1, hok.2⟩ 6 (hP.2.1 6)) 9 (hP.2.1 9)) 16 (hP.2.1 16)) 17 (hP.2.1 17)) 12 (hP.2.2 12)) 13 (hP.2.2 13))⟩
                have p0_46 : 0 ≤ z_46 ∧ z_46 ≤ 1 := p0_46
                have p1_46 : z_46 = 1 ↔ w16_45 = 0 := p1_46
                have rw6_46 : 0 ≤ w6_46 ∧ w6_46 ≤ 700 := hP.2.1 6
                refine lv_pop hx hb dX3_readKey_110 rfl ?_
                exact g_vret hQ C hr hlocks hP hS dX3_readKey_111 ⟨w6_46, (v 9), w16_45, w17_45, (f 12), (f 13), rfl, rfl, rfl, rfl, (by first | omega | (split <;> omega))⟩
          · exact g_vret hQ C hr hlocks hP hS dX3_readKey_68 ⟨w6_36, (v 9), w16_35, w17_35, (f 12), (f 13), rfl, rfl, rfl, rfl, (by first | omega | (split <;> omega))⟩
        · refine lv_iconst (v := iI 1) hx hb dX3_readKey_52 rfl ?_
          refine lv_goto (tgt := 57) hx hb dX3_readKey_53 (by decide) ?_
          refine lv_iconst (v := iI 3) hx hb dX3_readKey_57 rfl ?_
          refine g_cv (As := [.int (iI 1), .int (iI 3)]) (rest := []) (n := 2) C hml (c_X3_refuseIf l D k A ad hD (va_up (va_up (va_up (va_up v 6 (v 6)) 9 (v 9)) 16 w16_32) 17 w17_32) (va_up (va_up f 12 (f 12)) 13 (f 13)) g 1 3 (by decide) (by decide) (show 1 ≤ (3 : Int) ∧ (3 : Int) ≤ 5 from by omega)) mM_X3_66 mI_X3_refuseIf mE_X3_refuseIf mN_X3 mC_X3_refuseIf (by decide +kernel) 9 (ci := 3) rfl rfl hP hS (fun _ h => h) ⟨Nat.le_of_ble_eq_true rfl, Nat.le_of_ble_eq_true rfl⟩ ⟨Nat.zero_le _, Nat.zero_le _⟩ hl.1 rfl rfl (Nat.le_of_ble_eq_true rfl) dX3_readKey_58 (fun r_47 v_47 f_47 g_47 H locs hq_47 hP _ hS => ?_)
          obtain ⟨w16_47, w17_47, rfl, rfl, rfl, rfl, p0_47, p1_47, p2_47⟩ := hq_47
          show W p l e (gRm 3 63) s m args below meth c _ _ 0 0 Q (F0 m 61 ls [])
          have hP : gWd D (rwT k ad) (va_up (va_up (va_up (va_up v 6 (v 6)) 9 (v 9)) 16 w16_47) 17 w17_47) (va_up (va_up f 12 (f 12)) 13 (f 13)) g H := ⟨hP.1, (gF_up (V := rwV) (F := rwF) (gF_up (V := rwV) (F := rwF) (gR_up (V := rwV) (F := rwF) (gR_up (V := rwV) (F := rwF) (gR_up (V := rwV) (F := rwF) (gR_up (V := rwV) (F := rwF) ⟨hok.1, hok.2⟩ 6 (hP.2.1 6)) 9 (hP.2.1 9)) 16 (hP.2.1 16)) 17 (hP.2.1 17)) 12 (hP.2.2 12)) 13 (hP.2.2 13))⟩
          have p0_47 : (1 : Int) ≠ 0 → w16_47 ≠ 0 := p0_47
          have p1_47 : w16_32 ≠ 0 → w16_47 ≠ 0 := p1_47
          have p2_47 : (1 : Int) = 0 → w16_47 = w16_32 := p2_47
          have rw16_47 : 0 ≤ w16_47 ∧ w16_47 ≤ 5 := hP.2.1 16
          have rw17_47 : (-1) ≤ w17_47 ∧ w17_47 ≤ 700 := hP.2.1 17
          refine lv_aload_n hx hb dX3_readKey_61 rfl (lv_at hl 1 rfl) ?_
          refine g_cv (As := []) (rest := []) (n := 0) C hml (c_X3_goOn l D k A ad hD (va_up (va_up (va_up (va_up v 6 (v 6)) 9 (v 9)) 16 w16_47) 17 w17_47) (va_up (va_up f 12 (f 12)) 13 (f 13)) g) mM_X3_70 mI_X3_goOn mE_X3_goOn mN_X3 mC_X3_goOn (by decide +kernel) 9 (ci := 3) rfl rfl hP hS (fun _ h => h) ⟨Nat.le_of_ble_eq_true rfl, Nat.le_of_ble_eq_true rfl⟩ ⟨Nat.zero_le _, Nat.zero_le _⟩ hl.1 rfl rfl (Nat.le_of_ble_eq_true rfl) dX3_readKey_62 (fun r_48 v_48 f_48 g_48 H locs hq_48 hP _ hS => ?_)
          obtain ⟨z_48, w6_48, rfl, rfl, rfl, rfl, p0_48, p1_48⟩ := hq_48
          show W p l e (gRm 3 63) s m args below meth c _ _ 0 0 Q (F0 m 65 ls [.int (iI z_48)])
          have hP : gWd D (rwT k ad) (va_up (va_up (va_up (va_up v 6 w6_48) 9 (v 9)) 16 w16_47) 17 w17_47) (va_up (va_up f 12 (f 12)) 13 (f 13)) g H := ⟨hP.1, (gF_up (V := rwV) (F := rwF) (gF_up (V := rwV) (F := rwF) (gR_up (V := rwV) (F := rwF) (gR_up (V := rwV) (F := rwF) (gR_up (V := rwV) (F := rwF) (gR_up (V := rwV) (F := rwF) ⟨hok.1, hok.2⟩ 6 (hP.2.1 6)) 9 (hP.2.1 9)) 16 (hP.2.1 16)) 17 (hP.2.1 17)) 12 (hP.2.2 12)) 13 (hP.2.2 13))⟩
          have p0_48 : 0 ≤ z_48 ∧ z_48 ≤ 1 := p0_48
          have p1_48 : z_48 = 1 ↔ w16_47 = 0 := p1_48
          have rw6_48 : 0 ≤ w6_48 ∧ w6_48 ≤ 700 := hP.2.1 6
          refine gi_zne (tgt := 69) hx hb dX3_readKey_65 (by decide) (by omega) (fun c_49 => ?_) (fun c_49 => ?_)
          · refine lv_aload_n hx hb dX3_readKey_69 rfl (lv_at hl 1 rfl) ?_
            refine rwG_reader_tokens C hP mF_X3_12 dX3_readKey_70 ?_
            refine g_cv (As := []) (rest := []) (n := 0) C hml (c_X6_kind l D k A ad hD (va_up (va_up (va_up (va_up v 6 w6_48) 9 (v 9)) 16 w16_47) 17 w17_47) (va_up (va_up f 12 (f 12)) 13 (f 13)) g) mM_X3_56 mI_X6_kind mE_X6_kind mN_X6 mC_X6_kind (by decide +kernel) 10 (ci := 6) rfl rfl hP hS (fun _ h => h) ⟨Nat.le_of_ble_eq_true rfl, Nat.le_of_ble_eq_true rfl⟩ ⟨Nat.zero_le _, Nat.zero_le _⟩ hl.1 rfl rfl (Nat.le_of_ble_eq_true rfl) dX3_readKey_73 (fun r_50 v_50 f_50 g_50 H locs hq_50 hP _ hS => ?_)
            obtain ⟨z_50, rfl, rfl, rfl, rfl, p0_50, p1_50⟩ := hq_50
            show W p l e (gRm 3 63) s m args below meth c _ _ 0 0 Q (F0 m 76 ls [.int (iI z_50)])
            have p0_50 : z_50 = ((f 6) w6_48) := p0_50
            have p1_50 : 0 ≤ z_50 ∧ z_50 ≤ 300 := p1_50
            have hz_50 : inR z_50 := (by first | omega | (rw [p0_50]; split <;> omega))
            refine lv_sipush (v := iI 268) hx hb dX3_readKey_76 (by decide) ?_
            refine gi_sub (z := (z_50 - 268)) hx hb dX3_readKey_79 rfl ?_
            refine lv_istore_n (lv' := [(2, .int (iI (z_50 - 268))), (1, .int (iI 0)), (0, .ref (ad 9))]) hx hb dX3_readKey_80 rfl hl (by decide) rfl (fun ls hl => ?_)
            refine lv_iload_n hx hb dX3_readKey_81 rfl (lv_at hl 0 rfl) ?_
            refine gi_zlt (tgt := 90) hx hb dX3_readKey_82 (by decide) (by omega) (fun c_51 => ?_) (fun c_51 => ?_)
            · refine lv_aload_n hx hb dX3_readKey_90 rfl (lv_at hl 2 rfl) ?_
              refine g_cv (As := []) (rest := []) (n := 0) C hml (c_X3_refuseToken l D k A ad hD (va_up (va_up (va_up (va_up v 6 w6_48) 9 (v 9)) 16 w16_47) 17 w17_47) (va_up (va_up f 12 (f 12)) 13 (f 13)) g) mM_X3_88 mI_X3_refuseToken mE_X3_refuseToken mN_X3 mC_X3_refuseToken (by decide +kernel) 9 (ci := 3) rfl rfl hP hS (fun _ h => h) ⟨Nat.le_of_ble_eq_true rfl, Nat.le_of_ble_eq_true rfl⟩ ⟨Nat.zero_le _, Nat.zero_le _⟩ hl.1 rfl rfl (Nat.le_of_ble_eq_true rfl) dX3_readKey_91 (fun r_52 v_52 f_52 g_52 H locs hq_52 hP _ hS => ?_)
              obtain ⟨w16_52, w17_52, rfl, rfl, rfl, rfl, p0_52⟩ := hq_52
              show W p l e (gRm 3 63) s m args below meth c _ _ 0 0 Q (F0 m 94 ls [])
              have hP : gWd D (rwT k ad) (va_up (va_up (va_up (va_up v 6 w6_48) 9 (v 9)) 16 w16_52) 17 w17_52) (va_up (va_up f 12 (f 12)) 13 (f 13)) g H := ⟨hP.1, (gF_up (V := rwV) (F := rwF) (gF_up (V := rwV) (F := rwF) (gR_up (V := rwV) (F := rwF) (gR_up (V := rwV) (F := rwF) (gR_up (V := rwV) (F := rwF) (gR_up (V := rwV) (F := rwF) ⟨hok.1, hok.2⟩ 6 (hP.2.1 6)) 9 (hP.2.1 9)) 16 (hP.2.1 16)) 17 (hP.2.1 17)) 12 (hP.2.2 12)) 13 (hP.2.2 13))⟩
              have p0_52 : w16_52 ≠ 0 := p0_52
              have rw16_52 : 0 ≤ w16_52 ∧ w16_52 ≤ 5 := hP.2.1 16
              have rw17_52 : (-1) ≤ w17_52 ∧ w17_52 ≤ 700 := hP.2.1 17
              refine lv_goto (tgt := 106) hx hb dX3_readKey_94 (by decide) ?_
              refine lv_aload_n hx hb dX3_readKey_106 rfl (lv_at hl 2 rfl) ?_
              refine g_cv (As := []) (rest := []) (n := 0) C hml (c_X3_goOn l D k A ad hD (va_up (va_up (va_up (va_up v 6 w6_48) 9 (v 9)) 16 w16_52) 17 w17_52) (va_up (va_up f 12 (f 12)) 13 (f 13)) g) mM_X3_70 mI_X3_goOn mE_X3_goOn mN_X3 mC_X3_goOn (by decide +kernel) 9 (ci := 3) rfl rfl hP hS (fun _ h => h) ⟨Nat.le_of_ble_eq_true rfl, Nat.le_of_ble_eq_true rfl⟩ ⟨Nat.zero_le _, Nat.zero_le _⟩ hl.1 rfl rfl (Nat.le_of_ble_eq_true rfl) dX3_readKey_107 (fun r_53 v_53 f_53 g_53 H locs hq_53 hP _ hS => ?_)
              obtain ⟨z_53, w6_53, rfl, rfl, rfl, rfl, p0_53, p1_53⟩ := hq_53
              show W p l e (gRm 3 63) s m args below meth c _ _ 0 0 Q (F0 m 110 ls [.int (iI z_53)])
              have hP : gWd D (rwT k ad) (va_up (va_up (va_up (va_up v 6 w6_53) 9 (v 9)) 16 w16_52) 17 w17_52) (va_up (va_up f 12 (f 12)) 13 (f 13)) g H := ⟨hP.1, (gF_up (V := rwV) (F := rwF) (gF_up (V := rwV) (F := rwF) (gR_up (V := rwV) (F := rwF) (gR_up (V := rwV) (F := rwF) (gR_up (V := rwV) (F := rwF) (gR_up (V := rwV) (F := rwF) ⟨hok.1, hok.2⟩ 6 (hP.2.1 6)) 9 (hP.2.1 9)) 16 (hP.2.1 16)) 17 (hP.2.1 17)) 12 (hP.2.2 12)) 13 (hP.2.2 13))⟩
              have p0_53 : 0 ≤ z_53 ∧ z_53 ≤ 1 := p0_53
              have p1_53 : z_53 = 1 ↔ w16_52 = 0 := p1_53
              have rw6_53 : 0 ≤ w6_53 ∧ w6_53 ≤ 700 := hP.2.1 6
              refine lv_pop hx hb dX3_readKey_110 rfl ?_
              exact g_vret hQ C hr hlocks hP hS dX3_readKey_111 ⟨w6_53, (v 9), w16_52, w17_52, (f 12), (f 13), rfl, rfl, rfl, rfl, (by first | omega | (split <;> omega))⟩
            · refine lv_iload_n hx hb dX3_readKey_85 rfl (lv_at hl 0 rfl) ?_
              refine lv_iconst (v := iI 3) hx hb dX3_readKey_86 rfl ?_
              refine gi_cle (tgt := 97) hx hb dX3_readKey_87 (by decide) (by omega) (by decide) (fun c_54 => ?_) (fun c_54 => ?_)
              · refine lv_aload_n hx hb dX3_readKey_97 rfl (lv_at hl 2 rfl) ?_
                refine rwG_reader_draft C hP mF_X3_21 dX3_readKey_98 ?_
                refine lv_iload_n hx hb dX3_readKey_101 rfl (lv_at hl 0 rfl) ?_
                refine lv_iload_n hx hb dX3_readKey_102 rfl (lv_at hl 1 rfl) ?_
                refine g_cv (As := [.int (iI (z_50 - 268)), .int (iI 0)]) (rest := []) (n := 2) C hml (c_X4_addKey l D k A ad hD (va_up (va_up (va_up (va_up v 6 w6_48) 9 (v 9)) 16 w16_47) 17 w17_47) (va_up (va_up f 12 (f 12)) 13 (f 13)) g (z_50 - 268) 0 (by omega) (by decide) (show 0 ≤ (z_50 - 268) ∧ (z_50 - 268) ≤ 3 from by omega)) mM_X3_122 mI_X4_addKey mE_X4_addKey mN_X4 mC_X4_addKey (by decide +kernel) 14 (ci := 4) rfl rfl hP hS (fun _ h => h) ⟨Nat.le_of_ble_eq_true rfl, Nat.le_of_ble_eq_true rfl⟩ ⟨Nat.zero_le _, Nat.zero_le _⟩ hl.1 rfl rfl (Nat.le_of_ble_eq_true rfl) dX3_readKey_103 (fun r_55 v_55 f_55 g_55 H locs hq_55 hP _ hS => ?_)
                obtain ⟨w9_55, a12_55, a13_55, rfl, rfl, rfl, rfl⟩ := hq_55
                show W p l e (gRm 3 63) s m args below meth c _ _ 0 0 Q (F0 m 106 ls [])
                have hP : gWd D (rwT k ad) (va_up (va_up (va_up (va_up v 6 w6_48) 9 w9_55) 16 w16_47) 17 w17_47) (va_up (va_up f 12 a12_55) 13 a13_55) g H := ⟨hP.1, (gF_up (V := rwV) (F := rwF) (gF_up (V := rwV) (F := rwF) (gR_up (V := rwV) (F := rwF) (gR_up (V := rwV) (F := rwF) (gR_up (V := rwV) (F := rwF) (gR_up (V := rwV) (F := rwF) ⟨hok.1, hok.2⟩ 6 (hP.2.1 6)) 9 (hP.2.1 9)) 16 (hP.2.1 16)) 17 (hP.2.1 17)) 12 (hP.2.2 12)) 13 (hP.2.2 13))⟩
                have rw9_55 : 0 ≤ w9_55 ∧ w9_55 ≤ 4 := hP.2.1 9
                refine lv_aload_n hx hb dX3_readKey_106 rfl (lv_at hl 2 rfl) ?_
                refine g_cv (As := []) (rest := []) (n := 0) C hml (c_X3_goOn l D k A ad hD (va_up (va_up (va_up (va_up v 6 w6_48) 9 w9_55) 16 w16_47) 17 w17_47) (va_up (va_up f 12 a12_55) 13 a13_55) g) mM_X3_70 mI_X3_goOn mE_X3_goOn mN_X3 mC_X3_goOn (by decide +kernel) 9 (ci := 3) rfl rfl hP hS (fun _ h => h) ⟨Nat.le_of_ble_eq_true rfl, Nat.le_of_ble_eq_true rfl⟩ ⟨Nat.zero_le _, Nat.zero_le _⟩ hl.1 rfl rfl (Nat.le_of_ble_eq_true rfl) dX3_readKey_107 (fun r_56 v_56 f_56 g_56 H locs hq_56 hP _ hS => ?_)
                obtain ⟨z_56, w6_56, rfl, rfl, rfl, rfl, p0_56, p1_56⟩ := hq_56
                show W p l e (gRm 3 63) s m args below meth c _ _ 0 0 Q (F0 m 110 ls [.int (iI z_56)])
                have hP : gWd D (rwT k ad) (va_up (va_up (va_up (va_up v 6 w6_56) 9 w9_55) 16 w16_47) 17 w17_47) (va_up (va_up f 12 a12_55) 13 a13_55) g H := ⟨hP.1, (gF_up (V := rwV) (F := rwF) (gF_up (V := rwV) (F := rwF) (gR_up (V := rwV) (F := rwF) (gR_up (V := rwV) (F := rwF) (gR_up (V := rwV) (F := rwF) (gR_up (V := rwV) (F := rwF) ⟨hok.1, hok.2⟩ 6 (hP.2.1 6)) 9 (hP.2.1 9)) 16 (hP.2.1 16)) 17 (hP.2.1 17)) 12 (hP.2.2 12)) 13 (hP.2.2 13))⟩
                have p0_56 : 0 ≤ z_56 ∧ z_56 ≤ 1 := p0_56
                have p1_56 : z_56 = 1 ↔ w16_47 = 0 := p1_56
                have rw6_56 : 0 ≤ w6_56 ∧ w6_56 ≤ 700 := hP.2.1 6
                refine lv_pop hx hb dX3_readKey_110 rfl ?_
                exact g_vret hQ C hr hlocks hP hS dX3_readKey_111 ⟨w6_56, w9_55, w16_47, w17_47, a12_55, a13_55, rfl, rfl, rfl, rfl, (by first | omega | (split <;> omega))⟩
              · refine lv_aload_n hx hb dX3_readKey_90 rfl (lv_at hl 2 rfl) ?_
                refine g_cv (As := []) (rest := []) (n := 0) C hml (c_X3_refuseToken l D k A ad hD (va_up (va_up (va_up (va_up v 6 w6_48) 9 (v 9)) 16 w16_47) 17 w17_47) (va_up (va_up f 12 (f 12)) 13 (f 13)) g) mM_X3_88 mI_X3_refuseToken mE_X3_refuseToken mN_X3 mC_X3_refuseToken (by decide +kernel) 9 (ci := 3) rfl rfl hP hS (fun _ h => h) ⟨Nat.le_of_ble_eq_true rfl, Nat.le_of_ble_eq_true rfl⟩ ⟨Nat.zero_le _, Nat.zero_le _⟩ hl.1 rfl rfl (Nat.le_of_ble_eq_true rfl) dX3_readKey_91 (fun r_57 v_57 f_57 g_57 H locs hq_57 hP _ hS => ?_)
                obtain ⟨w16_57, w17_57, rfl, rfl, rfl, rfl, p0_57⟩ := hq_57
                show W p l e (gRm 3 63) s m args below meth c _ _ 0 0 Q (F0 m 94 ls [])
                have hP : gWd D (rwT k ad) (va_up (va_up (va_up (va_up v 6 w6_48) 9 (v 9)) 16 w16_57) 17 w17_57) (va_up (va_up f 12 (f 12)) 13 (f 13)) g H := ⟨hP.1, (gF_up (V := rwV) (F := rwF) (gF_up (V := rwV) (F := rwF) (gR_up (V := rwV) (F := rwF) (gR_up (V := rwV) (F := rwF) (gR_up (V := rwV) (F := rwF) (gR_up (V := rwV) (F := rwF) ⟨hok.1, hok.2⟩ 6 (hP.2.1 6)) 9 (hP.2.1 9)) 16 (hP.2.1 16)) 17 (hP.2.1 17)) 12 (hP.2.2 12)) 13 (hP.2.2 13))⟩
                have p0_57 : w16_57 ≠ 0 := p0_57
                have rw16_57 : 0 ≤ w16_57 ∧ w16_57 ≤ 5 := hP.2.1 16
                have rw17_57 : (-1) ≤ w17_57 ∧ w17_57 ≤ 700 := hP.2.1 17
                refine lv_goto (tgt := 106) hx hb dX3_readKey_94 (by decide) ?_
                refine lv_aload_n hx hb dX3_readKey_106 rfl (lv_at hl 2 rfl) ?_
                refine g_cv (As := []) (rest := []) (n := 0) C hml (c_X3_goOn l D k A ad hD (va_up (va_up (va_up (va_up v 6 w6_48) 9 (v 9)) 16 w16_57) 17 w17_57) (va_up (va_up f 12 (f 12)) 13 (f 13)) g) mM_X3_70 mI_X3_goOn mE_X3_goOn mN_X3 mC_X3_goOn (by decide +kernel) 9 (ci := 3) rfl rfl hP hS (fun _ h => h) ⟨Nat.le_of_ble_eq_true rfl, Nat.le_of_ble_eq_true rfl⟩ ⟨Nat.zero_le _, Nat.zero_le _⟩ hl.1 rfl rfl (Nat.le_of_ble_eq_true rfl) dX3_readKey_107 (fun r_58 v_58 f_58 g_58 H locs hq_58 hP _ hS => ?_)
                obtain ⟨z_58, w6_58, rfl, rfl, rfl, rfl, p0_58, p1_58⟩ := hq_58
                show W p l e (gRm 3 63) s m args below meth c _ _ 0 0 Q (F0 m 110 ls [.int (iI z_58)])
                have hP : gWd D (rwT k ad) (va_up (va_up (va_up (va_up v 6 w6_58) 9 (v 9)) 16 w16_57) 17 w17_57) (va_up (va_up f 12 (f 12)) 13 (f 13)) g H := ⟨hP.1, (gF_up (V := rwV) (F := rwF) (gF_up (V := rwV) (F := rwF) (gR_up (V := rwV) (F := rwF) (gR_up (V := rwV) (F := rwF) (gR_up (V := rwV) (F := rwF) (gR_up (V := rwV) (F := rwF) ⟨hok.1, hok.2⟩ 6 (hP.2.1 6)) 9 (hP.2.1 9)) 16 (hP.2.1 16)) 17 (hP.2.1 17)) 12 (hP.2.2 12)) 13 (hP.2.2 13))⟩
                have p0_58 : 0 ≤ z_58 ∧ z_58 ≤ 1 := p0_58
                have p1_58 : z_58 = 1 ↔ w16_57 = 0 := p1_58
                have rw6_58 : 0 ≤ w6_58 ∧ w6_58 ≤ 700 := hP.2.1 6
                refine lv_pop hx hb dX3_readKey_110 rfl ?_
                exact g_vret hQ C hr hlocks hP hS dX3_readKey_111 ⟨w6_58, (v 9), w16_57, w17_57, (f 12), (f 13), rfl, rfl, rfl, rfl, (by first | omega | (split <;> omega))⟩
          · exact g_vret hQ C hr hlocks hP hS dX3_readKey_68 ⟨w6_48, (v 9), w16_47, w17_47, (f 12), (f 13), rfl, rfl, rfl, rfl, (by first | omega | (split <;> omega))⟩
  · refine lv_iconst (v := iI 1) hx hb dX3_readKey_13 rfl ?_
    refine lv_goto (tgt := 18) hx hb dX3_readKey_14 (by decide) ?_
    refine lv_istore_n (lv' := [(1, .int (iI 1)), (0, .ref (ad 9))]) hx hb dX3_readKey_18 rfl hl (by decide) rfl (fun ls hl => ?_)
    refine lv_iload_n hx hb dX3_readKey_19 rfl (lv_at hl 0 rfl) ?_
    refine gi_zne (tgt := 40) hx hb dX3_readKey_20 (by decide) (by decide) (fun c_59 => ?_) (fun c_59 => ?_)
    · refine lv_aload_n hx hb dX3_readKey_40 rfl (lv_at hl 1 rfl) ?_
      refine lv_aload_n hx hb dX3_readKey_41 rfl (lv_at hl 1 rfl) ?_
      refine rwG_reader_draft C hP mF_X3_21 dX3_readKey_42 ?_
      refine rwG_reader_draft_keys C hP mF_X3_116 dX3_readKey_45 ?_
      show W p l e (gRm 3 63) s m args below meth c _ _ 0 0 Q (F0 m 48 ls [.int (iI (v 9)), .ref (ad 9)])
      have r_60 : 0 ≤ (v 9) ∧ (v 9) ≤ 4 := hok.1 9
      refine lv_iconst (v := iI 4) hx hb dX3_readKey_48 rfl ?_
      refine gi_clt (tgt := 56) hx hb dX3_readKey_49 (by decide) (by omega) (by decide) (fun c_61 => ?_) (fun c_61 => ?_)
      · refine lv_iconst (v := iI 0) hx hb dX3_readKey_56 rfl ?_
        refine lv_iconst (v := iI 3) hx hb dX3_readKey_57 rfl ?_
        refine g_cv (As := [.int (iI 0), .int (iI 3)]) (rest := []) (n := 2) C hml (c_X3_refuseIf l D k A ad hD (va_up (va_up (va_up (va_up v 6 (v 6)) 9 (v 9)) 16 (v 16)) 17 (v 17)) (va_up (va_up f 12 (f 12)) 13 (f 13)) g 0 3 (by decide) (by decide) (show 1 ≤ (3 : Int) ∧ (3 : Int) ≤ 5 from by omega)) mM_X3_66 mI_X3_refuseIf mE_X3_refuseIf mN_X3 mC_X3_refuseIf (by decide +kernel) 9 (ci := 3) rfl rfl hP hS (fun _ h => h) ⟨Nat.le_of_ble_eq_true rfl, Nat.le_of_ble_eq_true rfl⟩ ⟨Nat.zero_le _, Nat.zero_le _⟩ hl.1 rfl rfl (Nat.le_of_ble_eq_true rfl) dX3_readKey_58 (fun r_62 v_62 f_62 g_62 H locs hq_62 hP _ hS => ?_)
        obtain ⟨w16_62, w17_62, rfl, rfl, rfl, rfl, p0_62, p1_62, p2_62⟩ := hq_62
        show W p l e (gRm 3 63) s m args below meth c _ _ 0 0 Q (F0 m 61 ls [])
        have hP : gWd D (rwT k ad) (va_up (va_up (va_up (va_up v 6 (v 6)) 9 (v 9)) 16 w16_62) 17 w17_62) (va_up (va_up f 12 (f 12)) 13 (f 13)) g H := ⟨hP.1, (gF_up (V := rwV) (F := rwF) (gF_up (V := rwV) (F := rwF) (gR_up (V := rwV) (F := rwF) (gR_up (V := rwV) (F := rwF) (gR_up (V := rwV) (F := rwF) (gR_up (V := rwV) (F := rwF) ⟨hok.1, hok.2⟩ 6 (hP.2.1 6)) 9 (hP.2.1 9)) 16 (hP.2.1 16)) 17 (hP.2.1 17)) 12 (hP.2.2 12)) 13 (hP.2.2 13))⟩
        have p0_62 : (0 : Int) ≠ 0 → w16_62 ≠ 0 := p0_62
        have p1_62 : (v 16) ≠ 0 → w16_62 ≠ 0 := p1_62
        have p2_62 : (0 : Int) = 0 → w16_62 = (v 16) := p2_62
        have rw16_62 : 0 ≤ w16_62 ∧ w16_62 ≤ 5 := hP.2.1 16
        have rw17_62 : (-1) ≤ w17_62 ∧ w17_62 ≤ 700 := hP.2.1 17
        refine lv_aload_n hx hb dX3_readKey_61 rfl (lv_at hl 1 rfl) ?_
        refine g_cv (As := []) (rest := []) (n := 0) C hml (c_X3_goOn l D k A ad hD (va_up (va_up (va_up (va_up v 6 (v 6)) 9 (v 9)) 16 w16_62) 17 w17_62) (va_up (va_up f 12 (f 12)) 13 (f 13)) g) mM_X3_70 mI_X3_goOn mE_X3_goOn mN_X3 mC_X3_goOn (by decide +kernel) 9 (ci := 3) rfl rfl hP hS (fun _ h => h) ⟨Nat.le_of_ble_eq_true rfl, Nat.le_of_ble_eq_true rfl⟩ ⟨Nat.zero_le _, Nat.zero_le _⟩ hl.1 rfl rfl (Nat.le_of_ble_eq_true rfl) dX3_readKey_62 (fun r_63 v_63 f_63 g_63 H locs hq_63 hP _ hS => ?_)
        obtain ⟨z_63, w6_63, rfl, rfl, rfl, rfl, p0_63, p1_63⟩ := hq_63
        show W p l e (gRm 3 63) s m args below meth c _ _ 0 0 Q (F0 m 65 ls [.int (iI z_63)])
        have hP : gWd D (rwT k ad) (va_up (va_up (va_up (va_up v 6 w6_63) 9 (v 9)) 16 w16_62) 17 w17_62) (va_up (va_up f 12 (f 12)) 13 (f 13)) g H := ⟨hP.1, (gF_up (V := rwV) (F := rwF) (gF_up (V := rwV) (F := rwF) (gR_up (V := rwV) (F := rwF) (gR_up (V := rwV) (F := rwF) (gR_up (V := rwV) (F := rwF) (gR_up (V := rwV) (F := rwF) ⟨hok.1, hok.2⟩ 6 (hP.2.1 6)) 9 (hP.2.1 9)) 16 (hP.2.1 16)) 17 (hP.2.1 17)) 12 (hP.2.2 12)) 13 (hP.2.2 13))⟩
        have p0_63 : 0 ≤ z_63 ∧ z_63 ≤ 1 := p0_63
        have p1_63 : z_63 = 1 ↔ w16_62 = 0 := p1_63
        have rw6_63 : 0 ≤ w6_63 ∧ w6_63 ≤ 700 := hP.2.1 6
        refine gi_zne (tgt := 69) hx hb dX3_readKey_65 (by decide) (by omega) (fun c_64 => ?_) (fun c_64 => ?_)
        · refine lv_aload_n hx hb dX3_readKey_69 rfl (lv_at hl 1 rfl) ?_
          refine rwG_reader_tokens C hP mF_X3_12 dX3_readKey_70 ?_
          refine g_cv (As := []) (rest := []) (n := 0) C hml (c_X6_kind l D k A ad hD (va_up (va_up (va_up (va_up v 6 w6_63) 9 (v 9)) 16 w16_62) 17 w17_62) (va_up (va_up f 12 (f 12)) 13 (f 13)) g) mM_X3_56 mI_X6_kind mE_X6_kind mN_X6 mC_X6_kind (by decide +kernel) 10 (ci := 6) rfl rfl hP hS (fun _ h => h) ⟨Nat.le_of_ble_eq_true rfl, Nat.le_of_ble_eq_true rfl⟩ ⟨Nat.zero_le _, Nat.zero_le _⟩ hl.1 rfl rfl (Nat.le_of_ble_eq_true rfl) dX3_readKey_73 (fun r_65 v_65 f_65 g_65 H locs hq_65 hP _ hS => ?_)
          obtain ⟨z_65, rfl, rfl, rfl, rfl, p0_65, p1_65⟩ := hq_65
          show W p l e (gRm 3 63) s m args below meth c _ _ 0 0 Q (F0 m 76 ls [.int (iI z_65)])
          have p0_65 : z_65 = ((f 6) w6_63) := p0_65
          have p1_65 : 0 ≤ z_65 ∧ z_65 ≤ 300 := p1_65
          have hz_65 : inR z_65 := (by first | omega | (rw [p0_65]; split <;> omega))
          refine lv_sipush (v := iI 268) hx hb dX3_readKey_76 (by decide) ?_
          refine gi_sub (z := (z_65 - 268)) hx hb dX3_readKey_79 rfl ?_
          refine lv_istore_n (lv' := [(2, .int (iI (z_65 - 268))), (1, .int (iI 1)), (0, .ref (ad 9))]) hx hb dX3_readKey_80 rfl hl (by decide) rfl (fun ls hl => ?_)
          refine lv_iload_n hx hb dX3_readKey_81 rfl (lv_at hl 0 rfl) ?_
          refine gi_zlt (tgt := 90) hx hb dX3_readKey_82 (by decide) (by omega) (fun c_66 => ?_) (fun c_66 => ?_)
          · refine lv_aload_n hx hb dX3_readKey_90 rfl (lv_at hl 2 rfl) ?_
            refine g_cv (As := []) (rest := []) (n := 0) C hml (c_X3_refuseToken l D k A ad hD (va_up (va_up (va_up (va_up v 6 w6_63) 9 (v 9)) 16 w16_62) 17 w17_62) (va_up (va_up f 12 (f 12)) 13 (f 13)) g) mM_X3_88 mI_X3_refuseToken mE_X3_refuseToken mN_X3 mC_X3_refuseToken (by decide +kernel) 9 (ci := 3) rfl rfl hP hS (fun _ h => h) ⟨Nat.le_of_ble_eq_true rfl, Nat.le_of_ble_eq_true rfl⟩ ⟨Nat.zero_le _, Nat.zero_le _⟩ hl.1 rfl rfl (Nat.le_of_ble_eq_true rfl) dX3_readKey_91 (fun r_67 v_67 f_67 g_67 H locs hq_67 hP _ hS => ?_)
            obtain ⟨w16_67, w17_67, rfl, rfl, rfl, rfl, p0_67⟩ := hq_67
            show W p l e (gRm 3 63) s m args below meth c _ _ 0 0 Q (F0 m 94 ls [])
            have hP : gWd D (rwT k ad) (va_up (va_up (va_up (va_up v 6 w6_63) 9 (v 9)) 16 w16_67) 17 w17_67) (va_up (va_up f 12 (f 12)) 13 (f 13)) g H := ⟨hP.1, (gF_up (V := rwV) (F := rwF) (gF_up (V := rwV) (F := rwF) (gR_up (V := rwV) (F := rwF) (gR_up (V := rwV) (F := rwF) (gR_up (V := rwV) (F := rwF) (gR_up (V := rwV) (F := rwF) ⟨hok.1, hok.2⟩ 6 (hP.2.1 6)) 9 (hP.2.1 9)) 16 (hP.2.1 16)) 17 (hP.2.1 17)) 12 (hP.2.2 12)) 13 (hP.2.2 13))⟩
            have p0_67 : w16_67 ≠ 0 := p0_67
            have rw16_67 : 0 ≤ w16_67 ∧ w16_67 ≤ 5 := hP.2.1 16
            have rw17_67 : (-1) ≤ w17_67 ∧ w17_67 ≤ 700 := hP.2.1 17
            refine lv_goto (tgt := 106) hx hb dX3_readKey_94 (by decide) ?_
            refine lv_aload_n hx hb dX3_readKey_106 rfl (lv_at hl 2 rfl) ?_
            refine g_cv (As := []) (rest := []) (n := 0) C hml (c_X3_goOn l D k A ad hD (va_up (va_up (va_up (va_up v 6 w6_63) 9 (v 9)) 16 w16_67) 17 w17_67) (va_up (va_up f 12 (f 12)) 13 (f 13)) g) mM_X3_70 mI_X3_goOn mE_X3_goOn mN_X3 mC_X3_goOn (by decide +kernel) 9 (ci := 3) rfl rfl hP hS (fun _ h => h) ⟨Nat.le_of_ble_eq_true rfl, Nat.le_of_ble_eq_true rfl⟩ ⟨Nat.zero_le _, Nat.zero_le _⟩ hl.1 rfl rfl (Nat.le_of_ble_eq_true rfl) dX3_readKey_107 (fun r_68 v_68 f_68 g_68 H locs hq_68 hP _ hS => ?_)
            obtain ⟨z_68, w6_68, rfl, rfl, rfl, rfl, p0_68, p1_68⟩ := hq_68
            show W p l e (gRm 3 63) s m args below meth c _ _ 0 0 Q (F0 m 110 ls [.int (iI z_68)])
            have hP : gWd D (rwT k ad) (va_up (va_up (va_up (va_up v 6 w6_68) 9 (v 9)) 16 w16_67) 17 w17_67) (va_up (va_up f 12 (f 12)) 13 (f 13)) g H := ⟨hP.1, (gF_up (V := rwV) (F := rwF) (gF_up (V := rwV) (F := rwF) (gR_up (V := rwV) (F := rwF) (gR_up (V := rwV) (F := rwF) (gR_up (V := rwV) (F := rwF) (gR_up (V := rwV) (F := rwF) ⟨hok.1, hok.2⟩ 6 (hP.2.1 6)) 9 (hP.2.1 9)) 16 (hP.2.1 16)) 17 (hP.2.1 17)) 12 (hP.2.2 12)) 13 (hP.2.2 13))⟩
            have p0_68 : 0 ≤ z_68 ∧ z_68 ≤ 1 := p0_68
            have p1_68 : z_68 = 1 ↔ w16_67 = 0 := p1_68
            have rw6_68 : 0 ≤ w6_68 ∧ w6_68 ≤ 700 := hP.2.1 6
            refine lv_pop hx hb dX3_readKey_110 rfl ?_
            exact g_vret hQ C hr hlocks hP hS dX3_readKey_111 ⟨w6_68, (v 9), w16_67, w17_67, (f 12), (f 13), rfl, rfl, rfl, rfl, (by first | omega | (split <;> omega))⟩
          · refine lv_iload_n hx hb dX3_readKey_85 rfl (lv_at hl 0 rfl) ?_
            refine lv_iconst (v := iI 3) hx hb dX3_readKey_86 rfl ?_
            refine gi_cle (tgt := 97) hx hb dX3_readKey_87 (by decide) (by omega) (by decide) (fun c_69 => ?_) (fun c_69 => ?_)
            · refine lv_aload_n hx hb dX3_readKey_97 rfl (lv_at hl 2 rfl) ?_
              refine rwG_reader_draft C hP mF_X3_21 dX3_readKey_98 ?_
              refine lv_iload_n hx hb dX3_readKey_101 rfl (lv_at hl 0 rfl) ?_
              refine lv_iload_n hx hb dX3_readKey_102 rfl (lv_at hl 1 rfl) ?_
              refine g_cv (As := [.int (iI (z_65 - 268)), .int (iI 1)]) (rest := []) (n := 2) C hml (c_X4_addKey l D k A ad hD (va_up (va_up (va_up (va_up v 6 w6_63) 9 (v 9)) 16 w16_62) 17 w17_62) (va_up (va_up f 12 (f 12)) 13 (f 13)) g (z_65 - 268) 1 (by omega) (by decide) (show 0 ≤ (z_65 - 268) ∧ (z_65 - 268) ≤ 3 from by omega)) mM_X3_122 mI_X4_addKey mE_X4_addKey mN_X4 mC_X4_addKey (by decide +kernel) 14 (ci := 4) rfl rfl hP hS (fun _ h => h) ⟨Nat.le_of_ble_eq_true rfl, Nat.le_of_ble_eq_true rfl⟩ ⟨Nat.zero_le _, Nat.zero_le _⟩ hl.1 rfl rfl (Nat.le_of_ble_eq_true rfl) dX3_readKey_103 (fun r_70 v_70 f_70 g_70 H locs hq_70 hP _ hS => ?_)
              obtain ⟨w9_70, a12_70, a13_70, rfl, rfl, rfl, rfl⟩ := hq_70
              show W p l e (gRm 3 63) s m args below meth c _ _ 0 0 Q (F0 m 106 ls [])
              have hP : gWd D (rwT k ad) (va_up (va_up (va_up (va_up v 6 w6_63) 9 w9_70) 16 w16_62) 17 w17_62) (va_up (va_up f 12 a12_70) 13 a13_70) g H := ⟨hP.1, (gF_up (V := rwV) (F := rwF) (gF_up (V := rwV) (F := rwF) (gR_up (V := rwV) (F := rwF) (gR_up (V := rwV) (F := rwF) (gR_up (V := rwV) (F := rwF) (gR_up (V := rwV) (F := rwF) ⟨hok.1, hok.2⟩ 6 (hP.2.1 6)) 9 (hP.2.1 9)) 16 (hP.2.1 16)) 17 (hP.2.1 17)) 12 (hP.2.2 12)) 13 (hP.2.2 13))⟩
              have rw9_70 : 0 ≤ w9_70 ∧ w9_70 ≤ 4 := hP.2.1 9
              refine lv_aload_n hx hb dX3_readKey_106 rfl (lv_at hl 2 rfl) ?_
              refine g_cv (As := []) (rest := []) (n := 0) C hml (c_X3_goOn l D k A ad hD (va_up (va_up (va_up (va_up v 6 w6_63) 9 w9_70) 16 w16_62) 17 w17_62) (va_up (va_up f 12 a12_70) 13 a13_70) g) mM_X3_70 mI_X3_goOn mE_X3_goOn mN_X3 mC_X3_goOn (by decide +kernel) 9 (ci := 3) rfl rfl hP hS (fun _ h => h) ⟨Nat.le_of_ble_eq_true rfl, Nat.le_of_ble_eq_true rfl⟩ ⟨Nat.zero_le _, Nat.zero_le _⟩ hl.1 rfl rfl (Nat.le_of_ble_eq_true rfl) dX3_readKey_107 (fun r_71 v_71 f_71 g_71 H locs hq_71 hP _ hS => ?_)
              obtain ⟨z_71, w6_71, rfl, rfl, rfl, rfl, p0_71, p1_71⟩ := hq_71
              show W p l e (gRm 3 63) s m args below meth c _ _ 0 0 Q (F0 m 110 ls [.int (iI z_71)])
              have hP : gWd D (rwT k ad) (va_up (va_up (va_up (va_up v 6 w6_71) 9 w9_70) 16 w16_62) 17 w17_62) (va_up (va_up f 12 a12_70) 13 a13_70) g H := ⟨hP.1, (gF_up (V := rwV) (F := rwF) (gF_up (V := rwV) (F := rwF) (gR_up (V := rwV) (F := rwF) (gR_up (V := rwV) (F := rwF) (gR_up (V := rwV) (F := rwF) (gR_up (V := rwV) (F := rwF) ⟨hok.1, hok.2⟩ 6 (hP.2.1 6)) 9 (hP.2.1 9)) 16 (hP.2.1 16)) 17 (hP.2.1 17)) 12 (hP.2.2 12)) 13 (hP.2.2 13))⟩
              have p0_71 : 0 ≤ z_71 ∧ z_71 ≤ 1 := p0_71
              have p1_71 : z_71 = 1 ↔ w16_62 = 0 := p1_71
              have rw6_71 : 0 ≤ w6_71 ∧ w6_71 ≤ 700 := hP.2.1 6
              refine lv_pop hx hb dX3_readKey_110 rfl ?_
              exact g_vret hQ C hr hlocks hP hS dX3_readKey_111 ⟨w6_71, w9_70, w16_62, w17_62, a12_70, a13_70, rfl, rfl, rfl, rfl, (by first | omega | (split <;> omega))⟩
            · refine lv_aload_n hx hb dX3_readKey_90 rfl (lv_at hl 2 rfl) ?_
              refine g_cv (As := []) (rest := []) (n := 0) C hml (c_X3_refuseToken l D k A ad hD (va_up (va_up (va_up (va_up v 6 w6_63) 9 (v 9)) 16 w16_62) 17 w17_62) (va_up (va_up f 12 (f 12)) 13 (f 13)) g) mM_X3_88 mI_X3_refuseToken mE_X3_refuseToken mN_X3 mC_X3_refuseToken (by decide +kernel) 9 (ci := 3) rfl rfl hP hS (fun _ h => h) ⟨Nat.le_of_ble_eq_true rfl, Nat.le_of_ble_eq_true rfl⟩ ⟨Nat.zero_le _, Nat.zero_le _⟩ hl.1 rfl rfl (Nat.le_of_ble_eq_true rfl) dX3_readKey_91 (fun r_72 v_72 f_72 g_72 H locs hq_72 hP _ hS => ?_)
              obtain ⟨w16_72, w17_72, rfl, rfl, rfl, rfl, p0_72⟩ := hq_72
              show W p l e (gRm 3 63) s m args below meth c _ _ 0 0 Q (F0 m 94 ls [])
              have hP : gWd D (rwT k ad) (va_up (va_up (va_up (va_up v 6 w6_63) 9 (v 9)) 16 w16_72) 17 w17_72) (va_up (va_up f 12 (f 12)) 13 (f 13)) g H := ⟨hP.1, (gF_up (V := rwV) (F := rwF) (gF_up (V := rwV) (F := rwF) (gR_up (V := rwV) (F := rwF) (gR_up (V := rwV) (F := rwF) (gR_up (V := rwV) (F := rwF) (gR_up (V := rwV) (F := rwF) ⟨hok.1, hok.2⟩ 6 (hP.2.1 6)) 9 (hP.2.1 9)) 16 (hP.2.1 16)) 17 (hP.2.1 17)) 12 (hP.2.2 12)) 13 (hP.2.2 13))⟩
              have p0_72 : w16_72 ≠ 0 := p0_72
              have rw16_72 : 0 ≤ w16_72 ∧ w16_72 ≤ 5 := hP.2.1 16
              have rw17_72 : (-1) ≤ w17_72 ∧ w17_72 ≤ 700 := hP.2.1 17
              refine lv_goto (tgt := 106) hx hb dX3_readKey_94 (by decide) ?_
              refine lv_aload_n hx hb dX3_readKey_106 rfl (lv_at hl 2 rfl) ?_
              refine g_cv (As := []) (rest := []) (n := 0) C hml (c_X3_goOn l D k A ad hD (va_up (va_up (va_up (va_up v 6 w6_63) 9 (v 9)) 16 w16_72) 17 w17_72) (va_up (va_up f 12 (f 12)) 13 (f 13)) g) mM_X3_70 mI_X3_goOn mE_X3_goOn mN_X3 mC_X3_goOn (by decide +kernel) 9 (ci := 3) rfl rfl hP hS (fun _ h => h) ⟨Nat.le_of_ble_eq_true rfl, Nat.le_of_ble_eq_true rfl⟩ ⟨Nat.zero_le _, Nat.zero_le _⟩ hl.1 rfl rfl (Nat.le_of_ble_eq_true rfl) dX3_readKey_107 (fun r_73 v_73 f_73 g_73 H locs hq_73 hP _ hS => ?_)
              obtain ⟨z_73, w6_73, rfl, rfl, rfl, rfl, p0_73, p1_73⟩ := hq_73
              show W p l e (gRm 3 63) s m args below meth c _ _ 0 0 Q (F0 m 110 ls [.int (iI z_73)])
              have hP : gWd D (rwT k ad) (va_up (va_up (va_up (va_up v 6 w6_73) 9 (v 9)) 16 w16_72) 17 w17_72) (va_up (va_up f 12 (f 12)) 13 (f 13)) g H := ⟨hP.1, (gF_up (V := rwV) (F := rwF) (gF_up (V := rwV) (F := rwF) (gR_up (V := rwV) (F := rwF) (gR_up (V := rwV) (F := rwF) (gR_up (V := rwV) (F := rwF) (gR_up (V := rwV) (F := rwF) ⟨hok.1, hok.2⟩ 6 (hP.2.1 6)) 9 (hP.2.1 9)) 16 (hP.2.1 16)) 17 (hP.2.1 17)) 12 (hP.2.2 12)) 13 (hP.2.2 13))⟩
              have p0_73 : 0 ≤ z_73 ∧ z_73 ≤ 1 := p0_73
              have p1_73 : z_73 = 1 ↔ w16_72 = 0 := p1_73
              have rw6_73 : 0 ≤ w6_73 ∧ w6_73 ≤ 700 := hP.2.1 6
              refine lv_pop hx hb dX3_readKey_110 rfl ?_
              exact g_vret hQ C hr hlocks hP hS dX3_readKey_111 ⟨w6_73, (v 9), w16_72, w17_72, (f 12), (f 13), rfl, rfl, rfl, rfl, (by first | omega | (split <;> omega))⟩
        · exact g_vret hQ C hr hlocks hP hS dX3_readKey_68 ⟨w6_63, (v 9), w16_62, w17_62, (f 12), (f 13), rfl, rfl, rfl, rfl, (by first | omega | (split <;> omega))⟩
      · refine lv_iconst (v := iI 1) hx hb dX3_readKey_52 rfl ?_
        refine lv_goto (tgt := 57) hx hb dX3_readKey_53 (by decide) ?_
        refine lv_iconst (v := iI 3) hx hb dX3_readKey_57 rfl ?_
        refine g_cv (As := [.int (iI 1), .int (iI 3)]) (rest := []) (n := 2) C hml (c_X3_refuseIf l D k A ad hD (va_up (va_up (va_up (va_up v 6 (v 6)) 9 (v 9)) 16 (v 16)) 17 (v 17)) (va_up (va_up f 12 (f 12)) 13 (f 13)) g 1 3 (by decide) (by decide) (show 1 ≤ (3 : Int) ∧ (3 : Int) ≤ 5 from by omega)) mM_X3_66 mI_X3_refuseIf mE_X3_refuseIf mN_X3 mC_X3_refuseIf (by decide +kernel) 9 (ci := 3) rfl rfl hP hS (fun _ h => h) ⟨Nat.le_of_ble_eq_true rfl, Nat.le_of_ble_eq_true rfl⟩ ⟨Nat.zero_le _, Nat.zero_le _⟩ hl.1 rfl rfl (Nat.le_of_ble_eq_true rfl) dX3_readKey_58 (fun r_74 v_74 f_74 g_74 H locs hq_74 hP _ hS => ?_)
        obtain ⟨w16_74, w17_74, rfl, rfl, rfl, rfl, p0_74, p1_74, p2_74⟩ := hq_74
        show W p l e (gRm 3 63) s m args below meth c _ _ 0 0 Q (F0 m 61 ls [])
        have hP : gWd D (rwT k ad) (va_up (va_up (va_up (va_up v 6 (v 6)) 9 (v 9)) 16 w16_74) 17 w17_74) (va_up (va_up f 12 (f 12)) 13 (f 13)) g H := ⟨hP.1, (gF_up (V := rwV) (F := rwF) (gF_up (V := rwV) (F := rwF) (gR_up (V := rwV) (F := rwF) (gR_up (V := rwV) (F := rwF) (gR_up (V := rwV) (F := rwF) (gR_up (V := rwV) (F := rwF) ⟨hok.1, hok.2⟩ 6 (hP.2.1 6)) 9 (hP.2.1 9)) 16 (hP.2.1 16)) 17 (hP.2.1 17)) 12 (hP.2.2 12)) 13 (hP.2.2 13))⟩
        have p0_74 : (1 : Int) ≠ 0 → w16_74 ≠ 0 := p0_74
        have p1_74 : (v 16) ≠ 0 → w16_74 ≠ 0 := p1_74
        have p2_74 : (1 : Int) = 0 → w16_74 = (v 16) := p2_74
        have rw16_74 : 0 ≤ w16_74 ∧ w16_74 ≤ 5 := hP.2.1 16
        have rw17_74 : (-1) ≤ w17_74 ∧ w17_74 ≤ 700 := hP.2.1 17
        refine lv_aload_n hx hb dX3_readKey_61 rfl (lv_at hl 1 rfl) ?_
        refine g_cv (As := []) (rest := []) (n := 0) C hml (c_X3_goOn l D k A ad hD (va_up (va_up (va_up (va_up v 6 (v 6)) 9 (v 9)) 16 w16_74) 17 w17_74) (va_up (va_up f 12 (f 12)) 13 (f 13)) g) mM_X3_70 mI_X3_goOn mE_X3_goOn mN_X3 mC_X3_goOn (by decide +kernel) 9 (ci := 3) rfl rfl hP hS (fun _ h => h) ⟨Nat.le_of_ble_eq_true rfl, Nat.le_of_ble_eq_true rfl⟩ ⟨Nat.zero_le _, Nat.zero_le _⟩ hl.1 rfl rfl (Nat.le_of_ble_eq_true rfl) dX3_readKey_62 (fun r_75 v_75 f_75 g_75 H locs hq_75 hP _ hS => ?_)
        obtain ⟨z_75, w6_75, rfl, rfl, rfl, rfl, p0_75, p1_75⟩ := hq_75
        show W p l e (gRm 3 63) s m args below meth c _ _ 0 0 Q (F0 m 65 ls [.int (iI z_75)])
        have hP : gWd D (rwT k ad) (va_up (va_up (va_up (va_up v 6 w6_75) 9 (v 9)) 16 w16_74) 17 w17_74) (va_up (va_up f 12 (f 12)) 13 (f 13)) g H := ⟨hP.1, (gF_up (V := rwV) (F := rwF) (gF_up (V := rwV) (F := rwF) (gR_up (V := rwV) (F := rwF) (gR_up (V := rwV) (F := rwF) (gR_up (V := rwV) (F := rwF) (gR_up (V := rwV) (F := rwF) ⟨hok.1, hok.2⟩ 6 (hP.2.1 6)) 9 (hP.2.1 9)) 16 (hP.2.1 16)) 17 (hP.2.1 17)) 12 (hP.2.2 12)) 13 (hP.2.2 13))⟩
        have p0_75 : 0 ≤ z_75 ∧ z_75 ≤ 1 := p0_75
        have p1_75 : z_75 = 1 ↔ w16_74 = 0 := p1_75
        have rw6_75 : 0 ≤ w6_75 ∧ w6_75 ≤ 700 := hP.2.1 6
        refine gi_zne (tgt := 69) hx hb dX3_readKey_65 (by decide) (by omega) (fun c_76 => ?_) (fun c_76 => ?_)
        · refine lv_aload_n hx hb dX3_readKey_69 rfl (lv_at hl 1 rfl) ?_
          refine rwG_reader_tokens C hP mF_X3_12 dX3_readKey_70 ?_
          refine g_cv (As := []) (rest := []) (n := 0) C hml (c_X6_kind l D k A ad hD (va_up (va_up (va_up (va_up v 6 w6_75) 9 (v 9)) 16 w16_74) 17 w17_74) (va_up (va_up f 12 (f 12)) 13 (f 13)) g) mM_X3_56 mI_X6_kind mE_X6_kind mN_X6 mC_X6_kind (by decide +kernel) 10 (ci := 6) rfl rfl hP hS (fun _ h => h) ⟨Nat.le_of_ble_eq_true rfl, Nat.le_of_ble_eq_true rfl⟩ ⟨Nat.zero_le _, Nat.zero_le _⟩ hl.1 rfl rfl (Nat.le_of_ble_eq_true rfl) dX3_readKey_73 (fun r_77 v_77 f_77 g_77 H locs hq_77 hP _ hS => ?_)
          obtain ⟨z_77, rfl, rfl, rfl, rfl, p0_77, p1_77⟩ := hq_77
          show W p l e (gRm 3 63) s m args below meth c _ _ 0 0 Q (F0 m 76 ls [.int (iI z_77)])
          have p0_77 : z_77 = ((f 6) w6_75) := p0_77
          have p1_77 : 0 ≤ z_77 ∧ z_77 ≤ 300 := p1_77
          have hz_77 : inR z_77 := (by first | omega | (rw [p0_77]; split <;> omega))
          refine lv_sipush (v := iI 268) hx hb dX3_readKey_76 (by decide) ?_
          refine gi_sub (z := (z_77 - 268)) hx hb dX3_readKey_79 rfl ?_
          refine lv_istore_n (lv' := [(2, .int (iI (z_77 - 268))), (1, .int (iI 1)), (0, .ref (ad 9))]) hx hb dX3_readKey_80 rfl hl (by decide) rfl (fun ls hl => ?_)
          refine lv_iload_n hx hb dX3_readKey_81 rfl (lv_at hl 0 rfl) ?_
          refine gi_zlt (tgt := 90) hx hb dX3_readKey_82 (by decide) (by omega) (fun c_78 => ?_) (fun c_78 => ?_)
          · refine lv_aload_n hx hb dX3_readKey_90 rfl (lv_at hl 2 rfl) ?_
            refine g_cv (As := []) (rest := []) (n := 0) C hml (c_X3_refuseToken l D k A ad hD (va_up (va_up (va_up (va_up v 6 w6_75) 9 (v 9)) 16 w16_74) 17 w17_74) (va_up (va_up f 12 (f 12)) 13 (f 13)) g) mM_X3_88 mI_X3_refuseToken mE_X3_refuseToken mN_X3 mC_X3_refuseToken (by decide +kernel) 9 (ci := 3) rfl rfl hP hS (fun _ h => h) ⟨Nat.le_of_ble_eq_true rfl, Nat.le_of_ble_eq_true rfl⟩ ⟨Nat.zero_le _, Nat.zero_le _⟩ hl.1 rfl rfl (Nat.le_of_ble_eq_true rfl) dX3_readKey_91 (fun r_79 v_79 f_79 g_79 H locs hq_79 hP _ hS => ?_)
            obtain ⟨w16_79, w17_79, rfl, rfl, rfl, rfl, p0_79⟩ := hq_79
            show W p l e (gRm 3 63) s m args below meth c _ _ 0 0 Q (F0 m 94 ls [])
            have hP : gWd D (rwT k ad) (va_up (va_up (va_up (va_up v 6 w6_75) 9 (v 9)) 16 w16_79) 17 w17_79) (va_up (va_up f 12 (f 12)) 13 (f 13)) g H := ⟨hP.1, (gF_up (V := rwV) (F := rwF) (gF_up (V := rwV) (F := rwF) (gR_up (V := rwV) (F := rwF) (gR_up (V := rwV) (F := rwF) (gR_up (V := rwV) (F := rwF) (gR_up (V := rwV) (F := rwF) ⟨hok.1, hok.2⟩ 6 (hP.2.1 6)) 9 (hP.2.1 9)) 16 (hP.2.1 16)) 17 (hP.2.1 17)) 12 (hP.2.2 12)) 13 (hP.2.2 13))⟩
            have p0_79 : w16_79 ≠ 0 := p0_79
            have rw16_79 : 0 ≤ w16_79 ∧ w16_79 ≤ 5 := hP.2.1 16
            have rw17_79 : (-1) ≤ w17_79 ∧ w17_79 ≤ 700 := hP.2.1 17
            refine lv_goto (tgt := 106) hx hb dX3_readKey_94 (by decide) ?_
            refine lv_aload_n hx hb dX3_readKey_106 rfl (lv_at hl 2 rfl) ?_
            refine g_cv (As := []) (rest := []) (n := 0) C hml (c_X3_goOn l D k A ad hD (va_up (va_up (va_up (va_up v 6 w6_75) 9 (v 9)) 16 w16_79) 17 w17_79) (va_up (va_up f 12 (f 12)) 13 (f 13)) g) mM_X3_70 mI_X3_goOn mE_X3_goOn mN_X3 mC_X3_goOn (by decide +kernel) 9 (ci := 3) rfl rfl hP hS (fun _ h => h) ⟨Nat.le_of_ble_eq_true rfl, Nat.le_of_ble_eq_true rfl⟩ ⟨Nat.zero_le _, Nat.zero_le _⟩ hl.1 rfl rfl (Nat.le_of_ble_eq_true rfl) dX3_readKey_107 (fun r_80 v_80 f_80 g_80 H locs hq_80 hP _ hS => ?_)
            obtain ⟨z_80, w6_80, rfl, rfl, rfl, rfl, p0_80, p1_80⟩ := hq_80
            show W p l e (gRm 3 63) s m args below meth c _ _ 0 0 Q (F0 m 110 ls [.int (iI z_80)])
            have hP : gWd D (rwT k ad) (va_up (va_up (va_up (va_up v 6 w6_80) 9 (v 9)) 16 w16_79) 17 w17_79) (va_up (va_up f 12 (f 12)) 13 (f 13)) g H := ⟨hP.1, (gF_up (V := rwV) (F := rwF) (gF_up (V := rwV) (F := rwF) (gR_up (V := rwV) (F := rwF) (gR_up (V := rwV) (F := rwF) (gR_up (V := rwV) (F := rwF) (gR_up (V := rwV) (F := rwF) ⟨hok.1, hok.2⟩ 6 (hP.2.1 6)) 9 (hP.2.1 9)) 16 (hP.2.1 16)) 17 (hP.2.1 17)) 12 (hP.2.2 12)) 13 (hP.2.2 13))⟩
            have p0_80 : 0 ≤ z_80 ∧ z_80 ≤ 1 := p0_80
            have p1_80 : z_80 = 1 ↔ w16_79 = 0 := p1_80
            have rw6_80 : 0 ≤ w6_80 ∧ w6_80 ≤ 700 := hP.2.1 6
            refine lv_pop hx hb dX3_readKey_110 rfl ?_
            exact g_vret hQ C hr hlocks hP hS dX3_readKey_111 ⟨w6_80, (v 9), w16_79, w17_79, (f 12), (f 13), rfl, rfl, rfl, rfl, (by first | omega | (split <;> omega))⟩
          · refine lv_iload_n hx hb dX3_readKey_85 rfl (lv_at hl 0 rfl) ?_
            refine lv_iconst (v := iI 3) hx hb dX3_readKey_86 rfl ?_
            refine gi_cle (tgt := 97) hx hb dX3_readKey_87 (by decide) (by omega) (by decide) (fun c_81 => ?_) (fun c_81 => ?_)
            · refine lv_aload_n hx hb dX3_readKey_97 rfl (lv_at hl 2 rfl) ?_
              refine rwG_reader_draft C hP mF_X3_21 dX3_readKey_98 ?_
              refine lv_iload_n hx hb dX3_readKey_101 rfl (lv_at hl 0 rfl) ?_
              refine lv_iload_n hx hb dX3_readKey_102 rfl (lv_at hl 1 rfl) ?_
              refine g_cv (As := [.int (iI (z_77 - 268)), .int (iI 1)]) (rest := []) (n := 2) C hml (c_X4_addKey l D k A ad hD (va_up (va_up (va_up (va_up v 6 w6_75) 9 (v 9)) 16 w16_74) 17 w17_74) (va_up (va_up f 12 (f 12)) 13 (f 13)) g (z_77 - 268) 1 (by omega) (by decide) (show 0 ≤ (z_77 - 268) ∧ (z_77 - 268) ≤ 3 from by omega)) mM_X3_122 mI_X4_addKey mE_X4_addKey mN_X4 mC_X4_addKey (by decide +kernel) 14 (ci := 4) rfl rfl hP hS (fun _ h => h) ⟨Nat.le_of_ble_eq_true rfl, Nat.le_of_ble_eq_true rfl⟩ ⟨Nat.zero_le _, Nat.zero_le _⟩ hl.1 rfl rfl (Nat.le_of_ble_eq_true rfl) dX3_readKey_103 (fun r_82 v_82 f_82 g_82 H locs hq_82 hP _ hS => ?_)
              obtain ⟨w9_82, a12_82, a13_82, rfl, rfl, rfl, rfl⟩ := hq_82
              show W p l e (gRm 3 63) s m args below meth c _ _ 0 0 Q (F0 m 106 ls [])
              have hP : gWd D (rwT k ad) (va_up (va_up (va_up (va_up v 6 w6_75) 9 w9_82) 16 w16_74) 17 w17_74) (va_up (va_up f 12 a12_82) 13 a13_82) g H := ⟨hP.1, (gF_up (V := rwV) (F := rwF) (gF_up (V := rwV) (F := rwF) (gR_up (V := rwV) (F := rwF) (gR_up (V := rwV) (F := rwF) (gR_up (V := rwV) (F := rwF) (gR_up (V := rwV) (F := rwF) ⟨hok.1, hok.2⟩ 6 (hP.2.1 6)) 9 (hP.2.1 9)) 16 (hP.2.1 16)) 17 (hP.2.1 17)) 12 (hP.2.2 12)) 13 (hP.2.2 13))⟩
              have rw9_82 : 0 ≤ w9_82 ∧ w9_82 ≤ 4 := hP.2.1 9
              refine lv_aload_n hx hb dX3_readKey_106 rfl (lv_at hl 2 rfl) ?_
              refine g_cv (As := []) (rest := []) (n := 0) C hml (c_X3_goOn l D k A ad hD (va_up (va_up (va_up (va_up v 6 w6_75) 9 w9_82) 16 w16_74) 17 w17_74) (va_up (va_up f 12 a12_82) 13 a13_82) g) mM_X3_70 mI_X3_goOn mE_X3_goOn mN_X3 mC_X3_goOn (by decide +kernel) 9 (ci := 3) rfl rfl hP hS (fun _ h => h) ⟨Nat.le_of_ble_eq_true rfl, Nat.le_of_ble_eq_true rfl⟩ ⟨Nat.zero_le _, Nat.zero_le _⟩ hl.1 rfl rfl (Nat.le_of_ble_eq_true rfl) dX3_readKey_107 (fun r_83 v_83 f_83 g_83 H locs hq_83 hP _ hS => ?_)
              obtain ⟨z_83, w6_83, rfl, rfl, rfl, rfl, p0_83, p1_83⟩ := hq_83
              show W p l e (gRm 3 63) s m args below meth c _ _ 0 0 Q (F0 m 110 ls [.int (iI z_83)])
              have hP : gWd D (rwT k ad) (va_up (va_up (va_up (va_up v 6 w6_83) 9 w9_82) 16 w16_74) 17 w17_74) (va_up (va_up f 12 a12_82) 13 a13_82) g H := ⟨hP.1, (gF_up (V := rwV) (F := rwF) (gF_up (V := rwV) (F := rwF) (gR_up (V := rwV) (F := rwF) (gR_up (V := rwV) (F := rwF) (gR_up (V := rwV) (F := rwF) (gR_up (V := rwV) (F := rwF) ⟨hok.1, hok.2⟩ 6 (hP.2.1 6)) 9 (hP.2.1 9)) 16 (hP.2.1 16)) 17 (hP.2.1 17)) 12 (hP.2.2 12)) 13 (hP.2.2 13))⟩
              have p0_83 : 0 ≤ z_83 ∧ z_83 ≤ 1 := p0_83
              have p1_83 : z_83 = 1 ↔ w16_74 = 0 := p1_83
              have rw6_83 : 0 ≤ w6_83 ∧ w6_83 ≤ 700 := hP.2.1 6
              refine lv_pop hx hb dX3_readKey_110 rfl ?_
              exact g_vret hQ C hr hlocks hP hS dX3_readKey_111 ⟨w6_83, w9_82, w16_74, w17_74, a12_82, a13_82, rfl, rfl, rfl, rfl, (by first | omega | (split <;> omega))⟩
            · refine lv_aload_n hx hb dX3_readKey_90 rfl (lv_at hl 2 rfl) ?_
              refine g_cv (As := []) (rest := []) (n := 0) C hml (c_X3_refuseToken l D k A ad hD (va_up (va_up (va_up (va_up v 6 w6_75) 9 (v 9)) 16 w16_74) 17 w17_74) (va_up (va_up f 12 (f 12)) 13 (f 13)) g) mM_X3_88 mI_X3_refuseToken mE_X3_refuseToken mN_X3 mC_X3_refuseToken (by decide +kernel) 9 (ci := 3) rfl rfl hP hS (fun _ h => h) ⟨Nat.le_of_ble_eq_true rfl, Nat.le_of_ble_eq_true rfl⟩ ⟨Nat.zero_le _, Nat.zero_le _⟩ hl.1 rfl rfl (Nat.le_of_ble_eq_true rfl) dX3_readKey_91 (fun r_84 v_84 f_84 g_84 H locs hq_84 hP _ hS => ?_)
              obtain ⟨w16_84, w17_84, rfl, rfl, rfl, rfl, p0_84⟩ := hq_84
              show W p l e (gRm 3 63) s m args below meth c _ _ 0 0 Q (F0 m 94 ls [])
              have hP : gWd D (rwT k ad) (va_up (va_up (va_up (va_up v 6 w6_75) 9 (v 9)) 16 w16_84) 17 w17_84) (va_up (va_up f 12 (f 12)) 13 (f 13)) g H := ⟨hP.1, (gF_up (V := rwV) (F := rwF) (gF_up (V := rwV) (F := rwF) (gR_up (V := rwV) (F := rwF) (gR_up (V := rwV) (F := rwF) (gR_up (V := rwV) (F := rwF) (gR_up (V := rwV) (F := rwF) ⟨hok.1, hok.2⟩ 6 (hP.2.1 6)) 9 (hP.2.1 9)) 16 (hP.2.1 16)) 17 (hP.2.1 17)) 12 (hP.2.2 12)) 13 (hP.2.2 13))⟩
              have p0_84 : w16_84 ≠ 0 := p0_84
              have rw16_84 : 0 ≤ w16_84 ∧ w16_84 ≤ 5 := hP.2.1 16
              have rw17_84 : (-1) ≤ w17_84 ∧ w17_84 ≤ 700 := hP.2.1 17
              refine lv_goto (tgt := 106) hx hb dX3_readKey_94 (by decide) ?_
              refine lv_aload_n hx hb dX3_readKey_106 rfl (lv_at hl 2 rfl) ?_
              refine g_cv (As := []) (rest := []) (n := 0) C hml (c_X3_goOn l D k A ad hD (va_up (va_up (va_up (va_up v 6 w6_75) 9 (v 9)) 16 w16_84) 17 w17_84) (va_up (va_up f 12 (f 12)) 13 (f 13)) g) mM_X3_70 mI_X3_goOn mE_X3_goOn mN_X3 mC_X3_goOn (by decide +kernel) 9 (ci := 3) rfl rfl hP hS (fun _ h => h) ⟨Nat.le_of_ble_eq_true rfl, Nat.le_of_ble_eq_true rfl⟩ ⟨Nat.zero_le _, Nat.zero_le _⟩ hl.1 rfl rfl (Nat.le_of_ble_eq_true rfl) dX3_readKey_107 (fun r_85 v_85 f_85 g_85 H locs hq_85 hP _ hS => ?_)
              obtain ⟨z_85, w6_85, rfl, rfl, rfl, rfl, p0_85, p1_85⟩ := hq_85
              show W p l e (gRm 3 63) s m args below meth c _ _ 0 0 Q (F0 m 110 ls [.int (iI z_85)])
              have hP : gWd D (rwT k ad) (va_up (va_up (va_up (va_up v 6 w6_85) 9 (v 9)) 16 w16_84) 17 w17_84) (va_up (va_up f 12 (f 12)) 13 (f 13)) g H := ⟨hP.1, (gF_up (V := rwV) (F := rwF) (gF_up (V := rwV) (F := rwF) (gR_up (V := rwV) (F := rwF) (gR_up (V := rwV) (F := rwF) (gR_up (V := rwV) (F := rwF) (gR_up (V := rwV) (F := rwF) ⟨hok.1, hok.2⟩ 6 (hP.2.1 6)) 9 (hP.2.1 9)) 16 (hP.2.1 16)) 17 (hP.2.1 17)) 12 (hP.2.2 12)) 13 (hP.2.2 13))⟩
              have p0_85 : 0 ≤ z_85 ∧ z_85 ≤ 1 := p0_85
              have p1_85 : z_85 = 1 ↔ w16_84 = 0 := p1_85
              have rw6_85 : 0 ≤ w6_85 ∧ w6_85 ≤ 700 := hP.2.1 6
              refine lv_pop hx hb dX3_readKey_110 rfl ?_
              exact g_vret hQ C hr hlocks hP hS dX3_readKey_111 ⟨w6_85, (v 9), w16_84, w17_84, (f 12), (f 13), rfl, rfl, rfl, rfl, (by first | omega | (split <;> omega))⟩
        · exact g_vret hQ C hr hlocks hP hS dX3_readKey_68 ⟨w6_75, (v 9), w16_74, w17_74, (f 12), (f 13), rfl, rfl, rfl, rfl, (by first | omega | (split <;> omega))⟩
    · exfalso; omega

set_option maxHeartbeats 4000000 in
set_option maxRecDepth 100000 in
theorem c_X3_readKeys (l : Launch) (D : va_G) (k : Nat → ClassId) (A : Nat → Prop) (ad : Nat → Nat) (hD : rwD A k ad) (v : gV) (f g : gF) : GM l D k A (rwT k ad) yX3_readKeys cX3_readKeys 2 none 4 85 [.ref (ad 9)] v f g (fun r v1 f1 g1 => ∃ (w6 : Int) (w9 : Int) (w16 : Int) (w17 : Int) (a12_ : Int → Int) (a13_ : Int → Int), r = none ∧ (va_up (va_up (va_up (va_up v 6 w6) 9 w9) 16 w16) 17 w17) = v1 ∧ (va_up (va_up f 12 a12_) 13 a13_) = f1 ∧ g = g1 ∧ ((v 16) ≠ 0 → w16 ≠ 0)) := by
  refine GM.of (by decide) (Nat.le_of_ble_eq_true rfl) ?_
  intro p e s m args below meth c Q ls hQ C hml hr hlocks hP hl
  have hx := C.1
  have hb := C.2.1
  have hok := hP.2
  have hS : va_S A s.heap s.heap [] := va_S.rf
  have hl : lv_has ls 2 [(0, .ref (ad 9))] := hl
  have hP : gWd D (rwT k ad) (va_up (va_up (va_up (va_up v 6 (v 6)) 9 (v 9)) 16 (v 16)) 17 (v 17)) (va_up (va_up f 12 (f 12)) 13 (f 13)) g s.heap := by rw [va_id, va_id, va_id, va_id, va_id, va_id]; exact hP
  have r_1 : 0 ≤ (v 16) ∧ (v 16) ≤ 5 := hok.1 16
  refine lv_aload_n hx hb dX3_readKeys_0 rfl (lv_at hl 0 rfl) ?_
  refine rwG_reader_draft C hP mF_X3_21 dX3_readKeys_1 ?_
  refine lv_iconst (v := iI 0) hx hb dX3_readKeys_4 rfl ?_
  refine rwP_reader_draft_keys (v1 := (va_up (va_up (va_up (va_up v 6 (v 6)) 9 0) 16 (v 16)) 17 (v 17))) C hP hD hS mF_X3_116 (by decide) rfl (Or.inr (gF_up (V := rwV) (F := rwF) (gF_up (V := rwV) (F := rwF) (gR_up (V := rwV) (F := rwF) (gR_up (V := rwV) (F := rwF) (gR_up (V := rwV) (F := rwF) (gR_up (V := rwV) (F := rwF) ⟨hok.1, hok.2⟩ 6 (hP.2.1 6)) 9 (show 0 ≤ 0 ∧ 0 ≤ 4 from by decide)) 16 (hP.2.1 16)) 17 (hP.2.1 17)) 12 (hP.2.2 12)) 13 (hP.2.2 13))) dX3_readKeys_5 (fun H locs hP hS => ?_)
  refine lv_iconst (v := iI 0) hx hb dX3_readKeys_8 rfl ?_
  refine lv_istore_n (lv' := [(1, .int (iI 0)), (0, .ref (ad 9))]) hx hb dX3_readKeys_9 rfl hl (by decide) rfl (fun ls hl => ?_)
  have L_2 : ∀ (n : Nat) (x1 : Int) (y6_2 : Int) (y9_2 : Int) (y16_2 : Int) (y17_2 : Int) (c12_2 : Int → Int) (c13_2 : Int → Int) (H : Heap) (locs : List Loc) (ls : Array Slot), 5 - x1 < (n : Int) → (0 ≤ x1 ∧ x1 ≤ 5) → ((v 16) ≠ 0 → y16_2 ≠ 0) → gWd D (rwT k ad) (va_up (va_up (va_up (va_up v 6 y6_2) 9 y9_2) 16 y16_2) 17 y17_2) (va_up (va_up f 12 c12_2) 13 c13_2) g H → va_S A s.heap H locs → lv_has ls 2 [(0, .ref (ad 9)), (1, .int (iI x1))] → W p l e (gRm 4 85) s m args below meth c H locs 0 0 Q (F0 m 10 ls []) := by
    intro n
    induction n with
    | zero =>
      intro x1 y6_2 y9_2 y16_2 y17_2 c12_2 c13_2 H locs ls hn_2 i2_0 i2_1 hP hS hl
      have ry6_2 : 0 ≤ y6_2 ∧ y6_2 ≤ 700 := hP.2.1 6
      have ry9_2 : 0 ≤ y9_2 ∧ y9_2 ≤ 4 := hP.2.1 9
      have ry16_2 : 0 ≤ y16_2 ∧ y16_2 ≤ 5 := hP.2.1 16
      have ry17_2 : (-1) ≤ y17_2 ∧ y17_2 ≤ 700 := hP.2.1 17
      exfalso; omega
    | succ n ih_10 =>
      intro x1 y6_2 y9_2 y16_2 y17_2 c12_2 c13_2 H locs ls hn_2 i2_0 i2_1 hP hS hl
      have ry6_2 : 0 ≤ y6_2 ∧ y6_2 ≤ 700 := hP.2.1 6
      have ry9_2 : 0 ≤ y9_2 ∧ y9_2 ≤ 4 := hP.2.1 9
      have ry16_2 : 0 ≤ y16_2 ∧ y16_2 ≤ 5 := hP.2.1 16
      have ry17_2 : (-1) ≤ y17_2 ∧ y17_2 ≤ 700 := hP.2.1 17
      refine lv_iload_n hx hb dX3_readKeys_10 rfl (lv_at hl 1 rfl) ?_
      refine lv_iconst (v := iI 4) hx hb dX3_readKeys_11 rfl ?_
      refine gi_cgt (tgt := 45) hx hb dX3_readKeys_12 (by decide) (by omega) (by decide) (fun c_3 => ?_) (fun c_3 => ?_)
      · exact g_vret hQ C hr hlocks hP hS dX3_readKeys_45 ⟨y6_2, y9_2, y16_2, y17_2, c12_2, c13_2, rfl, rfl, rfl, rfl, (by first | omega | (split <;> omega))⟩
      · refine lv_aload_n hx hb dX3_readKeys_15 rfl (lv_at hl 0 rfl) ?_
        refine g_cv (As := []) (rest := []) (n := 0) C hml (c_X3_goOn l D k A ad hD (va_up (va_up (va_up (va_up v 6 y6_2) 9 y9_2) 16 y16_2) 17 y17_2) (va_up (va_up f 12 c12_2) 13 c13_2) g) mM_X3_70 mI_X3_goOn mE_X3_goOn mN_X3 mC_X3_goOn (by decide +kernel) 9 (ci := 3) rfl rfl hP hS (fun _ h => h) ⟨Nat.le_of_ble_eq_true rfl, Nat.le_of_ble_eq_true rfl⟩ ⟨Nat.zero_le _, Nat.zero_le _⟩ hl.1 rfl rfl (Nat.le_of_ble_eq_true rfl) dX3_readKeys_16 (fun r_4 v_4 f_4 g_4 H locs hq_4 hP _ hS => ?_)
        obtain ⟨z_4, w6_4, rfl, rfl, rfl, rfl, p0_4, p1_4⟩ := hq_4
        show W p l e (gRm 4 85) s m args below meth c _ _ 0 0 Q (F0 m 19 ls [.int (iI z_4)])
        have hP : gWd D (rwT k ad) (va_up (va_up (va_up (va_up v 6 w6_4) 9 y9_2) 16 y16_2) 17 y17_2) (va_up (va_up f 12 c12_2) 13 c13_2) g H := ⟨hP.1, (gF_up (V := rwV) (F := rwF) (gF_up (V := rwV) (F := rwF) (gR_up (V := rwV) (F := rwF) (gR_up (V := rwV) (F := rwF) (gR_up (V := rwV) (F := rwF) (gR_up (V := rwV) (F := rwF) ⟨hok.1, hok.2⟩ 6 (hP.2.1 6)) 9 (hP.2.1 9)) 16 (hP.2.1 16)) 17 (hP.2.1 17)) 12 (hP.2.2 12)) 13 (hP.2.2 13))⟩
        have p0_4 : 0 ≤ z_4 ∧ z_4 ≤ 1 := p0_4
        have p1_4 : z_4 = 1 ↔ y16_2 = 0 := p1_4
        have rw6_4 : 0 ≤ w6_4 ∧ w6_4 ≤ 700 := hP.2.1 6
        refine gi_zeq (tgt := 45) hx hb dX3_readKeys_19 (by decide) (by omega) (fun c_5 => ?_) (fun c_5 => ?_)
        · exact g_vret hQ C hr hlocks hP hS dX3_readKeys_45 ⟨w6_4, y9_2, y16_2, y17_2, c12_2, c13_2, rfl, rfl, rfl, rfl, (by first | omega | (split <;> omega))⟩
        · refine lv_aload_n hx hb dX3_readKeys_22 rfl (lv_at hl 0 rfl) ?_
          refine g_cv (As := []) (rest := []) (n := 0) C hml (c_X3_readKey l D k A ad hD (va_up (va_up (va_up (va_up v 6 w6_4) 9 y9_2) 16 y16_2) 17 y17_2) (va_up (va_up f 12 c12_2) 13 c13_2) g) mM_X3_119 mI_X3_readKey mE_X3_readKey mN_X3 mC_X3_readKey (by decide +kernel) 9 (ci := 3) rfl rfl hP hS (fun _ h => h) ⟨Nat.le_of_ble_eq_true rfl, Nat.le_of_ble_eq_true rfl⟩ ⟨Nat.zero_le _, Nat.zero_le _⟩ hl.1 rfl rfl (Nat.le_of_ble_eq_true rfl) dX3_readKeys_23 (fun r_6 v_6 f_6 g_6 H locs hq_6 hP _ hS => ?_)
          obtain ⟨w6_6, w9_6, w16_6, w17_6, a12_6, a13_6, rfl, rfl, rfl, rfl, p0_6⟩ := hq_6
          show W p l e (gRm 4 85) s m args below meth c _ _ 0 0 Q (F0 m 26 ls [])
          have hP : gWd D (rwT k ad) (va_up (va_up (va_up (va_up v 6 w6_6) 9 w9_6) 16 w16_6) 17 w17_6) (va_up (va_up f 12 a12_6) 13 a13_6) g H := ⟨hP.1, (gF_up (V := rwV) (F := rwF) (gF_up (V := rwV) (F := rwF) (gR_up (V := rwV) (F := rwF) (gR_up (V := rwV) (F := rwF) (gR_up (V := rwV) (F := rwF) (gR_up (V := rwV) (F := rwF) ⟨hok.1, hok.2⟩ 6 (hP.2.1 6)) 9 (hP.2.1 9)) 16 (hP.2.1 16)) 17 (hP.2.1 17)) 12 (hP.2.2 12)) 13 (hP.2.2 13))⟩
          have p0_6 : y16_2 ≠ 0 → w16_6 ≠ 0 := p0_6
          have rw6_6 : 0 ≤ w6_6 ∧ w6_6 ≤ 700 := hP.2.1 6
          have rw9_6 : 0 ≤ w9_6 ∧ w9_6 ≤ 4 := hP.2.1 9
          have rw16_6 : 0 ≤ w16_6 ∧ w16_6 ≤ 5 := hP.2.1 16
          have rw17_6 : (-1) ≤ w17_6 ∧ w17_6 ≤ 700 := hP.2.1 17
          refine lv_aload_n hx hb dX3_readKeys_26 rfl (lv_at hl 0 rfl) ?_
          refine rwG_reader_tokens C hP mF_X3_12 dX3_readKeys_27 ?_
          refine g_cv (As := []) (rest := []) (n := 0) C hml (c_X6_kind l D k A ad hD (va_up (va_up (va_up (va_up v 6 w6_6) 9 w9_6) 16 w16_6) 17 w17_6) (va_up (va_up f 12 a12_6) 13 a13_6) g) mM_X3_56 mI_X6_kind mE_X6_kind mN_X6 mC_X6_kind (by decide +kernel) 10 (ci := 6) rfl rfl hP hS (fun _ h => h) ⟨Nat.le_of_ble_eq_true rfl, Nat.le_of_ble_eq_true rfl⟩ ⟨Nat.zero_le _, Nat.zero_le _⟩ hl.1 rfl rfl (Nat.le_of_ble_eq_true rfl) dX3_readKeys_30 (fun r_7 v_7 f_7 g_7 H locs hq_7 hP _ hS => ?_)
          obtain ⟨z_7, rfl, rfl, rfl, rfl, p0_7, p1_7⟩ := hq_7
          show W p l e (gRm 4 85) s m args below meth c _ _ 0 0 Q (F0 m 33 ls [.int (iI z_7)])
          have p0_7 : z_7 = ((f 6) w6_6) := p0_7
          have p1_7 : 0 ≤ z_7 ∧ z_7 ≤ 300 := p1_7
          have hz_7 : inR z_7 := (by first | omega | (rw [p0_7]; split <;> omega))
          refine lv_bipush (v := iI 44) hx hb dX3_readKeys_33 (by decide) ?_
          refine gi_ceq (tgt := 39) hx hb dX3_readKeys_35 (by decide) (by omega) (by decide) (fun c_8 => ?_) (fun c_8 => ?_)
          · refine lv_iinc (v := iI (x1 + 1)) (lv' := [(1, .int (iI (x1 + 1))), (0, .ref (ad 9))]) hx hb dX3_readKeys_39 hl (k := 1) rfl (by show iI _ + iI 1 = _; rw [iI_add]) (by decide) rfl (fun ls hl => ?_)
            refine lv_goto (tgt := 10) hx hb dX3_readKeys_42 (by decide) ?_
            exact ih_10 (x1 + 1) w6_6 w9_6 w16_6 w17_6 a12_6 a13_6 _ _ _ (by omega) (by omega) (by omega) hP hS (lv_sub hl [1, 0] rfl)
          · exact g_vret hQ C hr hlocks hP hS dX3_readKeys_38 ⟨w6_6, w9_6, w16_6, w17_6, a12_6, a13_6, rfl, rfl, rfl, rfl, (by first | omega | (split <;> omega))⟩
  exact L_2 6 0 (v 6) 0 (v 16) (v 17) (f 12) (f 13) _ _ _ (by omega) (by omega) (by omega) hP hS (lv_sub hl [1, 0] rfl)

set_option maxHeartbeats 4000000 in
set_option maxRecDepth 100000 in
theorem c_X1_refuseToken (l : Launch) (D : va_G) (k : Nat → ClassId) (A : Nat → Prop) (ad : Nat → Nat) (hD : rwD A k ad) (v : gV) (f g : gF) (a1 : Int) (h_a1 : inR a1) : GM l D k A (rwT k ad) yX1_refuseToken cX1_refuseToken 2 none 0 0 [.ref (ad 21), .int (iI a1)] v f g (fun r v1 f1 g1 => ∃ (w15 : Int), r = none ∧ (va_up v 15 w15) = v1 ∧ f = f1 ∧ g = g1 ∧ (w15 ≠ 0)) := by
  refine GM.of (by decide) (Nat.le_of_ble_eq_true rfl) ?_
  intro p e s m args below meth c Q ls hQ C hml hr hlocks hP hl
  have hx := C.1
  have hb := C.2.1
  have hok := hP.2
  have hS : va_S A s.heap s.heap [] := va_S.rf
  have hl : lv_has ls 2 [(0, .ref (ad 21)), (1, .int (iI a1))] := hl
  have hP : gWd D (rwT k ad) (va_up v 15 (v 15)) f g s.heap := by rw [va_id]; exact hP
  refine lv_aload_n hx hb dX1_refuseToken_0 rfl (lv_at hl 0 rfl) ?_
  refine lv_iload_n hx hb dX1_refuseToken_1 rfl (lv_at hl 1 rfl) ?_
  refine lv_sipush (v := iI 257) hx hb dX1_refuseToken_2 (by decide) ?_
  refine gi_cne (tgt := 12) hx hb dX1_refuseToken_5 (by decide) (by omega) (by decide) (fun c_1 => ?_) (fun c_1 => ?_)
  · refine lv_iconst (v := iI 2) hx hb dX1_refuseToken_12 rfl ?_
    refine rwP_reader_expression_fault (v1 := (va_up v 15 2)) C hP hD hS mF_X1_31 (by decide) rfl (Or.inr (gR_up (V := rwV) (F := rwF) ⟨hok.1, hok.2⟩ 15 (show 0 ≤ 2 ∧ 2 ≤ 5 from by decide))) dX1_refuseToken_13 (fun H locs hP hS => ?_)
    exact g_vret hQ C hr hlocks hP hS dX1_refuseToken_16 ⟨2, rfl, rfl, rfl, rfl, (by first | omega | (split <;> omega))⟩
  · refine lv_iconst (v := iI 1) hx hb dX1_refuseToken_8 rfl ?_
    refine lv_goto (tgt := 13) hx hb dX1_refuseToken_9 (by decide) ?_
    refine rwP_reader_expression_fault (v1 := (va_up v 15 1)) C hP hD hS mF_X1_31 (by decide) rfl (Or.inr (gR_up (V := rwV) (F := rwF) ⟨hok.1, hok.2⟩ 15 (show 0 ≤ 1 ∧ 1 ≤ 5 from by decide))) dX1_refuseToken_13 (fun H locs hP hS => ?_)
    exact g_vret hQ C hr hlocks hP hS dX1_refuseToken_16 ⟨1, rfl, rfl, rfl, rfl, (by first | omega | (split <;> omega))⟩

set_option maxHeartbeats 4000000 in
set_option maxRecDepth 100000 in
theorem c_X1_countItem (l : Launch) (D : va_G) (k : Nat → ClassId) (A : Nat → Prop) (ad : Nat → Nat) (hD : rwD A k ad) (v : gV) (f g : gF) : GM l D k A (rwT k ad) yX1_countItem cX1_countItem 1 none 0 0 [.ref (ad 21)] v f g (fun r v1 f1 g1 => ∃ (w14 : Int) (w15 : Int), r = none ∧ (va_up (va_up v 14 w14) 15 w15) = v1 ∧ f = f1 ∧ g = g1) := by
  refine GM.of (by decide) (Nat.le_of_ble_eq_true rfl) ?_
  intro p e s m args below meth c Q ls hQ C hml hr hlocks hP hl
  have hx := C.1
  have hb := C.2.1
  have hok := hP.2
  have hS : va_S A s.heap s.heap [] := va_S.rf
  have hl : lv_has ls 1 [(0, .ref (ad 21))] := hl
  have hP : gWd D (rwT k ad) (va_up (va_up v 14 (v 14)) 15 (v 15)) f g s.heap := by rw [va_id, va_id]; exact hP
  refine lv_aload_n hx hb dX1_countItem_0 rfl (lv_at hl 0 rfl) ?_
  refine lv_dup hx hb dX1_countItem_1 rfl ?_
  refine rwG_reader_expression_items C hP mF_X1_30 dX1_countItem_2 ?_
  show W p l e (gRm 0 0) s m args below meth c _ _ 0 0 Q (F0 m 5 ls [.int (iI (v 14)), .ref (ad 21)])
  have r_1 : (-2147483648) ≤ (v 14) ∧ (v 14) ≤ 2147483647 := hok.1 14
  refine lv_iconst (v := iI 1) hx hb dX1_countItem_5 rfl ?_
  refine gi_add (z := ((v 14) + 1)) hx hb dX1_countItem_6 rfl ?_
  obtain ⟨x_2, ex_2, hx_2⟩ : ∃ z : Int, iI ((v 14) + 1) = iI z ∧ inR z := ⟨(iI ((v 14) + 1)).toInt, (iI_of _).symm, iI_rng _⟩
  refine gi_norm ex_2 ?_
  refine rwP_reader_expression_items (v1 := (va_up (va_up v 14 x_2) 15 (v 15))) C hP hD hS mF_X1_30 (by omega) rfl (Or.inr (gR_up (V := rwV) (F := rwF) (gR_up (V := rwV) (F := rwF) ⟨hok.1, hok.2⟩ 14 (show (-2147483648) ≤ x_2 ∧ x_2 ≤ 2147483647 from by omega)) 15 (hP.2.1 15))) dX1_countItem_7 (fun H locs hP hS => ?_)
  refine lv_aload_n hx hb dX1_countItem_10 rfl (lv_at hl 0 rfl) ?_
  refine rwG_reader_expression_items C hP mF_X1_30 dX1_countItem_11 ?_
  show W p l e (gRm 0 0) s m args below meth c _ _ 0 0 Q (F0 m 14 ls [.int (iI x_2)])
  have r_3 : (-2147483648) ≤ x_2 ∧ x_2 ≤ 2147483647 := hP.2.1 14
  refine lv_bipush (v := iI 40) hx hb dX1_countItem_14 (by decide) ?_
  refine gi_cle (tgt := 24) hx hb dX1_countItem_16 (by decide) (by omega) (by decide) (fun c_4 => ?_) (fun c_4 => ?_)
  · exact g_vret hQ C hr hlocks hP hS dX1_countItem_24 ⟨x_2, (v 15), rfl, rfl, rfl, rfl⟩
  · refine lv_aload_n hx hb dX1_countItem_19 rfl (lv_at hl 0 rfl) ?_
    refine lv_iconst (v := iI 3) hx hb dX1_countItem_20 rfl ?_
    refine rwP_reader_expression_fault (v1 := (va_up (va_up v 14 x_2) 15 3)) C hP hD hS mF_X1_31 (by decide) rfl (Or.inr (gR_up (V := rwV) (F := rwF) (gR_up (V := rwV) (F := rwF) ⟨hok.1, hok.2⟩ 14 (hP.2.1 14)) 15 (show 0 ≤ 3 ∧ 3 ≤ 5 from by decide))) dX1_countItem_21 (fun H locs hP hS => ?_)
    exact g_vret hQ C hr hlocks hP hS dX1_countItem_24 ⟨x_2, 3, rfl, rfl, rfl, rfl⟩

set_option maxHeartbeats 4000000 in
set_option maxRecDepth 100000 in
theorem c_X1_await (l : Launch) (D : va_G) (k : Nat → ClassId) (A : Nat → Prop) (ad : Nat → Nat) (hD : rwD A k ad) (v : gV) (f g : gF) (a1 : Int) (h_a1 : inR a1) (h1 : 0 ≤ a1 ∧ a1 ≤ 11) : GM l D k A (rwT k ad) yX1_await cX1_await 2 none 0 0 [.ref (ad 21), .int (iI a1)] v f g (fun r v1 f1 g1 => ∃ (w11 : Int) (a14_ : Int → Int), r = none ∧ (va_up v 11 w11) = v1 ∧ (va_up f 14 a14_) = f1 ∧ g = g1) := by
  refine GM.of (by decide) (Nat.le_of_ble_eq_true rfl) ?_
  intro p e s m args below meth c Q ls hQ C hml hr hlocks hP hl
  have hx := C.1
  have hb := C.2.1
  have hok := hP.2
  have hS : va_S A s.heap s.heap [] := va_S.rf
  have hl : lv_has ls 2 [(0, .ref (ad 21)), (1, .int (iI a1))] := hl
  have hP : gWd D (rwT k ad) (va_up v 11 (v 11)) (va_up f 14 (f 14)) g s.heap := by rw [va_id, va_id]; exact hP
  refine lv_aload_n hx hb dX1_await_0 rfl (lv_at hl 0 rfl) ?_
  refine rwG_reader_expression_waits C hP mF_X1_21 dX1_await_1 ?_
  show W p l e (gRm 0 0) s m args below meth c _ _ 0 0 Q (F0 m 4 ls [.int (iI (v 11))])
  have r_1 : 0 ≤ (v 11) ∧ (v 11) ≤ 27 := hok.1 11
  refine lv_aload_n hx hb dX1_await_4 rfl (lv_at hl 0 rfl) ?_
  refine rwG_reader_expression_waiting C hP mF_X1_9 dX1_await_5 ?_
  refine rwN_reader_expression_waiting C hP dX1_await_8 ?_
  refine gi_cge (tgt := 32) hx hb dX1_await_9 (by decide) (by omega) (by decide) (fun c_2 => ?_) (fun c_2 => ?_)
  · exact g_vret hQ C hr hlocks hP hS dX1_await_32 ⟨(v 11), (f 14), rfl, rfl, rfl, rfl⟩
  · refine lv_aload_n hx hb dX1_await_12 rfl (lv_at hl 0 rfl) ?_
    refine rwG_reader_expression_waiting C hP mF_X1_9 dX1_await_13 ?_
    refine lv_aload_n hx hb dX1_await_16 rfl (lv_at hl 0 rfl) ?_
    refine rwG_reader_expression_waits C hP mF_X1_21 dX1_await_17 ?_
    show W p l e (gRm 0 0) s m args below meth c _ _ 0 0 Q (F0 m 20 ls [.int (iI (v 11)), .ref (ad 22)])
    refine lv_iload_n hx hb dX1_await_20 rfl (lv_at hl 1 rfl) ?_
    refine rwS_reader_expression_waiting (f1 := (va_up f 14 (u1 (f 14) (v 11) a1))) C hP hD hS (by omega) (by omega) (by omega) rfl (Or.inr (gF_up (V := rwV) (F := rwF) (gR_up (V := rwV) (F := rwF) ⟨hok.1, hok.2⟩ 11 (hP.2.1 11)) 14 (u1_rng (hP.2.2 14) (show 0 ≤ a1 ∧ a1 ≤ 11 from (by omega))))) dX1_await_21 (fun H locs hP hS => ?_)
    refine lv_aload_n hx hb dX1_await_22 rfl (lv_at hl 0 rfl) ?_
    refine lv_dup hx hb dX1_await_23 rfl ?_
    refine rwG_reader_expression_waits C hP mF_X1_21 dX1_await_24 ?_
    show W p l e (gRm 0 0) s m args below meth c _ _ 0 0 Q (F0 m 27 ls [.int (iI (v 11)), .ref (ad 21)])
    refine lv_iconst (v := iI 1) hx hb dX1_await_27 rfl ?_
    refine gi_add (z := ((v 11) + 1)) hx hb dX1_await_28 rfl ?_
    refine rwP_reader_expression_waits (v1 := (va_up v 11 ((v 11) + 1))) C hP hD hS mF_X1_21 (by omega) rfl (Or.inr (gF_up (V := rwV) (F := rwF) (gR_up (V := rwV) (F := rwF) ⟨hok.1, hok.2⟩ 11 (show 0 ≤ ((v 11) + 1) ∧ ((v 11) + 1) ≤ 27 from by omega)) 14 (hP.2.2 14))) dX1_await_29 (fun H locs hP hS => ?_)
    exact g_vret hQ C hr hlocks hP hS dX1_await_32 ⟨((v 11) + 1), (u1 (f 14) (v 11) a1), rfl, rfl, rfl, rfl⟩

set_option maxHeartbeats 4000000 in
set_option maxRecDepth 100000 in
theorem c_X1_nest (l : Launch) (D : va_G) (k : Nat → ClassId) (A : Nat → Prop) (ad : Nat → Nat) (hD : rwD A k ad) (v : gV) (f g : gF) (a1 : Int) (h_a1 : inR a1) (h1 : 0 ≤ a1 ∧ a1 ≤ 11) : GM l D k A (rwT k ad) yX1_nest cX1_nest 2 none 1 21 [.ref (ad 21), .int (iI a1)] v f g (fun r v1 f1 g1 => ∃ (w11 : Int) (w12 : Int) (w15 : Int) (a14_ : Int → Int), r = none ∧ (va_up (va_up (va_up v 11 w11) 12 w12) 15 w15) = v1 ∧ (va_up f 14 a14_) = f1 ∧ g = g1) := by
  refine GM.of (by decide) (Nat.le_of_ble_eq_true rfl) ?_
  intro p e s m args below meth c Q ls hQ C hml hr hlocks hP hl
  have hx := C.1
  have hb := C.2.1
  have hok := hP.2
  have hS : va_S A s.heap s.heap [] := va_S.rf
  have hl : lv_has ls 2 [(0, .ref (ad 21)), (1, .int (iI a1))] := hl
  have hP : gWd D (rwT k ad) (va_up (va_up (va_up v 11 (v 11)) 12 (v 12)) 15 (v 15)) (va_up f 14 (f 14)) g s.heap := by rw [va_id, va_id, va_id, va_id]; exact hP
  refine lv_aload_n hx hb dX1_nest_0 rfl (lv_at hl 0 rfl) ?_
  refine lv_dup hx hb dX1_nest_1 rfl ?_
  refine rwG_reader_expression_nested C hP mF_X1_24 dX1_nest_2 ?_
  show W p l e (gRm 1 21) s m args below meth c _ _ 0 0 Q (F0 m 5 ls [.int (iI (v 12)), .ref (ad 21)])
  have r_1 : (-2147483648) ≤ (v 12) ∧ (v 12) ≤ 2147483647 := hok.1 12
  refine lv_iconst (v := iI 1) hx hb dX1_nest_5 rfl ?_
  refine gi_add (z := ((v 12) + 1)) hx hb dX1_nest_6 rfl ?_
  obtain ⟨x_2, ex_2, hx_2⟩ : ∃ z : Int, iI ((v 12) + 1) = iI z ∧ inR z := ⟨(iI ((v 12) + 1)).toInt, (iI_of _).symm, iI_rng _⟩
  refine gi_norm ex_2 ?_
  refine rwP_reader_expression_nested (v1 := (va_up (va_up (va_up v 11 (v 11)) 12 x_2) 15 (v 15))) C hP hD hS mF_X1_24 (by omega) rfl (Or.inr (gF_up (V := rwV) (F := rwF) (gR_up (V := rwV) (F := rwF) (gR_up (V := rwV) (F := rwF) (gR_up (V := rwV) (F := rwF) ⟨hok.1, hok.2⟩ 11 (hP.2.1 11)) 12 (show (-2147483648) ≤ x_2 ∧ x_2 ≤ 2147483647 from by omega)) 15 (hP.2.1 15)) 14 (hP.2.2 14))) dX1_nest_7 (fun H locs hP hS => ?_)
  refine lv_aload_n hx hb dX1_nest_10 rfl (lv_at hl 0 rfl) ?_
  refine rwG_reader_expression_nested C hP mF_X1_24 dX1_nest_11 ?_
  show W p l e (gRm 1 21) s m args below meth c _ _ 0 0 Q (F0 m 14 ls [.int (iI x_2)])
  have r_3 : (-2147483648) ≤ x_2 ∧ x_2 ≤ 2147483647 := hP.2.1 12
  refine lv_bipush (v := iI 8) hx hb dX1_nest_14 (by decide) ?_
  refine gi_cle (tgt := 24) hx hb dX1_nest_16 (by decide) (by omega) (by decide) (fun c_4 => ?_) (fun c_4 => ?_)
  · refine lv_aload_n hx hb dX1_nest_24 rfl (lv_at hl 0 rfl) ?_
    refine lv_iload_n hx hb dX1_nest_25 rfl (lv_at hl 1 rfl) ?_
    refine g_cv (As := [.int (iI a1)]) (rest := []) (n := 1) C hml (c_X1_await l D k A ad hD (va_up (va_up (va_up v 11 (v 11)) 12 x_2) 15 (v 15)) (va_up f 14 (f 14)) g a1 (by omega) (show 0 ≤ a1 ∧ a1 ≤ 11 from by omega)) mM_X1_82 mI_X1_await mE_X1_await mN_X1 mC_X1_await (by decide +kernel) 21 (ci := 1) rfl rfl hP hS (fun _ h => h) ⟨Nat.le_of_ble_eq_true rfl, Nat.le_of_ble_eq_true rfl⟩ ⟨Nat.zero_le _, Nat.zero_le _⟩ hl.1 rfl rfl (Nat.le_of_ble_eq_true rfl) dX1_nest_26 (fun r_5 v_5 f_5 g_5 H locs hq_5 hP _ hS => ?_)
    obtain ⟨w11_5, a14_5, rfl, rfl, rfl, rfl⟩ := hq_5
    show W p l e (gRm 1 21) s m args below meth c _ _ 0 0 Q (F0 m 29 ls [])
    have hP : gWd D (rwT k ad) (va_up (va_up (va_up v 11 w11_5) 12 x_2) 15 (v 15)) (va_up f 14 a14_5) g H := ⟨hP.1, (gF_up (V := rwV) (F := rwF) (gR_up (V := rwV) (F := rwF) (gR_up (V := rwV) (F := rwF) (gR_up (V := rwV) (F := rwF) ⟨hok.1, hok.2⟩ 11 (hP.2.1 11)) 12 (hP.2.1 12)) 15 (hP.2.1 15)) 14 (hP.2.2 14))⟩
    have rw11_5 : 0 ≤ w11_5 ∧ w11_5 ≤ 27 := hP.2.1 11
    exact g_vret hQ C hr hlocks hP hS dX1_nest_29 ⟨w11_5, x_2, (v 15), a14_5, rfl, rfl, rfl, rfl⟩
  · refine lv_aload_n hx hb dX1_nest_19 rfl (lv_at hl 0 rfl) ?_
    refine lv_iconst (v := iI 3) hx hb dX1_nest_20 rfl ?_
    refine rwP_reader_expression_fault (v1 := (va_up (va_up (va_up v 11 (v 11)) 12 x_2) 15 3)) C hP hD hS mF_X1_31 (by decide) rfl (Or.inr (gF_up (V := rwV) (F := rwF) (gR_up (V := rwV) (F := rwF) (gR_up (V := rwV) (F := rwF) (gR_up (V := rwV) (F := rwF) ⟨hok.1, hok.2⟩ 11 (hP.2.1 11)) 12 (hP.2.1 12)) 15 (show 0 ≤ 3 ∧ 3 ≤ 5 from by decide)) 14 (hP.2.2 14))) dX1_nest_21 (fun H locs hP hS => ?_)
    refine lv_aload_n hx hb dX1_nest_24 rfl (lv_at hl 0 rfl) ?_
    refine lv_iload_n hx hb dX1_nest_25 rfl (lv_at hl 1 rfl) ?_
    refine g_cv (As := [.int (iI a1)]) (rest := []) (n := 1) C hml (c_X1_await l D k A ad hD (va_up (va_up (va_up v 11 (v 11)) 12 x_2) 15 3) (va_up f 14 (f 14)) g a1 (by omega) (show 0 ≤ a1 ∧ a1 ≤ 11 from by omega)) mM_X1_82 mI_X1_await mE_X1_await mN_X1 mC_X1_await (by decide +kernel) 21 (ci := 1) rfl rfl hP hS (fun _ h => h) ⟨Nat.le_of_ble_eq_true rfl, Nat.le_of_ble_eq_true rfl⟩ ⟨Nat.zero_le _, Nat.zero_le _⟩ hl.1 rfl rfl (Nat.le_of_ble_eq_true rfl) dX1_nest_26 (fun r_6 v_6 f_6 g_6 H locs hq_6 hP _ hS => ?_)
    obtain ⟨w11_6, a14_6, rfl, rfl, rfl, rfl⟩ := hq_6
    show W p l e (gRm 1 21) s m args below meth c _ _ 0 0 Q (F0 m 29 ls [])
    have hP : gWd D (rwT k ad) (va_up (va_up (va_up v 11 w11_6) 12 x_2) 15 3) (va_up f 14 a14_6) g H := ⟨hP.1, (gF_up (V := rwV) (F := rwF) (gR_up (V := rwV) (F := rwF) (gR_up (V := rwV) (F := rwF) (gR_up (V := rwV) (F := rwF) ⟨hok.1, hok.2⟩ 11 (hP.2.1 11)) 12 (hP.2.1 12)) 15 (hP.2.1 15)) 14 (hP.2.2 14))⟩
    have rw11_6 : 0 ≤ w11_6 ∧ w11_6 ≤ 27 := hP.2.1 11
    exact g_vret hQ C hr hlocks hP hS dX1_nest_29 ⟨w11_6, x_2, 3, a14_6, rfl, rfl, rfl, rfl⟩

set_option maxHeartbeats 4000000 in
set_option maxRecDepth 100000 in
theorem c_X1_releaseNegations (l : Launch) (D : va_G) (k : Nat → ClassId) (A : Nat → Prop) (ad : Nat → Nat) (hD : rwD A k ad) (v : gV) (f g : gF) : GM l D k A (rwT k ad) yX1_releaseNegations cX1_releaseNegations 2 none 1 22 [.ref (ad 21), .ref (ad 14)] v f g (fun r v1 f1 g1 => ∃ (w8 : Int) (w11 : Int) (w12 : Int) (a10_ : Int → Int) (a11_ : Int → Int), r = none ∧ (va_up (va_up (va_up v 8 w8) 11 w11) 12 w12) = v1 ∧ (va_up (va_up f 10 a10_) 11 a11_) = f1 ∧ g = g1) := by
  refine GM.of (by decide) (Nat.le_of_ble_eq_true rfl) ?_
  intro p e s m args below meth c Q ls hQ C hml hr hlocks hP hl
  have hx := C.1
  have hb := C.2.1
  have hok := hP.2
  have hS : va_S A s.heap s.heap [] := va_S.rf
  have hl : lv_has ls 2 [(0, .ref (ad 21)), (1, .ref (ad 14))] := hl
  have hP : gWd D (rwT k ad) (va_up (va_up (va_up v 8 (v 8)) 11 (v 11)) 12 (v 12)) (va_up (va_up f 10 (f 10)) 11 (f 11)) g s.heap := by rw [va_id, va_id, va_id, va_id, va_id]; exact hP
  have r_1 : 0 ≤ (v 11) ∧ (v 11) ≤ 27 := hok.1 11
  have L_2 : ∀ (n : Nat) (y8_2 : Int) (y11_2 : Int) (y12_2 : Int) (c10_2 : Int → Int) (c11_2 : Int → Int) (H : Heap) (locs : List Loc) (ls : Array Slot), y11_2 < (n : Int) → gWd D (rwT k ad) (va_up (va_up (va_up v 8 y8_2) 11 y11_2) 12 y12_2) (va_up (va_up f 10 c10_2) 11 c11_2) g H → va_S A s.heap H locs → lv_has ls 2 [(0, .ref (ad 21)), (1, .ref (ad 14))] → W p l e (gRm 1 22) s m args below meth c H locs 0 0 Q (F0 m 0 ls []) := by
    intro n
    induction n with
    | zero =>
      intro y8_2 y11_2 y12_2 c10_2 c11_2 H locs ls hn_2  hP hS hl
      have ry8_2 : 0 ≤ y8_2 ∧ y8_2 ≤ 40 := hP.2.1 8
      have ry11_2 : 0 ≤ y11_2 ∧ y11_2 ≤ 27 := hP.2.1 11
      have ry12_2 : (-2147483648) ≤ y12_2 ∧ y12_2 ≤ 2147483647 := hP.2.1 12
      exfalso; omega
    | succ n ih_0 =>
      intro y8_2 y11_2 y12_2 c10_2 c11_2 H locs ls hn_2  hP hS hl
      have ry8_2 : 0 ≤ y8_2 ∧ y8_2 ≤ 40 := hP.2.1 8
      have ry11_2 : 0 ≤ y11_2 ∧ y11_2 ≤ 27 := hP.2.1 11
      have ry12_2 : (-2147483648) ≤ y12_2 ∧ y12_2 ≤ 2147483647 := hP.2.1 12
      refine lv_aload_n hx hb dX1_releaseNegations_0 rfl (lv_at hl 0 rfl) ?_
      refine rwG_reader_expression_waits C hP mF_X1_21 dX1_releaseNegations_1 ?_
      show W p l e (gRm 1 22) s m args below meth c _ _ 0 0 Q (F0 m 4 ls [.int (iI y11_2)])
      have r_3 : 0 ≤ y11_2 ∧ y11_2 ≤ 27 := hP.2.1 11
      refine gi_zle (tgt := 53) hx hb dX1_releaseNegations_4 (by decide) (by omega) (fun c_4 => ?_) (fun c_4 => ?_)
      · exact g_vret hQ C hr hlocks hP hS dX1_releaseNegations_53 ⟨y8_2, y11_2, y12_2, c10_2, c11_2, rfl, rfl, rfl, rfl⟩
      · refine lv_aload_n hx hb dX1_releaseNegations_7 rfl (lv_at hl 0 rfl) ?_
        refine rwG_reader_expression_waiting C hP mF_X1_9 dX1_releaseNegations_8 ?_
        refine lv_aload_n hx hb dX1_releaseNegations_11 rfl (lv_at hl 0 rfl) ?_
        refine rwG_reader_expression_waits C hP mF_X1_21 dX1_releaseNegations_12 ?_
        show W p l e (gRm 1 22) s m args below meth c _ _ 0 0 Q (F0 m 15 ls [.int (iI y11_2), .ref (ad 22)])
        refine lv_iconst (v := iI 1) hx hb dX1_releaseNegations_15 rfl ?_
        refine gi_sub (z := (y11_2 - 1)) hx hb dX1_releaseNegations_16 rfl ?_
        refine rwL_reader_expression_waiting C hP (by omega) (by omega) dX1_releaseNegations_17 ?_
        show W p l e (gRm 1 22) s m args below meth c _ _ 0 0 Q (F0 m 18 ls [.int (iI (f 14 (y11_2 - 1)))])
        have r_5 : 0 ≤ (f 14 (y11_2 - 1)) ∧ (f 14 (y11_2 - 1)) ≤ 11 := hP.2.2 14 (y11_2 - 1)
        refine lv_bipush (v := iI 10) hx hb dX1_releaseNegations_18 (by decide) ?_
        refine gi_cne (tgt := 53) hx hb dX1_releaseNegations_20 (by decide) (by omega) (by decide) (fun c_6 => ?_) (fun c_6 => ?_)
        · exact g_vret hQ C hr hlocks hP hS dX1_releaseNegations_53 ⟨y8_2, y11_2, y12_2, c10_2, c11_2, rfl, rfl, rfl, rfl⟩
        · refine lv_aload_n hx hb dX1_releaseNegations_23 rfl (lv_at hl 0 rfl) ?_
          refine lv_dup hx hb dX1_releaseNegations_24 rfl ?_
          refine rwG_reader_expression_waits C hP mF_X1_21 dX1_releaseNegations_25 ?_
          show W p l e (gRm 1 22) s m args below meth c _ _ 0 0 Q (F0 m 28 ls [.int (iI y11_2), .ref (ad 21)])
          refine lv_iconst (v := iI 1) hx hb dX1_releaseNegations_28 rfl ?_
          refine gi_sub (z := (y11_2 - 1)) hx hb dX1_releaseNegations_29 rfl ?_
          refine rwP_reader_expression_waits (v1 := (va_up (va_up (va_up v 8 y8_2) 11 (y11_2 - 1)) 12 y12_2)) C hP hD hS mF_X1_21 (by omega) rfl (Or.inr (gF_up (V := rwV) (F := rwF) (gF_up (V := rwV) (F := rwF) (gR_up (V := rwV) (F := rwF) (gR_up (V := rwV) (F := rwF) (gR_up (V := rwV) (F := rwF) ⟨hok.1, hok.2⟩ 8 (hP.2.1 8)) 11 (show 0 ≤ (y11_2 - 1) ∧ (y11_2 - 1) ≤ 27 from by omega)) 12 (hP.2.1 12)) 10 (hP.2.2 10)) 11 (hP.2.2 11))) dX1_releaseNegations_30 (fun H locs hP hS => ?_)
          refine lv_aload_n hx hb dX1_releaseNegations_33 rfl (lv_at hl 0 rfl) ?_
          refine lv_dup hx hb dX1_releaseNegations_34 rfl ?_
          refine rwG_reader_expression_nested C hP mF_X1_24 dX1_releaseNegations_35 ?_
          show W p l e (gRm 1 22) s m args below meth c _ _ 0 0 Q (F0 m 38 ls [.int (iI y12_2), .ref (ad 21)])
          have r_7 : (-2147483648) ≤ y12_2 ∧ y12_2 ≤ 2147483647 := hP.2.1 12
          refine lv_iconst (v := iI 1) hx hb dX1_releaseNegations_38 rfl ?_
          refine gi_sub (z := (y12_2 - 1)) hx hb dX1_releaseNegations_39 rfl ?_
          obtain ⟨x_8, ex_8, hx_8⟩ : ∃ z : Int, iI (y12_2 - 1) = iI z ∧ inR z := ⟨(iI (y12_2 - 1)).toInt, (iI_of _).symm, iI_rng _⟩
          refine gi_norm ex_8 ?_
          refine rwP_reader_expression_nested (v1 := (va_up (va_up (va_up v 8 y8_2) 11 (y11_2 - 1)) 12 x_8)) C hP hD hS mF_X1_24 (by omega) rfl (Or.inr (gF_up (V := rwV) (F := rwF) (gF_up (V := rwV) (F := rwF) (gR_up (V := rwV) (F := rwF) (gR_up (V := rwV) (F := rwF) (gR_up (V := rwV) (F := rwF) ⟨hok.1, hok.2⟩ 8 (hP.2.1 8)) 11 (hP.2.1 11)) 12 (show (-2147483648) ≤ x_8 ∧ x_8 ≤ 2147483647 from by omega)) 10 (hP.2.2 10)) 11 (hP.2.2 11))) dX1_releaseNegations_40 (fun H locs hP hS => ?_)
          refine lv_aload_n hx hb dX1_releaseNegations_43 rfl (lv_at hl 1 rfl) ?_
          refine lv_bipush (v := iI 10) hx hb dX1_releaseNegations_44 (by decide) ?_
          refine lv_iconst (v := iI 0) hx hb dX1_releaseNegations_46 rfl ?_
          refine g_cv (As := [.int (iI 10), .int (iI 0)]) (rest := []) (n := 2) C hml (c_X4_addItem l D k A ad hD (va_up (va_up (va_up v 8 y8_2) 11 (y11_2 - 1)) 12 x_8) (va_up (va_up f 10 c10_2) 11 c11_2) g 10 0 (by decide) (by decide) (show 0 ≤ (10 : Int) ∧ (10 : Int) ≤ 10 from by omega) (show 0 ≤ (0 : Int) ∧ (0 : Int) ≤ 999999 from by omega)) mM_X1_61 mI_X4_addItem mE_X4_addItem mN_X4 mC_X4_addItem (by decide +kernel) 14 (ci := 4) rfl rfl hP hS (fun _ h => h) ⟨Nat.le_of_ble_eq_true rfl, Nat.le_of_ble_eq_true rfl⟩ ⟨Nat.zero_le _, Nat.zero_le _⟩ hl.1 rfl rfl (Nat.le_of_ble_eq_true rfl) dX1_releaseNegations_47 (fun r_9 v_9 f_9 g_9 H locs hq_9 hP _ hS => ?_)
          obtain ⟨w8_9, a10_9, a11_9, rfl, rfl, rfl, rfl⟩ := hq_9
          show W p l e (gRm 1 22) s m args below meth c _ _ 0 0 Q (F0 m 50 ls [])
          have hP : gWd D (rwT k ad) (va_up (va_up (va_up v 8 w8_9) 11 (y11_2 - 1)) 12 x_8) (va_up (va_up f 10 a10_9) 11 a11_9) g H := ⟨hP.1, (gF_up (V := rwV) (F := rwF) (gF_up (V := rwV) (F := rwF) (gR_up (V := rwV) (F := rwF) (gR_up (V := rwV) (F := rwF) (gR_up (V := rwV) (F := rwF) ⟨hok.1, hok.2⟩ 8 (hP.2.1 8)) 11 (hP.2.1 11)) 12 (hP.2.1 12)) 10 (hP.2.2 10)) 11 (hP.2.2 11))⟩
          have rw8_9 : 0 ≤ w8_9 ∧ w8_9 ≤ 40 := hP.2.1 8
          refine lv_goto (tgt := 0) hx hb dX1_releaseNegations_50 (by decide) ?_
          exact ih_0 w8_9 (y11_2 - 1) x_8 a10_9 a11_9 _ _ _ (by omega)  hP hS (lv_sub hl [0, 1] rfl)
  exact L_2 28 (v 8) (v 11) (v 12) (f 10) (f 11) _ _ _ (by omega)  hP hS (lv_sub hl [0, 1] rfl)

set_option maxHeartbeats 4000000 in
set_option maxRecDepth 100000 in
theorem c_X1_release (l : Launch) (D : va_G) (k : Nat → ClassId) (A : Nat → Prop) (ad : Nat → Nat) (hD : rwD A k ad) (v : gV) (f g : gF) (a1 : Int) (h_a1 : inR a1) : GM l D k A (rwT k ad) yX1_release cX1_release 3 none 1 22 [.ref (ad 21), .int (iI a1), .ref (ad 14)] v f g (fun r v1 f1 g1 => ∃ (w8 : Int) (w11 : Int) (a10_ : Int → Int) (a11_ : Int → Int), r = none ∧ (va_up (va_up v 8 w8) 11 w11) = v1 ∧ (va_up (va_up f 10 a10_) 11 a11_) = f1 ∧ g = g1) := by
  refine GM.of (by decide) (Nat.le_of_ble_eq_true rfl) ?_
  intro p e s m args below meth c Q ls hQ C hml hr hlocks hP hl
  have hx := C.1
  have hb := C.2.1
  have hok := hP.2
  have hS : va_S A s.heap s.heap [] := va_S.rf
  have hl : lv_has ls 3 [(0, .ref (ad 21)), (1, .int (iI a1)), (2, .ref (ad 14))] := hl
  have hP : gWd D (rwT k ad) (va_up (va_up v 8 (v 8)) 11 (v 11)) (va_up (va_up f 10 (f 10)) 11 (f 11)) g s.heap := by rw [va_id, va_id, va_id, va_id]; exact hP
  have r_1 : 0 ≤ (v 11) ∧ (v 11) ≤ 27 := hok.1 11
  have L_2 : ∀ (n : Nat) (y8_2 : Int) (y11_2 : Int) (c10_2 : Int → Int) (c11_2 : Int → Int) (H : Heap) (locs : List Loc) (ls : Array Slot), y11_2 < (n : Int) → gWd D (rwT k ad) (va_up (va_up v 8 y8_2) 11 y11_2) (va_up (va_up f 10 c10_2) 11 c11_2) g H → va_S A s.heap H locs → lv_has ls 3 [(0, .ref (ad 21)), (1, .int (iI a1)), (2, .ref (ad 14))] → W p l e (gRm 1 22) s m args below meth c H locs 0 0 Q (F0 m 0 ls []) := by
    intro n
    induction n with
    | zero =>
      intro y8_2 y11_2 c10_2 c11_2 H locs ls hn_2  hP hS hl
      have ry8_2 : 0 ≤ y8_2 ∧ y8_2 ≤ 40 := hP.2.1 8
      have ry11_2 : 0 ≤ y11_2 ∧ y11_2 ≤ 27 := hP.2.1 11
      exfalso; omega
    | succ n ih_0 =>
      intro y8_2 y11_2 c10_2 c11_2 H locs ls hn_2  hP hS hl
      have ry8_2 : 0 ≤ y8_2 ∧ y8_2 ≤ 40 := hP.2.1 8
      have ry11_2 : 0 ≤ y11_2 ∧ y11_2 ≤ 27 := hP.2.1 11
      refine lv_aload_n hx hb dX1_release_0 rfl (lv_at hl 0 rfl) ?_
      refine rwG_reader_expression_waits C hP mF_X1_21 dX1_release_1 ?_
      show W p l e (gRm 1 22) s m args below meth c _ _ 0 0 Q (F0 m 4 ls [.int (iI y11_2)])
      have r_3 : 0 ≤ y11_2 ∧ y11_2 ≤ 27 := hP.2.1 11
      refine gi_zle (tgt := 72) hx hb dX1_release_4 (by decide) (by omega) (fun c_4 => ?_) (fun c_4 => ?_)
      · exact g_vret hQ C hr hlocks hP hS dX1_release_72 ⟨y8_2, y11_2, c10_2, c11_2, rfl, rfl, rfl, rfl⟩
      · refine lv_aload_n hx hb dX1_release_7 rfl (lv_at hl 0 rfl) ?_
        refine rwG_reader_expression_waiting C hP mF_X1_9 dX1_release_8 ?_
        refine lv_aload_n hx hb dX1_release_11 rfl (lv_at hl 0 rfl) ?_
        refine rwG_reader_expression_waits C hP mF_X1_21 dX1_release_12 ?_
        show W p l e (gRm 1 22) s m args below meth c _ _ 0 0 Q (F0 m 15 ls [.int (iI y11_2), .ref (ad 22)])
        refine lv_iconst (v := iI 1) hx hb dX1_release_15 rfl ?_
        refine gi_sub (z := (y11_2 - 1)) hx hb dX1_release_16 rfl ?_
        refine rwL_reader_expression_waiting C hP (by omega) (by omega) dX1_release_17 ?_
        show W p l e (gRm 1 22) s m args below meth c _ _ 0 0 Q (F0 m 18 ls [.int (iI (f 14 (y11_2 - 1)))])
        have r_5 : 0 ≤ (f 14 (y11_2 - 1)) ∧ (f 14 (y11_2 - 1)) ≤ 11 := hP.2.2 14 (y11_2 - 1)
        refine lv_bipush (v := iI 11) hx hb dX1_release_18 (by decide) ?_
        refine gi_ceq (tgt := 72) hx hb dX1_release_20 (by decide) (by omega) (by decide) (fun c_6 => ?_) (fun c_6 => ?_)
        · exact g_vret hQ C hr hlocks hP hS dX1_release_72 ⟨y8_2, y11_2, c10_2, c11_2, rfl, rfl, rfl, rfl⟩
        · refine lv_iload_n hx hb dX1_release_23 rfl (lv_at hl 1 rfl) ?_
          refine lv_bipush (v := iI 9) hx hb dX1_release_24 (by decide) ?_
          refine gi_cne (tgt := 45) hx hb dX1_release_26 (by decide) (by omega) (by decide) (fun c_7 => ?_) (fun c_7 => ?_)
          · refine lv_aload_n hx hb dX1_release_45 rfl (lv_at hl 0 rfl) ?_
            refine lv_dup hx hb dX1_release_46 rfl ?_
            refine rwG_reader_expression_waits C hP mF_X1_21 dX1_release_47 ?_
            show W p l e (gRm 1 22) s m args below meth c _ _ 0 0 Q (F0 m 50 ls [.int (iI y11_2), .ref (ad 21)])
            refine lv_iconst (v := iI 1) hx hb dX1_release_50 rfl ?_
            refine gi_sub (z := (y11_2 - 1)) hx hb dX1_release_51 rfl ?_
            refine rwP_reader_expression_waits (v1 := (va_up (va_up v 8 y8_2) 11 (y11_2 - 1))) C hP hD hS mF_X1_21 (by omega) rfl (Or.inr (gF_up (V := rwV) (F := rwF) (gF_up (V := rwV) (F := rwF) (gR_up (V := rwV) (F := rwF) (gR_up (V := rwV) (F := rwF) ⟨hok.1, hok.2⟩ 8 (hP.2.1 8)) 11 (show 0 ≤ (y11_2 - 1) ∧ (y11_2 - 1) ≤ 27 from by omega)) 10 (hP.2.2 10)) 11 (hP.2.2 11))) dX1_release_52 (fun H locs hP hS => ?_)
            refine lv_aload_n hx hb dX1_release_55 rfl (lv_at hl 2 rfl) ?_
            refine lv_aload_n hx hb dX1_release_56 rfl (lv_at hl 0 rfl) ?_
            refine rwG_reader_expression_waiting C hP mF_X1_9 dX1_release_57 ?_
            refine lv_aload_n hx hb dX1_release_60 rfl (lv_at hl 0 rfl) ?_
            refine rwG_reader_expression_waits C hP mF_X1_21 dX1_release_61 ?_
            show W p l e (gRm 1 22) s m args below meth c _ _ 0 0 Q (F0 m 64 ls [.int (iI (y11_2 - 1)), .ref (ad 22), .ref (ad 14)])
            have r_8 : 0 ≤ (y11_2 - 1) ∧ (y11_2 - 1) ≤ 27 := hP.2.1 11
            refine rwL_reader_expression_waiting C hP (by omega) (by omega) dX1_release_64 ?_
            show W p l e (gRm 1 22) s m args below meth c _ _ 0 0 Q (F0 m 65 ls [.int (iI (f 14 (y11_2 - 1))), .ref (ad 14)])
            refine lv_iconst (v := iI 0) hx hb dX1_release_65 rfl ?_
            refine g_cv (As := [.int (iI (f 14 (y11_2 - 1))), .int (iI 0)]) (rest := []) (n := 2) C hml (c_X4_addItem l D k A ad hD (va_up (va_up v 8 y8_2) 11 (y11_2 - 1)) (va_up (va_up f 10 c10_2) 11 c11_2) g (f 14 (y11_2 - 1)) 0 (by omega) (by decide) (show 0 ≤ (f 14 (y11_2 - 1)) ∧ (f 14 (y11_2 - 1)) ≤ 10 from by omega) (show 0 ≤ (0 : Int) ∧ (0 : Int) ≤ 999999 from by omega)) mM_X1_61 mI_X4_addItem mE_X4_addItem mN_X4 mC_X4_addItem (by decide +kernel) 14 (ci := 4) rfl rfl hP hS (fun _ h => h) ⟨Nat.le_of_ble_eq_true rfl, Nat.le_of_ble_eq_true rfl⟩ ⟨Nat.zero_le _, Nat.zero_le _⟩ hl.1 rfl rfl (Nat.le_of_ble_eq_true rfl) dX1_release_66 (fun r_9 v_9 f_9 g_9 H locs hq_9 hP _ hS => ?_)
            obtain ⟨w8_9, a10_9, a11_9, rfl, rfl, rfl, rfl⟩ := hq_9
            show W p l e (gRm 1 22) s m args below meth c _ _ 0 0 Q (F0 m 69 ls [])
            have hP : gWd D (rwT k ad) (va_up (va_up v 8 w8_9) 11 (y11_2 - 1)) (va_up (va_up f 10 a10_9) 11 a11_9) g H := ⟨hP.1, (gF_up (V := rwV) (F := rwF) (gF_up (V := rwV) (F := rwF) (gR_up (V := rwV) (F := rwF) (gR_up (V := rwV) (F := rwF) ⟨hok.1, hok.2⟩ 8 (hP.2.1 8)) 11 (hP.2.1 11)) 10 (hP.2.2 10)) 11 (hP.2.2 11))⟩
            have rw8_9 : 0 ≤ w8_9 ∧ w8_9 ≤ 40 := hP.2.1 8
            refine lv_goto (tgt := 0) hx hb dX1_release_69 (by decide) ?_
            exact ih_0 w8_9 (y11_2 - 1) a10_9 a11_9 _ _ _ (by omega)  hP hS (lv_sub hl [0, 1, 2] rfl)
          · refine lv_aload_n hx hb dX1_release_29 rfl (lv_at hl 0 rfl) ?_
            refine rwG_reader_expression_waiting C hP mF_X1_9 dX1_release_30 ?_
            refine lv_aload_n hx hb dX1_release_33 rfl (lv_at hl 0 rfl) ?_
            refine rwG_reader_expression_waits C hP mF_X1_21 dX1_release_34 ?_
            show W p l e (gRm 1 22) s m args below meth c _ _ 0 0 Q (F0 m 37 ls [.int (iI y11_2), .ref (ad 22)])
            refine lv_iconst (v := iI 1) hx hb dX1_release_37 rfl ?_
            refine gi_sub (z := (y11_2 - 1)) hx hb dX1_release_38 rfl ?_
            refine rwL_reader_expression_waiting C hP (by omega) (by omega) dX1_release_39 ?_
            show W p l e (gRm 1 22) s m args below meth c _ _ 0 0 Q (F0 m 40 ls [.int (iI (f 14 (y11_2 - 1)))])
            refine lv_bipush (v := iI 9) hx hb dX1_release_40 (by decide) ?_
            refine gi_cne (tgt := 72) hx hb dX1_release_42 (by decide) (by omega) (by decide) (fun c_10 => ?_) (fun c_10 => ?_)
            · exact g_vret hQ C hr hlocks hP hS dX1_release_72 ⟨y8_2, y11_2, c10_2, c11_2, rfl, rfl, rfl, rfl⟩
            · refine lv_aload_n hx hb dX1_release_45 rfl (lv_at hl 0 rfl) ?_
              refine lv_dup hx hb dX1_release_46 rfl ?_
              refine rwG_reader_expression_waits C hP mF_X1_21 dX1_release_47 ?_
              show W p l e (gRm 1 22) s m args below meth c _ _ 0 0 Q (F0 m 50 ls [.int (iI y11_2), .ref (ad 21)])
              refine lv_iconst (v := iI 1) hx hb dX1_release_50 rfl ?_
              refine gi_sub (z := (y11_2 - 1)) hx hb dX1_release_51 rfl ?_
              refine rwP_reader_expression_waits (v1 := (va_up (va_up v 8 y8_2) 11 (y11_2 - 1))) C hP hD hS mF_X1_21 (by omega) rfl (Or.inr (gF_up (V := rwV) (F := rwF) (gF_up (V := rwV) (F := rwF) (gR_up (V := rwV) (F := rwF) (gR_up (V := rwV) (F := rwF) ⟨hok.1, hok.2⟩ 8 (hP.2.1 8)) 11 (show 0 ≤ (y11_2 - 1) ∧ (y11_2 - 1) ≤ 27 from by omega)) 10 (hP.2.2 10)) 11 (hP.2.2 11))) dX1_release_52 (fun H locs hP hS => ?_)
              refine lv_aload_n hx hb dX1_release_55 rfl (lv_at hl 2 rfl) ?_
              refine lv_aload_n hx hb dX1_release_56 rfl (lv_at hl 0 rfl) ?_
              refine rwG_reader_expression_waiting C hP mF_X1_9 dX1_release_57 ?_
              refine lv_aload_n hx hb dX1_release_60 rfl (lv_at hl 0 rfl) ?_
              refine rwG_reader_expression_waits C hP mF_X1_21 dX1_release_61 ?_
              show W p l e (gRm 1 22) s m args below meth c _ _ 0 0 Q (F0 m 64 ls [.int (iI (y11_2 - 1)), .ref (ad 22), .ref (ad 14)])
              have r_11 : 0 ≤ (y11_2 - 1) ∧ (y11_2 - 1) ≤ 27 := hP.2.1 11
              refine rwL_reader_expression_waiting C hP (by omega) (by omega) dX1_release_64 ?_
              show W p l e (gRm 1 22) s m args below meth c _ _ 0 0 Q (F0 m 65 ls [.int (iI (f 14 (y11_2 - 1))), .ref (ad 14)])
              refine lv_iconst (v := iI 0) hx hb dX1_release_65 rfl ?_
              refine g_cv (As := [.int (iI (f 14 (y11_2 - 1))), .int (iI 0)]) (rest := []) (n := 2) C hml (c_X4_addItem l D k A ad hD (va_up (va_up v 8 y8_2) 11 (y11_2 - 1)) (va_up (va_up f 10 c10_2) 11 c11_2) g (f 14 (y11_2 - 1)) 0 (by omega) (by decide) (show 0 ≤ (f 14 (y11_2 - 1)) ∧ (f 14 (y11_2 - 1)) ≤ 10 from by omega) (show 0 ≤ (0 : Int) ∧ (0 : Int) ≤ 999999 from by omega)) mM_X1_61 mI_X4_addItem mE_X4_addItem mN_X4 mC_X4_addItem (by decide +kernel) 14 (ci := 4) rfl rfl hP hS (fun _ h => h) ⟨Nat.le_of_ble_eq_true rfl, Nat.le_of_ble_eq_true rfl⟩ ⟨Nat.zero_le _, Nat.zero_le _⟩ hl.1 rfl rfl (Nat.le_of_ble_eq_true rfl) dX1_release_66 (fun r_12 v_12 f_12 g_12 H locs hq_12 hP _ hS => ?_)
              obtain ⟨w8_12, a10_12, a11_12, rfl, rfl, rfl, rfl⟩ := hq_12
              show W p l e (gRm 1 22) s m args below meth c _ _ 0 0 Q (F0 m 69 ls [])
              have hP : gWd D (rwT k ad) (va_up (va_up v 8 w8_12) 11 (y11_2 - 1)) (va_up (va_up f 10 a10_12) 11 a11_12) g H := ⟨hP.1, (gF_up (V := rwV) (F := rwF) (gF_up (V := rwV) (F := rwF) (gR_up (V := rwV) (F := rwF) (gR_up (V := rwV) (F := rwF) ⟨hok.1, hok.2⟩ 8 (hP.2.1 8)) 11 (hP.2.1 11)) 10 (hP.2.2 10)) 11 (hP.2.2 11))⟩
              have rw8_12 : 0 ≤ w8_12 ∧ w8_12 ≤ 40 := hP.2.1 8
              refine lv_goto (tgt := 0) hx hb dX1_release_69 (by decide) ?_
              exact ih_0 w8_12 (y11_2 - 1) a10_12 a11_12 _ _ _ (by omega)  hP hS (lv_sub hl [0, 1, 2] rfl)
  exact L_2 28 (v 8) (v 11) (f 10) (f 11) _ _ _ (by omega)  hP hS (lv_sub hl [0, 1, 2] rfl)

set_option maxHeartbeats 4000000 in
set_option maxRecDepth 100000 in
theorem c_X1_putSign (l : Launch) (D : va_G) (k : Nat → ClassId) (A : Nat → Prop) (ad : Nat → Nat) (hD : rwD A k ad) (v : gV) (f g : gF) (a1 : Int) (h_a1 : inR a1) (h1 : 0 ≤ a1 ∧ a1 ≤ 11) : GM l D k A (rwT k ad) yX1_putSign cX1_putSign 3 none 2 44 [.ref (ad 21), .int (iI a1), .ref (ad 14)] v f g (fun r v1 f1 g1 => ∃ (w8 : Int) (w11 : Int) (w14 : Int) (w15 : Int) (a14_ : Int → Int) (a10_ : Int → Int) (a11_ : Int → Int), r = none ∧ (va_up (va_up (va_up (va_up v 8 w8) 11 w11) 14 w14) 15 w15) = v1 ∧ (va_up (va_up (va_up f 14 a14_) 10 a10_) 11 a11_) = f1 ∧ g = g1) := by
  refine GM.of (by decide) (Nat.le_of_ble_eq_true rfl) ?_
  intro p e s m args below meth c Q ls hQ C hml hr hlocks hP hl
  have hx := C.1
  have hb := C.2.1
  have hok := hP.2
  have hS : va_S A s.heap s.heap [] := va_S.rf
  have hl : lv_has ls 3 [(0, .ref (ad 21)), (1, .int (iI a1)), (2, .ref (ad 14))] := hl
  have hP : gWd D (rwT k ad) (va_up (va_up (va_up (va_up v 8 (v 8)) 11 (v 11)) 14 (v 14)) 15 (v 15)) (va_up (va_up (va_up f 14 (f 14)) 10 (f 10)) 11 (f 11)) g s.heap := by rw [va_id, va_id, va_id, va_id, va_id, va_id, va_id]; exact hP
  refine lv_aload_n hx hb dX1_putSign_0 rfl (lv_at hl 0 rfl) ?_
  refine g_cv (As := []) (rest := []) (n := 0) C hml (c_X1_countItem l D k A ad hD (va_up (va_up (va_up (va_up v 8 (v 8)) 11 (v 11)) 14 (v 14)) 15 (v 15)) (va_up (va_up (va_up f 14 (f 14)) 10 (f 10)) 11 (f 11)) g) mM_X1_55 mI_X1_countItem mE_X1_countItem mN_X1 mC_X1_countItem (by decide +kernel) 21 (ci := 1) rfl rfl hP hS (fun _ h => h) ⟨Nat.le_of_ble_eq_true rfl, Nat.le_of_ble_eq_true rfl⟩ ⟨Nat.zero_le _, Nat.zero_le _⟩ hl.1 rfl rfl (Nat.le_of_ble_eq_true rfl) dX1_putSign_1 (fun r_1 v_1 f_1 g_1 H locs hq_1 hP _ hS => ?_)
  obtain ⟨w14_1, w15_1, rfl, rfl, rfl, rfl⟩ := hq_1
  show W p l e (gRm 2 44) s m args below meth c _ _ 0 0 Q (F0 m 4 ls [])
  have hP : gWd D (rwT k ad) (va_up (va_up (va_up (va_up v 8 (v 8)) 11 (v 11)) 14 w14_1) 15 w15_1) (va_up (va_up (va_up f 14 (f 14)) 10 (f 10)) 11 (f 11)) g H := ⟨hP.1, (gF_up (V := rwV) (F := rwF) (gF_up (V := rwV) (F := rwF) (gF_up (V := rwV) (F := rwF) (gR_up (V := rwV) (F := rwF) (gR_up (V := rwV) (F := rwF) (gR_up (V := rwV) (F := rwF) (gR_up (V := rwV) (F := rwF) ⟨hok.1, hok.2⟩ 8 (hP.2.1 8)) 11 (hP.2.1 11)) 14 (hP.2.1 14)) 15 (hP.2.1 15)) 14 (hP.2.2 14)) 10 (hP.2.2 10)) 11 (hP.2.2 11))⟩
  have rw14_1 : (-2147483648) ≤ w14_1 ∧ w14_1 ≤ 2147483647 := hP.2.1 14
  have rw15_1 : 0 ≤ w15_1 ∧ w15_1 ≤ 5 := hP.2.1 15
  refine lv_aload_n hx hb dX1_putSign_4 rfl (lv_at hl 0 rfl) ?_
  refine lv_iload_n hx hb dX1_putSign_5 rfl (lv_at hl 1 rfl) ?_
  refine lv_aload_n hx hb dX1_putSign_6 rfl (lv_at hl 2 rfl) ?_
  refine g_cv (As := [.int (iI a1), .ref (ad 14)]) (rest := []) (n := 2) C hml (c_X1_release l D k A ad hD (va_up (va_up (va_up (va_up v 8 (v 8)) 11 (v 11)) 14 w14_1) 15 w15_1) (va_up (va_up (va_up f 14 (f 14)) 10 (f 10)) 11 (f 11)) g a1 (by omega)) mM_X1_40 mI_X1_release mE_X1_release mN_X1 mC_X1_release (by decide +kernel) 21 (ci := 1) rfl rfl hP hS (fun _ h => h) ⟨Nat.le_of_ble_eq_true rfl, Nat.le_of_ble_eq_true rfl⟩ ⟨Nat.zero_le _, Nat.zero_le _⟩ hl.1 rfl rfl (Nat.le_of_ble_eq_true rfl) dX1_putSign_7 (fun r_2 v_2 f_2 g_2 H locs hq_2 hP _ hS => ?_)
  obtain ⟨w8_2, w11_2, a10_2, a11_2, rfl, rfl, rfl, rfl⟩ := hq_2
  show W p l e (gRm 2 44) s m args below meth c _ _ 0 0 Q (F0 m 10 ls [])
  have hP : gWd D (rwT k ad) (va_up (va_up (va_up (va_up v 8 w8_2) 11 w11_2) 14 w14_1) 15 w15_1) (va_up (va_up (va_up f 14 (f 14)) 10 a10_2) 11 a11_2) g H := ⟨hP.1, (gF_up (V := rwV) (F := rwF) (gF_up (V := rwV) (F := rwF) (gF_up (V := rwV) (F := rwF) (gR_up (V := rwV) (F := rwF) (gR_up (V := rwV) (F := rwF) (gR_up (V := rwV) (F := rwF) (gR_up (V := rwV) (F := rwF) ⟨hok.1, hok.2⟩ 8 (hP.2.1 8)) 11 (hP.2.1 11)) 14 (hP.2.1 14)) 15 (hP.2.1 15)) 14 (hP.2.2 14)) 10 (hP.2.2 10)) 11 (hP.2.2 11))⟩
  have rw8_2 : 0 ≤ w8_2 ∧ w8_2 ≤ 40 := hP.2.1 8
  have rw11_2 : 0 ≤ w11_2 ∧ w11_2 ≤ 27 := hP.2.1 11
  refine lv_aload_n hx hb dX1_putSign_10 rfl (lv_at hl 0 rfl) ?_
  refine lv_iload_n hx hb dX1_putSign_11 rfl (lv_at hl 1 rfl) ?_
  refine g_cv (As := [.int (iI a1)]) (rest := []) (n := 1) C hml (c_X1_await l D k A ad hD (va_up (va_up (va_up (va_up v 8 w8_2) 11 w11_2) 14 w14_1) 15 w15_1) (va_up (va_up (va_up f 14 (f 14)) 10 a10_2) 11 a11_2) g a1 (by omega) (show 0 ≤ a1 ∧ a1 ≤ 11 from by omega)) mM_X1_82 mI_X1_await mE_X1_await mN_X1 mC_X1_await (by decide +kernel) 21 (ci := 1) rfl rfl hP hS (fun _ h => h) ⟨Nat.le_of_ble_eq_true rfl, Nat.le_of_ble_eq_true rfl⟩ ⟨Nat.zero_le _, Nat.zero_le _⟩ hl.1 rfl rfl (Nat.le_of_ble_eq_true rfl) dX1_putSign_12 (fun r_3 v_3 f_3 g_3 H locs hq_3 hP _ hS => ?_)
  obtain ⟨w11_3, a14_3, rfl, rfl, rfl, rfl⟩ := hq_3
  show W p l e (gRm 2 44) s m args below meth c _ _ 0 0 Q (F0 m 15 ls [])
  have hP : gWd D (rwT k ad) (va_up (va_up (va_up (va_up v 8 w8_2) 11 w11_3) 14 w14_1) 15 w15_1) (va_up (va_up (va_up f 14 a14_3) 10 a10_2) 11 a11_2) g H := ⟨hP.1, (gF_up (V := rwV) (F := rwF) (gF_up (V := rwV) (F := rwF) (gF_up (V := rwV) (F := rwF) (gR_up (V := rwV) (F := rwF) (gR_up (V := rwV) (F := rwF) (gR_up (V := rwV) (F := rwF) (gR_up (V := rwV) (F := rwF) ⟨hok.1, hok.2⟩ 8 (hP.2.1 8)) 11 (hP.2.1 11)) 14 (hP.2.1 14)) 15 (hP.2.1 15)) 14 (hP.2.2 14)) 10 (hP.2.2 10)) 11 (hP.2.2 11))⟩
  have rw11_3 : 0 ≤ w11_3 ∧ w11_3 ≤ 27 := hP.2.1 11
  exact g_vret hQ C hr hlocks hP hS dX1_putSign_15 ⟨w8_2, w11_3, w14_1, w15_1, a14_3, a10_2, a11_2, rfl, rfl, rfl, rfl⟩

set_option maxHeartbeats 4000000 in
set_option maxRecDepth 100000 in
theorem c_X1_closeParen (l : Launch) (D : va_G) (k : Nat → ClassId) (A : Nat → Prop) (ad : Nat → Nat) (hD : rwD A k ad) (v : gV) (f g : gF) : GM l D k A (rwT k ad) yX1_closeParen cX1_closeParen 2 none 2 44 [.ref (ad 21), .ref (ad 14)] v f g (fun r v1 f1 g1 => ∃ (w8 : Int) (w11 : Int) (w12 : Int) (w13 : Int) (w15 : Int) (a10_ : Int → Int) (a11_ : Int → Int), r = none ∧ (va_up (va_up (va_up (va_up (va_up v 8 w8) 11 w11) 12 w12) 13 w13) 15 w15) = v1 ∧ (va_up (va_up f 10 a10_) 11 a11_) = f1 ∧ g = g1) := by
  refine GM.of (by decide) (Nat.le_of_ble_eq_true rfl) ?_
  intro p e s m args below meth c Q ls hQ C hml hr hlocks hP hl
  have hx := C.1
  have hb := C.2.1
  have hok := hP.2
  have hS : va_S A s.heap s.heap [] := va_S.rf
  have hl : lv_has ls 2 [(0, .ref (ad 21)), (1, .ref (ad 14))] := hl
  have hP : gWd D (rwT k ad) (va_up (va_up (va_up (va_up (va_up v 8 (v 8)) 11 (v 11)) 12 (v 12)) 13 (v 13)) 15 (v 15)) (va_up (va_up f 10 (f 10)) 11 (f 11)) g s.heap := by rw [va_id, va_id, va_id, va_id, va_id, va_id, va_id]; exact hP
  have r_1 : 0 ≤ (v 11) ∧ (v 11) ≤ 27 := hok.1 11
  refine lv_aload_n hx hb dX1_closeParen_0 rfl (lv_at hl 0 rfl) ?_
  refine rwG_reader_expression_parens C hP mF_X1_27 dX1_closeParen_1 ?_
  show W p l e (gRm 2 44) s m args below meth c _ _ 0 0 Q (F0 m 4 ls [.int (iI (v 13))])
  have r_2 : (-2147483648) ≤ (v 13) ∧ (v 13) ≤ 2147483647 := hok.1 13
  refine gi_zne (tgt := 14) hx hb dX1_closeParen_4 (by decide) (by omega) (fun c_3 => ?_) (fun c_3 => ?_)
  · refine lv_aload_n hx hb dX1_closeParen_14 rfl (lv_at hl 0 rfl) ?_
    refine lv_bipush (v := iI 7) hx hb dX1_closeParen_15 (by decide) ?_
    refine lv_aload_n hx hb dX1_closeParen_17 rfl (lv_at hl 1 rfl) ?_
    refine g_cv (As := [.int (iI 7), .ref (ad 14)]) (rest := []) (n := 2) C hml (c_X1_release l D k A ad hD (va_up (va_up (va_up (va_up (va_up v 8 (v 8)) 11 (v 11)) 12 (v 12)) 13 (v 13)) 15 (v 15)) (va_up (va_up f 10 (f 10)) 11 (f 11)) g 7 (by decide)) mM_X1_40 mI_X1_release mE_X1_release mN_X1 mC_X1_release (by decide +kernel) 21 (ci := 1) rfl rfl hP hS (fun _ h => h) ⟨Nat.le_of_ble_eq_true rfl, Nat.le_of_ble_eq_true rfl⟩ ⟨Nat.zero_le _, Nat.zero_le _⟩ hl.1 rfl rfl (Nat.le_of_ble_eq_true rfl) dX1_closeParen_18 (fun r_4 v_4 f_4 g_4 H locs hq_4 hP _ hS => ?_)
    obtain ⟨w8_4, w11_4, a10_4, a11_4, rfl, rfl, rfl, rfl⟩ := hq_4
    show W p l e (gRm 2 44) s m args below meth c _ _ 0 0 Q (F0 m 21 ls [])
    have hP : gWd D (rwT k ad) (va_up (va_up (va_up (va_up (va_up v 8 w8_4) 11 w11_4) 12 (v 12)) 13 (v 13)) 15 (v 15)) (va_up (va_up f 10 a10_4) 11 a11_4) g H := ⟨hP.1, (gF_up (V := rwV) (F := rwF) (gF_up (V := rwV) (F := rwF) (gR_up (V := rwV) (F := rwF) (gR_up (V := rwV) (F := rwF) (gR_up (V := rwV) (F := rwF) (gR_up (V := rwV) (F := rwF) (gR_up (V := rwV) (F := rwF) ⟨hok.1, hok.2⟩ 8 (hP.2.1 8)) 11 (hP.2.1 11)) 12 (hP.2.1 12)) 13 (hP.2.1 13)) 15 (hP.2.1 15)) 10 (hP.2.2 10)) 11 (hP.2.2 11))⟩
    have rw8_4 : 0 ≤ w8_4 ∧ w8_4 ≤ 40 := hP.2.1 8
    have rw11_4 : 0 ≤ w11_4 ∧ w11_4 ≤ 27 := hP.2.1 11
    refine lv_aload_n hx hb dX1_closeParen_21 rfl (lv_at hl 0 rfl) ?_
    refine lv_iconst (v := iI 0) hx hb dX1_closeParen_22 rfl ?_
    refine lv_aload_n hx hb dX1_closeParen_23 rfl (lv_at hl 0 rfl) ?_
    refine rwG_reader_expression_waits C hP mF_X1_21 dX1_closeParen_24 ?_
    show W p l e (gRm 2 44) s m args below meth c _ _ 0 0 Q (F0 m 27 ls [.int (iI w11_4), .int (iI 0), .ref (ad 21)])
    have r_5 : 0 ≤ w11_4 ∧ w11_4 ≤ 27 := hP.2.1 11
    refine lv_iconst (v := iI 1) hx hb dX1_closeParen_27 rfl ?_
    refine gi_sub (z := (w11_4 - 1)) hx hb dX1_closeParen_28 rfl ?_
    refine gi_max C hml hl.1 mM_X1_85 (by decide) (by omega) (Nat.le_of_ble_eq_true rfl) (Nat.le_of_ble_eq_true rfl) dX1_closeParen_29 (fun x_6 hx_6 => ?_)
    refine rwP_reader_expression_waits (v1 := (va_up (va_up (va_up (va_up (va_up v 8 w8_4) 11 x_6) 12 (v 12)) 13 (v 13)) 15 (v 15))) C hP hD hS mF_X1_21 (by omega) rfl (Or.inr (gF_up (V := rwV) (F := rwF) (gF_up (V := rwV) (F := rwF) (gR_up (V := rwV) (F := rwF) (gR_up (V := rwV) (F := rwF) (gR_up (V := rwV) (F := rwF) (gR_up (V := rwV) (F := rwF) (gR_up (V := rwV) (F := rwF) ⟨hok.1, hok.2⟩ 8 (hP.2.1 8)) 11 (show 0 ≤ x_6 ∧ x_6 ≤ 27 from by omega)) 12 (hP.2.1 12)) 13 (hP.2.1 13)) 15 (hP.2.1 15)) 10 (hP.2.2 10)) 11 (hP.2.2 11))) dX1_closeParen_32 (fun H locs hP hS => ?_)
    refine lv_aload_n hx hb dX1_closeParen_35 rfl (lv_at hl 0 rfl) ?_
    refine lv_dup hx hb dX1_closeParen_36 rfl ?_
    refine rwG_reader_expression_parens C hP mF_X1_27 dX1_closeParen_37 ?_
    show W p l e (gRm 2 44) s m args below meth c _ _ 0 0 Q (F0 m 40 ls [.int (iI (v 13)), .ref (ad 21)])
    refine lv_iconst (v := iI 1) hx hb dX1_closeParen_40 rfl ?_
    refine gi_sub (z := ((v 13) - 1)) hx hb dX1_closeParen_41 rfl ?_
    obtain ⟨x_7, ex_7, hx_7⟩ : ∃ z : Int, iI ((v 13) - 1) = iI z ∧ inR z := ⟨(iI ((v 13) - 1)).toInt, (iI_of _).symm, iI_rng _⟩
    refine gi_norm ex_7 ?_
    refine rwP_reader_expression_parens (v1 := (va_up (va_up (va_up (va_up (va_up v 8 w8_4) 11 x_6) 12 (v 12)) 13 x_7) 15 (v 15))) C hP hD hS mF_X1_27 (by omega) rfl (Or.inr (gF_up (V := rwV) (F := rwF) (gF_up (V := rwV) (F := rwF) (gR_up (V := rwV) (F := rwF) (gR_up (V := rwV) (F := rwF) (gR_up (V := rwV) (F := rwF) (gR_up (V := rwV) (F := rwF) (gR_up (V := rwV) (F := rwF) ⟨hok.1, hok.2⟩ 8 (hP.2.1 8)) 11 (hP.2.1 11)) 12 (hP.2.1 12)) 13 (show (-2147483648) ≤ x_7 ∧ x_7 ≤ 2147483647 from by omega)) 15 (hP.2.1 15)) 10 (hP.2.2 10)) 11 (hP.2.2 11))) dX1_closeParen_42 (fun H locs hP hS => ?_)
    refine lv_aload_n hx hb dX1_closeParen_45 rfl (lv_at hl 0 rfl) ?_
    refine lv_dup hx hb dX1_closeParen_46 rfl ?_
    refine rwG_reader_expression_nested C hP mF_X1_24 dX1_closeParen_47 ?_
    show W p l e (gRm 2 44) s m args below meth c _ _ 0 0 Q (F0 m 50 ls [.int (iI (v 12)), .ref (ad 21)])
    have r_8 : (-2147483648) ≤ (v 12) ∧ (v 12) ≤ 2147483647 := hok.1 12
    refine lv_iconst (v := iI 1) hx hb dX1_closeParen_50 rfl ?_
    refine gi_sub (z := ((v 12) - 1)) hx hb dX1_closeParen_51 rfl ?_
    obtain ⟨x_9, ex_9, hx_9⟩ : ∃ z : Int, iI ((v 12) - 1) = iI z ∧ inR z := ⟨(iI ((v 12) - 1)).toInt, (iI_of _).symm, iI_rng _⟩
    refine gi_norm ex_9 ?_
    refine rwP_reader_expression_nested (v1 := (va_up (va_up (va_up (va_up (va_up v 8 w8_4) 11 x_6) 12 x_9) 13 x_7) 15 (v 15))) C hP hD hS mF_X1_24 (by omega) rfl (Or.inr (gF_up (V := rwV) (F := rwF) (gF_up (V := rwV) (F := rwF) (gR_up (V := rwV) (F := rwF) (gR_up (V := rwV) (F := rwF) (gR_up (V := rwV) (F := rwF) (gR_up (V := rwV) (F := rwF) (gR_up (V := rwV) (F := rwF) ⟨hok.1, hok.2⟩ 8 (hP.2.1 8)) 11 (hP.2.1 11)) 12 (show (-2147483648) ≤ x_9 ∧ x_9 ≤ 2147483647 from by omega)) 13 (hP.2.1 13)) 15 (hP.2.1 15)) 10 (hP.2.2 10)) 11 (hP.2.2 11))) dX1_closeParen_52 (fun H locs hP hS => ?_)
    refine lv_aload_n hx hb dX1_closeParen_55 rfl (lv_at hl 0 rfl) ?_
    refine lv_aload_n hx hb dX1_closeParen_56 rfl (lv_at hl 1 rfl) ?_
    refine g_cv (As := [.ref (ad 14)]) (rest := []) (n := 1) C hml (c_X1_releaseNegations l D k A ad hD (va_up (va_up (va_up (va_up (va_up v 8 w8_4) 11 x_6) 12 x_9) 13 x_7) 15 (v 15)) (va_up (va_up f 10 a10_4) 11 a11_4) g) mM_X1_65 mI_X1_releaseNegations mE_X1_releaseNegations mN_X1 mC_X1_releaseNegations (by decide +kernel) 21 (ci := 1) rfl rfl hP hS (fun _ h => h) ⟨Nat.le_of_ble_eq_true rfl, Nat.le_of_ble_eq_true rfl⟩ ⟨Nat.zero_le _, Nat.zero_le _⟩ hl.1 rfl rfl (Nat.le_of_ble_eq_true rfl) dX1_closeParen_57 (fun r_10 v_10 f_10 g_10 H locs hq_10 hP _ hS => ?_)
    obtain ⟨w8_10, w11_10, w12_10, a10_10, a11_10, rfl, rfl, rfl, rfl⟩ := hq_10
    show W p l e (gRm 2 44) s m args below meth c _ _ 0 0 Q (F0 m 60 ls [])
    have hP : gWd D (rwT k ad) (va_up (va_up (va_up (va_up (va_up v 8 w8_10) 11 w11_10) 12 w12_10) 13 x_7) 15 (v 15)) (va_up (va_up f 10 a10_10) 11 a11_10) g H := ⟨hP.1, (gF_up (V := rwV) (F := rwF) (gF_up (V := rwV) (F := rwF) (gR_up (V := rwV) (F := rwF) (gR_up (V := rwV) (F := rwF) (gR_up (V := rwV) (F := rwF) (gR_up (V := rwV) (F := rwF) (gR_up (V := rwV) (F := rwF) ⟨hok.1, hok.2⟩ 8 (hP.2.1 8)) 11 (hP.2.1 11)) 12 (hP.2.1 12)) 13 (hP.2.1 13)) 15 (hP.2.1 15)) 10 (hP.2.2 10)) 11 (hP.2.2 11))⟩
    have rw8_10 : 0 ≤ w8_10 ∧ w8_10 ≤ 40 := hP.2.1 8
    have rw11_10 : 0 ≤ w11_10 ∧ w11_10 ≤ 27 := hP.2.1 11
    have rw12_10 : (-2147483648) ≤ w12_10 ∧ w12_10 ≤ 2147483647 := hP.2.1 12
    exact g_vret hQ C hr hlocks hP hS dX1_closeParen_60 ⟨w8_10, w11_10, w12_10, x_7, (v 15), a10_10, a11_10, rfl, rfl, rfl, rfl⟩
  · refine lv_aload_n hx hb dX1_closeParen_7 rfl (lv_at hl 0 rfl) ?_
    refine lv_bipush (v := iI 41) hx hb dX1_closeParen_8 (by decide) ?_
    refine g_cv (As := [.int (iI 41)]) (rest := []) (n := 1) C hml (c_X1_refuseToken l D k A ad hD (va_up (va_up (va_up (va_up (va_up v 8 (v 8)) 11 (v 11)) 12 (v 12)) 13 (v 13)) 15 (v 15)) (va_up (va_up f 10 (f 10)) 11 (f 11)) g 41 (by decide)) mM_X1_73 mI_X1_refuseToken mE_X1_refuseToken mN_X1 mC_X1_refuseToken (by decide +kernel) 21 (ci := 1) rfl rfl hP hS (fun _ h => h) ⟨Nat.le_of_ble_eq_true rfl, Nat.le_of_ble_eq_true rfl⟩ ⟨Nat.zero_le _, Nat.zero_le _⟩ hl.1 rfl rfl (Nat.le_of_ble_eq_true rfl) dX1_closeParen_10 (fun r_11 v_11 f_11 g_11 H locs hq_11 hP _ hS => ?_)
    obtain ⟨w15_11, rfl, rfl, rfl, rfl, p0_11⟩ := hq_11
    show W p l e (gRm 2 44) s m args below meth c _ _ 0 0 Q (F0 m 13 ls [])
    have hP : gWd D (rwT k ad) (va_up (va_up (va_up (va_up (va_up v 8 (v 8)) 11 (v 11)) 12 (v 12)) 13 (v 13)) 15 w15_11) (va_up (va_up f 10 (f 10)) 11 (f 11)) g H := ⟨hP.1, (gF_up (V := rwV) (F := rwF) (gF_up (V := rwV) (F := rwF) (gR_up (V := rwV) (F := rwF) (gR_up (V := rwV) (F := rwF) (gR_up (V := rwV) (F := rwF) (gR_up (V := rwV) (F := rwF) (gR_up (V := rwV) (F := rwF) ⟨hok.1, hok.2⟩ 8 (hP.2.1 8)) 11 (hP.2.1 11)) 12 (hP.2.1 12)) 13 (hP.2.1 13)) 15 (hP.2.1 15)) 10 (hP.2.2 10)) 11 (hP.2.2 11))⟩
    have p0_11 : w15_11 ≠ 0 := p0_11
    have rw15_11 : 0 ≤ w15_11 ∧ w15_11 ≤ 5 := hP.2.1 15
    exact g_vret hQ C hr hlocks hP hS dX1_closeParen_13 ⟨(v 8), (v 11), (v 12), (v 13), w15_11, (f 10), (f 11), rfl, rfl, rfl, rfl⟩

set_option maxHeartbeats 4000000 in
set_option maxRecDepth 100000 in
theorem c_X1_readBehindFactor (l : Launch) (D : va_G) (k : Nat → ClassId) (A : Nat → Prop) (ad : Nat → Nat) (hD : rwD A k ad) (v : gV) (f g : gF) (a1 : Int) (h_a1 : inR a1) : GM l D k A (rwT k ad) yX1_readBehindFactor cX1_readBehindFactor 3 (some .boolean) 3 66 [.ref (ad 21), .int (iI a1), .ref (ad 14)] v f g (fun r v1 f1 g1 => ∃ (z : Int) (w8 : Int) (w11 : Int) (w12 : Int) (w13 : Int) (w14 : Int) (w15 : Int) (a14_ : Int → Int) (a10_ : Int → Int) (a11_ : Int → Int), r = some (.int (iI z)) ∧ (va_up (va_up (va_up (va_up (va_up (va_up v 8 w8) 11 w11) 12 w12) 13 w13) 14 w14) 15 w15) = v1 ∧ (va_up (va_up (va_up f 14 a14_) 10 a10_) 11 a11_) = f1 ∧ g = g1 ∧ (0 ≤ z ∧ z ≤ 1)) := by
  refine GM.of (by decide) (Nat.le_of_ble_eq_true rfl) ?_
  intro p e s m args below meth c Q ls hQ C hml hr hlocks hP hl
  have hx := C.1
  have hb := C.2.1
  have hok := hP.2
  have hS : va_S A s.heap s.heap [] := va_S.rf
  have hl : lv_has ls 3 [(0, .ref (ad 21)), (1, .int (iI a1)), (2, .ref (ad 14))] := hl
  have hP : gWd D (rwT k ad) (va_up (va_up (va_up (va_up (va_up (va_up v 8 (v 8)) 11 (v 11)) 12 (v 12)) 13 (v 13)) 14 (v 14)) 15 (v 15)) (va_up (va_up (va_up f 14 (f 14)) 10 (f 10)) 11 (f 11)) g s.heap := by rw [va_id, va_id, va_id, va_id, va_id, va_id, va_id, va_id, va_id]; exact hP
  refine lv_iload_n hx hb dX1_readBehindFactor_0 rfl (lv_at hl 1 rfl) ?_
  by_cases c_1_41 : a1 = 41
  · refine lv_tableIn (off := 62) (tgt := 63) hx hb dX1_readBehindFactor_1 (by rw [c_1_41]; decide) (by rw [c_1_41]; decide) (by rw [c_1_41]; rfl) (by decide) ?_
    refine lv_aload_n hx hb dX1_readBehindFactor_63 rfl (lv_at hl 0 rfl) ?_
    refine lv_aload_n hx hb dX1_readBehindFactor_64 rfl (lv_at hl 2 rfl) ?_
    refine g_cv (As := [.ref (ad 14)]) (rest := []) (n := 1) C hml (c_X1_closeParen l D k A ad hD (va_up (va_up (va_up (va_up (va_up (va_up v 8 (v 8)) 11 (v 11)) 12 (v 12)) 13 (v 13)) 14 (v 14)) 15 (v 15)) (va_up (va_up (va_up f 14 (f 14)) 10 (f 10)) 11 (f 11)) g) mM_X1_79 mI_X1_closeParen mE_X1_closeParen mN_X1 mC_X1_closeParen (by decide +kernel) 21 (ci := 1) rfl rfl hP hS (fun _ h => h) ⟨Nat.le_of_ble_eq_true rfl, Nat.le_of_ble_eq_true rfl⟩ ⟨Nat.zero_le _, Nat.zero_le _⟩ hl.1 rfl rfl (Nat.le_of_ble_eq_true rfl) dX1_readBehindFactor_65 (fun r_2 v_2 f_2 g_2 H locs hq_2 hP _ hS => ?_)
    obtain ⟨w8_2, w11_2, w12_2, w13_2, w15_2, a10_2, a11_2, rfl, rfl, rfl, rfl⟩ := hq_2
    show W p l e (gRm 3 66) s m args below meth c _ _ 0 0 Q (F0 m 68 ls [])
    have hP : gWd D (rwT k ad) (va_up (va_up (va_up (va_up (va_up (va_up v 8 w8_2) 11 w11_2) 12 w12_2) 13 w13_2) 14 (v 14)) 15 w15_2) (va_up (va_up (va_up f 14 (f 14)) 10 a10_2) 11 a11_2) g H := ⟨hP.1, (gF_up (V := rwV) (F := rwF) (gF_up (V := rwV) (F := rwF) (gF_up (V := rwV) (F := rwF) (gR_up (V := rwV) (F := rwF) (gR_up (V := rwV) (F := rwF) (gR_up (V := rwV) (F := rwF) (gR_up (V := rwV) (F := rwF) (gR_up (V := rwV) (F := rwF) (gR_up (V := rwV) (F := rwF) ⟨hok.1, hok.2⟩ 8 (hP.2.1 8)) 11 (hP.2.1 11)) 12 (hP.2.1 12)) 13 (hP.2.1 13)) 14 (hP.2.1 14)) 15 (hP.2.1 15)) 14 (hP.2.2 14)) 10 (hP.2.2 10)) 11 (hP.2.2 11))⟩
    have rw8_2 : 0 ≤ w8_2 ∧ w8_2 ≤ 40 := hP.2.1 8
    have rw11_2 : 0 ≤ w11_2 ∧ w11_2 ≤ 27 := hP.2.1 11
    have rw12_2 : (-2147483648) ≤ w12_2 ∧ w12_2 ≤ 2147483647 := hP.2.1 12
    have rw13_2 : (-2147483648) ≤ w13_2 ∧ w13_2 ≤ 2147483647 := hP.2.1 13
    have rw15_2 : 0 ≤ w15_2 ∧ w15_2 ≤ 5 := hP.2.1 15
    refine lv_iconst (v := iI 1) hx hb dX1_readBehindFactor_68 rfl ?_
    exact g_zret hQ C hr hlocks (by decide) hP hS dX1_readBehindFactor_69 ⟨1, w8_2, w11_2, w12_2, w13_2, (v 14), w15_2, (f 14), a10_2, a11_2, rfl, rfl, rfl, rfl, (by first | omega | (split <;> omega))⟩
  by_cases c_1_42 : a1 = 42
  · refine lv_tableIn (off := 53) (tgt := 54) hx hb dX1_readBehindFactor_1 (by rw [c_1_42]; decide) (by rw [c_1_42]; decide) (by rw [c_1_42]; rfl) (by decide) ?_
    refine lv_aload_n hx hb dX1_readBehindFactor_54 rfl (lv_at hl 0 rfl) ?_
    refine lv_bipush (v := iI 9) hx hb dX1_readBehindFactor_55 (by decide) ?_
    refine lv_aload_n hx hb dX1_readBehindFactor_57 rfl (lv_at hl 2 rfl) ?_
    refine g_cv (As := [.int (iI 9), .ref (ad 14)]) (rest := []) (n := 2) C hml (c_X1_putSign l D k A ad hD (va_up (va_up (va_up (va_up (va_up (va_up v 8 (v 8)) 11 (v 11)) 12 (v 12)) 13 (v 13)) 14 (v 14)) 15 (v 15)) (va_up (va_up (va_up f 14 (f 14)) 10 (f 10)) 11 (f 11)) g 9 (by decide) (show 0 ≤ (9 : Int) ∧ (9 : Int) ≤ 11 from by omega)) mM_X1_76 mI_X1_putSign mE_X1_putSign mN_X1 mC_X1_putSign (by decide +kernel) 21 (ci := 1) rfl rfl hP hS (fun _ h => h) ⟨Nat.le_of_ble_eq_true rfl, Nat.le_of_ble_eq_true rfl⟩ ⟨Nat.zero_le _, Nat.zero_le _⟩ hl.1 rfl rfl (Nat.le_of_ble_eq_true rfl) dX1_readBehindFactor_58 (fun r_3 v_3 f_3 g_3 H locs hq_3 hP _ hS => ?_)
    obtain ⟨w8_3, w11_3, w14_3, w15_3, a14_3, a10_3, a11_3, rfl, rfl, rfl, rfl⟩ := hq_3
    show W p l e (gRm 3 66) s m args below meth c _ _ 0 0 Q (F0 m 61 ls [])
    have hP : gWd D (rwT k ad) (va_up (va_up (va_up (va_up (va_up (va_up v 8 w8_3) 11 w11_3) 12 (v 12)) 13 (v 13)) 14 w14_3) 15 w15_3) (va_up (va_up (va_up f 14 a14_3) 10 a10_3) 11 a11_3) g H := ⟨hP.1, (gF_up (V := rwV) (F := rwF) (gF_up (V := rwV) (F := rwF) (gF_up (V := rwV) (F := rwF) (gR_up (V := rwV) (F := rwF) (gR_up (V := rwV) (F := rwF) (gR_up (V := rwV) (F := rwF) (gR_up (V := rwV) (F := rwF) (gR_up (V := rwV) (F := rwF) (gR_up (V := rwV) (F := rwF) ⟨hok.1, hok.2⟩ 8 (hP.2.1 8)) 11 (hP.2.1 11)) 12 (hP.2.1 12)) 13 (hP.2.1 13)) 14 (hP.2.1 14)) 15 (hP.2.1 15)) 14 (hP.2.2 14)) 10 (hP.2.2 10)) 11 (hP.2.2 11))⟩
    have rw8_3 : 0 ≤ w8_3 ∧ w8_3 ≤ 40 := hP.2.1 8
    have rw11_3 : 0 ≤ w11_3 ∧ w11_3 ≤ 27 := hP.2.1 11
    have rw14_3 : (-2147483648) ≤ w14_3 ∧ w14_3 ≤ 2147483647 := hP.2.1 14
    have rw15_3 : 0 ≤ w15_3 ∧ w15_3 ≤ 5 := hP.2.1 15
    refine lv_iconst (v := iI 0) hx hb dX1_readBehindFactor_61 rfl ?_
    exact g_zret hQ C hr hlocks (by decide) hP hS dX1_readBehindFactor_62 ⟨0, w8_3, w11_3, (v 12), (v 13), w14_3, w15_3, a14_3, a10_3, a11_3, rfl, rfl, rfl, rfl, (by first | omega | (split <;> omega))⟩
  by_cases c_1_43 : a1 = 43
  · refine lv_tableIn (off := 35) (tgt := 36) hx hb dX1_readBehindFactor_1 (by rw [c_1_43]; decide) (by rw [c_1_43]; decide) (by rw [c_1_43]; rfl) (by decide) ?_
    refine lv_aload_n hx hb dX1_readBehindFactor_36 rfl (lv_at hl 0 rfl) ?_
    refine lv_bipush (v := iI 7) hx hb dX1_readBehindFactor_37 (by decide) ?_
    refine lv_aload_n hx hb dX1_readBehindFactor_39 rfl (lv_at hl 2 rfl) ?_
    refine g_cv (As := [.int (iI 7), .ref (ad 14)]) (rest := []) (n := 2) C hml (c_X1_putSign l D k A ad hD (va_up (va_up (va_up (va_up (va_up (va_up v 8 (v 8)) 11 (v 11)) 12 (v 12)) 13 (v 13)) 14 (v 14)) 15 (v 15)) (va_up (va_up (va_up f 14 (f 14)) 10 (f 10)) 11 (f 11)) g 7 (by decide) (show 0 ≤ (7 : Int) ∧ (7 : Int) ≤ 11 from by omega)) mM_X1_76 mI_X1_putSign mE_X1_putSign mN_X1 mC_X1_putSign (by decide +kernel) 21 (ci := 1) rfl rfl hP hS (fun _ h => h) ⟨Nat.le_of_ble_eq_true rfl, Nat.le_of_ble_eq_true rfl⟩ ⟨Nat.zero_le _, Nat.zero_le _⟩ hl.1 rfl rfl (Nat.le_of_ble_eq_true rfl) dX1_readBehindFactor_40 (fun r_4 v_4 f_4 g_4 H locs hq_4 hP _ hS => ?_)
    obtain ⟨w8_4, w11_4, w14_4, w15_4, a14_4, a10_4, a11_4, rfl, rfl, rfl, rfl⟩ := hq_4
    show W p l e (gRm 3 66) s m args below meth c _ _ 0 0 Q (F0 m 43 ls [])
    have hP : gWd D (rwT k ad) (va_up (va_up (va_up (va_up (va_up (va_up v 8 w8_4) 11 w11_4) 12 (v 12)) 13 (v 13)) 14 w14_4) 15 w15_4) (va_up (va_up (va_up f 14 a14_4) 10 a10_4) 11 a11_4) g H := ⟨hP.1, (gF_up (V := rwV) (F := rwF) (gF_up (V := rwV) (F := rwF) (gF_up (V := rwV) (F := rwF) (gR_up (V := rwV) (F := rwF) (gR_up (V := rwV) (F := rwF) (gR_up (V := rwV) (F := rwF) (gR_up (V := rwV) (F := rwF) (gR_up (V := rwV) (F := rwF) (gR_up (V := rwV) (F := rwF) ⟨hok.1, hok.2⟩ 8 (hP.2.1 8)) 11 (hP.2.1 11)) 12 (hP.2.1 12)) 13 (hP.2.1 13)) 14 (hP.2.1 14)) 15 (hP.2.1 15)) 14 (hP.2.2 14)) 10 (hP.2.2 10)) 11 (hP.2.2 11))⟩
    have rw8_4 : 0 ≤ w8_4 ∧ w8_4 ≤ 40 := hP.2.1 8
    have rw11_4 : 0 ≤ w11_4 ∧ w11_4 ≤ 27 := hP.2.1 11
    have rw14_4 : (-2147483648) ≤ w14_4 ∧ w14_4 ≤ 2147483647 := hP.2.1 14
    have rw15_4 : 0 ≤ w15_4 ∧ w15_4 ≤ 5 := hP.2.1 15
    refine lv_iconst (v := iI 0) hx hb dX1_readBehindFactor_43 rfl ?_
    exact g_zret hQ C hr hlocks (by decide) hP hS dX1_readBehindFactor_44 ⟨0, w8_4, w11_4, (v 12), (v 13), w14_4, w15_4, a14_4, a10_4, a11_4, rfl, rfl, rfl, rfl, (by first | omega | (split <;> omega))⟩
  by_cases c_1_44 : a1 = 44
  · refine lv_tableIn (off := 69) (tgt := 70) hx hb dX1_readBehindFactor_1 (by rw [c_1_44]; decide) (by rw [c_1_44]; decide) (by rw [c_1_44]; rfl) (by decide) ?_
    refine lv_aload_n hx hb dX1_readBehindFactor_70 rfl (lv_at hl 0 rfl) ?_
    refine lv_iload_n hx hb dX1_readBehindFactor_71 rfl (lv_at hl 1 rfl) ?_
    refine g_cv (As := [.int (iI a1)]) (rest := []) (n := 1) C hml (c_X1_refuseToken l D k A ad hD (va_up (va_up (va_up (va_up (va_up (va_up v 8 (v 8)) 11 (v 11)) 12 (v 12)) 13 (v 13)) 14 (v 14)) 15 (v 15)) (va_up (va_up (va_up f 14 (f 14)) 10 (f 10)) 11 (f 11)) g a1 (by omega)) mM_X1_73 mI_X1_refuseToken mE_X1_refuseToken mN_X1 mC_X1_refuseToken (by decide +kernel) 21 (ci := 1) rfl rfl hP hS (fun _ h => h) ⟨Nat.le_of_ble_eq_true rfl, Nat.le_of_ble_eq_true rfl⟩ ⟨Nat.zero_le _, Nat.zero_le _⟩ hl.1 rfl rfl (Nat.le_of_ble_eq_true rfl) dX1_readBehindFactor_72 (fun r_5 v_5 f_5 g_5 H locs hq_5 hP _ hS => ?_)
    obtain ⟨w15_5, rfl, rfl, rfl, rfl, p0_5⟩ := hq_5
    show W p l e (gRm 3 66) s m args below meth c _ _ 0 0 Q (F0 m 75 ls [])
    have hP : gWd D (rwT k ad) (va_up (va_up (va_up (va_up (va_up (va_up v 8 (v 8)) 11 (v 11)) 12 (v 12)) 13 (v 13)) 14 (v 14)) 15 w15_5) (va_up (va_up (va_up f 14 (f 14)) 10 (f 10)) 11 (f 11)) g H := ⟨hP.1, (gF_up (V := rwV) (F := rwF) (gF_up (V := rwV) (F := rwF) (gF_up (V := rwV) (F := rwF) (gR_up (V := rwV) (F := rwF) (gR_up (V := rwV) (F := rwF) (gR_up (V := rwV) (F := rwF) (gR_up (V := rwV) (F := rwF) (gR_up (V := rwV) (F := rwF) (gR_up (V := rwV) (F := rwF) ⟨hok.1, hok.2⟩ 8 (hP.2.1 8)) 11 (hP.2.1 11)) 12 (hP.2.1 12)) 13 (hP.2.1 13)) 14 (hP.2.1 14)) 15 (hP.2.1 15)) 14 (hP.2.2 14)) 10 (hP.2.2 10)) 11 (hP.2.2 11))⟩
    have p0_5 : w15_5 ≠ 0 := p0_5
    have rw15_5 : 0 ≤ w15_5 ∧ w15_5 ≤ 5 := hP.2.1 15
    refine lv_iconst (v := iI 1) hx hb dX1_readBehindFactor_75 rfl ?_
    exact g_zret hQ C hr hlocks (by decide) hP hS dX1_readBehindFactor_76 ⟨1, (v 8), (v 11), (v 12), (v 13), (v 14), w15_5, (f 14), (f 10), (f 11), rfl, rfl, rfl, rfl, (by first | omega | (split <;> omega))⟩
  by_cases c_1_45 : a1 = 45
  · refine lv_tableIn (off := 44) (tgt := 45) hx hb dX1_readBehindFactor_1 (by rw [c_1_45]; decide) (by rw [c_1_45]; decide) (by rw [c_1_45]; rfl) (by decide) ?_
    refine lv_aload_n hx hb dX1_readBehindFactor_45 rfl (lv_at hl 0 rfl) ?_
    refine lv_bipush (v := iI 8) hx hb dX1_readBehindFactor_46 (by decide) ?_
    refine lv_aload_n hx hb dX1_readBehindFactor_48 rfl (lv_at hl 2 rfl) ?_
    refine g_cv (As := [.int (iI 8), .ref (ad 14)]) (rest := []) (n := 2) C hml (c_X1_putSign l D k A ad hD (va_up (va_up (va_up (va_up (va_up (va_up v 8 (v 8)) 11 (v 11)) 12 (v 12)) 13 (v 13)) 14 (v 14)) 15 (v 15)) (va_up (va_up (va_up f 14 (f 14)) 10 (f 10)) 11 (f 11)) g 8 (by decide) (show 0 ≤ (8 : Int) ∧ (8 : Int) ≤ 11 from by omega)) mM_X1_76 mI_X1_putSign mE_X1_putSign mN_X1 mC_X1_putSign (by decide +kernel) 21 (ci := 1) rfl rfl hP hS (fun _ h => h) ⟨Nat.le_of_ble_eq_true rfl, Nat.le_of_ble_eq_true rfl⟩ ⟨Nat.zero_le _, Nat.zero_le _⟩ hl.1 rfl rfl (Nat.le_of_ble_eq_true rfl) dX1_readBehindFactor_49 (fun r_6 v_6 f_6 g_6 H locs hq_6 hP _ hS => ?_)
    obtain ⟨w8_6, w11_6, w14_6, w15_6, a14_6, a10_6, a11_6, rfl, rfl, rfl, rfl⟩ := hq_6
    show W p l e (gRm 3 66) s m args below meth c _ _ 0 0 Q (F0 m 52 ls [])
    have hP : gWd D (rwT k ad) (va_up (va_up (va_up (va_up (va_up (va_up v 8 w8_6) 11 w11_6) 12 (v 12)) 13 (v 13)) 14 w14_6) 15 w15_6) (va_up (va_up (va_up f 14 a14_6) 10 a10_6) 11 a11_6) g H := ⟨hP.1, (gF_up (V := rwV) (F := rwF) (gF_up (V := rwV) (F := rwF) (gF_up (V := rwV) (F := rwF) (gR_up (V := rwV) (F := rwF) (gR_up (V := rwV) (F := rwF) (gR_up (V := rwV) (F := rwF) (gR_up (V := rwV) (F := rwF) (gR_up (V := rwV) (F := rwF) (gR_up (V := rwV) (F := rwF) ⟨hok.1, hok.2⟩ 8 (hP.2.1 8)) 11 (hP.2.1 11)) 12 (hP.2.1 12)) 13 (hP.2.1 13)) 14 (hP.2.1 14)) 15 (hP.2.1 15)) 14 (hP.2.2 14)) 10 (hP.2.2 10)) 11 (hP.2.2 11))⟩
    have rw8_6 : 0 ≤ w8_6 ∧ w8_6 ≤ 40 := hP.2.1 8
    have rw11_6 : 0 ≤ w11_6 ∧ w11_6 ≤ 27 := hP.2.1 11
    have rw14_6 : (-2147483648) ≤ w14_6 ∧ w14_6 ≤ 2147483647 := hP.2.1 14
    have rw15_6 : 0 ≤ w15_6 ∧ w15_6 ≤ 5 := hP.2.1 15
    refine lv_iconst (v := iI 0) hx hb dX1_readBehindFactor_52 rfl ?_
    exact g_zret hQ C hr hlocks (by decide) hP hS dX1_readBehindFactor_53 ⟨0, w8_6, w11_6, (v 12), (v 13), w14_6, w15_6, a14_6, a10_6, a11_6, rfl, rfl, rfl, rfl, (by first | omega | (split <;> omega))⟩
  refine lv_tableOut (tgt := 70) hx hb dX1_readBehindFactor_1 (by rw [iI_toInt (by omega)]; omega) (by decide) ?_
  refine lv_aload_n hx hb dX1_readBehindFactor_70 rfl (lv_at hl 0 rfl) ?_
  refine lv_iload_n hx hb dX1_readBehindFactor_71 rfl (lv_at hl 1 rfl) ?_
  refine g_cv (As := [.int (iI a1)]) (rest := []) (n := 1) C hml (c_X1_refuseToken l D k A ad hD (va_up (va_up (va_up (va_up (va_up (va_up v 8 (v 8)) 11 (v 11)) 12 (v 12)) 13 (v 13)) 14 (v 14)) 15 (v 15)) (va_up (va_up (va_up f 14 (f 14)) 10 (f 10)) 11 (f 11)) g a1 (by omega)) mM_X1_73 mI_X1_refuseToken mE_X1_refuseToken mN_X1 mC_X1_refuseToken (by decide +kernel) 21 (ci := 1) rfl rfl hP hS (fun _ h => h) ⟨Nat.le_of_ble_eq_true rfl, Nat.le_of_ble_eq_true rfl⟩ ⟨Nat.zero_le _, Nat.zero_le _⟩ hl.1 rfl rfl (Nat.le_of_ble_eq_true rfl) dX1_readBehindFactor_72 (fun r_7 v_7 f_7 g_7 H locs hq_7 hP _ hS => ?_)
  obtain ⟨w15_7, rfl, rfl, rfl, rfl, p0_7⟩ := hq_7
  show W p l e (gRm 3 66) s m args below meth c _ _ 0 0 Q (F0 m 75 ls [])
  have hP : gWd D (rwT k ad) (va_up (va_up (va_up (va_up (va_up (va_up v 8 (v 8)) 11 (v 11)) 12 (v 12)) 13 (v 13)) 14 (v 14)) 15 w15_7) (va_up (va_up (va_up f 14 (f 14)) 10 (f 10)) 11 (f 11)) g H := ⟨hP.1, (gF_up (V := rwV) (F := rwF) (gF_up (V := rwV) (F := rwF) (gF_up (V := rwV) (F := rwF) (gR_up (V := rwV) (F := rwF) (gR_up (V := rwV) (F := rwF) (gR_up (V := rwV) (F := rwF) (gR_up (V := rwV) (F := rwF) (gR_up (V := rwV) (F := rwF) (gR_up (V := rwV) (F := rwF) ⟨hok.1, hok.2⟩ 8 (hP.2.1 8)) 11 (hP.2.1 11)) 12 (hP.2.1 12)) 13 (hP.2.1 13)) 14 (hP.2.1 14)) 15 (hP.2.1 15)) 14 (hP.2.2 14)) 10 (hP.2.2 10)) 11 (hP.2.2 11))⟩
  have p0_7 : w15_7 ≠ 0 := p0_7
  have rw15_7 : 0 ≤ w15_7 ∧ w15_7 ≤ 5 := hP.2.1 15
  refine lv_iconst (v := iI 1) hx hb dX1_readBehindFactor_75 rfl ?_
  exact g_zret hQ C hr hlocks (by decide) hP hS dX1_readBehindFactor_76 ⟨1, (v 8), (v 11), (v 12), (v 13), (v 14), w15_7, (f 14), (f 10), (f 11), rfl, rfl, rfl, rfl, (by first | omega | (split <;> omega))⟩

set_option maxHeartbeats 4000000 in
set_option maxRecDepth 100000 in
theorem c_X1_readFactor (l : Launch) (D : va_G) (k : Nat → ClassId) (A : Nat → Prop) (ad : Nat → Nat) (hD : rwD A k ad) (v : gV) (f g : gF) : GM l D k A (rwT k ad) yX1_readFactor cX1_readFactor 5 (some .boolean) 2 43 [.ref (ad 21), .ref (ad 10), .ref (ad 14)] v f g (fun r v1 f1 g1 => ∃ (z : Int) (w8 : Int) (w11 : Int) (w12 : Int) (w13 : Int) (w14 : Int) (w15 : Int) (a14_ : Int → Int) (a10_ : Int → Int) (a11_ : Int → Int), r = some (.int (iI z)) ∧ (va_up (va_up (va_up (va_up (va_up (va_up v 8 w8) 11 w11) 12 w12) 13 w13) 14 w14) 15 w15) = v1 ∧ (va_up (va_up (va_up f 14 a14_) 10 a10_) 11 a11_) = f1 ∧ g = g1 ∧ (0 ≤ z ∧ z ≤ 1)) := by
  refine GM.of (by decide) (Nat.le_of_ble_eq_true rfl) ?_
  intro p e s m args below meth c Q ls hQ C hml hr hlocks hP hl
  have hx := C.1
  have hb := C.2.1
  have hok := hP.2
  have hS : va_S A s.heap s.heap [] := va_S.rf
  have hl : lv_has ls 5 [(0, .ref (ad 21)), (1, .ref (ad 10)), (2, .ref (ad 14))] := hl
  have hP : gWd D (rwT k ad) (va_up (va_up (va_up (va_up (va_up (va_up v 8 (v 8)) 11 (v 11)) 12 (v 12)) 13 (v 13)) 14 (v 14)) 15 (v 15)) (va_up (va_up (va_up f 14 (f 14)) 10 (f 10)) 11 (f 11)) g s.heap := by rw [va_id, va_id, va_id, va_id, va_id, va_id, va_id, va_id, va_id]; exact hP
  refine lv_aload_n hx hb dX1_readFactor_0 rfl (lv_at hl 1 rfl) ?_
  refine g_cv (As := []) (rest := []) (n := 0) C hml (c_X6_kind l D k A ad hD (va_up (va_up (va_up (va_up (va_up (va_up v 8 (v 8)) 11 (v 11)) 12 (v 12)) 13 (v 13)) 14 (v 14)) 15 (v 15)) (va_up (va_up (va_up f 14 (f 14)) 10 (f 10)) 11 (f 11)) g) mM_X1_34 mI_X6_kind mE_X6_kind mN_X6 mC_X6_kind (by decide +kernel) 10 (ci := 6) rfl rfl hP hS (fun _ h => h) ⟨Nat.le_of_ble_eq_true rfl, Nat.le_of_ble_eq_true rfl⟩ ⟨Nat.zero_le _, Nat.zero_le _⟩ hl.1 rfl rfl (Nat.le_of_ble_eq_true rfl) dX1_readFactor_1 (fun r_1 v_1 f_1 g_1 H locs hq_1 hP _ hS => ?_)
  obtain ⟨z_1, rfl, rfl, rfl, rfl, p0_1, p1_1⟩ := hq_1
  show W p l e (gRm 2 43) s m args below meth c _ _ 0 0 Q (F0 m 4 ls [.int (iI z_1)])
  have p0_1 : z_1 = ((f 6) (v 6)) := p0_1
  have p1_1 : 0 ≤ z_1 ∧ z_1 ≤ 300 := p1_1
  have hz_1 : inR z_1 := (by first | omega | (rw [p0_1]; split <;> omega))
  refine lv_istore_n (lv' := [(3, .int (iI z_1)), (0, .ref (ad 21)), (1, .ref (ad 10)), (2, .ref (ad 14))]) hx hb dX1_readFactor_4 rfl hl (by decide) rfl (fun ls hl => ?_)
  refine lv_iload_n hx hb dX1_readFactor_5 rfl (lv_at hl 0 rfl) ?_
  refine lv_sipush (v := iI 272) hx hb dX1_readFactor_6 (by decide) ?_
  refine gi_sub (z := (z_1 - 272)) hx hb dX1_readFactor_9 rfl ?_
  refine lv_istore (lv' := [(4, .int (iI (z_1 - 272))), (3, .int (iI z_1)), (0, .ref (ad 21)), (1, .ref (ad 10)), (2, .ref (ad 14))]) hx hb dX1_readFactor_10 hl (by decide) rfl (fun ls hl => ?_)
  refine lv_iload_n hx hb dX1_readFactor_12 rfl (lv_at hl 1 rfl) ?_
  refine lv_sipush (v := iI 258) hx hb dX1_readFactor_13 (by decide) ?_
  refine gi_ceq (tgt := 31) hx hb dX1_readFactor_16 (by decide) (by omega) (by decide) (fun c_2 => ?_) (fun c_2 => ?_)
  · refine lv_aload_n hx hb dX1_readFactor_31 rfl (lv_at hl 2 rfl) ?_
    refine g_cv (As := []) (rest := []) (n := 0) C hml (c_X1_countItem l D k A ad hD (va_up (va_up (va_up (va_up (va_up (va_up v 8 (v 8)) 11 (v 11)) 12 (v 12)) 13 (v 13)) 14 (v 14)) 15 (v 15)) (va_up (va_up (va_up f 14 (f 14)) 10 (f 10)) 11 (f 11)) g) mM_X1_55 mI_X1_countItem mE_X1_countItem mN_X1 mC_X1_countItem (by decide +kernel) 21 (ci := 1) rfl rfl hP hS (fun _ h => h) ⟨Nat.le_of_ble_eq_true rfl, Nat.le_of_ble_eq_true rfl⟩ ⟨Nat.zero_le _, Nat.zero_le _⟩ hl.1 rfl rfl (Nat.le_of_ble_eq_true rfl) dX1_readFactor_32 (fun r_3 v_3 f_3 g_3 H locs hq_3 hP _ hS => ?_)
    obtain ⟨w14_3, w15_3, rfl, rfl, rfl, rfl⟩ := hq_3
    show W p l e (gRm 2 43) s m args below meth c _ _ 0 0 Q (F0 m 35 ls [])
    have hP : gWd D (rwT k ad) (va_up (va_up (va_up (va_up (va_up (va_up v 8 (v 8)) 11 (v 11)) 12 (v 12)) 13 (v 13)) 14 w14_3) 15 w15_3) (va_up (va_up (va_up f 14 (f 14)) 10 (f 10)) 11 (f 11)) g H := ⟨hP.1, (gF_up (V := rwV) (F := rwF) (gF_up (V := rwV) (F := rwF) (gF_up (V := rwV) (F := rwF) (gR_up (V := rwV) (F := rwF) (gR_up (V := rwV) (F := rwF) (gR_up (V := rwV) (F := rwF) (gR_up (V := rwV) (F := rwF) (gR_up (V := rwV) (F := rwF) (gR_up (V := rwV) (F := rwF) ⟨hok.1, hok.2⟩ 8 (hP.2.1 8)) 11 (hP.2.1 11)) 12 (hP.2.1 12)) 13 (hP.2.1 13)) 14 (hP.2.1 14)) 15 (hP.2.1 15)) 14 (hP.2.2 14)) 10 (hP.2.2 10)) 11 (hP.2.2 11))⟩
    have rw14_3 : (-2147483648) ≤ w14_3 ∧ w14_3 ≤ 2147483647 := hP.2.1 14
    have rw15_3 : 0 ≤ w15_3 ∧ w15_3 ≤ 5 := hP.2.1 15
    refine lv_aload_n hx hb dX1_readFactor_35 rfl (lv_at hl 4 rfl) ?_
    refine lv_iload_n hx hb dX1_readFactor_36 rfl (lv_at hl 1 rfl) ?_
    refine lv_sipush (v := iI 258) hx hb dX1_readFactor_37 (by decide) ?_
    refine gi_cne (tgt := 48) hx hb dX1_readFactor_40 (by decide) (by omega) (by decide) (fun c_4 => ?_) (fun c_4 => ?_)
    · refine lv_iload hx hb dX1_readFactor_48 (lv_at hl 0 rfl) ?_
      refine lv_aload_n hx hb dX1_readFactor_50 rfl (lv_at hl 3 rfl) ?_
      refine g_cv (As := []) (rest := [.int (iI (z_1 - 272)), .ref (ad 14)]) (n := 0) C hml (c_X6_value l D k A ad hD (va_up (va_up (va_up (va_up (va_up (va_up v 8 (v 8)) 11 (v 11)) 12 (v 12)) 13 (v 13)) 14 w14_3) 15 w15_3) (va_up (va_up (va_up f 14 (f 14)) 10 (f 10)) 11 (f 11)) g) mM_X1_58 mI_X6_value mE_X6_value mN_X6 mC_X6_value (by decide +kernel) 10 (ci := 6) rfl rfl hP hS (fun _ h => h) ⟨Nat.le_of_ble_eq_true rfl, Nat.le_of_ble_eq_true rfl⟩ ⟨Nat.zero_le _, Nat.zero_le _⟩ hl.1 rfl rfl (Nat.le_of_ble_eq_true rfl) dX1_readFactor_51 (fun r_5 v_5 f_5 g_5 H locs hq_5 hP _ hS => ?_)
      obtain ⟨z_5, rfl, rfl, rfl, rfl, p0_5, p1_5⟩ := hq_5
      show W p l e (gRm 2 43) s m args below meth c _ _ 0 0 Q (F0 m 54 ls [.int (iI z_5), .int (iI (z_1 - 272)), .ref (ad 14)])
      have p0_5 : z_5 = ((f 8) (v 6)) := p0_5
      have p1_5 : 0 ≤ z_5 ∧ z_5 ≤ 999999 := p1_5
      have hz_5 : inR z_5 := (by first | omega | (rw [p0_5]; split <;> omega))
      refine g_cv (As := [.int (iI (z_1 - 272)), .int (iI z_5)]) (rest := []) (n := 2) C hml (c_X4_addItem l D k A ad hD (va_up (va_up (va_up (va_up (va_up (va_up v 8 (v 8)) 11 (v 11)) 12 (v 12)) 13 (v 13)) 14 w14_3) 15 w15_3) (va_up (va_up (va_up f 14 (f 14)) 10 (f 10)) 11 (f 11)) g (z_1 - 272) z_5 (by omega) (by omega) (show 0 ≤ (z_1 - 272) ∧ (z_1 - 272) ≤ 10 from by omega) (show 0 ≤ z_5 ∧ z_5 ≤ 999999 from by omega)) mM_X1_61 mI_X4_addItem mE_X4_addItem mN_X4 mC_X4_addItem (by decide +kernel) 14 (ci := 4) rfl rfl hP hS (fun _ h => h) ⟨Nat.le_of_ble_eq_true rfl, Nat.le_of_ble_eq_true rfl⟩ ⟨Nat.zero_le _, Nat.zero_le _⟩ hl.1 rfl rfl (Nat.le_of_ble_eq_true rfl) dX1_readFactor_54 (fun r_6 v_6 f_6 g_6 H locs hq_6 hP _ hS => ?_)
      obtain ⟨w8_6, a10_6, a11_6, rfl, rfl, rfl, rfl⟩ := hq_6
      show W p l e (gRm 2 43) s m args below meth c _ _ 0 0 Q (F0 m 57 ls [])
      have hP : gWd D (rwT k ad) (va_up (va_up (va_up (va_up (va_up (va_up v 8 w8_6) 11 (v 11)) 12 (v 12)) 13 (v 13)) 14 w14_3) 15 w15_3) (va_up (va_up (va_up f 14 (f 14)) 10 a10_6) 11 a11_6) g H := ⟨hP.1, (gF_up (V := rwV) (F := rwF) (gF_up (V := rwV) (F := rwF) (gF_up (V := rwV) (F := rwF) (gR_up (V := rwV) (F := rwF) (gR_up (V := rwV) (F := rwF) (gR_up (V := rwV) (F := rwF) (gR_up (V := rwV) (F := rwF) (gR_up (V := rwV) (F := rwF) (gR_up (V := rwV) (F := rwF) ⟨hok.1, hok.2⟩ 8 (hP.2.1 8)) 11 (hP.2.1 11)) 12 (hP.2.1 12)) 13 (hP.2.1 13)) 14 (hP.2.1 14)) 15 (hP.2.1 15)) 14 (hP.2.2 14)) 10 (hP.2.2 10)) 11 (hP.2.2 11))⟩
      have rw8_6 : 0 ≤ w8_6 ∧ w8_6 ≤ 40 := hP.2.1 8
      refine lv_aload_n hx hb dX1_readFactor_57 rfl (lv_at hl 2 rfl) ?_
      refine lv_aload_n hx hb dX1_readFactor_58 rfl (lv_at hl 4 rfl) ?_
      refine g_cv (As := [.ref (ad 14)]) (rest := []) (n := 1) C hml (c_X1_releaseNegations l D k A ad hD (va_up (va_up (va_up (va_up (va_up (va_up v 8 w8_6) 11 (v 11)) 12 (v 12)) 13 (v 13)) 14 w14_3) 15 w15_3) (va_up (va_up (va_up f 14 (f 14)) 10 a10_6) 11 a11_6) g) mM_X1_65 mI_X1_releaseNegations mE_X1_releaseNegations mN_X1 mC_X1_releaseNegations (by decide +kernel) 21 (ci := 1) rfl rfl hP hS (fun _ h => h) ⟨Nat.le_of_ble_eq_true rfl, Nat.le_of_ble_eq_true rfl⟩ ⟨Nat.zero_le _, Nat.zero_le _⟩ hl.1 rfl rfl (Nat.le_of_ble_eq_true rfl) dX1_readFactor_59 (fun r_7 v_7 f_7 g_7 H locs hq_7 hP _ hS => ?_)
      obtain ⟨w8_7, w11_7, w12_7, a10_7, a11_7, rfl, rfl, rfl, rfl⟩ := hq_7
      show W p l e (gRm 2 43) s m args below meth c _ _ 0 0 Q (F0 m 62 ls [])
      have hP : gWd D (rwT k ad) (va_up (va_up (va_up (va_up (va_up (va_up v 8 w8_7) 11 w11_7) 12 w12_7) 13 (v 13)) 14 w14_3) 15 w15_3) (va_up (va_up (va_up f 14 (f 14)) 10 a10_7) 11 a11_7) g H := ⟨hP.1, (gF_up (V := rwV) (F := rwF) (gF_up (V := rwV) (F := rwF) (gF_up (V := rwV) (F := rwF) (gR_up (V := rwV) (F := rwF) (gR_up (V := rwV) (F := rwF) (gR_up (V := rwV) (F := rwF) (gR_up (V := rwV) (F := rwF) (gR_up (V := rwV) (F := rwF) (gR_up (V := rwV) (F := rwF) ⟨hok.1, hok.2⟩ 8 (hP.2.1 8)) 11 (hP.2.1 11)) 12 (hP.2.1 12)) 13 (hP.2.1 13)) 14 (hP.2.1 14)) 15 (hP.2.1 15)) 14 (hP.2.2 14)) 10 (hP.2.2 10)) 11 (hP.2.2 11))⟩
      have rw8_7 : 0 ≤ w8_7 ∧ w8_7 ≤ 40 := hP.2.1 8
      have rw11_7 : 0 ≤ w11_7 ∧ w11_7 ≤ 27 := hP.2.1 11
      have rw12_7 : (-2147483648) ≤ w12_7 ∧ w12_7 ≤ 2147483647 := hP.2.1 12
      refine lv_iconst (v := iI 1) hx hb dX1_readFactor_62 rfl ?_
      exact g_zret hQ C hr hlocks (by decide) hP hS dX1_readFactor_63 ⟨1, w8_7, w11_7, w12_7, (v 13), w14_3, w15_3, (f 14), a10_7, a11_7, rfl, rfl, rfl, rfl, (by first | omega | (split <;> omega))⟩
    · refine lv_bipush (v := iI 6) hx hb dX1_readFactor_43 (by decide) ?_
      refine lv_goto (tgt := 50) hx hb dX1_readFactor_45 (by decide) ?_
      refine lv_aload_n hx hb dX1_readFactor_50 rfl (lv_at hl 3 rfl) ?_
      refine g_cv (As := []) (rest := [.int (iI 6), .ref (ad 14)]) (n := 0) C hml (c_X6_value l D k A ad hD (va_up (va_up (va_up (va_up (va_up (va_up v 8 (v 8)) 11 (v 11)) 12 (v 12)) 13 (v 13)) 14 w14_3) 15 w15_3) (va_up (va_up (va_up f 14 (f 14)) 10 (f 10)) 11 (f 11)) g) mM_X1_58 mI_X6_value mE_X6_value mN_X6 mC_X6_value (by decide +kernel) 10 (ci := 6) rfl rfl hP hS (fun _ h => h) ⟨Nat.le_of_ble_eq_true rfl, Nat.le_of_ble_eq_true rfl⟩ ⟨Nat.zero_le _, Nat.zero_le _⟩ hl.1 rfl rfl (Nat.le_of_ble_eq_true rfl) dX1_readFactor_51 (fun r_8 v_8 f_8 g_8 H locs hq_8 hP _ hS => ?_)
      obtain ⟨z_8, rfl, rfl, rfl, rfl, p0_8, p1_8⟩ := hq_8
      show W p l e (gRm 2 43) s m args below meth c _ _ 0 0 Q (F0 m 54 ls [.int (iI z_8), .int (iI 6), .ref (ad 14)])
      have p0_8 : z_8 = ((f 8) (v 6)) := p0_8
      have p1_8 : 0 ≤ z_8 ∧ z_8 ≤ 999999 := p1_8
      have hz_8 : inR z_8 := (by first | omega | (rw [p0_8]; split <;> omega))
      refine g_cv (As := [.int (iI 6), .int (iI z_8)]) (rest := []) (n := 2) C hml (c_X4_addItem l D k A ad hD (va_up (va_up (va_up (va_up (va_up (va_up v 8 (v 8)) 11 (v 11)) 12 (v 12)) 13 (v 13)) 14 w14_3) 15 w15_3) (va_up (va_up (va_up f 14 (f 14)) 10 (f 10)) 11 (f 11)) g 6 z_8 (by decide) (by omega) (show 0 ≤ (6 : Int) ∧ (6 : Int) ≤ 10 from by omega) (show 0 ≤ z_8 ∧ z_8 ≤ 999999 from by omega)) mM_X1_61 mI_X4_addItem mE_X4_addItem mN_X4 mC_X4_addItem (by decide +kernel) 14 (ci := 4) rfl rfl hP hS (fun _ h => h) ⟨Nat.le_of_ble_eq_true rfl, Nat.le_of_ble_eq_true rfl⟩ ⟨Nat.zero_le _, Nat.zero_le _⟩ hl.1 rfl rfl (Nat.le_of_ble_eq_true rfl) dX1_readFactor_54 (fun r_9 v_9 f_9 g_9 H locs hq_9 hP _ hS => ?_)
      obtain ⟨w8_9, a10_9, a11_9, rfl, rfl, rfl, rfl⟩ := hq_9
      show W p l e (gRm 2 43) s m args below meth c _ _ 0 0 Q (F0 m 57 ls [])
      have hP : gWd D (rwT k ad) (va_up (va_up (va_up (va_up (va_up (va_up v 8 w8_9) 11 (v 11)) 12 (v 12)) 13 (v 13)) 14 w14_3) 15 w15_3) (va_up (va_up (va_up f 14 (f 14)) 10 a10_9) 11 a11_9) g H := ⟨hP.1, (gF_up (V := rwV) (F := rwF) (gF_up (V := rwV) (F := rwF) (gF_up (V := rwV) (F := rwF) (gR_up (V := rwV) (F := rwF) (gR_up (V := rwV) (F := rwF) (gR_up (V := rwV) (F := rwF) (gR_up (V := rwV) (F := rwF) (gR_up (V := rwV) (F := rwF) (gR_up (V := rwV) (F := rwF) ⟨hok.1, hok.2⟩ 8 (hP.2.1 8)) 11 (hP.2.1 11)) 12 (hP.2.1 12)) 13 (hP.2.1 13)) 14 (hP.2.1 14)) 15 (hP.2.1 15)) 14 (hP.2.2 14)) 10 (hP.2.2 10)) 11 (hP.2.2 11))⟩
      have rw8_9 : 0 ≤ w8_9 ∧ w8_9 ≤ 40 := hP.2.1 8
      refine lv_aload_n hx hb dX1_readFactor_57 rfl (lv_at hl 2 rfl) ?_
      refine lv_aload_n hx hb dX1_readFactor_58 rfl (lv_at hl 4 rfl) ?_
      refine g_cv (As := [.ref (ad 14)]) (rest := []) (n := 1) C hml (c_X1_releaseNegations l D k A ad hD (va_up (va_up (va_up (va_up (va_up (va_up v 8 w8_9) 11 (v 11)) 12 (v 12)) 13 (v 13)) 14 w14_3) 15 w15_3) (va_up (va_up (va_up f 14 (f 14)) 10 a10_9) 11 a11_9) g) mM_X1_65 mI_X1_releaseNegations mE_X1_releaseNegations mN_X1 mC_X1_releaseNegations (by decide +kernel) 21 (ci := 1) rfl rfl hP hS (fun _ h => h) ⟨Nat.le_of_ble_eq_true rfl, Nat.le_of_ble_eq_true rfl⟩ ⟨Nat.zero_le _, Nat.zero_le _⟩ hl.1 rfl rfl (Nat.le_of_ble_eq_true rfl) dX1_readFactor_59 (fun r_10 v_10 f_10 g_10 H locs hq_10 hP _ hS => ?_)
      obtain ⟨w8_10, w11_10, w12_10, a10_10, a11_10, rfl, rfl, rfl, rfl⟩ := hq_10
      show W p l e (gRm 2 43) s m args below meth c _ _ 0 0 Q (F0 m 62 ls [])
      have hP : gWd D (rwT k ad) (va_up (va_up (va_up (va_up (va_up (va_up v 8 w8_10) 11 w11_10) 12 w12_10) 13 (v 13)) 14 w14_3) 15 w15_3) (va_up (va_up (va_up f 14 (f 14)) 10 a10_10) 11 a11_10) g H := ⟨hP.1, (gF_up (V := rwV) (F := rwF) (gF_up (V := rwV) (F := rwF) (gF_up (V := rwV) (F := rwF) (gR_up (V := rwV) (F := rwF) (gR_up (V := rwV) (F := rwF) (gR_up (V := rwV) (F := rwF) (gR_up (V := rwV) (F := rwF) (gR_up (V := rwV) (F := rwF) (gR_up (V := rwV) (F := rwF) ⟨hok.1, hok.2⟩ 8 (hP.2.1 8)) 11 (hP.2.1 11)) 12 (hP.2.1 12)) 13 (hP.2.1 13)) 14 (hP.2.1 14)) 15 (hP.2.1 15)) 14 (hP.2.2 14)) 10 (hP.2.2 10)) 11 (hP.2.2 11))⟩
      have rw8_10 : 0 ≤ w8_10 ∧ w8_10 ≤ 40 := hP.2.1 8
      have rw11_10 : 0 ≤ w11_10 ∧ w11_10 ≤ 27 := hP.2.1 11
      have rw12_10 : (-2147483648) ≤ w12_10 ∧ w12_10 ≤ 2147483647 := hP.2.1 12
      refine lv_iconst (v := iI 1) hx hb dX1_readFactor_62 rfl ?_
      exact g_zret hQ C hr hlocks (by decide) hP hS dX1_readFactor_63 ⟨1, w8_10, w11_10, w12_10, (v 13), w14_3, w15_3, (f 14), a10_10, a11_10, rfl, rfl, rfl, rfl, (by first | omega | (split <;> omega))⟩
  · refine lv_iload hx hb dX1_readFactor_19 (lv_at hl 0 rfl) ?_
    refine gi_zlt (tgt := 64) hx hb dX1_readFactor_21 (by decide) (by omega) (fun c_11 => ?_) (fun c_11 => ?_)
    · refine lv_iload_n hx hb dX1_readFactor_64 rfl (lv_at hl 1 rfl) ?_
      refine lv_bipush (v := iI 40) hx hb dX1_readFactor_65 (by decide) ?_
      refine gi_cne (tgt := 89) hx hb dX1_readFactor_67 (by decide) (by omega) (by decide) (fun c_12 => ?_) (fun c_12 => ?_)
      · refine lv_iload_n hx hb dX1_readFactor_89 rfl (lv_at hl 1 rfl) ?_
        refine lv_bipush (v := iI 45) hx hb dX1_readFactor_90 (by decide) ?_
        refine gi_cne (tgt := 108) hx hb dX1_readFactor_92 (by decide) (by omega) (by decide) (fun c_13 => ?_) (fun c_13 => ?_)
        · refine lv_aload_n hx hb dX1_readFactor_108 rfl (lv_at hl 2 rfl) ?_
          refine lv_iload_n hx hb dX1_readFactor_109 rfl (lv_at hl 1 rfl) ?_
          refine g_cv (As := [.int (iI z_1)]) (rest := []) (n := 1) C hml (c_X1_refuseToken l D k A ad hD (va_up (va_up (va_up (va_up (va_up (va_up v 8 (v 8)) 11 (v 11)) 12 (v 12)) 13 (v 13)) 14 (v 14)) 15 (v 15)) (va_up (va_up (va_up f 14 (f 14)) 10 (f 10)) 11 (f 11)) g z_1 (by omega)) mM_X1_73 mI_X1_refuseToken mE_X1_refuseToken mN_X1 mC_X1_refuseToken (by decide +kernel) 21 (ci := 1) rfl rfl hP hS (fun _ h => h) ⟨Nat.le_of_ble_eq_true rfl, Nat.le_of_ble_eq_true rfl⟩ ⟨Nat.zero_le _, Nat.zero_le _⟩ hl.1 rfl rfl (Nat.le_of_ble_eq_true rfl) dX1_readFactor_110 (fun r_14 v_14 f_14 g_14 H locs hq_14 hP _ hS => ?_)
          obtain ⟨w15_14, rfl, rfl, rfl, rfl, p0_14⟩ := hq_14
          show W p l e (gRm 2 43) s m args below meth c _ _ 0 0 Q (F0 m 113 ls [])
          have hP : gWd D (rwT k ad) (va_up (va_up (va_up (va_up (va_up (va_up v 8 (v 8)) 11 (v 11)) 12 (v 12)) 13 (v 13)) 14 (v 14)) 15 w15_14) (va_up (va_up (va_up f 14 (f 14)) 10 (f 10)) 11 (f 11)) g H := ⟨hP.1, (gF_up (V := rwV) (F := rwF) (gF_up (V := rwV) (F := rwF) (gF_up (V := rwV) (F := rwF) (gR_up (V := rwV) (F := rwF) (gR_up (V := rwV) (F := rwF) (gR_up (V := rwV) (F := rwF) (gR_up (V := rwV) (F := rwF) (gR_up (V := rwV) (F := rwF) (gR_up (V := rwV) (F := rwF) ⟨hok.1, hok.2⟩ 8 (hP.2.1 8)) 11 (hP.2.1 11)) 12 (hP.2.1 12)) 13 (hP.2.1 13)) 14 (hP.2.1 14)) 15 (hP.2.1 15)) 14 (hP.2.2 14)) 10 (hP.2.2 10)) 11 (hP.2.2 11))⟩
          have p0_14 : w15_14 ≠ 0 := p0_14
          have rw15_14 : 0 ≤ w15_14 ∧ w15_14 ≤ 5 := hP.2.1 15
          refine lv_iconst (v := iI 0) hx hb dX1_readFactor_113 rfl ?_
          exact g_zret hQ C hr hlocks (by decide) hP hS dX1_readFactor_114 ⟨0, (v 8), (v 11), (v 12), (v 13), (v 14), w15_14, (f 14), (f 10), (f 11), rfl, rfl, rfl, rfl, (by first | omega | (split <;> omega))⟩
        · refine lv_aload_n hx hb dX1_readFactor_95 rfl (lv_at hl 2 rfl) ?_
          refine g_cv (As := []) (rest := []) (n := 0) C hml (c_X1_countItem l D k A ad hD (va_up (va_up (va_up (va_up (va_up (va_up v 8 (v 8)) 11 (v 11)) 12 (v 12)) 13 (v 13)) 14 (v 14)) 15 (v 15)) (va_up (va_up (va_up f 14 (f 14)) 10 (f 10)) 11 (f 11)) g) mM_X1_55 mI_X1_countItem mE_X1_countItem mN_X1 mC_X1_countItem (by decide +kernel) 21 (ci := 1) rfl rfl hP hS (fun _ h => h) ⟨Nat.le_of_ble_eq_true rfl, Nat.le_of_ble_eq_true rfl⟩ ⟨Nat.zero_le _, Nat.zero_le _⟩ hl.1 rfl rfl (Nat.le_of_ble_eq_true rfl) dX1_readFactor_96 (fun r_15 v_15 f_15 g_15 H locs hq_15 hP _ hS => ?_)
          obtain ⟨w14_15, w15_15, rfl, rfl, rfl, rfl⟩ := hq_15
          show W p l e (gRm 2 43) s m args below meth c _ _ 0 0 Q (F0 m 99 ls [])
          have hP : gWd D (rwT k ad) (va_up (va_up (va_up (va_up (va_up (va_up v 8 (v 8)) 11 (v 11)) 12 (v 12)) 13 (v 13)) 14 w14_15) 15 w15_15) (va_up (va_up (va_up f 14 (f 14)) 10 (f 10)) 11 (f 11)) g H := ⟨hP.1, (gF_up (V := rwV) (F := rwF) (gF_up (V := rwV) (F := rwF) (gF_up (V := rwV) (F := rwF) (gR_up (V := rwV) (F := rwF) (gR_up (V := rwV) (F := rwF) (gR_up (V := rwV) (F := rwF) (gR_up (V := rwV) (F := rwF) (gR_up (V := rwV) (F := rwF) (gR_up (V := rwV) (F := rwF) ⟨hok.1, hok.2⟩ 8 (hP.2.1 8)) 11 (hP.2.1 11)) 12 (hP.2.1 12)) 13 (hP.2.1 13)) 14 (hP.2.1 14)) 15 (hP.2.1 15)) 14 (hP.2.2 14)) 10 (hP.2.2 10)) 11 (hP.2.2 11))⟩
          have rw14_15 : (-2147483648) ≤ w14_15 ∧ w14_15 ≤ 2147483647 := hP.2.1 14
          have rw15_15 : 0 ≤ w15_15 ∧ w15_15 ≤ 5 := hP.2.1 15
          refine lv_aload_n hx hb dX1_readFactor_99 rfl (lv_at hl 2 rfl) ?_
          refine lv_bipush (v := iI 10) hx hb dX1_readFactor_100 (by decide) ?_
          refine g_cv (As := [.int (iI 10)]) (rest := []) (n := 1) C hml (c_X1_nest l D k A ad hD (va_up (va_up (va_up (va_up (va_up (va_up v 8 (v 8)) 11 (v 11)) 12 (v 12)) 13 (v 13)) 14 w14_15) 15 w15_15) (va_up (va_up (va_up f 14 (f 14)) 10 (f 10)) 11 (f 11)) g 10 (by decide) (show 0 ≤ (10 : Int) ∧ (10 : Int) ≤ 11 from by omega)) mM_X1_69 mI_X1_nest mE_X1_nest mN_X1 mC_X1_nest (by decide +kernel) 21 (ci := 1) rfl rfl hP hS (fun _ h => h) ⟨Nat.le_of_ble_eq_true rfl, Nat.le_of_ble_eq_true rfl⟩ ⟨Nat.zero_le _, Nat.zero_le _⟩ hl.1 rfl rfl (Nat.le_of_ble_eq_true rfl) dX1_readFactor_102 (fun r_16 v_16 f_16 g_16 H locs hq_16 hP _ hS => ?_)
          obtain ⟨w11_16, w12_16, w15_16, a14_16, rfl, rfl, rfl, rfl⟩ := hq_16
          show W p l e (gRm 2 43) s m args below meth c _ _ 0 0 Q (F0 m 105 ls [])
          have hP : gWd D (rwT k ad) (va_up (va_up (va_up (va_up (va_up (va_up v 8 (v 8)) 11 w11_16) 12 w12_16) 13 (v 13)) 14 w14_15) 15 w15_16) (va_up (va_up (va_up f 14 a14_16) 10 (f 10)) 11 (f 11)) g H := ⟨hP.1, (gF_up (V := rwV) (F := rwF) (gF_up (V := rwV) (F := rwF) (gF_up (V := rwV) (F := rwF) (gR_up (V := rwV) (F := rwF) (gR_up (V := rwV) (F := rwF) (gR_up (V := rwV) (F := rwF) (gR_up (V := rwV) (F := rwF) (gR_up (V := rwV) (F := rwF) (gR_up (V := rwV) (F := rwF) ⟨hok.1, hok.2⟩ 8 (hP.2.1 8)) 11 (hP.2.1 11)) 12 (hP.2.1 12)) 13 (hP.2.1 13)) 14 (hP.2.1 14)) 15 (hP.2.1 15)) 14 (hP.2.2 14)) 10 (hP.2.2 10)) 11 (hP.2.2 11))⟩
          have rw11_16 : 0 ≤ w11_16 ∧ w11_16 ≤ 27 := hP.2.1 11
          have rw12_16 : (-2147483648) ≤ w12_16 ∧ w12_16 ≤ 2147483647 := hP.2.1 12
          have rw15_16 : 0 ≤ w15_16 ∧ w15_16 ≤ 5 := hP.2.1 15
          refine lv_goto (tgt := 113) hx hb dX1_readFactor_105 (by decide) ?_
          refine lv_iconst (v := iI 0) hx hb dX1_readFactor_113 rfl ?_
          exact g_zret hQ C hr hlocks (by decide) hP hS dX1_readFactor_114 ⟨0, (v 8), w11_16, w12_16, (v 13), w14_15, w15_16, a14_16, (f 10), (f 11), rfl, rfl, rfl, rfl, (by first | omega | (split <;> omega))⟩
      · refine lv_aload_n hx hb dX1_readFactor_70 rfl (lv_at hl 2 rfl) ?_
        refine lv_bipush (v := iI 11) hx hb dX1_readFactor_71 (by decide) ?_
        refine g_cv (As := [.int (iI 11)]) (rest := []) (n := 1) C hml (c_X1_nest l D k A ad hD (va_up (va_up (va_up (va_up (va_up (va_up v 8 (v 8)) 11 (v 11)) 12 (v 12)) 13 (v 13)) 14 (v 14)) 15 (v 15)) (va_up (va_up (va_up f 14 (f 14)) 10 (f 10)) 11 (f 11)) g 11 (by decide) (show 0 ≤ (11 : Int) ∧ (11 : Int) ≤ 11 from by omega)) mM_X1_69 mI_X1_nest mE_X1_nest mN_X1 mC_X1_nest (by decide +kernel) 21 (ci := 1) rfl rfl hP hS (fun _ h => h) ⟨Nat.le_of_ble_eq_true rfl, Nat.le_of_ble_eq_true rfl⟩ ⟨Nat.zero_le _, Nat.zero_le _⟩ hl.1 rfl rfl (Nat.le_of_ble_eq_true rfl) dX1_readFactor_73 (fun r_17 v_17 f_17 g_17 H locs hq_17 hP _ hS => ?_)
        obtain ⟨w11_17, w12_17, w15_17, a14_17, rfl, rfl, rfl, rfl⟩ := hq_17
        show W p l e (gRm 2 43) s m args below meth c _ _ 0 0 Q (F0 m 76 ls [])
        have hP : gWd D (rwT k ad) (va_up (va_up (va_up (va_up (va_up (va_up v 8 (v 8)) 11 w11_17) 12 w12_17) 13 (v 13)) 14 (v 14)) 15 w15_17) (va_up (va_up (va_up f 14 a14_17) 10 (f 10)) 11 (f 11)) g H := ⟨hP.1, (gF_up (V := rwV) (F := rwF) (gF_up (V := rwV) (F := rwF) (gF_up (V := rwV) (F := rwF) (gR_up (V := rwV) (F := rwF) (gR_up (V := rwV) (F := rwF) (gR_up (V := rwV) (F := rwF) (gR_up (V := rwV) (F := rwF) (gR_up (V := rwV) (F := rwF) (gR_up (V := rwV) (F := rwF) ⟨hok.1, hok.2⟩ 8 (hP.2.1 8)) 11 (hP.2.1 11)) 12 (hP.2.1 12)) 13 (hP.2.1 13)) 14 (hP.2.1 14)) 15 (hP.2.1 15)) 14 (hP.2.2 14)) 10 (hP.2.2 10)) 11 (hP.2.2 11))⟩
        have rw11_17 : 0 ≤ w11_17 ∧ w11_17 ≤ 27 := hP.2.1 11
        have rw12_17 : (-2147483648) ≤ w12_17 ∧ w12_17 ≤ 2147483647 := hP.2.1 12
        have rw15_17 : 0 ≤ w15_17 ∧ w15_17 ≤ 5 := hP.2.1 15
        refine lv_aload_n hx hb dX1_readFactor_76 rfl (lv_at hl 2 rfl) ?_
        refine lv_dup hx hb dX1_readFactor_77 rfl ?_
        refine rwG_reader_expression_parens C hP mF_X1_27 dX1_readFactor_78 ?_
        show W p l e (gRm 2 43) s m args below meth c _ _ 0 0 Q (F0 m 81 ls [.int (iI (v 13)), .ref (ad 21)])
        have r_18 : (-2147483648) ≤ (v 13) ∧ (v 13) ≤ 2147483647 := hok.1 13
        refine lv_iconst (v := iI 1) hx hb dX1_readFactor_81 rfl ?_
        refine gi_add (z := ((v 13) + 1)) hx hb dX1_readFactor_82 rfl ?_
        obtain ⟨x_19, ex_19, hx_19⟩ : ∃ z : Int, iI ((v 13) + 1) = iI z ∧ inR z := ⟨(iI ((v 13) + 1)).toInt, (iI_of _).symm, iI_rng _⟩
        refine gi_norm ex_19 ?_
        refine rwP_reader_expression_parens (v1 := (va_up (va_up (va_up (va_up (va_up (va_up v 8 (v 8)) 11 w11_17) 12 w12_17) 13 x_19) 14 (v 14)) 15 w15_17)) C hP hD hS mF_X1_27 (by omega) rfl (Or.inr (gF_up (V := rwV) (F := rwF) (gF_up (V := rwV) (F := rwF) (gF_up (V := rwV) (F := rwF) (gR_up (V := rwV) (F := rwF) (gR_up (V := rwV) (F := rwF) (gR_up (V := rwV) (F := rwF) (gR_up (V := rwV) (F := rwF) (gR_up (V := rwV) (F := rwF) (gR_up (V := rwV) (F := rwF) ⟨hok.1, hok.2⟩ 8 (hP.2.1 8)) 11 (hP.2.1 11)) 12 (hP.2.1 12)) 13 (show (-2147483648) ≤ x_19 ∧ x_19 ≤ 2147483647 from by omega)) 14 (hP.2.1 14)) 15 (hP.2.1 15)) 14 (hP.2.2 14)) 10 (hP.2.2 10)) 11 (hP.2.2 11))) dX1_readFactor_83 (fun H locs hP hS => ?_)
        refine lv_goto (tgt := 113) hx hb dX1_readFactor_86 (by decide) ?_
        refine lv_iconst (v := iI 0) hx hb dX1_readFactor_113 rfl ?_
        exact g_zret hQ C hr hlocks (by decide) hP hS dX1_readFactor_114 ⟨0, (v 8), w11_17, w12_17, x_19, (v 14), w15_17, a14_17, (f 10), (f 11), rfl, rfl, rfl, rfl, (by first | omega | (split <;> omega))⟩
    · refine lv_iload hx hb dX1_readFactor_24 (lv_at hl 0 rfl) ?_
      refine lv_bipush (v := iI 6) hx hb dX1_readFactor_26 (by decide) ?_
      refine gi_cge (tgt := 64) hx hb dX1_readFactor_28 (by decide) (by omega) (by decide) (fun c_20 => ?_) (fun c_20 => ?_)
      · refine lv_iload_n hx hb dX1_readFactor_64 rfl (lv_at hl 1 rfl) ?_
        refine lv_bipush (v := iI 40) hx hb dX1_readFactor_65 (by decide) ?_
        refine gi_cne (tgt := 89) hx hb dX1_readFactor_67 (by decide) (by omega) (by decide) (fun c_21 => ?_) (fun c_21 => ?_)
        · refine lv_iload_n hx hb dX1_readFactor_89 rfl (lv_at hl 1 rfl) ?_
          refine lv_bipush (v := iI 45) hx hb dX1_readFactor_90 (by decide) ?_
          refine gi_cne (tgt := 108) hx hb dX1_readFactor_92 (by decide) (by omega) (by decide) (fun c_22 => ?_) (fun c_22 => ?_)
          · refine lv_aload_n hx hb dX1_readFactor_108 rfl (lv_at hl 2 rfl) ?_
            refine lv_iload_n hx hb dX1_readFactor_109 rfl (lv_at hl 1 rfl) ?_
            refine g_cv (As := [.int (iI z_1)]) (rest := []) (n := 1) C hml (c_X1_refuseToken l D k A ad hD (va_up (va_up (va_up (va_up (va_up (va_up v 8 (v 8)) 11 (v 11)) 12 (v 12)) 13 (v 13)) 14 (v 14)) 15 (v 15)) (va_up (va_up (va_up f 14 (f 14)) 10 (f 10)) 11 (f 11)) g z_1 (by omega)) mM_X1_73 mI_X1_refuseToken mE_X1_refuseToken mN_X1 mC_X1_refuseToken (by decide +kernel) 21 (ci := 1) rfl rfl hP hS (fun _ h => h) ⟨Nat.le_of_ble_eq_true rfl, Nat.le_of_ble_eq_true rfl⟩ ⟨Nat.zero_le _, Nat.zero_le _⟩ hl.1 rfl rfl (Nat.le_of_ble_eq_true rfl) dX1_readFactor_110 (fun r_23 v_23 f_23 g_23 H locs hq_23 hP _ hS => ?_)
            obtain ⟨w15_23, rfl, rfl, rfl, rfl, p0_23⟩ := hq_23
            show W p l e (gRm 2 43) s m args below meth c _ _ 0 0 Q (F0 m 113 ls [])
            have hP : gWd D (rwT k ad) (va_up (va_up (va_up (va_up (va_up (va_up v 8 (v 8)) 11 (v 11)) 12 (v 12)) 13 (v 13)) 14 (v 14)) 15 w15_23) (va_up (va_up (va_up f 14 (f 14)) 10 (f 10)) 11 (f 11)) g H := ⟨hP.1, (gF_up (V := rwV) (F := rwF) (gF_up (V := rwV) (F := rwF) (gF_up (V := rwV) (F := rwF) (gR_up (V := rwV) (F := rwF) (gR_up (V := rwV) (F := rwF) (gR_up (V := rwV) (F := rwF) (gR_up (V := rwV) (F := rwF) (gR_up (V := rwV) (F := rwF) (gR_up (V := rwV) (F := rwF) ⟨hok.1, hok.2⟩ 8 (hP.2.1 8)) 11 (hP.2.1 11)) 12 (hP.2.1 12)) 13 (hP.2.1 13)) 14 (hP.2.1 14)) 15 (hP.2.1 15)) 14 (hP.2.2 14)) 10 (hP.2.2 10)) 11 (hP.2.2 11))⟩
            have p0_23 : w15_23 ≠ 0 := p0_23
            have rw15_23 : 0 ≤ w15_23 ∧ w15_23 ≤ 5 := hP.2.1 15
            refine lv_iconst (v := iI 0) hx hb dX1_readFactor_113 rfl ?_
            exact g_zret hQ C hr hlocks (by decide) hP hS dX1_readFactor_114 ⟨0, (v 8), (v 11), (v 12), (v 13), (v 14), w15_23, (f 14), (f 10), (f 11), rfl, rfl, rfl, rfl, (by first | omega | (split <;> omega))⟩
          · refine lv_aload_n hx hb dX1_readFactor_95 rfl (lv_at hl 2 rfl) ?_
            refine g_cv (As := []) (rest := []) (n := 0) C hml (c_X1_countItem l D k A ad hD (va_up (va_up (va_up (va_up (va_up (va_up v 8 (v 8)) 11 (v 11)) 12 (v 12)) 13 (v 13)) 14 (v 14)) 15 (v 15)) (va_up (va_up (va_up f 14 (f 14)) 10 (f 10)) 11 (f 11)) g) mM_X1_55 mI_X1_countItem mE_X1_countItem mN_X1 mC_X1_countItem (by decide +kernel) 21 (ci := 1) rfl rfl hP hS (fun _ h => h) ⟨Nat.le_of_ble_eq_true rfl, Nat.le_of_ble_eq_true rfl⟩ ⟨Nat.zero_le _, Nat.zero_le _⟩ hl.1 rfl rfl (Nat.le_of_ble_eq_true rfl) dX1_readFactor_96 (fun r_24 v_24 f_24 g_24 H locs hq_24 hP _ hS => ?_)
            obtain ⟨w14_24, w15_24, rfl, rfl, rfl, rfl⟩ := hq_24
            show W p l e (gRm 2 43) s m args below meth c _ _ 0 0 Q (F0 m 99 ls [])
            have hP : gWd D (rwT k ad) (va_up (va_up (va_up (va_up (va_up (va_up v 8 (v 8)) 11 (v 11)) 12 (v 12)) 13 (v 13)) 14 w14_24) 15 w15_24) (va_up (va_up (va_up f 14 (f 14)) 10 (f 10)) 11 (f 11)) g H := ⟨hP.1, (gF_up (V := rwV) (F := rwF) (gF_up (V := rwV) (F := rwF) (gF_up (V := rwV) (F := rwF) (gR_up (V := rwV) (F := rwF) (gR_up (V := rwV) (F := rwF) (gR_up (V := rwV) (F := rwF) (gR_up (V := rwV) (F := rwF) (gR_up (V := rwV) (F := rwF) (gR_up (V := rwV) (F := rwF) ⟨hok.1, hok.2⟩ 8 (hP.2.1 8)) 11 (hP.2.1 11)) 12 (hP.2.1 12)) 13 (hP.2.1 13)) 14 (hP.2.1 14)) 15 (hP.2.1 15)) 14 (hP.2.2 14)) 10 (hP.2.2 10)) 11 (hP.2.2 11))⟩
            have rw14_24 : (-2147483648) ≤ w14_24 ∧ w14_24 ≤ 2147483647 := hP.2.1 14
            have rw15_24 : 0 ≤ w15_24 ∧ w15_24 ≤ 5 := hP.2.1 15
            refine lv_aload_n hx hb dX1_readFactor_99 rfl (lv_at hl 2 rfl) ?_
            refine lv_bipush (v := iI 10) hx hb dX1_readFactor_100 (by decide) ?_
            refine g_cv (As := [.int (iI 10)]) (rest := []) (n := 1) C hml (c_X1_nest l D k A ad hD (va_up (va_up (va_up (va_up (va_up (va_up v 8 (v 8)) 11 (v 11)) 12 (v 12)) 13 (v 13)) 14 w14_24) 15 w15_24) (va_up (va_up (va_up f 14 (f 14)) 10 (f 10)) 11 (f 11)) g 10 (by decide) (show 0 ≤ (10 : Int) ∧ (10 : Int) ≤ 11 from by omega)) mM_X1_69 mI_X1_nest mE_X1_nest mN_X1 mC_X1_nest (by decide +kernel) 21 (ci := 1) rfl rfl hP hS (fun _ h => h) ⟨Nat.le_of_ble_eq_true rfl, Nat.le_of_ble_eq_true rfl⟩ ⟨Nat.zero_le _, Nat.zero_le _⟩ hl.1 rfl rfl (Nat.le_of_ble_eq_true rfl) dX1_readFactor_102 (fun r_25 v_25 f_25 g_25 H locs hq_25 hP _ hS => ?_)
            obtain ⟨w11_25, w12_25, w15_25, a14_25, rfl, rfl, rfl, rfl⟩ := hq_25
            show W p l e (gRm 2 43) s m args below meth c _ _ 0 0 Q (F0 m 105 ls [])
            have hP : gWd D (rwT k ad) (va_up (va_up (va_up (va_up (va_up (va_up v 8 (v 8)) 11 w11_25) 12 w12_25) 13 (v 13)) 14 w14_24) 15 w15_25) (va_up (va_up (va_up f 14 a14_25) 10 (f 10)) 11 (f 11)) g H := ⟨hP.1, (gF_up (V := rwV) (F := rwF) (gF_up (V := rwV) (F := rwF) (gF_up (V := rwV) (F := rwF) (gR_up (V := rwV) (F := rwF) (gR_up (V := rwV) (F := rwF) (gR_up (V := rwV) (F := rwF) (gR_up (V := rwV) (F := rwF) (gR_up (V := rwV) (F := rwF) (gR_up (V := rwV) (F := rwF) ⟨hok.1, hok.2⟩ 8 (hP.2.1 8)) 11 (hP.2.1 11)) 12 (hP.2.1 12)) 13 (hP.2.1 13)) 14 (hP.2.1 14)) 15 (hP.2.1 15)) 14 (hP.2.2 14)) 10 (hP.2.2 10)) 11 (hP.2.2 11))⟩
            have rw11_25 : 0 ≤ w11_25 ∧ w11_25 ≤ 27 := hP.2.1 11
            have rw12_25 : (-2147483648) ≤ w12_25 ∧ w12_25 ≤ 2147483647 := hP.2.1 12
            have rw15_25 : 0 ≤ w15_25 ∧ w15_25 ≤ 5 := hP.2.1 15
            refine lv_goto (tgt := 113) hx hb dX1_readFactor_105 (by decide) ?_
            refine lv_iconst (v := iI 0) hx hb dX1_readFactor_113 rfl ?_
            exact g_zret hQ C hr hlocks (by decide) hP hS dX1_readFactor_114 ⟨0, (v 8), w11_25, w12_25, (v 13), w14_24, w15_25, a14_25, (f 10), (f 11), rfl, rfl, rfl, rfl, (by first | omega | (split <;> omega))⟩
        · refine lv_aload_n hx hb dX1_readFactor_70 rfl (lv_at hl 2 rfl) ?_
          refine lv_bipush (v := iI 11) hx hb dX1_readFactor_71 (by decide) ?_
          refine g_cv (As := [.int (iI 11)]) (rest := []) (n := 1) C hml (c_X1_nest l D k A ad hD (va_up (va_up (va_up (va_up (va_up (va_up v 8 (v 8)) 11 (v 11)) 12 (v 12)) 13 (v 13)) 14 (v 14)) 15 (v 15)) (va_up (va_up (va_up f 14 (f 14)) 10 (f 10)) 11 (f 11)) g 11 (by decide) (show 0 ≤ (11 : Int) ∧ (11 : Int) ≤ 11 from by omega)) mM_X1_69 mI_X1_nest mE_X1_nest mN_X1 mC_X1_nest (by decide +kernel) 21 (ci := 1) rfl rfl hP hS (fun _ h => h) ⟨Nat.le_of_ble_eq_true rfl, Nat.le_of_ble_eq_true rfl⟩ ⟨Nat.zero_le _, Nat.zero_le _⟩ hl.1 rfl rfl (Nat.le_of_ble_eq_true rfl) dX1_readFactor_73 (fun r_26 v_26 f_26 g_26 H locs hq_26 hP _ hS => ?_)
          obtain ⟨w11_26, w12_26, w15_26, a14_26, rfl, rfl, rfl, rfl⟩ := hq_26
          show W p l e (gRm 2 43) s m args below meth c _ _ 0 0 Q (F0 m 76 ls [])
          have hP : gWd D (rwT k ad) (va_up (va_up (va_up (va_up (va_up (va_up v 8 (v 8)) 11 w11_26) 12 w12_26) 13 (v 13)) 14 (v 14)) 15 w15_26) (va_up (va_up (va_up f 14 a14_26) 10 (f 10)) 11 (f 11)) g H := ⟨hP.1, (gF_up (V := rwV) (F := rwF) (gF_up (V := rwV) (F := rwF) (gF_up (V := rwV) (F := rwF) (gR_up (V := rwV) (F := rwF) (gR_up (V := rwV) (F := rwF) (gR_up (V := rwV) (F := rwF) (gR_up (V := rwV) (F := rwF) (gR_up (V := rwV) (F := rwF) (gR_up (V := rwV) (F := rwF) ⟨hok.1, hok.2⟩ 8 (hP.2.1 8)) 11 (hP.2.1 11)) 12 (hP.2.1 12)) 13 (hP.2.1 13)) 14 (hP.2.1 14)) 15 (hP.2.1 15)) 14 (hP.2.2 14)) 10 (hP.2.2 10)) 11 (hP.2.2 11))⟩
          have rw11_26 : 0 ≤ w11_26 ∧ w11_26 ≤ 27 := hP.2.1 11
          have rw12_26 : (-2147483648) ≤ w12_26 ∧ w12_26 ≤ 2147483647 := hP.2.1 12
          have rw15_26 : 0 ≤ w15_26 ∧ w15_26 ≤ 5 := hP.2.1 15
          refine lv_aload_n hx hb dX1_readFactor_76 rfl (lv_at hl 2 rfl) ?_
          refine lv_dup hx hb dX1_readFactor_77 rfl ?_
          refine rwG_reader_expression_parens C hP mF_X1_27 dX1_readFactor_78 ?_
          show W p l e (gRm 2 43) s m args below meth c _ _ 0 0 Q (F0 m 81 ls [.int (iI (v 13)), .ref (ad 21)])
          have r_27 : (-2147483648) ≤ (v 13) ∧ (v 13) ≤ 2147483647 := hok.1 13
          refine lv_iconst (v := iI 1) hx hb dX1_readFactor_81 rfl ?_
          refine gi_add (z := ((v 13) + 1)) hx hb dX1_readFactor_82 rfl ?_
          obtain ⟨x_28, ex_28, hx_28⟩ : ∃ z : Int, iI ((v 13) + 1) = iI z ∧ inR z := ⟨(iI ((v 13) + 1)).toInt, (iI_of _).symm, iI_rng _⟩
          refine gi_norm ex_28 ?_
          refine rwP_reader_expression_parens (v1 := (va_up (va_up (va_up (va_up (va_up (va_up v 8 (v 8)) 11 w11_26) 12 w12_26) 13 x_28) 14 (v 14)) 15 w15_26)) C hP hD hS mF_X1_27 (by omega) rfl (Or.inr (gF_up (V := rwV) (F := rwF) (gF_up (V := rwV) (F := rwF) (gF_up (V := rwV) (F := rwF) (gR_up (V := rwV) (F := rwF) (gR_up (V := rwV) (F := rwF) (gR_up (V := rwV) (F := rwF) (gR_up (V := rwV) (F := rwF) (gR_up (V := rwV) (F := rwF) (gR_up (V := rwV) (F := rwF) ⟨hok.1, hok.2⟩ 8 (hP.2.1 8)) 11 (hP.2.1 11)) 12 (hP.2.1 12)) 13 (show (-2147483648) ≤ x_28 ∧ x_28 ≤ 2147483647 from by omega)) 14 (hP.2.1 14)) 15 (hP.2.1 15)) 14 (hP.2.2 14)) 10 (hP.2.2 10)) 11 (hP.2.2 11))) dX1_readFactor_83 (fun H locs hP hS => ?_)
          refine lv_goto (tgt := 113) hx hb dX1_readFactor_86 (by decide) ?_
          refine lv_iconst (v := iI 0) hx hb dX1_readFactor_113 rfl ?_
          exact g_zret hQ C hr hlocks (by decide) hP hS dX1_readFactor_114 ⟨0, (v 8), w11_26, w12_26, x_28, (v 14), w15_26, a14_26, (f 10), (f 11), rfl, rfl, rfl, rfl, (by first | omega | (split <;> omega))⟩
      · refine lv_aload_n hx hb dX1_readFactor_31 rfl (lv_at hl 2 rfl) ?_
        refine g_cv (As := []) (rest := []) (n := 0) C hml (c_X1_countItem l D k A ad hD (va_up (va_up (va_up (va_up (va_up (va_up v 8 (v 8)) 11 (v 11)) 12 (v 12)) 13 (v 13)) 14 (v 14)) 15 (v 15)) (va_up (va_up (va_up f 14 (f 14)) 10 (f 10)) 11 (f 11)) g) mM_X1_55 mI_X1_countItem mE_X1_countItem mN_X1 mC_X1_countItem (by decide +kernel) 21 (ci := 1) rfl rfl hP hS (fun _ h => h) ⟨Nat.le_of_ble_eq_true rfl, Nat.le_of_ble_eq_true rfl⟩ ⟨Nat.zero_le _, Nat.zero_le _⟩ hl.1 rfl rfl (Nat.le_of_ble_eq_true rfl) dX1_readFactor_32 (fun r_29 v_29 f_29 g_29 H locs hq_29 hP _ hS => ?_)
        obtain ⟨w14_29, w15_29, rfl, rfl, rfl, rfl⟩ := hq_29
        show W p l e (gRm 2 43) s m args below meth c _ _ 0 0 Q (F0 m 35 ls [])
        have hP : gWd D (rwT k ad) (va_up (va_up (va_up (va_up (va_up (va_up v 8 (v 8)) 11 (v 11)) 12 (v 12)) 13 (v 13)) 14 w14_29) 15 w15_29) (va_up (va_up (va_up f 14 (f 14)) 10 (f 10)) 11 (f 11)) g H := ⟨hP.1, (gF_up (V := rwV) (F := rwF) (gF_up (V := rwV) (F := rwF) (gF_up (V := rwV) (F := rwF) (gR_up (V := rwV) (F := rwF) (gR_up (V := rwV) (F := rwF) (gR_up (V := rwV) (F := rwF) (gR_up (V := rwV) (F := rwF) (gR_up (V := rwV) (F := rwF) (gR_up (V := rwV) (F := rwF) ⟨hok.1, hok.2⟩ 8 (hP.2.1 8)) 11 (hP.2.1 11)) 12 (hP.2.1 12)) 13 (hP.2.1 13)) 14 (hP.2.1 14)) 15 (hP.2.1 15)) 14 (hP.2.2 14)) 10 (hP.2.2 10)) 11 (hP.2.2 11))⟩
        have rw14_29 : (-2147483648) ≤ w14_29 ∧ w14_29 ≤ 2147483647 := hP.2.1 14
        have rw15_29 : 0 ≤ w15_29 ∧ w15_29 ≤ 5 := hP.2.1 15
        refine lv_aload_n hx hb dX1_readFactor_35 rfl (lv_at hl 4 rfl) ?_
        refine lv_iload_n hx hb dX1_readFactor_36 rfl (lv_at hl 1 rfl) ?_
        refine lv_sipush (v := iI 258) hx hb dX1_readFactor_37 (by decide) ?_
        refine gi_cne (tgt := 48) hx hb dX1_readFactor_40 (by decide) (by omega) (by decide) (fun c_30 => ?_) (fun c_30 => ?_)
        · refine lv_iload hx hb dX1_readFactor_48 (lv_at hl 0 rfl) ?_
          refine lv_aload_n hx hb dX1_readFactor_50 rfl (lv_at hl 3 rfl) ?_
          refine g_cv (As := []) (rest := [.int (iI (z_1 - 272)), .ref (ad 14)]) (n := 0) C hml (c_X6_value l D k A ad hD (va_up (va_up (va_up (va_up (va_up (va_up v 8 (v 8)) 11 (v 11)) 12 (v 12)) 13 (v 13)) 14 w14_29) 15 w15_29) (va_up (va_up (va_up f 14 (f 14)) 10 (f 10)) 11 (f 11)) g) mM_X1_58 mI_X6_value mE_X6_value mN_X6 mC_X6_value (by decide +kernel) 10 (ci := 6) rfl rfl hP hS (fun _ h => h) ⟨Nat.le_of_ble_eq_true rfl, Nat.le_of_ble_eq_true rfl⟩ ⟨Nat.zero_le _, Nat.zero_le _⟩ hl.1 rfl rfl (Nat.le_of_ble_eq_true rfl) dX1_readFactor_51 (fun r_31 v_31 f_31 g_31 H locs hq_31 hP _ hS => ?_)
          obtain ⟨z_31, rfl, rfl, rfl, rfl, p0_31, p1_31⟩ := hq_31
          show W p l e (gRm 2 43) s m args below meth c _ _ 0 0 Q (F0 m 54 ls [.int (iI z_31), .int (iI (z_1 - 272)), .ref (ad 14)])
          have p0_31 : z_31 = ((f 8) (v 6)) := p0_31
          have p1_31 : 0 ≤ z_31 ∧ z_31 ≤ 999999 := p1_31
          have hz_31 : inR z_31 := (by first | omega | (rw [p0_31]; split <;> omega))
          refine g_cv (As := [.int (iI (z_1 - 272)), .int (iI z_31)]) (rest := []) (n := 2) C hml (c_X4_addItem l D k A ad hD (va_up (va_up (va_up (va_up (va_up (va_up v 8 (v 8)) 11 (v 11)) 12 (v 12)) 13 (v 13)) 14 w14_29) 15 w15_29) (va_up (va_up (va_up f 14 (f 14)) 10 (f 10)) 11 (f 11)) g (z_1 - 272) z_31 (by omega) (by omega) (show 0 ≤ (z_1 - 272) ∧ (z_1 - 272) ≤ 10 from by omega) (show 0 ≤ z_31 ∧ z_31 ≤ 999999 from by omega)) mM_X1_61 mI_X4_addItem mE_X4_addItem mN_X4 mC_X4_addItem (by decide +kernel) 14 (ci := 4) rfl rfl hP hS (fun _ h => h) ⟨Nat.le_of_ble_eq_true rfl, Nat.le_of_ble_eq_true rfl⟩ ⟨Nat.zero_le _, Nat.zero_le _⟩ hl.1 rfl rfl (Nat.le_of_ble_eq_true rfl) dX1_readFactor_54 (fun r_32 v_32 f_32 g_32 H locs hq_32 hP _ hS => ?_)
          obtain ⟨w8_32, a10_32, a11_32, rfl, rfl, rfl, rfl⟩ := hq_32
          show W p l e (gRm 2 43) s m args below meth c _ _ 0 0 Q (F0 m 57 ls [])
          have hP : gWd D (rwT k ad) (va_up (va_up (va_up (va_up (va_up (va_up v 8 w8_32) 11 (v 11)) 12 (v 12)) 13 (v 13)) 14 w14_29) 15 w15_29) (va_up (va_up (va_up f 14 (f 14)) 10 a10_32) 11 a11_32) g H := ⟨hP.1, (gF_up (V := rwV) (F := rwF) (gF_up (V := rwV) (F := rwF) (gF_up (V := rwV) (F := rwF) (gR_up (V := rwV) (F := rwF) (gR_up (V := rwV) (F := rwF) (gR_up (V := rwV) (F := rwF) (gR_up (V := rwV) (F := rwF) (gR_up (V := rwV) (F := rwF) (gR_up (V := rwV) (F := rwF) ⟨hok.1, hok.2⟩ 8 (hP.2.1 8)) 11 (hP.2.1 11)) 12 (hP.2.1 12)) 13 (hP.2.1 13)) 14 (hP.2.1 14)) 15 (hP.2.1 15)) 14 (hP.2.2 14)) 10 (hP.2.2 10)) 11 (hP.2.2 11))⟩
          have rw8_32 : 0 ≤ w8_32 ∧ w8_32 ≤ 40 := hP.2.1 8
          refine lv_aload_n hx hb dX1_readFactor_57 rfl (lv_at hl 2 rfl) ?_
          refine lv_aload_n hx hb dX1_readFactor_58 rfl (lv_at hl 4 rfl) ?_
          refine g_cv (As := [.ref (ad 14)]) (rest := []) (n := 1) C hml (c_X1_releaseNegations l D k A ad hD (va_up (va_up (va_up (va_up (va_up (va_up v 8 w8_32) 11 (v 11)) 12 (v 12)) 13 (v 13)) 14 w14_29) 15 w15_29) (va_up (va_up (va_up f 14 (f 14)) 10 a10_32) 11 a11_32) g) mM_X1_65 mI_X1_releaseNegations mE_X1_releaseNegations mN_X1 mC_X1_releaseNegations (by decide +kernel) 21 (ci := 1) rfl rfl hP hS (fun _ h => h) ⟨Nat.le_of_ble_eq_true rfl, Nat.le_of_ble_eq_true rfl⟩ ⟨Nat.zero_le _, Nat.zero_le _⟩ hl.1 rfl rfl (Nat.le_of_ble_eq_true rfl) dX1_readFactor_59 (fun r_33 v_33 f_33 g_33 H locs hq_33 hP _ hS => ?_)
          obtain ⟨w8_33, w11_33, w12_33, a10_33, a11_33, rfl, rfl, rfl, rfl⟩ := hq_33
          show W p l e (gRm 2 43) s m args below meth c _ _ 0 0 Q (F0 m 62 ls [])
          have hP : gWd D (rwT k ad) (va_up (va_up (va_up (va_up (va_up (va_up v 8 w8_33) 11 w11_33) 12 w12_33) 13 (v 13)) 14 w14_29) 15 w15_29) (va_up (va_up (va_up f 14 (f 14)) 10 a10_33) 11 a11_33) g H := ⟨hP.1, (gF_up (V := rwV) (F := rwF) (gF_up (V := rwV) (F := rwF) (gF_up (V := rwV) (F := rwF) (gR_up (V := rwV) (F := rwF) (gR_up (V := rwV) (F := rwF) (gR_up (V := rwV) (F := rwF) (gR_up (V := rwV) (F := rwF) (gR_up (V := rwV) (F := rwF) (gR_up (V := rwV) (F := rwF) ⟨hok.1, hok.2⟩ 8 (hP.2.1 8)) 11 (hP.2.1 11)) 12 (hP.2.1 12)) 13 (hP.2.1 13)) 14 (hP.2.1 14)) 15 (hP.2.1 15)) 14 (hP.2.2 14)) 10 (hP.2.2 10)) 11 (hP.2.2 11))⟩
          have rw8_33 : 0 ≤ w8_33 ∧ w8_33 ≤ 40 := hP.2.1 8
          have rw11_33 : 0 ≤ w11_33 ∧ w11_33 ≤ 27 := hP.2.1 11
          have rw12_33 : (-2147483648) ≤ w12_33 ∧ w12_33 ≤ 2147483647 := hP.2.1 12
          refine lv_iconst (v := iI 1) hx hb dX1_readFactor_62 rfl ?_
          exact g_zret hQ C hr hlocks (by decide) hP hS dX1_readFactor_63 ⟨1, w8_33, w11_33, w12_33, (v 13), w14_29, w15_29, (f 14), a10_33, a11_33, rfl, rfl, rfl, rfl, (by first | omega | (split <;> omega))⟩
        · refine lv_bipush (v := iI 6) hx hb dX1_readFactor_43 (by decide) ?_
          refine lv_goto (tgt := 50) hx hb dX1_readFactor_45 (by decide) ?_
          refine lv_aload_n hx hb dX1_readFactor_50 rfl (lv_at hl 3 rfl) ?_
          refine g_cv (As := []) (rest := [.int (iI 6), .ref (ad 14)]) (n := 0) C hml (c_X6_value l D k A ad hD (va_up (va_up (va_up (va_up (va_up (va_up v 8 (v 8)) 11 (v 11)) 12 (v 12)) 13 (v 13)) 14 w14_29) 15 w15_29) (va_up (va_up (va_up f 14 (f 14)) 10 (f 10)) 11 (f 11)) g) mM_X1_58 mI_X6_value mE_X6_value mN_X6 mC_X6_value (by decide +kernel) 10 (ci := 6) rfl rfl hP hS (fun _ h => h) ⟨Nat.le_of_ble_eq_true rfl, Nat.le_of_ble_eq_true rfl⟩ ⟨Nat.zero_le _, Nat.zero_le _⟩ hl.1 rfl rfl (Nat.le_of_ble_eq_true rfl) dX1_readFactor_51 (fun r_34 v_34 f_34 g_34 H locs hq_34 hP _ hS => ?_)
          obtain ⟨z_34, rfl, rfl, rfl, rfl, p0_34, p1_34⟩ := hq_34
          show W p l e (gRm 2 43) s m args below meth c _ _ 0 0 Q (F0 m 54 ls [.int (iI z_34), .int (iI 6), .ref (ad 14)])
          have p0_34 : z_34 = ((f 8) (v 6)) := p0_34
          have p1_34 : 0 ≤ z_34 ∧ z_34 ≤ 999999 := p1_34
          have hz_34 : inR z_34 := (by first | omega | (rw [p0_34]; split <;> omega))
          refine g_cv (As := [.int (iI 6), .int (iI z_34)]) (rest := []) (n := 2) C hml (c_X4_addItem l D k A ad hD (va_up (va_up (va_up (va_up (va_up (va_up v 8 (v 8)) 11 (v 11)) 12 (v 12)) 13 (v 13)) 14 w14_29) 15 w15_29) (va_up (va_up (va_up f 14 (f 14)) 10 (f 10)) 11 (f 11)) g 6 z_34 (by decide) (by omega) (show 0 ≤ (6 : Int) ∧ (6 : Int) ≤ 10 from by omega) (show 0 ≤ z_34 ∧ z_34 ≤ 999999 from by omega)) mM_X1_61 mI_X4_addItem mE_X4_addItem mN_X4 mC_X4_addItem (by decide +kernel) 14 (ci := 4) rfl rfl hP hS (fun _ h => h) ⟨Nat.le_of_ble_eq_true rfl, Nat.le_of_ble_eq_true rfl⟩ ⟨Nat.zero_le _, Nat.zero_le _⟩ hl.1 rfl rfl (Nat.le_of_ble_eq_true rfl) dX1_readFactor_54 (fun r_35 v_35 f_35 g_35 H locs hq_35 hP _ hS => ?_)
          obtain ⟨w8_35, a10_35, a11_35, rfl, rfl, rfl, rfl⟩ := hq_35
          show W p l e (gRm 2 43) s m args below meth c _ _ 0 0 Q (F0 m 57 ls [])
          have hP : gWd D (rwT k ad) (va_up (va_up (va_up (va_up (va_up (va_up v 8 w8_35) 11 (v 11)) 12 (v 12)) 13 (v 13)) 14 w14_29) 15 w15_29) (va_up (va_up (va_up f 14 (f 14)) 10 a10_35) 11 a11_35) g H := ⟨hP.1, (gF_up (V := rwV) (F := rwF) (gF_up (V := rwV) (F := rwF) (gF_up (V := rwV) (F := rwF) (gR_up (V := rwV) (F := rwF) (gR_up (V := rwV) (F := rwF) (gR_up (V := rwV) (F := rwF) (gR_up (V := rwV) (F := rwF) (gR_up (V := rwV) (F := rwF) (gR_up (V := rwV) (F := rwF) ⟨hok.1, hok.2⟩ 8 (hP.2.1 8)) 11 (hP.2.1 11)) 12 (hP.2.1 12)) 13 (hP.2.1 13)) 14 (hP.2.1 14)) 15 (hP.2.1 15)) 14 (hP.2.2 14)) 10 (hP.2.2 10)) 11 (hP.2.2 11))⟩
          have rw8_35 : 0 ≤ w8_35 ∧ w8_35 ≤ 40 := hP.2.1 8
          refine lv_aload_n hx hb dX1_readFactor_57 rfl (lv_at hl 2 rfl) ?_
          refine lv_aload_n hx hb dX1_readFactor_58 rfl (lv_at hl 4 rfl) ?_
          refine g_cv (As := [.ref (ad 14)]) (rest := []) (n := 1) C hml (c_X1_releaseNegations l D k A ad hD (va_up (va_up (va_up (va_up (va_up (va_up v 8 w8_35) 11 (v 11)) 12 (v 12)) 13 (v 13)) 14 w14_29) 15 w15_29) (va_up (va_up (va_up f 14 (f 14)) 10 a10_35) 11 a11_35) g) mM_X1_65 mI_X1_releaseNegations mE_X1_releaseNegations mN_X1 mC_X1_releaseNegations (by decide +kernel) 21 (ci := 1) rfl rfl hP hS (fun _ h => h) ⟨Nat.le_of_ble_eq_true rfl, Nat.le_of_ble_eq_true rfl⟩ ⟨Nat.zero_le _, Nat.zero_le _⟩ hl.1 rfl rfl (Nat.le_of_ble_eq_true rfl) dX1_readFactor_59 (fun r_36 v_36 f_36 g_36 H locs hq_36 hP _ hS => ?_)
          obtain ⟨w8_36, w11_36, w12_36, a10_36, a11_36, rfl, rfl, rfl, rfl⟩ := hq_36
          show W p l e (gRm 2 43) s m args below meth c _ _ 0 0 Q (F0 m 62 ls [])
          have hP : gWd D (rwT k ad) (va_up (va_up (va_up (va_up (va_up (va_up v 8 w8_36) 11 w11_36) 12 w12_36) 13 (v 13)) 14 w14_29) 15 w15_29) (va_up (va_up (va_up f 14 (f 14)) 10 a10_36) 11 a11_36) g H := ⟨hP.1, (gF_up (V := rwV) (F := rwF) (gF_up (V := rwV) (F := rwF) (gF_up (V := rwV) (F := rwF) (gR_up (V := rwV) (F := rwF) (gR_up (V := rwV) (F := rwF) (gR_up (V := rwV) (F := rwF) (gR_up (V := rwV) (F := rwF) (gR_up (V := rwV) (F := rwF) (gR_up (V := rwV) (F := rwF) ⟨hok.1, hok.2⟩ 8 (hP.2.1 8)) 11 (hP.2.1 11)) 12 (hP.2.1 12)) 13 (hP.2.1 13)) 14 (hP.2.1 14)) 15 (hP.2.1 15)) 14 (hP.2.2 14)) 10 (hP.2.2 10)) 11 (hP.2.2 11))⟩
          have rw8_36 : 0 ≤ w8_36 ∧ w8_36 ≤ 40 := hP.2.1 8
          have rw11_36 : 0 ≤ w11_36 ∧ w11_36 ≤ 27 := hP.2.1 11
          have rw12_36 : (-2147483648) ≤ w12_36 ∧ w12_36 ≤ 2147483647 := hP.2.1 12
          refine lv_iconst (v := iI 1) hx hb dX1_readFactor_62 rfl ?_
          exact g_zret hQ C hr hlocks (by decide) hP hS dX1_readFactor_63 ⟨1, w8_36, w11_36, w12_36, (v 13), w14_29, w15_29, (f 14), a10_36, a11_36, rfl, rfl, rfl, rfl, (by first | omega | (split <;> omega))⟩

set_option maxHeartbeats 4000000 in
set_option maxRecDepth 100000 in
theorem c_X1_read (l : Launch) (D : va_G) (k : Nat → ClassId) (A : Nat → Prop) (ad : Nat → Nat) (hD : rwD A k ad) (v : gV) (f g : gF) : GM l D k A (rwT k ad) yX1_read cX1_read 5 (some .int) 4 88 [.ref (ad 21), .ref (ad 10), .ref (ad 14)] v f g (fun r v1 f1 g1 => ∃ (z : Int) (w6 : Int) (w8 : Int) (w11 : Int) (w12 : Int) (w13 : Int) (w14 : Int) (w15 : Int) (a14_ : Int → Int) (a10_ : Int → Int) (a11_ : Int → Int), r = some (.int (iI z)) ∧ (va_up (va_up (va_up (va_up (va_up (va_up (va_up v 6 w6) 8 w8) 11 w11) 12 w12) 13 w13) 14 w14) 15 w15) = v1 ∧ (va_up (va_up (va_up f 14 a14_) 10 a10_) 11 a11_) = f1 ∧ g = g1 ∧ (0 ≤ z ∧ z ≤ 5)) := by
  refine GM.of (by decide) (Nat.le_of_ble_eq_true rfl) ?_
  intro p e s m args below meth c Q ls hQ C hml hr hlocks hP hl
  have hx := C.1
  have hb := C.2.1
  have hok := hP.2
  have hS : va_S A s.heap s.heap [] := va_S.rf
  have hl : lv_has ls 5 [(0, .ref (ad 21)), (1, .ref (ad 10)), (2, .ref (ad 14))] := hl
  have hP : gWd D (rwT k ad) (va_up (va_up (va_up (va_up (va_up (va_up (va_up v 6 (v 6)) 8 (v 8)) 11 (v 11)) 12 (v 12)) 13 (v 13)) 14 (v 14)) 15 (v 15)) (va_up (va_up (va_up f 14 (f 14)) 10 (f 10)) 11 (f 11)) g s.heap := by rw [va_id, va_id, va_id, va_id, va_id, va_id, va_id, va_id, va_id, va_id]; exact hP
  refine lv_aload_n hx hb dX1_read_0 rfl (lv_at hl 2 rfl) ?_
  refine lv_iconst (v := iI 0) hx hb dX1_read_1 rfl ?_
  refine rwP_reader_draft_items (v1 := (va_up (va_up (va_up (va_up (va_up (va_up (va_up v 6 (v 6)) 8 0) 11 (v 11)) 12 (v 12)) 13 (v 13)) 14 (v 14)) 15 (v 15))) C hP hD hS mF_X1_15 (by decide) rfl (Or.inr (gF_up (V := rwV) (F := rwF) (gF_up (V := rwV) (F := rwF) (gF_up (V := rwV) (F := rwF) (gR_up (V := rwV) (F := rwF) (gR_up (V := rwV) (F := rwF) (gR_up (V := rwV) (F := rwF) (gR_up (V := rwV) (F := rwF) (gR_up (V := rwV) (F := rwF) (gR_up (V := rwV) (F := rwF) (gR_up (V := rwV) (F := rwF) ⟨hok.1, hok.2⟩ 6 (hP.2.1 6)) 8 (show 0 ≤ 0 ∧ 0 ≤ 40 from by decide)) 11 (hP.2.1 11)) 12 (hP.2.1 12)) 13 (hP.2.1 13)) 14 (hP.2.1 14)) 15 (hP.2.1 15)) 14 (hP.2.2 14)) 10 (hP.2.2 10)) 11 (hP.2.2 11))) dX1_read_2 (fun H locs hP hS => ?_)
  refine lv_aload_n hx hb dX1_read_5 rfl (lv_at hl 0 rfl) ?_
  refine lv_iconst (v := iI 0) hx hb dX1_read_6 rfl ?_
  refine rwP_reader_expression_waits (v1 := (va_up (va_up (va_up (va_up (va_up (va_up (va_up v 6 (v 6)) 8 0) 11 0) 12 (v 12)) 13 (v 13)) 14 (v 14)) 15 (v 15))) C hP hD hS mF_X1_21 (by decide) rfl (Or.inr (gF_up (V := rwV) (F := rwF) (gF_up (V := rwV) (F := rwF) (gF_up (V := rwV) (F := rwF) (gR_up (V := rwV) (F := rwF) (gR_up (V := rwV) (F := rwF) (gR_up (V := rwV) (F := rwF) (gR_up (V := rwV) (F := rwF) (gR_up (V := rwV) (F := rwF) (gR_up (V := rwV) (F := rwF) (gR_up (V := rwV) (F := rwF) ⟨hok.1, hok.2⟩ 6 (hP.2.1 6)) 8 (hP.2.1 8)) 11 (show 0 ≤ 0 ∧ 0 ≤ 27 from by decide)) 12 (hP.2.1 12)) 13 (hP.2.1 13)) 14 (hP.2.1 14)) 15 (hP.2.1 15)) 14 (hP.2.2 14)) 10 (hP.2.2 10)) 11 (hP.2.2 11))) dX1_read_7 (fun H locs hP hS => ?_)
  refine lv_aload_n hx hb dX1_read_10 rfl (lv_at hl 0 rfl) ?_
  refine lv_iconst (v := iI 0) hx hb dX1_read_11 rfl ?_
  refine rwP_reader_expression_nested (v1 := (va_up (va_up (va_up (va_up (va_up (va_up (va_up v 6 (v 6)) 8 0) 11 0) 12 0) 13 (v 13)) 14 (v 14)) 15 (v 15))) C hP hD hS mF_X1_24 (by decide) rfl (Or.inr (gF_up (V := rwV) (F := rwF) (gF_up (V := rwV) (F := rwF) (gF_up (V := rwV) (F := rwF) (gR_up (V := rwV) (F := rwF) (gR_up (V := rwV) (F := rwF) (gR_up (V := rwV) (F := rwF) (gR_up (V := rwV) (F := rwF) (gR_up (V := rwV) (F := rwF) (gR_up (V := rwV) (F := rwF) (gR_up (V := rwV) (F := rwF) ⟨hok.1, hok.2⟩ 6 (hP.2.1 6)) 8 (hP.2.1 8)) 11 (hP.2.1 11)) 12 (show (-2147483648) ≤ 0 ∧ 0 ≤ 2147483647 from by decide)) 13 (hP.2.1 13)) 14 (hP.2.1 14)) 15 (hP.2.1 15)) 14 (hP.2.2 14)) 10 (hP.2.2 10)) 11 (hP.2.2 11))) dX1_read_12 (fun H locs hP hS => ?_)
  refine lv_aload_n hx hb dX1_read_15 rfl (lv_at hl 0 rfl) ?_
  refine lv_iconst (v := iI 0) hx hb dX1_read_16 rfl ?_
  refine rwP_reader_expression_parens (v1 := (va_up (va_up (va_up (va_up (va_up (va_up (va_up v 6 (v 6)) 8 0) 11 0) 12 0) 13 0) 14 (v 14)) 15 (v 15))) C hP hD hS mF_X1_27 (by decide) rfl (Or.inr (gF_up (V := rwV) (F := rwF) (gF_up (V := rwV) (F := rwF) (gF_up (V := rwV) (F := rwF) (gR_up (V := rwV) (F := rwF) (gR_up (V := rwV) (F := rwF) (gR_up (V := rwV) (F := rwF) (gR_up (V := rwV) (F := rwF) (gR_up (V := rwV) (F := rwF) (gR_up (V := rwV) (F := rwF) (gR_up (V := rwV) (F := rwF) ⟨hok.1, hok.2⟩ 6 (hP.2.1 6)) 8 (hP.2.1 8)) 11 (hP.2.1 11)) 12 (hP.2.1 12)) 13 (show (-2147483648) ≤ 0 ∧ 0 ≤ 2147483647 from by decide)) 14 (hP.2.1 14)) 15 (hP.2.1 15)) 14 (hP.2.2 14)) 10 (hP.2.2 10)) 11 (hP.2.2 11))) dX1_read_17 (fun H locs hP hS => ?_)
  refine lv_aload_n hx hb dX1_read_20 rfl (lv_at hl 0 rfl) ?_
  refine lv_iconst (v := iI 0) hx hb dX1_read_21 rfl ?_
  refine rwP_reader_expression_items (v1 := (va_up (va_up (va_up (va_up (va_up (va_up (va_up v 6 (v 6)) 8 0) 11 0) 12 0) 13 0) 14 0) 15 (v 15))) C hP hD hS mF_X1_30 (by decide) rfl (Or.inr (gF_up (V := rwV) (F := rwF) (gF_up (V := rwV) (F := rwF) (gF_up (V := rwV) (F := rwF) (gR_up (V := rwV) (F := rwF) (gR_up (V := rwV) (F := rwF) (gR_up (V := rwV) (F := rwF) (gR_up (V := rwV) (F := rwF) (gR_up (V := rwV) (F := rwF) (gR_up (V := rwV) (F := rwF) (gR_up (V := rwV) (F := rwF) ⟨hok.1, hok.2⟩ 6 (hP.2.1 6)) 8 (hP.2.1 8)) 11 (hP.2.1 11)) 12 (hP.2.1 12)) 13 (hP.2.1 13)) 14 (show (-2147483648) ≤ 0 ∧ 0 ≤ 2147483647 from by decide)) 15 (hP.2.1 15)) 14 (hP.2.2 14)) 10 (hP.2.2 10)) 11 (hP.2.2 11))) dX1_read_22 (fun H locs hP hS => ?_)
  refine lv_aload_n hx hb dX1_read_25 rfl (lv_at hl 0 rfl) ?_
  refine lv_iconst (v := iI 0) hx hb dX1_read_26 rfl ?_
  refine rwP_reader_expression_fault (v1 := (va_up (va_up (va_up (va_up (va_up (va_up (va_up v 6 (v 6)) 8 0) 11 0) 12 0) 13 0) 14 0) 15 0)) C hP hD hS mF_X1_31 (by decide) rfl (Or.inr (gF_up (V := rwV) (F := rwF) (gF_up (V := rwV) (F := rwF) (gF_up (V := rwV) (F := rwF) (gR_up (V := rwV) (F := rwF) (gR_up (V := rwV) (F := rwF) (gR_up (V := rwV) (F := rwF) (gR_up (V := rwV) (F := rwF) (gR_up (V := rwV) (F := rwF) (gR_up (V := rwV) (F := rwF) (gR_up (V := rwV) (F := rwF) ⟨hok.1, hok.2⟩ 6 (hP.2.1 6)) 8 (hP.2.1 8)) 11 (hP.2.1 11)) 12 (hP.2.1 12)) 13 (hP.2.1 13)) 14 (hP.2.1 14)) 15 (show 0 ≤ 0 ∧ 0 ≤ 5 from by decide)) 14 (hP.2.2 14)) 10 (hP.2.2 10)) 11 (hP.2.2 11))) dX1_read_27 (fun H locs hP hS => ?_)
  refine lv_iconst (v := iI 0) hx hb dX1_read_30 rfl ?_
  refine lv_istore_n (lv' := [(3, .int (iI 0)), (0, .ref (ad 21)), (1, .ref (ad 10)), (2, .ref (ad 14))]) hx hb dX1_read_31 rfl hl (by decide) rfl (fun ls hl => ?_)
  refine lv_iconst (v := iI 0) hx hb dX1_read_32 rfl ?_
  refine lv_istore (lv' := [(4, .int (iI 0)), (3, .int (iI 0)), (0, .ref (ad 21)), (1, .ref (ad 10)), (2, .ref (ad 14))]) hx hb dX1_read_33 hl (by decide) rfl (fun ls hl => ?_)
  have L_1 : ∀ (n : Nat) (x3 : Int) (x4 : Int) (y6_1 : Int) (y8_1 : Int) (y11_1 : Int) (y12_1 : Int) (y13_1 : Int) (y14_1 : Int) (y15_1 : Int) (c14_1 : Int → Int) (c10_1 : Int → Int) (c11_1 : Int → Int) (H : Heap) (locs : List Loc) (ls : Array Slot), 701 - x4 < (n : Int) → (0 ≤ x4 ∧ x4 ≤ 701) → (0 ≤ x3 ∧ x3 ≤ 1) → gWd D (rwT k ad) (va_up (va_up (va_up (va_up (va_up (va_up (va_up v 6 y6_1) 8 y8_1) 11 y11_1) 12 y12_1) 13 y13_1) 14 y14_1) 15 y15_1) (va_up (va_up (va_up f 14 c14_1) 10 c10_1) 11 c11_1) g H → va_S A s.heap H locs → lv_has ls 5 [(0, .ref (ad 21)), (1, .ref (ad 10)), (2, .ref (ad 14)), (3, .int (iI x3)), (4, .int (iI x4))] → W p l e (gRm 4 88) s m args below meth c H locs 0 0 Q (F0 m 35 ls []) := by
    intro n
    induction n with
    | zero =>
      intro x3 x4 y6_1 y8_1 y11_1 y12_1 y13_1 y14_1 y15_1 c14_1 c10_1 c11_1 H locs ls hn_1 i1_0 i1_1 hP hS hl
      have ry6_1 : 0 ≤ y6_1 ∧ y6_1 ≤ 700 := hP.2.1 6
      have ry8_1 : 0 ≤ y8_1 ∧ y8_1 ≤ 40 := hP.2.1 8
      have ry11_1 : 0 ≤ y11_1 ∧ y11_1 ≤ 27 := hP.2.1 11
      have ry12_1 : (-2147483648) ≤ y12_1 ∧ y12_1 ≤ 2147483647 := hP.2.1 12
      have ry13_1 : (-2147483648) ≤ y13_1 ∧ y13_1 ≤ 2147483647 := hP.2.1 13
      have ry14_1 : (-2147483648) ≤ y14_1 ∧ y14_1 ≤ 2147483647 := hP.2.1 14
      have ry15_1 : 0 ≤ y15_1 ∧ y15_1 ≤ 5 := hP.2.1 15
      exfalso; omega
    | succ n ih_35 =>
      intro x3 x4 y6_1 y8_1 y11_1 y12_1 y13_1 y14_1 y15_1 c14_1 c10_1 c11_1 H locs ls hn_1 i1_0 i1_1 hP hS hl
      have ry6_1 : 0 ≤ y6_1 ∧ y6_1 ≤ 700 := hP.2.1 6
      have ry8_1 : 0 ≤ y8_1 ∧ y8_1 ≤ 40 := hP.2.1 8
      have ry11_1 : 0 ≤ y11_1 ∧ y11_1 ≤ 27 := hP.2.1 11
      have ry12_1 : (-2147483648) ≤ y12_1 ∧ y12_1 ≤ 2147483647 := hP.2.1 12
      have ry13_1 : (-2147483648) ≤ y13_1 ∧ y13_1 ≤ 2147483647 := hP.2.1 13
      have ry14_1 : (-2147483648) ≤ y14_1 ∧ y14_1 ≤ 2147483647 := hP.2.1 14
      have ry15_1 : 0 ≤ y15_1 ∧ y15_1 ≤ 5 := hP.2.1 15
      refine lv_iload hx hb dX1_read_35 (lv_at hl 4 rfl) ?_
      refine lv_sipush (v := iI 700) hx hb dX1_read_37 (by decide) ?_
      refine gi_cgt (tgt := 119) hx hb dX1_read_40 (by decide) (by omega) (by decide) (fun c_2 => ?_) (fun c_2 => ?_)
      · refine lv_aload_n hx hb dX1_read_119 rfl (lv_at hl 0 rfl) ?_
        refine rwG_reader_expression_fault C hP mF_X1_31 dX1_read_120 ?_
        show W p l e (gRm 4 88) s m args below meth c _ _ 0 0 Q (F0 m 123 ls [.int (iI y15_1)])
        have r_3 : 0 ≤ y15_1 ∧ y15_1 ≤ 5 := hP.2.1 15
        exact g_iret hQ C hr hlocks hP hS dX1_read_123 ⟨y15_1, y6_1, y8_1, y11_1, y12_1, y13_1, y14_1, y15_1, c14_1, c10_1, c11_1, rfl, rfl, rfl, rfl, (by first | omega | (split <;> omega))⟩
      · refine lv_aload_n hx hb dX1_read_43 rfl (lv_at hl 0 rfl) ?_
        refine rwG_reader_expression_fault C hP mF_X1_31 dX1_read_44 ?_
        show W p l e (gRm 4 88) s m args below meth c _ _ 0 0 Q (F0 m 47 ls [.int (iI y15_1)])
        have r_4 : 0 ≤ y15_1 ∧ y15_1 ≤ 5 := hP.2.1 15
        refine gi_zne (tgt := 119) hx hb dX1_read_47 (by decide) (by omega) (fun c_5 => ?_) (fun c_5 => ?_)
        · refine lv_aload_n hx hb dX1_read_119 rfl (lv_at hl 0 rfl) ?_
          refine rwG_reader_expression_fault C hP mF_X1_31 dX1_read_120 ?_
          show W p l e (gRm 4 88) s m args below meth c _ _ 0 0 Q (F0 m 123 ls [.int (iI y15_1)])
          exact g_iret hQ C hr hlocks hP hS dX1_read_123 ⟨y15_1, y6_1, y8_1, y11_1, y12_1, y13_1, y14_1, y15_1, c14_1, c10_1, c11_1, rfl, rfl, rfl, rfl, (by first | omega | (split <;> omega))⟩
        · refine lv_iload_n hx hb dX1_read_50 rfl (lv_at hl 3 rfl) ?_
          refine gi_zeq (tgt := 79) hx hb dX1_read_51 (by decide) (by omega) (fun c_6 => ?_) (fun c_6 => ?_)
          · refine lv_iload_n hx hb dX1_read_79 rfl (lv_at hl 3 rfl) ?_
            refine gi_zeq (tgt := 95) hx hb dX1_read_80 (by decide) (by omega) (fun c_7 => ?_) (fun c_7 => ?_)
            · refine lv_aload_n hx hb dX1_read_95 rfl (lv_at hl 0 rfl) ?_
              refine lv_aload_n hx hb dX1_read_96 rfl (lv_at hl 1 rfl) ?_
              refine lv_aload_n hx hb dX1_read_97 rfl (lv_at hl 2 rfl) ?_
              refine g_cv (As := [.ref (ad 10), .ref (ad 14)]) (rest := []) (n := 2) C hml (c_X1_readFactor l D k A ad hD (va_up (va_up (va_up (va_up (va_up (va_up (va_up v 6 y6_1) 8 y8_1) 11 y11_1) 12 y12_1) 13 y13_1) 14 y14_1) 15 y15_1) (va_up (va_up (va_up f 14 c14_1) 10 c10_1) 11 c11_1) g) mM_X1_48 mI_X1_readFactor mE_X1_readFactor mN_X1 mC_X1_readFactor (by decide +kernel) 21 (ci := 1) rfl rfl hP hS (fun _ h => h) ⟨Nat.le_of_ble_eq_true rfl, Nat.le_of_ble_eq_true rfl⟩ ⟨Nat.zero_le _, Nat.zero_le _⟩ hl.1 rfl rfl (Nat.le_of_ble_eq_true rfl) dX1_read_98 (fun r_8 v_8 f_8 g_8 H locs hq_8 hP _ hS => ?_)
              obtain ⟨z_8, w8_8, w11_8, w12_8, w13_8, w14_8, w15_8, a14_8, a10_8, a11_8, rfl, rfl, rfl, rfl, p0_8⟩ := hq_8
              show W p l e (gRm 4 88) s m args below meth c _ _ 0 0 Q (F0 m 101 ls [.int (iI z_8)])
              have hP : gWd D (rwT k ad) (va_up (va_up (va_up (va_up (va_up (va_up (va_up v 6 y6_1) 8 w8_8) 11 w11_8) 12 w12_8) 13 w13_8) 14 w14_8) 15 w15_8) (va_up (va_up (va_up f 14 a14_8) 10 a10_8) 11 a11_8) g H := ⟨hP.1, (gF_up (V := rwV) (F := rwF) (gF_up (V := rwV) (F := rwF) (gF_up (V := rwV) (F := rwF) (gR_up (V := rwV) (F := rwF) (gR_up (V := rwV) (F := rwF) (gR_up (V := rwV) (F := rwF) (gR_up (V := rwV) (F := rwF) (gR_up (V := rwV) (F := rwF) (gR_up (V := rwV) (F := rwF) (gR_up (V := rwV) (F := rwF) ⟨hok.1, hok.2⟩ 6 (hP.2.1 6)) 8 (hP.2.1 8)) 11 (hP.2.1 11)) 12 (hP.2.1 12)) 13 (hP.2.1 13)) 14 (hP.2.1 14)) 15 (hP.2.1 15)) 14 (hP.2.2 14)) 10 (hP.2.2 10)) 11 (hP.2.2 11))⟩
              have p0_8 : 0 ≤ z_8 ∧ z_8 ≤ 1 := p0_8
              have rw8_8 : 0 ≤ w8_8 ∧ w8_8 ≤ 40 := hP.2.1 8
              have rw11_8 : 0 ≤ w11_8 ∧ w11_8 ≤ 27 := hP.2.1 11
              have rw12_8 : (-2147483648) ≤ w12_8 ∧ w12_8 ≤ 2147483647 := hP.2.1 12
              have rw13_8 : (-2147483648) ≤ w13_8 ∧ w13_8 ≤ 2147483647 := hP.2.1 13
              have rw14_8 : (-2147483648) ≤ w14_8 ∧ w14_8 ≤ 2147483647 := hP.2.1 14
              have rw15_8 : 0 ≤ w15_8 ∧ w15_8 ≤ 5 := hP.2.1 15
              refine lv_istore_n (lv' := [(3, .int (iI z_8)), (0, .ref (ad 21)), (1, .ref (ad 10)), (2, .ref (ad 14)), (4, .int (iI x4))]) hx hb dX1_read_101 rfl hl (by decide) rfl (fun ls hl => ?_)
              refine lv_aload_n hx hb dX1_read_102 rfl (lv_at hl 1 rfl) ?_
              refine rwG_reader_expression_fault C hP mF_X1_31 dX1_read_103 ?_
              show W p l e (gRm 4 88) s m args below meth c _ _ 0 0 Q (F0 m 106 ls [.int (iI w15_8)])
              have r_9 : 0 ≤ w15_8 ∧ w15_8 ≤ 5 := hP.2.1 15
              refine gi_zne (tgt := 113) hx hb dX1_read_106 (by decide) (by omega) (fun c_10 => ?_) (fun c_10 => ?_)
              · refine lv_iinc (v := iI (x4 + 1)) (lv' := [(4, .int (iI (x4 + 1))), (3, .int (iI z_8)), (0, .ref (ad 21)), (1, .ref (ad 10)), (2, .ref (ad 14))]) hx hb dX1_read_113 hl (k := 4) rfl (by show iI _ + iI 1 = _; rw [iI_add]) (by decide) rfl (fun ls hl => ?_)
                refine lv_goto (tgt := 35) hx hb dX1_read_116 (by decide) ?_
                exact ih_35 z_8 (x4 + 1) y6_1 w8_8 w11_8 w12_8 w13_8 w14_8 w15_8 a14_8 a10_8 a11_8 _ _ _ (by omega) (by omega) (by omega) hP hS (lv_sub hl [2, 3, 4, 1, 0] rfl)
              · refine lv_aload_n hx hb dX1_read_109 rfl (lv_at hl 2 rfl) ?_
                refine g_cv (As := []) (rest := []) (n := 0) C hml (c_X6_step l D k A ad hD (va_up (va_up (va_up (va_up (va_up (va_up (va_up v 6 y6_1) 8 w8_8) 11 w11_8) 12 w12_8) 13 w13_8) 14 w14_8) 15 w15_8) (va_up (va_up (va_up f 14 a14_8) 10 a10_8) 11 a11_8) g) mM_X1_52 mI_X6_step mE_X6_step mN_X6 mC_X6_step (by decide +kernel) 10 (ci := 6) rfl rfl hP hS (fun _ h => h) ⟨Nat.le_of_ble_eq_true rfl, Nat.le_of_ble_eq_true rfl⟩ ⟨Nat.zero_le _, Nat.zero_le _⟩ hl.1 rfl rfl (Nat.le_of_ble_eq_true rfl) dX1_read_110 (fun r_11 v_11 f_11 g_11 H locs hq_11 hP _ hS => ?_)
                obtain ⟨w6_11, rfl, rfl, rfl, rfl⟩ := hq_11
                show W p l e (gRm 4 88) s m args below meth c _ _ 0 0 Q (F0 m 113 ls [])
                have hP : gWd D (rwT k ad) (va_up (va_up (va_up (va_up (va_up (va_up (va_up v 6 w6_11) 8 w8_8) 11 w11_8) 12 w12_8) 13 w13_8) 14 w14_8) 15 w15_8) (va_up (va_up (va_up f 14 a14_8) 10 a10_8) 11 a11_8) g H := ⟨hP.1, (gF_up (V := rwV) (F := rwF) (gF_up (V := rwV) (F := rwF) (gF_up (V := rwV) (F := rwF) (gR_up (V := rwV) (F := rwF) (gR_up (V := rwV) (F := rwF) (gR_up (V := rwV) (F := rwF) (gR_up (V := rwV) (F := rwF) (gR_up (V := rwV) (F := rwF) (gR_up (V := rwV) (F := rwF) (gR_up (V := rwV) (F := rwF) ⟨hok.1, hok.2⟩ 6 (hP.2.1 6)) 8 (hP.2.1 8)) 11 (hP.2.1 11)) 12 (hP.2.1 12)) 13 (hP.2.1 13)) 14 (hP.2.1 14)) 15 (hP.2.1 15)) 14 (hP.2.2 14)) 10 (hP.2.2 10)) 11 (hP.2.2 11))⟩
                have rw6_11 : 0 ≤ w6_11 ∧ w6_11 ≤ 700 := hP.2.1 6
                refine lv_iinc (v := iI (x4 + 1)) (lv' := [(4, .int (iI (x4 + 1))), (3, .int (iI z_8)), (0, .ref (ad 21)), (1, .ref (ad 10)), (2, .ref (ad 14))]) hx hb dX1_read_113 hl (k := 4) rfl (by show iI _ + iI 1 = _; rw [iI_add]) (by decide) rfl (fun ls hl => ?_)
                refine lv_goto (tgt := 35) hx hb dX1_read_116 (by decide) ?_
                exact ih_35 z_8 (x4 + 1) w6_11 w8_8 w11_8 w12_8 w13_8 w14_8 w15_8 a14_8 a10_8 a11_8 _ _ _ (by omega) (by omega) (by omega) hP hS (lv_sub hl [2, 3, 4, 1, 0] rfl)
            · refine lv_aload_n hx hb dX1_read_83 rfl (lv_at hl 0 rfl) ?_
              refine lv_aload_n hx hb dX1_read_84 rfl (lv_at hl 1 rfl) ?_
              refine g_cv (As := []) (rest := [.ref (ad 21)]) (n := 0) C hml (c_X6_kind l D k A ad hD (va_up (va_up (va_up (va_up (va_up (va_up (va_up v 6 y6_1) 8 y8_1) 11 y11_1) 12 y12_1) 13 y13_1) 14 y14_1) 15 y15_1) (va_up (va_up (va_up f 14 c14_1) 10 c10_1) 11 c11_1) g) mM_X1_34 mI_X6_kind mE_X6_kind mN_X6 mC_X6_kind (by decide +kernel) 10 (ci := 6) rfl rfl hP hS (fun _ h => h) ⟨Nat.le_of_ble_eq_true rfl, Nat.le_of_ble_eq_true rfl⟩ ⟨Nat.zero_le _, Nat.zero_le _⟩ hl.1 rfl rfl (Nat.le_of_ble_eq_true rfl) dX1_read_85 (fun r_12 v_12 f_12 g_12 H locs hq_12 hP _ hS => ?_)
              obtain ⟨z_12, rfl, rfl, rfl, rfl, p0_12, p1_12⟩ := hq_12
              show W p l e (gRm 4 88) s m args below meth c _ _ 0 0 Q (F0 m 88 ls [.int (iI z_12), .ref (ad 21)])
              have p0_12 : z_12 = ((f 6) y6_1) := p0_12
              have p1_12 : 0 ≤ z_12 ∧ z_12 ≤ 300 := p1_12
              have hz_12 : inR z_12 := (by first | omega | (rw [p0_12]; split <;> omega))
              refine lv_aload_n hx hb dX1_read_88 rfl (lv_at hl 2 rfl) ?_
              refine g_cv (As := [.int (iI z_12), .ref (ad 14)]) (rest := []) (n := 2) C hml (c_X1_readBehindFactor l D k A ad hD (va_up (va_up (va_up (va_up (va_up (va_up (va_up v 6 y6_1) 8 y8_1) 11 y11_1) 12 y12_1) 13 y13_1) 14 y14_1) 15 y15_1) (va_up (va_up (va_up f 14 c14_1) 10 c10_1) 11 c11_1) g z_12 (by omega)) mM_X1_44 mI_X1_readBehindFactor mE_X1_readBehindFactor mN_X1 mC_X1_readBehindFactor (by decide +kernel) 21 (ci := 1) rfl rfl hP hS (fun _ h => h) ⟨Nat.le_of_ble_eq_true rfl, Nat.le_of_ble_eq_true rfl⟩ ⟨Nat.zero_le _, Nat.zero_le _⟩ hl.1 rfl rfl (Nat.le_of_ble_eq_true rfl) dX1_read_89 (fun r_13 v_13 f_13 g_13 H locs hq_13 hP _ hS => ?_)
              obtain ⟨z_13, w8_13, w11_13, w12_13, w13_13, w14_13, w15_13, a14_13, a10_13, a11_13, rfl, rfl, rfl, rfl, p0_13⟩ := hq_13
              show W p l e (gRm 4 88) s m args below meth c _ _ 0 0 Q (F0 m 92 ls [.int (iI z_13)])
              have hP : gWd D (rwT k ad) (va_up (va_up (va_up (va_up (va_up (va_up (va_up v 6 y6_1) 8 w8_13) 11 w11_13) 12 w12_13) 13 w13_13) 14 w14_13) 15 w15_13) (va_up (va_up (va_up f 14 a14_13) 10 a10_13) 11 a11_13) g H := ⟨hP.1, (gF_up (V := rwV) (F := rwF) (gF_up (V := rwV) (F := rwF) (gF_up (V := rwV) (F := rwF) (gR_up (V := rwV) (F := rwF) (gR_up (V := rwV) (F := rwF) (gR_up (V := rwV) (F := rwF) (gR_up (V := rwV) (F := rwF) (gR_up (V := rwV) (F := rwF) (gR_up (V := rwV) (F := rwF) (gR_up (V := rwV) (F := rwF) ⟨hok.1, hok.2⟩ 6 (hP.2.1 6)) 8 (hP.2.1 8)) 11 (hP.2.1 11)) 12 (hP.2.1 12)) 13 (hP.2.1 13)) 14 (hP.2.1 14)) 15 (hP.2.1 15)) 14 (hP.2.2 14)) 10 (hP.2.2 10)) 11 (hP.2.2 11))⟩
              have p0_13 : 0 ≤ z_13 ∧ z_13 ≤ 1 := p0_13
              have rw8_13 : 0 ≤ w8_13 ∧ w8_13 ≤ 40 := hP.2.1 8
              have rw11_13 : 0 ≤ w11_13 ∧ w11_13 ≤ 27 := hP.2.1 11
              have rw12_13 : (-2147483648) ≤ w12_13 ∧ w12_13 ≤ 2147483647 := hP.2.1 12
              have rw13_13 : (-2147483648) ≤ w13_13 ∧ w13_13 ≤ 2147483647 := hP.2.1 13
              have rw14_13 : (-2147483648) ≤ w14_13 ∧ w14_13 ≤ 2147483647 := hP.2.1 14
              have rw15_13 : 0 ≤ w15_13 ∧ w15_13 ≤ 5 := hP.2.1 15
              refine lv_goto (tgt := 101) hx hb dX1_read_92 (by decide) ?_
              refine lv_istore_n (lv' := [(3, .int (iI z_13)), (0, .ref (ad 21)), (1, .ref (ad 10)), (2, .ref (ad 14)), (4, .int (iI x4))]) hx hb dX1_read_101 rfl hl (by decide) rfl (fun ls hl => ?_)
              refine lv_aload_n hx hb dX1_read_102 rfl (lv_at hl 1 rfl) ?_
              refine rwG_reader_expression_fault C hP mF_X1_31 dX1_read_103 ?_
              show W p l e (gRm 4 88) s m args below meth c _ _ 0 0 Q (F0 m 106 ls [.int (iI w15_13)])
              have r_14 : 0 ≤ w15_13 ∧ w15_13 ≤ 5 := hP.2.1 15
              refine gi_zne (tgt := 113) hx hb dX1_read_106 (by decide) (by omega) (fun c_15 => ?_) (fun c_15 => ?_)
              · refine lv_iinc (v := iI (x4 + 1)) (lv' := [(4, .int (iI (x4 + 1))), (3, .int (iI z_13)), (0, .ref (ad 21)), (1, .ref (ad 10)), (2, .ref (ad 14))]) hx hb dX1_read_113 hl (k := 4) rfl (by show iI _ + iI 1 = _; rw [iI_add]) (by decide) rfl (fun ls hl => ?_)
                refine lv_goto (tgt := 35) hx hb dX1_read_116 (by decide) ?_
                exact ih_35 z_13 (x4 + 1) y6_1 w8_13 w11_13 w12_13 w13_13 w14_13 w15_13 a14_13 a10_13 a11_13 _ _ _ (by omega) (by omega) (by omega) hP hS (lv_sub hl [2, 3, 4, 1, 0] rfl)
              · refine lv_aload_n hx hb dX1_read_109 rfl (lv_at hl 2 rfl) ?_
                refine g_cv (As := []) (rest := []) (n := 0) C hml (c_X6_step l D k A ad hD (va_up (va_up (va_up (va_up (va_up (va_up (va_up v 6 y6_1) 8 w8_13) 11 w11_13) 12 w12_13) 13 w13_13) 14 w14_13) 15 w15_13) (va_up (va_up (va_up f 14 a14_13) 10 a10_13) 11 a11_13) g) mM_X1_52 mI_X6_step mE_X6_step mN_X6 mC_X6_step (by decide +kernel) 10 (ci := 6) rfl rfl hP hS (fun _ h => h) ⟨Nat.le_of_ble_eq_true rfl, Nat.le_of_ble_eq_true rfl⟩ ⟨Nat.zero_le _, Nat.zero_le _⟩ hl.1 rfl rfl (Nat.le_of_ble_eq_true rfl) dX1_read_110 (fun r_16 v_16 f_16 g_16 H locs hq_16 hP _ hS => ?_)
                obtain ⟨w6_16, rfl, rfl, rfl, rfl⟩ := hq_16
                show W p l e (gRm 4 88) s m args below meth c _ _ 0 0 Q (F0 m 113 ls [])
                have hP : gWd D (rwT k ad) (va_up (va_up (va_up (va_up (va_up (va_up (va_up v 6 w6_16) 8 w8_13) 11 w11_13) 12 w12_13) 13 w13_13) 14 w14_13) 15 w15_13) (va_up (va_up (va_up f 14 a14_13) 10 a10_13) 11 a11_13) g H := ⟨hP.1, (gF_up (V := rwV) (F := rwF) (gF_up (V := rwV) (F := rwF) (gF_up (V := rwV) (F := rwF) (gR_up (V := rwV) (F := rwF) (gR_up (V := rwV) (F := rwF) (gR_up (V := rwV) (F := rwF) (gR_up (V := rwV) (F := rwF) (gR_up (V := rwV) (F := rwF) (gR_up (V := rwV) (F := rwF) (gR_up (V := rwV) (F := rwF) ⟨hok.1, hok.2⟩ 6 (hP.2.1 6)) 8 (hP.2.1 8)) 11 (hP.2.1 11)) 12 (hP.2.1 12)) 13 (hP.2.1 13)) 14 (hP.2.1 14)) 15 (hP.2.1 15)) 14 (hP.2.2 14)) 10 (hP.2.2 10)) 11 (hP.2.2 11))⟩
                have rw6_16 : 0 ≤ w6_16 ∧ w6_16 ≤ 700 := hP.2.1 6
                refine lv_iinc (v := iI (x4 + 1)) (lv' := [(4, .int (iI (x4 + 1))), (3, .int (iI z_13)), (0, .ref (ad 21)), (1, .ref (ad 10)), (2, .ref (ad 14))]) hx hb dX1_read_113 hl (k := 4) rfl (by show iI _ + iI 1 = _; rw [iI_add]) (by decide) rfl (fun ls hl => ?_)
                refine lv_goto (tgt := 35) hx hb dX1_read_116 (by decide) ?_
                exact ih_35 z_13 (x4 + 1) w6_16 w8_13 w11_13 w12_13 w13_13 w14_13 w15_13 a14_13 a10_13 a11_13 _ _ _ (by omega) (by omega) (by omega) hP hS (lv_sub hl [2, 3, 4, 1, 0] rfl)
          · refine lv_aload_n hx hb dX1_read_54 rfl (lv_at hl 1 rfl) ?_
            refine g_cv (As := []) (rest := []) (n := 0) C hml (c_X6_kind l D k A ad hD (va_up (va_up (va_up (va_up (va_up (va_up (va_up v 6 y6_1) 8 y8_1) 11 y11_1) 12 y12_1) 13 y13_1) 14 y14_1) 15 y15_1) (va_up (va_up (va_up f 14 c14_1) 10 c10_1) 11 c11_1) g) mM_X1_34 mI_X6_kind mE_X6_kind mN_X6 mC_X6_kind (by decide +kernel) 10 (ci := 6) rfl rfl hP hS (fun _ h => h) ⟨Nat.le_of_ble_eq_true rfl, Nat.le_of_ble_eq_true rfl⟩ ⟨Nat.zero_le _, Nat.zero_le _⟩ hl.1 rfl rfl (Nat.le_of_ble_eq_true rfl) dX1_read_55 (fun r_17 v_17 f_17 g_17 H locs hq_17 hP _ hS => ?_)
            obtain ⟨z_17, rfl, rfl, rfl, rfl, p0_17, p1_17⟩ := hq_17
            show W p l e (gRm 4 88) s m args below meth c _ _ 0 0 Q (F0 m 58 ls [.int (iI z_17)])
            have p0_17 : z_17 = ((f 6) y6_1) := p0_17
            have p1_17 : 0 ≤ z_17 ∧ z_17 ≤ 300 := p1_17
            have hz_17 : inR z_17 := (by first | omega | (rw [p0_17]; split <;> omega))
            refine lv_bipush (v := iI 59) hx hb dX1_read_58 (by decide) ?_
            refine gi_cne (tgt := 79) hx hb dX1_read_60 (by decide) (by omega) (by decide) (fun c_18 => ?_) (fun c_18 => ?_)
            · refine lv_iload_n hx hb dX1_read_79 rfl (lv_at hl 3 rfl) ?_
              refine gi_zeq (tgt := 95) hx hb dX1_read_80 (by decide) (by omega) (fun c_19 => ?_) (fun c_19 => ?_)
              · refine lv_aload_n hx hb dX1_read_95 rfl (lv_at hl 0 rfl) ?_
                refine lv_aload_n hx hb dX1_read_96 rfl (lv_at hl 1 rfl) ?_
                refine lv_aload_n hx hb dX1_read_97 rfl (lv_at hl 2 rfl) ?_
                refine g_cv (As := [.ref (ad 10), .ref (ad 14)]) (rest := []) (n := 2) C hml (c_X1_readFactor l D k A ad hD (va_up (va_up (va_up (va_up (va_up (va_up (va_up v 6 y6_1) 8 y8_1) 11 y11_1) 12 y12_1) 13 y13_1) 14 y14_1) 15 y15_1) (va_up (va_up (va_up f 14 c14_1) 10 c10_1) 11 c11_1) g) mM_X1_48 mI_X1_readFactor mE_X1_readFactor mN_X1 mC_X1_readFactor (by decide +kernel) 21 (ci := 1) rfl rfl hP hS (fun _ h => h) ⟨Nat.le_of_ble_eq_true rfl, Nat.le_of_ble_eq_true rfl⟩ ⟨Nat.zero_le _, Nat.zero_le _⟩ hl.1 rfl rfl (Nat.le_of_ble_eq_true rfl) dX1_read_98 (fun r_20 v_20 f_20 g_20 H locs hq_20 hP _ hS => ?_)
                obtain ⟨z_20, w8_20, w11_20, w12_20, w13_20, w14_20, w15_20, a14_20, a10_20, a11_20, rfl, rfl, rfl, rfl, p0_20⟩ := hq_20
                show W p l e (gRm 4 88) s m args below meth c _ _ 0 0 Q (F0 m 101 ls [.int (iI z_20)])
                have hP : gWd D (rwT k ad) (va_up (va_up (va_up (va_up (va_up (va_up (va_up v 6 y6_1) 8 w8_20) 11 w11_20) 12 w12_20) 13 w13_20) 14 w14_20) 15 w15_20) (va_up (va_up (va_up f 14 a14_20) 10 a10_20) 11 a11_20) g H := ⟨hP.1, (gF_up (V := rwV) (F := rwF) (gF_up (V := rwV) (F := rwF) (gF_up (V := rwV) (F := rwF) (gR_up (V := rwV) (F := rwF) (gR_up (V := rwV) (F := rwF) (gR_up (V := rwV) (F := rwF) (gR_up (V := rwV) (F := rwF) (gR_up (V := rwV) (F := rwF) (gR_up (V := rwV) (F := rwF) (gR_up (V := rwV) (F := rwF) ⟨hok.1, hok.2⟩ 6 (hP.2.1 6)) 8 (hP.2.1 8)) 11 (hP.2.1 11)) 12 (hP.2.1 12)) 13 (hP.2.1 13)) 14 (hP.2.1 14)) 15 (hP.2.1 15)) 14 (hP.2.2 14)) 10 (hP.2.2 10)) 11 (hP.2.2 11))⟩
                have p0_20 : 0 ≤ z_20 ∧ z_20 ≤ 1 := p0_20
                have rw8_20 : 0 ≤ w8_20 ∧ w8_20 ≤ 40 := hP.2.1 8
                have rw11_20 : 0 ≤ w11_20 ∧ w11_20 ≤ 27 := hP.2.1 11
                have rw12_20 : (-2147483648) ≤ w12_20 ∧ w12_20 ≤ 2147483647 := hP.2.1 12
                have rw13_20 : (-2147483648) ≤ w13_20 ∧ w13_20 ≤ 2147483647 := hP.2.1 13
                have rw14_20 : (-2147483648) ≤ w14_20 ∧ w14_20 ≤ 2147483647 := hP.2.1 14
                have rw15_20 : 0 ≤ w15_20 ∧ w15_20 ≤ 5 := hP.2.1 15
                refine lv_istore_n (lv' := [(3, .int (iI z_20)), (0, .ref (ad 21)), (1, .ref (ad 10)), (2, .ref (ad 14)), (4, .int (iI x4))]) hx hb dX1_read_101 rfl hl (by decide) rfl (fun ls hl => ?_)
                refine lv_aload_n hx hb dX1_read_102 rfl (lv_at hl 1 rfl) ?_
                refine rwG_reader_expression_fault C hP mF_X1_31 dX1_read_103 ?_
                show W p l e (gRm 4 88) s m args below meth c _ _ 0 0 Q (F0 m 106 ls [.int (iI w15_20)])
                have r_21 : 0 ≤ w15_20 ∧ w15_20 ≤ 5 := hP.2.1 15
                refine gi_zne (tgt := 113) hx hb dX1_read_106 (by decide) (by omega) (fun c_22 => ?_) (fun c_22 => ?_)
                · refine lv_iinc (v := iI (x4 + 1)) (lv' := [(4, .int (iI (x4 + 1))), (3, .int (iI z_20)), (0, .ref (ad 21)), (1, .ref (ad 10)), (2, .ref (ad 14))]) hx hb dX1_read_113 hl (k := 4) rfl (by show iI _ + iI 1 = _; rw [iI_add]) (by decide) rfl (fun ls hl => ?_)
                  refine lv_goto (tgt := 35) hx hb dX1_read_116 (by decide) ?_
                  exact ih_35 z_20 (x4 + 1) y6_1 w8_20 w11_20 w12_20 w13_20 w14_20 w15_20 a14_20 a10_20 a11_20 _ _ _ (by omega) (by omega) (by omega) hP hS (lv_sub hl [2, 3, 4, 1, 0] rfl)
                · refine lv_aload_n hx hb dX1_read_109 rfl (lv_at hl 2 rfl) ?_
                  refine g_cv (As := []) (rest := []) (n := 0) C hml (c_X6_step l D k A ad hD (va_up (va_up (va_up (va_up (va_up (va_up (va_up v 6 y6_1) 8 w8_20) 11 w11_20) 12 w12_20) 13 w13_20) 14 w14_20) 15 w15_20) (va_up (va_up (va_up f 14 a14_20) 10 a10_20) 11 a11_20) g) mM_X1_52 mI_X6_step mE_X6_step mN_X6 mC_X6_step (by decide +kernel) 10 (ci := 6) rfl rfl hP hS (fun _ h => h) ⟨Nat.le_of_ble_eq_true rfl, Nat.le_of_ble_eq_true rfl⟩ ⟨Nat.zero_le _, Nat.zero_le _⟩ hl.1 rfl rfl (Nat.le_of_ble_eq_true rfl) dX1_read_110 (fun r_23 v_23 f_23 g_23 H locs hq_23 hP _ hS => ?_)
                  obtain ⟨w6_23, rfl, rfl, rfl, rfl⟩ := hq_23
                  show W p l e (gRm 4 88) s m args below meth c _ _ 0 0 Q (F0 m 113 ls [])
                  have hP : gWd D (rwT k ad) (va_up (va_up (va_up (va_up (va_up (va_up (va_up v 6 w6_23) 8 w8_20) 11 w11_20) 12 w12_20) 13 w13_20) 14 w14_20) 15 w15_20) (va_up (va_up (va_up f 14 a14_20) 10 a10_20) 11 a11_20) g H := ⟨hP.1, (gF_up (V := rwV) (F := rwF) (gF_up (V := rwV) (F := rwF) (gF_up (V := rwV) (F := rwF) (gR_up (V := rwV) (F := rwF) (gR_up (V := rwV) (F := rwF) (gR_up (V := rwV) (F := rwF) (gR_up (V := rwV) (F := rwF) (gR_up (V := rwV) (F := rwF) (gR_up (V := rwV) (F := rwF) (gR_up (V := rwV) (F := rwF) ⟨hok.1, hok.2⟩ 6 (hP.2.1 6)) 8 (hP.2.1 8)) 11 (hP.2.1 11)) 12 (hP.2.1 12)) 13 (hP.2.1 13)) 14 (hP.2.1 14)) 15 (hP.2.1 15)) 14 (hP.2.2 14)) 10 (hP.2.2 10)) 11 (hP.2.2 11))⟩
                  have rw6_23 : 0 ≤ w6_23 ∧ w6_23 ≤ 700 := hP.2.1 6
                  refine lv_iinc (v := iI (x4 + 1)) (lv' := [(4, .int (iI (x4 + 1))), (3, .int (iI z_20)), (0, .ref (ad 21)), (1, .ref (ad 10)), (2, .ref (ad 14))]) hx hb dX1_read_113 hl (k := 4) rfl (by show iI _ + iI 1 = _; rw [iI_add]) (by decide) rfl (fun ls hl => ?_)
                  refine lv_goto (tgt := 35) hx hb dX1_read_116 (by decide) ?_
                  exact ih_35 z_20 (x4 + 1) w6_23 w8_20 w11_20 w12_20 w13_20 w14_20 w15_20 a14_20 a10_20 a11_20 _ _ _ (by omega) (by omega) (by omega) hP hS (lv_sub hl [2, 3, 4, 1, 0] rfl)
              · refine lv_aload_n hx hb dX1_read_83 rfl (lv_at hl 0 rfl) ?_
                refine lv_aload_n hx hb dX1_read_84 rfl (lv_at hl 1 rfl) ?_
                refine g_cv (As := []) (rest := [.ref (ad 21)]) (n := 0) C hml (c_X6_kind l D k A ad hD (va_up (va_up (va_up (va_up (va_up (va_up (va_up v 6 y6_1) 8 y8_1) 11 y11_1) 12 y12_1) 13 y13_1) 14 y14_1) 15 y15_1) (va_up (va_up (va_up f 14 c14_1) 10 c10_1) 11 c11_1) g) mM_X1_34 mI_X6_kind mE_X6_kind mN_X6 mC_X6_kind (by decide +kernel) 10 (ci := 6) rfl rfl hP hS (fun _ h => h) ⟨Nat.le_of_ble_eq_true rfl, Nat.le_of_ble_eq_true rfl⟩ ⟨Nat.zero_le _, Nat.zero_le _⟩ hl.1 rfl rfl (Nat.le_of_ble_eq_true rfl) dX1_read_85 (fun r_24 v_24 f_24 g_24 H locs hq_24 hP _ hS => ?_)
                obtain ⟨z_24, rfl, rfl, rfl, rfl, p0_24, p1_24⟩ := hq_24
                show W p l e (gRm 4 88) s m args below meth c _ _ 0 0 Q (F0 m 88 ls [.int (iI z_24), .ref (ad 21)])
                have p0_24 : z_24 = ((f 6) y6_1) := p0_24
                have p1_24 : 0 ≤ z_24 ∧ z_24 ≤ 300 := p1_24
                have hz_24 : inR z_24 := (by first | omega | (rw [p0_24]; split <;> omega))
                refine lv_aload_n hx hb dX1_read_88 rfl (lv_at hl 2 rfl) ?_
                refine g_cv (As := [.int (iI z_24), .ref (ad 14)]) (rest := []) (n := 2) C hml (c_X1_readBehindFactor l D k A ad hD (va_up (va_up (va_up (va_up (va_up (va_up (va_up v 6 y6_1) 8 y8_1) 11 y11_1) 12 y12_1) 13 y13_1) 14 y14_1) 15 y15_1) (va_up (va_up (va_up f 14 c14_1) 10 c10_1) 11 c11_1) g z_24 (by omega)) mM_X1_44 mI_X1_readBehindFactor mE_X1_readBehindFactor mN_X1 mC_X1_readBehindFactor (by decide +kernel) 21 (ci := 1) rfl rfl hP hS (fun _ h => h) ⟨Nat.le_of_ble_eq_true rfl, Nat.le_of_ble_eq_true rfl⟩ ⟨Nat.zero_le _, Nat.zero_le _⟩ hl.1 rfl rfl (Nat.le_of_ble_eq_true rfl) dX1_read_89 (fun r_25 v_25 f_25 g_25 H locs hq_25 hP _ hS => ?_)
                obtain ⟨z_25, w8_25, w11_25, w12_25, w13_25, w14_25, w15_25, a14_25, a10_25, a11_25, rfl, rfl, rfl, rfl, p0_25⟩ := hq_25
                show W p l e (gRm 4 88) s m args below meth c _ _ 0 0 Q (F0 m 92 ls [.int (iI z_25)])
                have hP : gWd D (rwT k ad) (va_up (va_up (va_up (va_up (va_up (va_up (va_up v 6 y6_1) 8 w8_25) 11 w11_25) 12 w12_25) 13 w13_25) 14 w14_25) 15 w15_25) (va_up (va_up (va_up f 14 a14_25) 10 a10_25) 11 a11_25) g H := ⟨hP.1, (gF_up (V := rwV) (F := rwF) (gF_up (V := rwV) (F := rwF) (gF_up (V := rwV) (F := rwF) (gR_up (V := rwV) (F := rwF) (gR_up (V := rwV) (F := rwF) (gR_up (V := rwV) (F := rwF) (gR_up (V := rwV) (F := rwF) (gR_up (V := rwV) (F := rwF) (gR_up (V := rwV) (F := rwF) (gR_up (V := rwV) (F := rwF) ⟨hok.1, hok.2⟩ 6 (hP.2.1 6)) 8 (hP.2.1 8)) 11 (hP.2.1 11)) 12 (hP.2.1 12)) 13 (hP.2.1 13)) 14 (hP.2.1 14)) 15 (hP.2.1 15)) 14 (hP.2.2 14)) 10 (hP.2.2 10)) 11 (hP.2.2 11))⟩
                have p0_25 : 0 ≤ z_25 ∧ z_25 ≤ 1 := p0_25
                have rw8_25 : 0 ≤ w8_25 ∧ w8_25 ≤ 40 := hP.2.1 8
                have rw11_25 : 0 ≤ w11_25 ∧ w11_25 ≤ 27 := hP.2.1 11
                have rw12_25 : (-2147483648) ≤ w12_25 ∧ w12_25 ≤ 2147483647 := hP.2.1 12
                have rw13_25 : (-2147483648) ≤ w13_25 ∧ w13_25 ≤ 2147483647 := hP.2.1 13
                have rw14_25 : (-2147483648) ≤ w14_25 ∧ w14_25 ≤ 2147483647 := hP.2.1 14
                have rw15_25 : 0 ≤ w15_25 ∧ w15_25 ≤ 5 := hP.2.1 15
                refine lv_goto (tgt := 101) hx hb dX1_read_92 (by decide) ?_
                refine lv_istore_n (lv' := [(3, .int (iI z_25)), (0, .ref (ad 21)), (1, .ref (ad 10)), (2, .ref (ad 14)), (4, .int (iI x4))]) hx hb dX1_read_101 rfl hl (by decide) rfl (fun ls hl => ?_)
                refine lv_aload_n hx hb dX1_read_102 rfl (lv_at hl 1 rfl) ?_
                refine rwG_reader_expression_fault C hP mF_X1_31 dX1_read_103 ?_
                show W p l e (gRm 4 88) s m args below meth c _ _ 0 0 Q (F0 m 106 ls [.int (iI w15_25)])
                have r_26 : 0 ≤ w15_25 ∧ w15_25 ≤ 5 := hP.2.1 15
                refine gi_zne (tgt := 113) hx hb dX1_read_106 (by decide) (by omega) (fun c_27 => ?_) (fun c_27 => ?_)
                · refine lv_iinc (v := iI (x4 + 1)) (lv' := [(4, .int (iI (x4 + 1))), (3, .int (iI z_25)), (0, .ref (ad 21)), (1, .ref (ad 10)), (2, .ref (ad 14))]) hx hb dX1_read_113 hl (k := 4) rfl (by show iI _ + iI 1 = _; rw [iI_add]) (by decide) rfl (fun ls hl => ?_)
                  refine lv_goto (tgt := 35) hx hb dX1_read_116 (by decide) ?_
                  exact ih_35 z_25 (x4 + 1) y6_1 w8_25 w11_25 w12_25 w13_25 w14_25 w15_25 a14_25 a10_25 a11_25 _ _ _ (by omega) (by omega) (by omega) hP hS (lv_sub hl [2, 3, 4, 1, 0] rfl)
                · refine lv_aload_n hx hb dX1_read_109 rfl (lv_at hl 2 rfl) ?_
                  refine g_cv (As := []) (rest := []) (n := 0) C hml (c_X6_step l D k A ad hD (va_up (va_up (va_up (va_up (va_up (va_up (va_up v 6 y6_1) 8 w8_25) 11 w11_25) 12 w12_25) 13 w13_25) 14 w14_25) 15 w15_25) (va_up (va_up (va_up f 14 a14_25) 10 a10_25) 11 a11_25) g) mM_X1_52 mI_X6_step mE_X6_step mN_X6 mC_X6_step (by decide +kernel) 10 (ci := 6) rfl rfl hP hS (fun _ h => h) ⟨Nat.le_of_ble_eq_true rfl, Nat.le_of_ble_eq_true rfl⟩ ⟨Nat.zero_le _, Nat.zero_le _⟩ hl.1 rfl rfl (Nat.le_of_ble_eq_true rfl) dX1_read_110 (fun r_28 v_28 f_28 g_28 H locs hq_28 hP _ hS => ?_)
                  obtain ⟨w6_28, rfl, rfl, rfl, rfl⟩ := hq_28
                  show W p l e (gRm 4 88) s m args below meth c _ _ 0 0 Q (F0 m 113 ls [])
                  have hP : gWd D (rwT k ad) (va_up (va_up (va_up (va_up (va_up (va_up (va_up v 6 w6_28) 8 w8_25) 11 w11_25) 12 w12_25) 13 w13_25) 14 w14_25) 15 w15_25) (va_up (va_up (va_up f 14 a14_25) 10 a10_25) 11 a11_25) g H := ⟨hP.1, (gF_up (V := rwV) (F := rwF) (gF_up (V := rwV) (F := rwF) (gF_up (V := rwV) (F := rwF) (gR_up (V := rwV) (F := rwF) (gR_up (V := rwV) (F := rwF) (gR_up (V := rwV) (F := rwF) (gR_up (V := rwV) (F := rwF) (gR_up (V := rwV) (F := rwF) (gR_up (V := rwV) (F := rwF) (gR_up (V := rwV) (F := rwF) ⟨hok.1, hok.2⟩ 6 (hP.2.1 6)) 8 (hP.2.1 8)) 11 (hP.2.1 11)) 12 (hP.2.1 12)) 13 (hP.2.1 13)) 14 (hP.2.1 14)) 15 (hP.2.1 15)) 14 (hP.2.2 14)) 10 (hP.2.2 10)) 11 (hP.2.2 11))⟩
                  have rw6_28 : 0 ≤ w6_28 ∧ w6_28 ≤ 700 := hP.2.1 6
                  refine lv_iinc (v := iI (x4 + 1)) (lv' := [(4, .int (iI (x4 + 1))), (3, .int (iI z_25)), (0, .ref (ad 21)), (1, .ref (ad 10)), (2, .ref (ad 14))]) hx hb dX1_read_113 hl (k := 4) rfl (by show iI _ + iI 1 = _; rw [iI_add]) (by decide) rfl (fun ls hl => ?_)
                  refine lv_goto (tgt := 35) hx hb dX1_read_116 (by decide) ?_
                  exact ih_35 z_25 (x4 + 1) w6_28 w8_25 w11_25 w12_25 w13_25 w14_25 w15_25 a14_25 a10_25 a11_25 _ _ _ (by omega) (by omega) (by omega) hP hS (lv_sub hl [2, 3, 4, 1, 0] rfl)
            · refine lv_aload_n hx hb dX1_read_63 rfl (lv_at hl 0 rfl) ?_
              refine rwG_reader_expression_parens C hP mF_X1_27 dX1_read_64 ?_
              show W p l e (gRm 4 88) s m args below meth c _ _ 0 0 Q (F0 m 67 ls [.int (iI y13_1)])
              have r_29 : (-2147483648) ≤ y13_1 ∧ y13_1 ≤ 2147483647 := hP.2.1 13
              refine gi_zne (tgt := 79) hx hb dX1_read_67 (by decide) (by omega) (fun c_30 => ?_) (fun c_30 => ?_)
              · refine lv_iload_n hx hb dX1_read_79 rfl (lv_at hl 3 rfl) ?_
                refine gi_zeq (tgt := 95) hx hb dX1_read_80 (by decide) (by omega) (fun c_31 => ?_) (fun c_31 => ?_)
                · refine lv_aload_n hx hb dX1_read_95 rfl (lv_at hl 0 rfl) ?_
                  refine lv_aload_n hx hb dX1_read_96 rfl (lv_at hl 1 rfl) ?_
                  refine lv_aload_n hx hb dX1_read_97 rfl (lv_at hl 2 rfl) ?_
                  refine g_cv (As := [.ref (ad 10), .ref (ad 14)]) (rest := []) (n := 2) C hml (c_X1_readFactor l D k A ad hD (va_up (va_up (va_up (va_up (va_up (va_up (va_up v 6 y6_1) 8 y8_1) 11 y11_1) 12 y12_1) 13 y13_1) 14 y14_1) 15 y15_1) (va_up (va_up (va_up f 14 c14_1) 10 c10_1) 11 c11_1) g) mM_X1_48 mI_X1_readFactor mE_X1_readFactor mN_X1 mC_X1_readFactor (by decide +kernel) 21 (ci := 1) rfl rfl hP hS (fun _ h => h) ⟨Nat.le_of_ble_eq_true rfl, Nat.le_of_ble_eq_true rfl⟩ ⟨Nat.zero_le _, Nat.zero_le _⟩ hl.1 rfl rfl (Nat.le_of_ble_eq_true rfl) dX1_read_98 (fun r_32 v_32 f_32 g_32 H locs hq_32 hP _ hS => ?_)
                  obtain ⟨z_32, w8_32, w11_32, w12_32, w13_32, w14_32, w15_32, a14_32, a10_32, a11_32, rfl, rfl, rfl, rfl, p0_32⟩ := hq_32
                  show W p l e (gRm 4 88) s m args below meth c _ _ 0 0 Q (F0 m 101 ls [.int (iI z_32)])
                  have hP : gWd D (rwT k ad) (va_up (va_up (va_up (va_up (va_up (va_up (va_up v 6 y6_1) 8 w8_32) 11 w11_32) 12 w12_32) 13 w13_32) 14 w14_32) 15 w15_32) (va_up (va_up (va_up f 14 a14_32) 10 a10_32) 11 a11_32) g H := ⟨hP.1, (gF_up (V := rwV) (F := rwF) (gF_up (V := rwV) (F := rwF) (gF_up (V := rwV) (F := rwF) (gR_up (V := rwV) (F := rwF) (gR_up (V := rwV) (F := rwF) (gR_up (V := rwV) (F := rwF) (gR_up (V := rwV) (F := rwF) (gR_up (V := rwV) (F := rwF) (gR_up (V := rwV) (F := rwF) (gR_up (V := rwV) (F := rwF) ⟨hok.1, hok.2⟩ 6 (hP.2.1 6)) 8 (hP.2.1 8)) 11 (hP.2.1 11)) 12 (hP.2.1 12)) 13 (hP.2.1 13)) 14 (hP.2.1 14)) 15 (hP.2.1 15)) 14 (hP.2.2 14)) 10 (hP.2.2 10)) 11 (hP.2.2 11))⟩
                  have p0_32 : 0 ≤ z_32 ∧ z_32 ≤ 1 := p0_32
                  have rw8_32 : 0 ≤ w8_32 ∧ w8_32 ≤ 40 := hP.2.1 8
                  have rw11_32 : 0 ≤ w11_32 ∧ w11_32 ≤ 27 := hP.2.1 11
                  have rw12_32 : (-2147483648) ≤ w12_32 ∧ w12_32 ≤ 2147483647 := hP.2.1 12
                  have rw13_32 : (-2147483648) ≤ w13_32 ∧ w13_32 ≤ 2147483647 := hP.2.1 13
                  have rw14_32 : (-2147483648) ≤ w14_32 ∧ w14_32 ≤ 2147483647 := hP.2.1 14
                  have rw15_32 : 0 ≤ w15_32 ∧ w15_32 ≤ 5 := hP.2.1 15
                  refine lv_istore_n (lv' := [(3, .int (iI z_32)), (0, .ref (ad 21)), (1, .ref (ad 10)), (2, .ref (ad 14)), (4, .int (iI x4))]) hx hb dX1_read_101 rfl hl (by decide) rfl (fun ls hl => ?_)
                  refine lv_aload_n hx hb dX1_read_102 rfl (lv_at hl 1 rfl) ?_
                  refine rwG_reader_expression_fault C hP mF_X1_31 dX1_read_103 ?_
                  show W p l e (gRm 4 88) s m args below meth c _ _ 0 0 Q (F0 m 106 ls [.int (iI w15_32)])
                  have r_33 : 0 ≤ w15_32 ∧ w15_32 ≤ 5 := hP.2.1 15
                  refine gi_zne (tgt := 113) hx hb dX1_read_106 (by decide) (by omega) (fun c_34 => ?_) (fun c_34 => ?_)
                  · refine lv_iinc (v := iI (x4 + 1)) (lv' := [(4, .int (iI (x4 + 1))), (3, .int (iI z_32)), (0, .ref (ad 21)), (1, .ref (ad 10)), (2, .ref (ad 14))]) hx hb dX1_read_113 hl (k := 4) rfl (by show iI _ + iI 1 = _; rw [iI_add]) (by decide) rfl (fun ls hl => ?_)
                    refine lv_goto (tgt := 35) hx hb dX1_read_116 (by decide) ?_
                    exact ih_35 z_32 (x4 + 1) y6_1 w8_32 w11_32 w12_32 w13_32 w14_32 w15_32 a14_32 a10_32 a11_32 _ _ _ (by omega) (by omega) (by omega) hP hS (lv_sub hl [2, 3, 4, 1, 0] rfl)
                  · refine lv_aload_n hx hb dX1_read_109 rfl (lv_at hl 2 rfl) ?_
                    refine g_cv (As := []) (rest := []) (n := 0) C hml (c_X6_step l D k A ad hD (va_up (va_up (va_up (va_up (va_up (va_up (va_up v 6 y6_1) 8 w8_32) 11 w11_32) 12 w12_32) 13 w13_32) 14 w14_32) 15 w15_32) (va_up (va_up (va_up f 14 a14_32) 10 a10_32) 11 a11_32) g) mM_X1_52 mI_X6_step mE_X6_step mN_X6 mC_X6_step (by decide +kernel) 10 (ci := 6) rfl rfl hP hS (fun _ h => h) ⟨Nat.le_of_ble_eq_true rfl, Nat.le_of_ble_eq_true rfl⟩ ⟨Nat.zero_le _, Nat.zero_le _⟩ hl.1 rfl rfl (Nat.le_of_ble_eq_true rfl) dX1_read_110 (fun r_35 v_35 f_35 g_35 H locs hq_35 hP _ hS => ?_)
                    obtain ⟨w6_35, rfl, rfl, rfl, rfl⟩ := hq_35
                    show W p l e (gRm 4 88) s m args below meth c _ _ 0 0 Q (F0 m 113 ls [])
                    have hP : gWd D (rwT k ad) (va_up (va_up (va_up (va_up (va_up (va_up (va_up v 6 w6_35) 8 w8_32) 11 w11_32) 12 w12_32) 13 w13_32) 14 w14_32) 15 w15_32) (va_up (va_up (va_up f 14 a14_32) 10 a10_32) 11 a11_32) g H := ⟨hP.1, (gF_up (V := rwV) (F := rwF) (gF_up (V := rwV) (F := rwF) (gF_up (V := rwV) (F := rwF) (gR_up (V := rwV) (F := rwF) (gR_up (V := rwV) (F := rwF) (gR_up (V := rwV) (F := rwF) (gR_up (V := rwV) (F := rwF) (gR_up (V := rwV) (F := rwF) (gR_up (V := rwV) (F := rwF) (gR_up (V := rwV) (F := rwF) ⟨hok.1, hok.2⟩ 6 (hP.2.1 6)) 8 (hP.2.1 8)) 11 (hP.2.1 11)) 12 (hP.2.1 12)) 13 (hP.2.1 13)) 14 (hP.2.1 14)) 15 (hP.2.1 15)) 14 (hP.2.2 14)) 10 (hP.2.2 10)) 11 (hP.2.2 11))⟩
                    have rw6_35 : 0 ≤ w6_35 ∧ w6_35 ≤ 700 := hP.2.1 6
                    refine lv_iinc (v := iI (x4 + 1)) (lv' := [(4, .int (iI (x4 + 1))), (3, .int (iI z_32)), (0, .ref (ad 21)), (1, .ref (ad 10)), (2, .ref (ad 14))]) hx hb dX1_read_113 hl (k := 4) rfl (by show iI _ + iI 1 = _; rw [iI_add]) (by decide) rfl (fun ls hl => ?_)
                    refine lv_goto (tgt := 35) hx hb dX1_read_116 (by decide) ?_
                    exact ih_35 z_32 (x4 + 1) w6_35 w8_32 w11_32 w12_32 w13_32 w14_32 w15_32 a14_32 a10_32 a11_32 _ _ _ (by omega) (by omega) (by omega) hP hS (lv_sub hl [2, 3, 4, 1, 0] rfl)
                · refine lv_aload_n hx hb dX1_read_83 rfl (lv_at hl 0 rfl) ?_
                  refine lv_aload_n hx hb dX1_read_84 rfl (lv_at hl 1 rfl) ?_
                  refine g_cv (As := []) (rest := [.ref (ad 21)]) (n := 0) C hml (c_X6_kind l D k A ad hD (va_up (va_up (va_up (va_up (va_up (va_up (va_up v 6 y6_1) 8 y8_1) 11 y11_1) 12 y12_1) 13 y13_1) 14 y14_1) 15 y15_1) (va_up (va_up (va_up f 14 c14_1) 10 c10_1) 11 c11_1) g) mM_X1_34 mI_X6_kind mE_X6_kind mN_X6 mC_X6_kind (by decide +kernel) 10 (ci := 6) rfl rfl hP hS (fun _ h => h) ⟨Nat.le_of_ble_eq_true rfl, Nat.le_of_ble_eq_true rfl⟩ ⟨Nat.zero_le _, Nat.zero_le _⟩ hl.1 rfl rfl (Nat.le_of_ble_eq_true rfl) dX1_read_85 (fun r_36 v_36 f_36 g_36 H locs hq_36 hP _ hS => ?_)
                  obtain ⟨z_36, rfl, rfl, rfl, rfl, p0_36, p1_36⟩ := hq_36
                  show W p l e (gRm 4 88) s m args below meth c _ _ 0 0 Q (F0 m 88 ls [.int (iI z_36), .ref (ad 21)])
                  have p0_36 : z_36 = ((f 6) y6_1) := p0_36
                  have p1_36 : 0 ≤ z_36 ∧ z_36 ≤ 300 := p1_36
                  have hz_36 : inR z_36 := (by first | omega | (rw [p0_36]; split <;> omega))
                  refine lv_aload_n hx hb dX1_read_88 rfl (lv_at hl 2 rfl) ?_
                  refine g_cv (As := [.int (iI z_36), .ref (ad 14)]) (rest := []) (n := 2) C hml (c_X1_readBehindFactor l D k A ad hD (va_up (va_up (va_up (va_up (va_up (va_up (va_up v 6 y6_1) 8 y8_1) 11 y11_1) 12 y12_1) 13 y13_1) 14 y14_1) 15 y15_1) (va_up (va_up (va_up f 14 c14_1) 10 c10_1) 11 c11_1) g z_36 (by omega)) mM_X1_44 mI_X1_readBehindFactor mE_X1_readBehindFactor mN_X1 mC_X1_readBehindFactor (by decide +kernel) 21 (ci := 1) rfl rfl hP hS (fun _ h => h) ⟨Nat.le_of_ble_eq_true rfl, Nat.le_of_ble_eq_true rfl⟩ ⟨Nat.zero_le _, Nat.zero_le _⟩ hl.1 rfl rfl (Nat.le_of_ble_eq_true rfl) dX1_read_89 (fun r_37 v_37 f_37 g_37 H locs hq_37 hP _ hS => ?_)
                  obtain ⟨z_37, w8_37, w11_37, w12_37, w13_37, w14_37, w15_37, a14_37, a10_37, a11_37, rfl, rfl, rfl, rfl, p0_37⟩ := hq_37
                  show W p l e (gRm 4 88) s m args below meth c _ _ 0 0 Q (F0 m 92 ls [.int (iI z_37)])
                  have hP : gWd D (rwT k ad) (va_up (va_up (va_up (va_up (va_up (va_up (va_up v 6 y6_1) 8 w8_37) 11 w11_37) 12 w12_37) 13 w13_37) 14 w14_37) 15 w15_37) (va_up (va_up (va_up f 14 a14_37) 10 a10_37) 11 a11_37) g H := ⟨hP.1, (gF_up (V := rwV) (F := rwF) (gF_up (V := rwV) (F := rwF) (gF_up (V := rwV) (F := rwF) (gR_up (V := rwV) (F := rwF) (gR_up (V := rwV) (F := rwF) (gR_up (V := rwV) (F := rwF) (gR_up (V := rwV) (F := rwF) (gR_up (V := rwV) (F := rwF) (gR_up (V := rwV) (F := rwF) (gR_up (V := rwV) (F := rwF) ⟨hok.1, hok.2⟩ 6 (hP.2.1 6)) 8 (hP.2.1 8)) 11 (hP.2.1 11)) 12 (hP.2.1 12)) 13 (hP.2.1 13)) 14 (hP.2.1 14)) 15 (hP.2.1 15)) 14 (hP.2.2 14)) 10 (hP.2.2 10)) 11 (hP.2.2 11))⟩
                  have p0_37 : 0 ≤ z_37 ∧ z_37 ≤ 1 := p0_37
                  have rw8_37 : 0 ≤ w8_37 ∧ w8_37 ≤ 40 := hP.2.1 8
                  have rw11_37 : 0 ≤ w11_37 ∧ w11_37 ≤ 27 := hP.2.1 11
                  have rw12_37 : (-2147483648) ≤ w12_37 ∧ w12_37 ≤ 2147483647 := hP.2.1 12
                  have rw13_37 : (-2147483648) ≤ w13_37 ∧ w13_37 ≤ 2147483647 := hP.2.1 13
                  have rw14_37 : (-2147483648) ≤ w14_37 ∧ w14_37 ≤ 2147483647 := hP.2.1 14
                  have rw15_37 : 0 ≤ w15_37 ∧ w15_37 ≤ 5 := hP.2.1 15
                  refine lv_goto (tgt := 101) hx hb dX1_read_92 (by decide) ?_
                  refine lv_istore_n (lv' := [(3, .int (iI z_37)), (0, .ref (ad 21)), (1, .ref (ad 10)), (2, .ref (ad 14)), (4, .int (iI x4))]) hx hb dX1_read_101 rfl hl (by decide) rfl (fun ls hl => ?_)
                  refine lv_aload_n hx hb dX1_read_102 rfl (lv_at hl 1 rfl) ?_
                  refine rwG_reader_expression_fault C hP mF_X1_31 dX1_read_103 ?_
                  show W p l e (gRm 4 88) s m args below meth c _ _ 0 0 Q (F0 m 106 ls [.int (iI w15_37)])
                  have r_38 : 0 ≤ w15_37 ∧ w15_37 ≤ 5 := hP.2.1 15
                  refine gi_zne (tgt := 113) hx hb dX1_read_106 (by decide) (by omega) (fun c_39 => ?_) (fun c_39 => ?_)
                  · refine lv_iinc (v := iI (x4 + 1)) (lv' := [(4, .int (iI (x4 + 1))), (3, .int (iI z_37)), (0, .ref (ad 21)), (1, .ref (ad 10)), (2, .ref (ad 14))]) hx hb dX1_read_113 hl (k := 4) rfl (by show iI _ + iI 1 = _; rw [iI_add]) (by decide) rfl (fun ls hl => ?_)
                    refine lv_goto (tgt := 35) hx hb dX1_read_116 (by decide) ?_
                    exact ih_35 z_37 (x4 + 1) y6_1 w8_37 w11_37 w12_37 w13_37 w14_37 w15_37 a14_37 a10_37 a11_37 _ _ _ (by omega) (by omega) (by omega) hP hS (lv_sub hl [2, 3, 4, 1, 0] rfl)
                  · refine lv_aload_n hx hb dX1_read_109 rfl (lv_at hl 2 rfl) ?_
                    refine g_cv (As := []) (rest := []) (n := 0) C hml (c_X6_step l D k A ad hD (va_up (va_up (va_up (va_up (va_up (va_up (va_up v 6 y6_1) 8 w8_37) 11 w11_37) 12 w12_37) 13 w13_37) 14 w14_37) 15 w15_37) (va_up (va_up (va_up f 14 a14_37) 10 a10_37) 11 a11_37) g) mM_X1_52 mI_X6_step mE_X6_step mN_X6 mC_X6_step (by decide +kernel) 10 (ci := 6) rfl rfl hP hS (fun _ h => h) ⟨Nat.le_of_ble_eq_true rfl, Nat.le_of_ble_eq_true rfl⟩ ⟨Nat.zero_le _, Nat.zero_le _⟩ hl.1 rfl rfl (Nat.le_of_ble_eq_true rfl) dX1_read_110 (fun r_40 v_40 f_40 g_40 H locs hq_40 hP _ hS => ?_)
                    obtain ⟨w6_40, rfl, rfl, rfl, rfl⟩ := hq_40
                    show W p l e (gRm 4 88) s m args below meth c _ _ 0 0 Q (F0 m 113 ls [])
                    have hP : gWd D (rwT k ad) (va_up (va_up (va_up (va_up (va_up (va_up (va_up v 6 w6_40) 8 w8_37) 11 w11_37) 12 w12_37) 13 w13_37) 14 w14_37) 15 w15_37) (va_up (va_up (va_up f 14 a14_37) 10 a10_37) 11 a11_37) g H := ⟨hP.1, (gF_up (V := rwV) (F := rwF) (gF_up (V := rwV) (F := rwF) (gF_up (V := rwV) (F := rwF) (gR_up (V := rwV) (F := rwF) (gR_up (V := rwV) (F := rwF) (gR_up (V := rwV) (F := rwF) (gR_up (V := rwV) (F := rwF) (gR_up (V := rwV) (F := rwF) (gR_up (V := rwV) (F := rwF) (gR_up (V := rwV) (F := rwF) ⟨hok.1, hok.2⟩ 6 (hP.2.1 6)) 8 (hP.2.1 8)) 11 (hP.2.1 11)) 12 (hP.2.1 12)) 13 (hP.2.1 13)) 14 (hP.2.1 14)) 15 (hP.2.1 15)) 14 (hP.2.2 14)) 10 (hP.2.2 10)) 11 (hP.2.2 11))⟩
                    have rw6_40 : 0 ≤ w6_40 ∧ w6_40 ≤ 700 := hP.2.1 6
                    refine lv_iinc (v := iI (x4 + 1)) (lv' := [(4, .int (iI (x4 + 1))), (3, .int (iI z_37)), (0, .ref (ad 21)), (1, .ref (ad 10)), (2, .ref (ad 14))]) hx hb dX1_read_113 hl (k := 4) rfl (by show iI _ + iI 1 = _; rw [iI_add]) (by decide) rfl (fun ls hl => ?_)
                    refine lv_goto (tgt := 35) hx hb dX1_read_116 (by decide) ?_
                    exact ih_35 z_37 (x4 + 1) w6_40 w8_37 w11_37 w12_37 w13_37 w14_37 w15_37 a14_37 a10_37 a11_37 _ _ _ (by omega) (by omega) (by omega) hP hS (lv_sub hl [2, 3, 4, 1, 0] rfl)
              · refine lv_aload_n hx hb dX1_read_70 rfl (lv_at hl 0 rfl) ?_
                refine lv_bipush (v := iI 7) hx hb dX1_read_71 (by decide) ?_
                refine lv_aload_n hx hb dX1_read_73 rfl (lv_at hl 2 rfl) ?_
                refine g_cv (As := [.int (iI 7), .ref (ad 14)]) (rest := []) (n := 2) C hml (c_X1_release l D k A ad hD (va_up (va_up (va_up (va_up (va_up (va_up (va_up v 6 y6_1) 8 y8_1) 11 y11_1) 12 y12_1) 13 y13_1) 14 y14_1) 15 y15_1) (va_up (va_up (va_up f 14 c14_1) 10 c10_1) 11 c11_1) g 7 (by decide)) mM_X1_40 mI_X1_release mE_X1_release mN_X1 mC_X1_release (by decide +kernel) 21 (ci := 1) rfl rfl hP hS (fun _ h => h) ⟨Nat.le_of_ble_eq_true rfl, Nat.le_of_ble_eq_true rfl⟩ ⟨Nat.zero_le _, Nat.zero_le _⟩ hl.1 rfl rfl (Nat.le_of_ble_eq_true rfl) dX1_read_74 (fun r_41 v_41 f_41 g_41 H locs hq_41 hP _ hS => ?_)
                obtain ⟨w8_41, w11_41, a10_41, a11_41, rfl, rfl, rfl, rfl⟩ := hq_41
                show W p l e (gRm 4 88) s m args below meth c _ _ 0 0 Q (F0 m 77 ls [])
                have hP : gWd D (rwT k ad) (va_up (va_up (va_up (va_up (va_up (va_up (va_up v 6 y6_1) 8 w8_41) 11 w11_41) 12 y12_1) 13 y13_1) 14 y14_1) 15 y15_1) (va_up (va_up (va_up f 14 c14_1) 10 a10_41) 11 a11_41) g H := ⟨hP.1, (gF_up (V := rwV) (F := rwF) (gF_up (V := rwV) (F := rwF) (gF_up (V := rwV) (F := rwF) (gR_up (V := rwV) (F := rwF) (gR_up (V := rwV) (F := rwF) (gR_up (V := rwV) (F := rwF) (gR_up (V := rwV) (F := rwF) (gR_up (V := rwV) (F := rwF) (gR_up (V := rwV) (F := rwF) (gR_up (V := rwV) (F := rwF) ⟨hok.1, hok.2⟩ 6 (hP.2.1 6)) 8 (hP.2.1 8)) 11 (hP.2.1 11)) 12 (hP.2.1 12)) 13 (hP.2.1 13)) 14 (hP.2.1 14)) 15 (hP.2.1 15)) 14 (hP.2.2 14)) 10 (hP.2.2 10)) 11 (hP.2.2 11))⟩
                have rw8_41 : 0 ≤ w8_41 ∧ w8_41 ≤ 40 := hP.2.1 8
                have rw11_41 : 0 ≤ w11_41 ∧ w11_41 ≤ 27 := hP.2.1 11
                refine lv_iconst (v := iI 0) hx hb dX1_read_77 rfl ?_
                exact g_iret hQ C hr hlocks hP hS dX1_read_78 ⟨0, y6_1, w8_41, w11_41, y12_1, y13_1, y14_1, y15_1, c14_1, a10_41, a11_41, rfl, rfl, rfl, rfl, (by first | omega | (split <;> omega))⟩
  exact L_1 702 0 0 (v 6) 0 0 0 0 0 0 (f 14) (f 10) (f 11) _ _ _ (by omega) (by omega) (by omega) hP hS (lv_sub hl [2, 3, 4, 1, 0] rfl)
