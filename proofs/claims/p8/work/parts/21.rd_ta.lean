set_option maxHeartbeats 4000000 in
set_option maxRecDepth 100000 in
theorem e_To_isLetter (l : Launch) (D : va_G) (k : Nat → ClassId) (A : Nat → Prop) (ad : Nat → Nat) (hD : rwD A k ad) (v : gV) (f g : gF) (a1 : Int) (h_a1 : inR a1) : GM l D k A (rwT k ad) yX6_isLetter cX6_isLetter 1 (some .boolean) 0 0 [.int (iI a1)] v f g (fun r v1 f1 g1 => ∃ (z : Int), r = some (.int (iI z)) ∧ v = v1 ∧ f = f1 ∧ g = g1 ∧ (z = (if 97 ≤ a1 ∧ a1 ≤ 122 then 1 else 0))) := by
  refine GM.of (by decide) (Nat.le_of_ble_eq_true rfl) ?_
  intro p e s m args below meth c Q ls hQ C hml hr hlocks hP hl
  have hx := C.1
  have hb := C.2.1
  have hok := hP.2
  have hS : va_S A s.heap s.heap [] := va_S.rf
  have hl : lv_has ls 1 [(0, .int (iI a1))] := hl
  refine lv_iload_n hx hb dX6_isLetter_0 rfl (lv_at hl 0 rfl) ?_
  refine lv_bipush (v := iI 97) hx hb dX6_isLetter_1 (by decide) ?_
  refine gi_clt (tgt := 16) hx hb dX6_isLetter_3 (by decide) (by omega) (by decide) (fun c_1 => ?_) (fun c_1 => ?_)
  · refine lv_iconst (v := iI 0) hx hb dX6_isLetter_16 rfl ?_
    exact g_zret hQ C hr hlocks (by decide) hP hS dX6_isLetter_17 ⟨0, rfl, rfl, rfl, rfl, (by first | omega | (split <;> omega))⟩
  · refine lv_iload_n hx hb dX6_isLetter_6 rfl (lv_at hl 0 rfl) ?_
    refine lv_bipush (v := iI 122) hx hb dX6_isLetter_7 (by decide) ?_
    refine gi_cgt (tgt := 16) hx hb dX6_isLetter_9 (by decide) (by omega) (by decide) (fun c_2 => ?_) (fun c_2 => ?_)
    · refine lv_iconst (v := iI 0) hx hb dX6_isLetter_16 rfl ?_
      exact g_zret hQ C hr hlocks (by decide) hP hS dX6_isLetter_17 ⟨0, rfl, rfl, rfl, rfl, (by first | omega | (split <;> omega))⟩
    · refine lv_iconst (v := iI 1) hx hb dX6_isLetter_12 rfl ?_
      refine lv_goto (tgt := 17) hx hb dX6_isLetter_13 (by decide) ?_
      exact g_zret hQ C hr hlocks (by decide) hP hS dX6_isLetter_17 ⟨1, rfl, rfl, rfl, rfl, (by first | omega | (split <;> omega))⟩

set_option maxHeartbeats 4000000 in
set_option maxRecDepth 100000 in
theorem e_To_isDigit (l : Launch) (D : va_G) (k : Nat → ClassId) (A : Nat → Prop) (ad : Nat → Nat) (hD : rwD A k ad) (v : gV) (f g : gF) (a1 : Int) (h_a1 : inR a1) : GM l D k A (rwT k ad) yX6_isDigit cX6_isDigit 1 (some .boolean) 0 0 [.int (iI a1)] v f g (fun r v1 f1 g1 => ∃ (z : Int), r = some (.int (iI z)) ∧ v = v1 ∧ f = f1 ∧ g = g1 ∧ (z = (if 48 ≤ a1 ∧ a1 ≤ 57 then 1 else 0))) := by
  refine GM.of (by decide) (Nat.le_of_ble_eq_true rfl) ?_
  intro p e s m args below meth c Q ls hQ C hml hr hlocks hP hl
  have hx := C.1
  have hb := C.2.1
  have hok := hP.2
  have hS : va_S A s.heap s.heap [] := va_S.rf
  have hl : lv_has ls 1 [(0, .int (iI a1))] := hl
  refine lv_iload_n hx hb dX6_isDigit_0 rfl (lv_at hl 0 rfl) ?_
  refine lv_bipush (v := iI 48) hx hb dX6_isDigit_1 (by decide) ?_
  refine gi_clt (tgt := 16) hx hb dX6_isDigit_3 (by decide) (by omega) (by decide) (fun c_1 => ?_) (fun c_1 => ?_)
  · refine lv_iconst (v := iI 0) hx hb dX6_isDigit_16 rfl ?_
    exact g_zret hQ C hr hlocks (by decide) hP hS dX6_isDigit_17 ⟨0, rfl, rfl, rfl, rfl, (by first | omega | (split <;> omega))⟩
  · refine lv_iload_n hx hb dX6_isDigit_6 rfl (lv_at hl 0 rfl) ?_
    refine lv_bipush (v := iI 57) hx hb dX6_isDigit_7 (by decide) ?_
    refine gi_cgt (tgt := 16) hx hb dX6_isDigit_9 (by decide) (by omega) (by decide) (fun c_2 => ?_) (fun c_2 => ?_)
    · refine lv_iconst (v := iI 0) hx hb dX6_isDigit_16 rfl ?_
      exact g_zret hQ C hr hlocks (by decide) hP hS dX6_isDigit_17 ⟨0, rfl, rfl, rfl, rfl, (by first | omega | (split <;> omega))⟩
    · refine lv_iconst (v := iI 1) hx hb dX6_isDigit_12 rfl ?_
      refine lv_goto (tgt := 17) hx hb dX6_isDigit_13 (by decide) ?_
      exact g_zret hQ C hr hlocks (by decide) hP hS dX6_isDigit_17 ⟨1, rfl, rfl, rfl, rfl, (by first | omega | (split <;> omega))⟩

set_option maxHeartbeats 4000000 in
set_option maxRecDepth 100000 in
theorem e_To_isSign (l : Launch) (D : va_G) (k : Nat → ClassId) (A : Nat → Prop) (ad : Nat → Nat) (hD : rwD A k ad) (v : gV) (f g : gF) (a1 : Int) (h_a1 : inR a1) : GM l D k A (rwT k ad) yX6_isSign cX6_isSign 1 (some .boolean) 0 0 [.int (iI a1)] v f g (fun r v1 f1 g1 => ∃ (z : Int), r = some (.int (iI z)) ∧ v = v1 ∧ f = f1 ∧ g = g1 ∧ (z = (if a1 = 43 ∨ a1 = 45 ∨ a1 = 42 ∨ a1 = 40 ∨ a1 = 41 ∨ a1 = 44 ∨ a1 = 59 then 1 else 0))) := by
  refine GM.of (by decide) (Nat.le_of_ble_eq_true rfl) ?_
  intro p e s m args below meth c Q ls hQ C hml hr hlocks hP hl
  have hx := C.1
  have hb := C.2.1
  have hok := hP.2
  have hS : va_S A s.heap s.heap [] := va_S.rf
  have hl : lv_has ls 1 [(0, .int (iI a1))] := hl
  refine lv_iload_n hx hb dX6_isSign_0 rfl (lv_at hl 0 rfl) ?_
  refine lv_bipush (v := iI 43) hx hb dX6_isSign_1 (by decide) ?_
  refine gi_ceq (tgt := 42) hx hb dX6_isSign_3 (by decide) (by omega) (by decide) (fun c_1 => ?_) (fun c_1 => ?_)
  · refine lv_iconst (v := iI 1) hx hb dX6_isSign_42 rfl ?_
    refine lv_goto (tgt := 47) hx hb dX6_isSign_43 (by decide) ?_
    exact g_zret hQ C hr hlocks (by decide) hP hS dX6_isSign_47 ⟨1, rfl, rfl, rfl, rfl, (by first | omega | (split <;> omega))⟩
  · refine lv_iload_n hx hb dX6_isSign_6 rfl (lv_at hl 0 rfl) ?_
    refine lv_bipush (v := iI 45) hx hb dX6_isSign_7 (by decide) ?_
    refine gi_ceq (tgt := 42) hx hb dX6_isSign_9 (by decide) (by omega) (by decide) (fun c_2 => ?_) (fun c_2 => ?_)
    · refine lv_iconst (v := iI 1) hx hb dX6_isSign_42 rfl ?_
      refine lv_goto (tgt := 47) hx hb dX6_isSign_43 (by decide) ?_
      exact g_zret hQ C hr hlocks (by decide) hP hS dX6_isSign_47 ⟨1, rfl, rfl, rfl, rfl, (by first | omega | (split <;> omega))⟩
    · refine lv_iload_n hx hb dX6_isSign_12 rfl (lv_at hl 0 rfl) ?_
      refine lv_bipush (v := iI 42) hx hb dX6_isSign_13 (by decide) ?_
      refine gi_ceq (tgt := 42) hx hb dX6_isSign_15 (by decide) (by omega) (by decide) (fun c_3 => ?_) (fun c_3 => ?_)
      · refine lv_iconst (v := iI 1) hx hb dX6_isSign_42 rfl ?_
        refine lv_goto (tgt := 47) hx hb dX6_isSign_43 (by decide) ?_
        exact g_zret hQ C hr hlocks (by decide) hP hS dX6_isSign_47 ⟨1, rfl, rfl, rfl, rfl, (by first | omega | (split <;> omega))⟩
      · refine lv_iload_n hx hb dX6_isSign_18 rfl (lv_at hl 0 rfl) ?_
        refine lv_bipush (v := iI 40) hx hb dX6_isSign_19 (by decide) ?_
        refine gi_ceq (tgt := 42) hx hb dX6_isSign_21 (by decide) (by omega) (by decide) (fun c_4 => ?_) (fun c_4 => ?_)
        · refine lv_iconst (v := iI 1) hx hb dX6_isSign_42 rfl ?_
          refine lv_goto (tgt := 47) hx hb dX6_isSign_43 (by decide) ?_
          exact g_zret hQ C hr hlocks (by decide) hP hS dX6_isSign_47 ⟨1, rfl, rfl, rfl, rfl, (by first | omega | (split <;> omega))⟩
        · refine lv_iload_n hx hb dX6_isSign_24 rfl (lv_at hl 0 rfl) ?_
          refine lv_bipush (v := iI 41) hx hb dX6_isSign_25 (by decide) ?_
          refine gi_ceq (tgt := 42) hx hb dX6_isSign_27 (by decide) (by omega) (by decide) (fun c_5 => ?_) (fun c_5 => ?_)
          · refine lv_iconst (v := iI 1) hx hb dX6_isSign_42 rfl ?_
            refine lv_goto (tgt := 47) hx hb dX6_isSign_43 (by decide) ?_
            exact g_zret hQ C hr hlocks (by decide) hP hS dX6_isSign_47 ⟨1, rfl, rfl, rfl, rfl, (by first | omega | (split <;> omega))⟩
          · refine lv_iload_n hx hb dX6_isSign_30 rfl (lv_at hl 0 rfl) ?_
            refine lv_bipush (v := iI 44) hx hb dX6_isSign_31 (by decide) ?_
            refine gi_ceq (tgt := 42) hx hb dX6_isSign_33 (by decide) (by omega) (by decide) (fun c_6 => ?_) (fun c_6 => ?_)
            · refine lv_iconst (v := iI 1) hx hb dX6_isSign_42 rfl ?_
              refine lv_goto (tgt := 47) hx hb dX6_isSign_43 (by decide) ?_
              exact g_zret hQ C hr hlocks (by decide) hP hS dX6_isSign_47 ⟨1, rfl, rfl, rfl, rfl, (by first | omega | (split <;> omega))⟩
            · refine lv_iload_n hx hb dX6_isSign_36 rfl (lv_at hl 0 rfl) ?_
              refine lv_bipush (v := iI 59) hx hb dX6_isSign_37 (by decide) ?_
              refine gi_cne (tgt := 46) hx hb dX6_isSign_39 (by decide) (by omega) (by decide) (fun c_7 => ?_) (fun c_7 => ?_)
              · refine lv_iconst (v := iI 0) hx hb dX6_isSign_46 rfl ?_
                exact g_zret hQ C hr hlocks (by decide) hP hS dX6_isSign_47 ⟨0, rfl, rfl, rfl, rfl, (by first | omega | (split <;> omega))⟩
              · refine lv_iconst (v := iI 1) hx hb dX6_isSign_42 rfl ?_
                refine lv_goto (tgt := 47) hx hb dX6_isSign_43 (by decide) ?_
                exact g_zret hQ C hr hlocks (by decide) hP hS dX6_isSign_47 ⟨1, rfl, rfl, rfl, rfl, (by first | omega | (split <;> omega))⟩

set_option maxHeartbeats 4000000 in
set_option maxRecDepth 100000 in
theorem e_To_put (l : Launch) (D : va_G) (k : Nat → ClassId) (A : Nat → Prop) (ad : Nat → Nat) (hD : rwD A k ad) (v : gV) (f g : gF) (a1 : Int) (a2 : Int) (a3 : Int) (h_a1 : inR a1) (h_a2 : inR a2) (h_a3 : inR a3) (h0 : (v 5) < 701) (h1 : 0 ≤ a1 ∧ a1 ≤ 300) (h2 : 0 ≤ a2 ∧ a2 ≤ 700) (h3 : 0 ≤ a3 ∧ a3 ≤ 999999) : GM l D k A (rwT k ad) yX6_put cX6_put 4 none 0 0 [.ref (ad 10), .int (iI a1), .int (iI a2), .int (iI a3)] v f g (fun r v1 f1 g1 => r = none ∧ (va_up v 5 ((v 5) + 1)) = v1 ∧ (va_up (va_up (va_up f 6 (u1 (f 6) (v 5) a1)) 7 (u1 (f 7) (v 5) a2)) 8 (u1 (f 8) (v 5) a3)) = f1 ∧ g = g1) := by
  refine GM.of (by decide) (Nat.le_of_ble_eq_true rfl) ?_
  intro p e s m args below meth c Q ls hQ C hml hr hlocks hP hl
  have hx := C.1
  have hb := C.2.1
  have hok := hP.2
  have hS : va_S A s.heap s.heap [] := va_S.rf
  have hl : lv_has ls 4 [(0, .ref (ad 10)), (1, .int (iI a1)), (2, .int (iI a2)), (3, .int (iI a3))] := hl
  have hP : gWd D (rwT k ad) (va_up v 5 (v 5)) (va_up (va_up (va_up f 6 (f 6)) 7 (f 7)) 8 (f 8)) g s.heap := by rw [va_id, va_id, va_id, va_id]; exact hP
  refine lv_aload_n hx hb dX6_put_0 rfl (lv_at hl 0 rfl) ?_
  refine rwG_reader_tokens_many C hP mF_X6_25 dX6_put_1 ?_
  show W p l e (gRm 0 0) s m args below meth c _ _ 0 0 Q (F0 m 4 ls [.int (iI (v 5))])
  have r_1 : 0 ≤ (v 5) ∧ (v 5) ≤ 701 := hok.1 5
  refine lv_aload_n hx hb dX6_put_4 rfl (lv_at hl 0 rfl) ?_
  refine rwG_reader_tokens_kinds C hP mF_X6_9 dX6_put_5 ?_
  refine rwN_reader_tokens_kinds C hP dX6_put_8 ?_
  refine gi_cge (tgt := 52) hx hb dX6_put_9 (by decide) (by omega) (by decide) (fun c_2 => ?_) (fun c_2 => ?_)
  · exact g_vret hQ C hr hlocks hP hS dX6_put_52 ⟨rfl, (by rw [show (((v 5) + 1) : Int) = (v 5) from by omega]), (by rw [show ((u1 (f 6) (v 5) a1) : Int → Int) = (f 6) from by omega, show ((u1 (f 7) (v 5) a2) : Int → Int) = (f 7) from by omega, show ((u1 (f 8) (v 5) a3) : Int → Int) = (f 8) from by omega]), rfl⟩
  · refine lv_aload_n hx hb dX6_put_12 rfl (lv_at hl 0 rfl) ?_
    refine rwG_reader_tokens_kinds C hP mF_X6_9 dX6_put_13 ?_
    refine lv_aload_n hx hb dX6_put_16 rfl (lv_at hl 0 rfl) ?_
    refine rwG_reader_tokens_many C hP mF_X6_25 dX6_put_17 ?_
    show W p l e (gRm 0 0) s m args below meth c _ _ 0 0 Q (F0 m 20 ls [.int (iI (v 5)), .ref (ad 11)])
    refine lv_iload_n hx hb dX6_put_20 rfl (lv_at hl 1 rfl) ?_
    refine rwS_reader_tokens_kinds (f1 := (va_up (va_up (va_up f 6 (u1 (f 6) (v 5) a1)) 7 (f 7)) 8 (f 8))) C hP hD hS (by omega) (by omega) (by omega) rfl (Or.inr (gF_up (V := rwV) (F := rwF) (gF_up (V := rwV) (F := rwF) (gF_up (V := rwV) (F := rwF) (gR_up (V := rwV) (F := rwF) ⟨hok.1, hok.2⟩ 5 (hP.2.1 5)) 6 (u1_rng (hP.2.2 6) (show 0 ≤ a1 ∧ a1 ≤ 300 from (by omega)))) 7 (hP.2.2 7)) 8 (hP.2.2 8))) dX6_put_21 (fun H locs hP hS => ?_)
    refine lv_aload_n hx hb dX6_put_22 rfl (lv_at hl 0 rfl) ?_
    refine rwG_reader_tokens_places C hP mF_X6_15 dX6_put_23 ?_
    refine lv_aload_n hx hb dX6_put_26 rfl (lv_at hl 0 rfl) ?_
    refine rwG_reader_tokens_many C hP mF_X6_25 dX6_put_27 ?_
    show W p l e (gRm 0 0) s m args below meth c _ _ 0 0 Q (F0 m 30 ls [.int (iI (v 5)), .ref (ad 12)])
    refine lv_iload_n hx hb dX6_put_30 rfl (lv_at hl 2 rfl) ?_
    refine rwS_reader_tokens_places (f1 := (va_up (va_up (va_up f 6 (u1 (f 6) (v 5) a1)) 7 (u1 (f 7) (v 5) a2)) 8 (f 8))) C hP hD hS (by omega) (by omega) (by omega) rfl (Or.inr (gF_up (V := rwV) (F := rwF) (gF_up (V := rwV) (F := rwF) (gF_up (V := rwV) (F := rwF) (gR_up (V := rwV) (F := rwF) ⟨hok.1, hok.2⟩ 5 (hP.2.1 5)) 6 (hP.2.2 6)) 7 (u1_rng (hP.2.2 7) (show 0 ≤ a2 ∧ a2 ≤ 700 from (by omega)))) 8 (hP.2.2 8))) dX6_put_31 (fun H locs hP hS => ?_)
    refine lv_aload_n hx hb dX6_put_32 rfl (lv_at hl 0 rfl) ?_
    refine rwG_reader_tokens_values C hP mF_X6_18 dX6_put_33 ?_
    refine lv_aload_n hx hb dX6_put_36 rfl (lv_at hl 0 rfl) ?_
    refine rwG_reader_tokens_many C hP mF_X6_25 dX6_put_37 ?_
    show W p l e (gRm 0 0) s m args below meth c _ _ 0 0 Q (F0 m 40 ls [.int (iI (v 5)), .ref (ad 13)])
    refine lv_iload_n hx hb dX6_put_40 rfl (lv_at hl 3 rfl) ?_
    refine rwS_reader_tokens_values (f1 := (va_up (va_up (va_up f 6 (u1 (f 6) (v 5) a1)) 7 (u1 (f 7) (v 5) a2)) 8 (u1 (f 8) (v 5) a3))) C hP hD hS (by omega) (by omega) (by omega) rfl (Or.inr (gF_up (V := rwV) (F := rwF) (gF_up (V := rwV) (F := rwF) (gF_up (V := rwV) (F := rwF) (gR_up (V := rwV) (F := rwF) ⟨hok.1, hok.2⟩ 5 (hP.2.1 5)) 6 (hP.2.2 6)) 7 (hP.2.2 7)) 8 (u1_rng (hP.2.2 8) (show 0 ≤ a3 ∧ a3 ≤ 999999 from (by omega))))) dX6_put_41 (fun H locs hP hS => ?_)
    refine lv_aload_n hx hb dX6_put_42 rfl (lv_at hl 0 rfl) ?_
    refine lv_dup hx hb dX6_put_43 rfl ?_
    refine rwG_reader_tokens_many C hP mF_X6_25 dX6_put_44 ?_
    show W p l e (gRm 0 0) s m args below meth c _ _ 0 0 Q (F0 m 47 ls [.int (iI (v 5)), .ref (ad 10)])
    refine lv_iconst (v := iI 1) hx hb dX6_put_47 rfl ?_
    refine gi_add (z := ((v 5) + 1)) hx hb dX6_put_48 rfl ?_
    refine rwP_reader_tokens_many (v1 := (va_up v 5 ((v 5) + 1))) C hP hD hS mF_X6_25 (by omega) rfl (Or.inr (gF_up (V := rwV) (F := rwF) (gF_up (V := rwV) (F := rwF) (gF_up (V := rwV) (F := rwF) (gR_up (V := rwV) (F := rwF) ⟨hok.1, hok.2⟩ 5 (show 0 ≤ ((v 5) + 1) ∧ ((v 5) + 1) ≤ 701 from by omega)) 6 (hP.2.2 6)) 7 (hP.2.2 7)) 8 (hP.2.2 8))) dX6_put_49 (fun H locs hP hS => ?_)
    exact g_vret hQ C hr hlocks hP hS dX6_put_52 ⟨rfl, rfl, rfl, rfl⟩

set_option maxHeartbeats 4000000 in
set_option maxRecDepth 100000 in
theorem e_To_wordKind (l : Launch) (D : va_G) (k : Nat → ClassId) (A : Nat → Prop) (ad : Nat → Nat) (hD : rwD A k ad) (za : Nat → Nat) (v : gV) (f g : gF) (a2 : Int) (a3 : Int) (h_a2 : inR a2) (h_a3 : inR a3) (h2 : 0 ≤ a2 ∧ a2 ≤ a3) (h3 : a3 ≤ 700) : GE l D k za A (rwT k ad) yX6_wordKind cX6_wordKind 8 (some .int) 4 85 [.ref (ad 1), .int (iI a2), .int (iI a3)] v f g (fun r v1 f1 g1 => ∃ (z : Int), r = some (.int (iI z)) ∧ v = v1 ∧ f = f1 ∧ g = g1 ∧ (z = (wK (f 0) a2 a3)) ∧ (259 ≤ z ∧ z ≤ 277)) := by
  refine GE.of (by decide) (Nat.le_of_ble_eq_true rfl) ?_
  intro p e s m args below meth c Q ls hQ C hml hr hlocks hP hl hE
  have hx := C.1
  have hb := C.2.1
  have hok := hP.2
  have hS : va_S A s.heap s.heap [] := va_S.rf
  have hl : lv_has ls 8 [(0, .ref (ad 1)), (1, .int (iI a2)), (2, .int (iI a3))] := hl
  refine lv_sipush (v := iI 260) hx hb dX6_wordKind_0 (by decide) ?_
  refine lv_istore_n (lv' := [(3, .int (iI 260)), (0, .ref (ad 1)), (1, .int (iI a2)), (2, .int (iI a3))]) hx hb dX6_wordKind_3 rfl hl (by decide) rfl (fun ls hl => ?_)
  refine lv_iload_n hx hb dX6_wordKind_4 rfl (lv_at hl 2 rfl) ?_
  refine lv_istore (lv' := [(4, .int (iI a2)), (3, .int (iI 260)), (0, .ref (ad 1)), (1, .int (iI a2)), (2, .int (iI a3))]) hx hb dX6_wordKind_5 hl (by decide) rfl (fun ls hl => ?_)
  refine lv_iconst (v := iI 1) hx hb dX6_wordKind_7 rfl ?_
  refine lv_istore (lv' := [(5, .int (iI 1)), (4, .int (iI a2)), (3, .int (iI 260)), (0, .ref (ad 1)), (1, .int (iI a2)), (2, .int (iI a3))]) hx hb dX6_wordKind_8 hl (by decide) rfl (fun ls hl => ?_)
  refine lv_iconst (v := iI 0) hx hb dX6_wordKind_10 rfl ?_
  refine lv_istore (lv' := [(6, .int (iI 0)), (5, .int (iI 1)), (4, .int (iI a2)), (3, .int (iI 260)), (0, .ref (ad 1)), (1, .int (iI a2)), (2, .int (iI a3))]) hx hb dX6_wordKind_11 hl (by decide) rfl (fun ls hl => ?_)
  have L_1 : ∀ (n : Nat) (x3 : Int) (x4 : Int) (x5 : Int) (x6 : Int) (H : Heap) (locs : List Loc) (ls : Array Slot), 97 - x6 < (n : Int) → (0 ≤ x6 ∧ x6 ≤ 97) → (a2 ≤ x4 ∧ x4 ≤ a2 + x6) → (x3 = 260 + gEsp x6) → (0 ≤ x5 ∧ x5 ≤ 1) → (0 ≤ gEsp x6 ∧ gEsp x6 ≤ 18) → (wl (f 0) a2 a3 (gEt.drop x6.toNat) x3 x4 x5 = wK (f 0) a2 a3) → gWd D (rwT k ad) v f g H → va_S A s.heap H locs → lv_has ls 8 [(0, .ref (ad 1)), (1, .int (iI a2)), (2, .int (iI a3)), (3, .int (iI x3)), (4, .int (iI x4)), (5, .int (iI x5)), (6, .int (iI x6))] → W p l e (gRm 4 85) s m args below meth c H locs 0 0 Q (F0 m 13 ls []) := by
    intro n
    induction n with
    | zero =>
      intro x3 x4 x5 x6 H locs ls hn_1 i1_0 i1_1 i1_2 i1_3 i1_4 i1_5 hP hS hl
      exfalso; omega
    | succ n ih_13 =>
      intro x3 x4 x5 x6 H locs ls hn_1 i1_0 i1_1 i1_2 i1_3 i1_4 i1_5 hP hS hl
      have hI := i1_5
      have hR := wK_rng (f 0) a2 a3
      refine lv_iload hx hb dX6_wordKind_13 (lv_at hl 6 rfl) ?_
      refine va_ldcS hx hb C.2.2.2.1 hE.p7 dX6_wordKind_15 ?_
      refine g_cvX (As := []) (rest := [.int (iI x6)]) (n := 0) C hE hml j_len mM_X6_54 mI_J0_length_8abf5 mE_J0_length_8abf5 mN_J0 mC_J0_length_8abf5 (by decide +kernel) (vk_recv (adK := fun _ => za 2) (i := 0) hE.p5 (by decide) hS) hP hS (fun _ h => h) ⟨Nat.le_of_ble_eq_true rfl, Nat.le_of_ble_eq_true rfl⟩ ⟨Nat.zero_le _, Nat.zero_le _⟩ hl.1 rfl rfl (Nat.le_of_ble_eq_true rfl) dX6_wordKind_17 (fun r v1 f1 g1 H locs hq hP _ hS => ?_)
      obtain ⟨rfl, rfl, rfl, rfl⟩ := hq
      show W p l e (gRm 4 85) s m args below meth c _ _ 0 0 Q (F0 m 20 ls [.int (iI 97), .int (iI x6)])
      refine gi_cge (tgt := 100) hx hb dX6_wordKind_20 (by decide) (by omega) (by decide) (fun c_2 => ?_) (fun c_2 => ?_)
      · refine lv_sipush (v := iI 259) hx hb dX6_wordKind_100 (by decide) ?_
        exact g_iret hQ C hr hlocks hP hS dX6_wordKind_103 ⟨259, rfl, rfl, rfl, rfl, (by have h := hI; first | (rw [wl_sp (i := x6) (by omega) (by omega) (by omega), if_pos (by omega)] at h; exact h) | (rw [wl_end (i := x6) (by omega) (by omega)] at h; exact h)), (by first | omega | (split <;> omega))⟩
      · refine va_ldcS hx hb C.2.2.2.1 hE.p7 dX6_wordKind_23 ?_
        refine lv_iload hx hb dX6_wordKind_25 (lv_at hl 6 rfl) ?_
        refine g_cvX (As := [.int (iI x6)]) (rest := []) (n := 1) C hE hml (j_cat (a := x6) (by omega) (by omega)) mM_X6_60 mI_J0_charAt_5068e mE_J0_charAt_5068e mN_J0 mC_J0_charAt_5068e (by decide +kernel) (vk_recv (adK := fun _ => za 2) (i := 0) hE.p5 (by decide) hS) hP hS (fun _ h => h) ⟨Nat.le_of_ble_eq_true rfl, Nat.le_of_ble_eq_true rfl⟩ ⟨Nat.zero_le _, Nat.zero_le _⟩ hl.1 rfl rfl (Nat.le_of_ble_eq_true rfl) dX6_wordKind_27 (fun r v1 f1 g1 H locs hq hP _ hS => ?_)
        obtain ⟨rfl, rfl, rfl, rfl⟩ := hq
        show W p l e (gRm 4 85) s m args below meth c _ _ 0 0 Q (F0 m 30 ls [.int (iI (gEch x6))])
        have q_3 := gEsp_step (i := x6) (by omega) (by omega)
        refine lv_istore (lv' := [(7, .int (iI (gEch x6))), (0, .ref (ad 1)), (1, .int (iI a2)), (2, .int (iI a3)), (3, .int (iI x3)), (4, .int (iI x4)), (5, .int (iI x5)), (6, .int (iI x6))]) hx hb dX6_wordKind_30 hl (by decide) rfl (fun ls hl => ?_)
        refine lv_iload hx hb dX6_wordKind_32 (lv_at hl 0 rfl) ?_
        refine lv_bipush (v := iI 32) hx hb dX6_wordKind_34 (by decide) ?_
        refine gi_ceq (tgt := 72) hx hb dX6_wordKind_36 (by decide) (by omega) (by decide) (fun c_4 => ?_) (fun c_4 => ?_)
        · refine lv_iload hx hb dX6_wordKind_72 (lv_at hl 6 rfl) ?_
          refine gi_zeq (tgt := 85) hx hb dX6_wordKind_74 (by decide) (by omega) (fun c_5 => ?_) (fun c_5 => ?_)
          · refine lv_iinc (v := iI (x3 + 1)) (lv' := [(3, .int (iI (x3 + 1))), (7, .int (iI (gEch x6))), (0, .ref (ad 1)), (1, .int (iI a2)), (2, .int (iI a3)), (4, .int (iI x4)), (5, .int (iI x5)), (6, .int (iI x6))]) hx hb dX6_wordKind_85 hl (k := 4) rfl (by show iI _ + iI 1 = _; rw [iI_add]) (by decide) rfl (fun ls hl => ?_)
            refine lv_iload_n hx hb dX6_wordKind_88 rfl (lv_at hl 3 rfl) ?_
            refine lv_istore (lv' := [(4, .int (iI a2)), (3, .int (iI (x3 + 1))), (7, .int (iI (gEch x6))), (0, .ref (ad 1)), (1, .int (iI a2)), (2, .int (iI a3)), (5, .int (iI x5)), (6, .int (iI x6))]) hx hb dX6_wordKind_89 hl (by decide) rfl (fun ls hl => ?_)
            refine lv_iconst (v := iI 1) hx hb dX6_wordKind_91 rfl ?_
            refine lv_istore (lv' := [(5, .int (iI 1)), (4, .int (iI a2)), (3, .int (iI (x3 + 1))), (7, .int (iI (gEch x6))), (0, .ref (ad 1)), (1, .int (iI a2)), (2, .int (iI a3)), (6, .int (iI x6))]) hx hb dX6_wordKind_92 hl (by decide) rfl (fun ls hl => ?_)
            refine lv_iinc (v := iI (x6 + 1)) (lv' := [(6, .int (iI (x6 + 1))), (5, .int (iI 1)), (4, .int (iI a2)), (3, .int (iI (x3 + 1))), (7, .int (iI (gEch x6))), (0, .ref (ad 1)), (1, .int (iI a2)), (2, .int (iI a3))]) hx hb dX6_wordKind_94 hl (k := 7) rfl (by show iI _ + iI 1 = _; rw [iI_add]) (by decide) rfl (fun ls hl => ?_)
            refine lv_goto (tgt := 13) hx hb dX6_wordKind_97 (by decide) ?_
            exact ih_13 (x3 + 1) a2 1 (x6 + 1) _ _ _ (by omega) (by omega) (by omega) (by omega) (by omega) (by omega) (by have h := hI; first | (rw [wl_ne (i := x6) (by omega) (by omega) (by omega)] at h; first | (rw [if_pos (by omega)] at h; exact h) | (rw [if_neg (by omega)] at h; exact h)) | (rw [wl_sp (i := x6) (by omega) (by omega) (by omega), if_neg (by omega)] at h; exact h)) hP hS (lv_sub hl [5, 6, 7, 3, 2, 1, 0] rfl)
          · refine lv_iload hx hb dX6_wordKind_77 (lv_at hl 5 rfl) ?_
            refine lv_iload_n hx hb dX6_wordKind_79 rfl (lv_at hl 3 rfl) ?_
            refine gi_cne (tgt := 85) hx hb dX6_wordKind_80 (by decide) (by omega) (by omega) (fun c_6 => ?_) (fun c_6 => ?_)
            · refine lv_iinc (v := iI (x3 + 1)) (lv' := [(3, .int (iI (x3 + 1))), (7, .int (iI (gEch x6))), (0, .ref (ad 1)), (1, .int (iI a2)), (2, .int (iI a3)), (4, .int (iI x4)), (5, .int (iI x5)), (6, .int (iI x6))]) hx hb dX6_wordKind_85 hl (k := 4) rfl (by show iI _ + iI 1 = _; rw [iI_add]) (by decide) rfl (fun ls hl => ?_)
              refine lv_iload_n hx hb dX6_wordKind_88 rfl (lv_at hl 3 rfl) ?_
              refine lv_istore (lv' := [(4, .int (iI a2)), (3, .int (iI (x3 + 1))), (7, .int (iI (gEch x6))), (0, .ref (ad 1)), (1, .int (iI a2)), (2, .int (iI a3)), (5, .int (iI x5)), (6, .int (iI x6))]) hx hb dX6_wordKind_89 hl (by decide) rfl (fun ls hl => ?_)
              refine lv_iconst (v := iI 1) hx hb dX6_wordKind_91 rfl ?_
              refine lv_istore (lv' := [(5, .int (iI 1)), (4, .int (iI a2)), (3, .int (iI (x3 + 1))), (7, .int (iI (gEch x6))), (0, .ref (ad 1)), (1, .int (iI a2)), (2, .int (iI a3)), (6, .int (iI x6))]) hx hb dX6_wordKind_92 hl (by decide) rfl (fun ls hl => ?_)
              refine lv_iinc (v := iI (x6 + 1)) (lv' := [(6, .int (iI (x6 + 1))), (5, .int (iI 1)), (4, .int (iI a2)), (3, .int (iI (x3 + 1))), (7, .int (iI (gEch x6))), (0, .ref (ad 1)), (1, .int (iI a2)), (2, .int (iI a3))]) hx hb dX6_wordKind_94 hl (k := 7) rfl (by show iI _ + iI 1 = _; rw [iI_add]) (by decide) rfl (fun ls hl => ?_)
              refine lv_goto (tgt := 13) hx hb dX6_wordKind_97 (by decide) ?_
              exact ih_13 (x3 + 1) a2 1 (x6 + 1) _ _ _ (by omega) (by omega) (by omega) (by omega) (by omega) (by omega) (by have h := hI; first | (rw [wl_ne (i := x6) (by omega) (by omega) (by omega)] at h; first | (rw [if_pos (by omega)] at h; exact h) | (rw [if_neg (by omega)] at h; exact h)) | (rw [wl_sp (i := x6) (by omega) (by omega) (by omega), if_neg (by omega)] at h; exact h)) hP hS (lv_sub hl [5, 6, 7, 3, 2, 1, 0] rfl)
            · refine lv_iload_n hx hb dX6_wordKind_83 rfl (lv_at hl 4 rfl) ?_
              exact g_iret hQ C hr hlocks hP hS dX6_wordKind_84 ⟨x3, rfl, rfl, rfl, rfl, (by have h := hI; first | (rw [wl_sp (i := x6) (by omega) (by omega) (by omega), if_pos (by omega)] at h; exact h) | (rw [wl_end (i := x6) (by omega) (by omega)] at h; exact h)), (by first | omega | (split <;> omega))⟩
        · refine lv_iload hx hb dX6_wordKind_39 (lv_at hl 6 rfl) ?_
          refine gi_zeq (tgt := 63) hx hb dX6_wordKind_41 (by decide) (by omega) (fun c_7 => ?_) (fun c_7 => ?_)
          · refine lv_iconst (v := iI 0) hx hb dX6_wordKind_63 rfl ?_
            refine lv_istore (lv' := [(5, .int (iI 0)), (7, .int (iI (gEch x6))), (0, .ref (ad 1)), (1, .int (iI a2)), (2, .int (iI a3)), (3, .int (iI x3)), (4, .int (iI x4)), (6, .int (iI x6))]) hx hb dX6_wordKind_64 hl (by decide) rfl (fun ls hl => ?_)
            refine lv_iinc (v := iI (x4 + 1)) (lv' := [(4, .int (iI (x4 + 1))), (5, .int (iI 0)), (7, .int (iI (gEch x6))), (0, .ref (ad 1)), (1, .int (iI a2)), (2, .int (iI a3)), (3, .int (iI x3)), (6, .int (iI x6))]) hx hb dX6_wordKind_66 hl (k := 6) rfl (by show iI _ + iI 1 = _; rw [iI_add]) (by decide) rfl (fun ls hl => ?_)
            refine lv_goto (tgt := 94) hx hb dX6_wordKind_69 (by decide) ?_
            refine lv_iinc (v := iI (x6 + 1)) (lv' := [(6, .int (iI (x6 + 1))), (4, .int (iI (x4 + 1))), (5, .int (iI 0)), (7, .int (iI (gEch x6))), (0, .ref (ad 1)), (1, .int (iI a2)), (2, .int (iI a3)), (3, .int (iI x3))]) hx hb dX6_wordKind_94 hl (k := 7) rfl (by show iI _ + iI 1 = _; rw [iI_add]) (by decide) rfl (fun ls hl => ?_)
            refine lv_goto (tgt := 13) hx hb dX6_wordKind_97 (by decide) ?_
            exact ih_13 x3 (x4 + 1) 0 (x6 + 1) _ _ _ (by omega) (by omega) (by omega) (by omega) (by omega) (by omega) (by have h := hI; first | (rw [wl_ne (i := x6) (by omega) (by omega) (by omega)] at h; first | (rw [if_pos (by omega)] at h; exact h) | (rw [if_neg (by omega)] at h; exact h)) | (rw [wl_sp (i := x6) (by omega) (by omega) (by omega), if_neg (by omega)] at h; exact h)) hP hS (lv_sub hl [4, 5, 6, 7, 1, 2, 0] rfl)
          · refine lv_iload hx hb dX6_wordKind_44 (lv_at hl 5 rfl) ?_
            refine lv_iload_n hx hb dX6_wordKind_46 rfl (lv_at hl 3 rfl) ?_
            refine gi_cge (tgt := 63) hx hb dX6_wordKind_47 (by decide) (by omega) (by omega) (fun c_8 => ?_) (fun c_8 => ?_)
            · refine lv_iconst (v := iI 0) hx hb dX6_wordKind_63 rfl ?_
              refine lv_istore (lv' := [(5, .int (iI 0)), (7, .int (iI (gEch x6))), (0, .ref (ad 1)), (1, .int (iI a2)), (2, .int (iI a3)), (3, .int (iI x3)), (4, .int (iI x4)), (6, .int (iI x6))]) hx hb dX6_wordKind_64 hl (by decide) rfl (fun ls hl => ?_)
              refine lv_iinc (v := iI (x4 + 1)) (lv' := [(4, .int (iI (x4 + 1))), (5, .int (iI 0)), (7, .int (iI (gEch x6))), (0, .ref (ad 1)), (1, .int (iI a2)), (2, .int (iI a3)), (3, .int (iI x3)), (6, .int (iI x6))]) hx hb dX6_wordKind_66 hl (k := 6) rfl (by show iI _ + iI 1 = _; rw [iI_add]) (by decide) rfl (fun ls hl => ?_)
              refine lv_goto (tgt := 94) hx hb dX6_wordKind_69 (by decide) ?_
              refine lv_iinc (v := iI (x6 + 1)) (lv' := [(6, .int (iI (x6 + 1))), (4, .int (iI (x4 + 1))), (5, .int (iI 0)), (7, .int (iI (gEch x6))), (0, .ref (ad 1)), (1, .int (iI a2)), (2, .int (iI a3)), (3, .int (iI x3))]) hx hb dX6_wordKind_94 hl (k := 7) rfl (by show iI _ + iI 1 = _; rw [iI_add]) (by decide) rfl (fun ls hl => ?_)
              refine lv_goto (tgt := 13) hx hb dX6_wordKind_97 (by decide) ?_
              exact ih_13 x3 (x4 + 1) 0 (x6 + 1) _ _ _ (by omega) (by omega) (by omega) (by omega) (by omega) (by omega) (by have h := hI; first | (rw [wl_ne (i := x6) (by omega) (by omega) (by omega)] at h; first | (rw [if_pos (by omega)] at h; exact h) | (rw [if_neg (by omega)] at h; exact h)) | (rw [wl_sp (i := x6) (by omega) (by omega) (by omega), if_neg (by omega)] at h; exact h)) hP hS (lv_sub hl [4, 5, 6, 7, 1, 2, 0] rfl)
            · refine lv_aload_n hx hb dX6_wordKind_50 rfl (lv_at hl 1 rfl) ?_
              refine lv_iload hx hb dX6_wordKind_51 (lv_at hl 5 rfl) ?_
              refine rwL_tape C hP (by omega) (by omega) dX6_wordKind_53 ?_
              have r_9 : 0 ≤ (f 0 x4) ∧ (f 0 x4) ≤ 255 := hP.2.2 0 x4
              refine lv_iload hx hb dX6_wordKind_54 (lv_at hl 0 rfl) ?_
              refine gi_cne (tgt := 63) hx hb dX6_wordKind_56 (by decide) (by omega) (by omega) (fun c_10 => ?_) (fun c_10 => ?_)
              · refine lv_iconst (v := iI 0) hx hb dX6_wordKind_63 rfl ?_
                refine lv_istore (lv' := [(5, .int (iI 0)), (7, .int (iI (gEch x6))), (0, .ref (ad 1)), (1, .int (iI a2)), (2, .int (iI a3)), (3, .int (iI x3)), (4, .int (iI x4)), (6, .int (iI x6))]) hx hb dX6_wordKind_64 hl (by decide) rfl (fun ls hl => ?_)
                refine lv_iinc (v := iI (x4 + 1)) (lv' := [(4, .int (iI (x4 + 1))), (5, .int (iI 0)), (7, .int (iI (gEch x6))), (0, .ref (ad 1)), (1, .int (iI a2)), (2, .int (iI a3)), (3, .int (iI x3)), (6, .int (iI x6))]) hx hb dX6_wordKind_66 hl (k := 6) rfl (by show iI _ + iI 1 = _; rw [iI_add]) (by decide) rfl (fun ls hl => ?_)
                refine lv_goto (tgt := 94) hx hb dX6_wordKind_69 (by decide) ?_
                refine lv_iinc (v := iI (x6 + 1)) (lv' := [(6, .int (iI (x6 + 1))), (4, .int (iI (x4 + 1))), (5, .int (iI 0)), (7, .int (iI (gEch x6))), (0, .ref (ad 1)), (1, .int (iI a2)), (2, .int (iI a3)), (3, .int (iI x3))]) hx hb dX6_wordKind_94 hl (k := 7) rfl (by show iI _ + iI 1 = _; rw [iI_add]) (by decide) rfl (fun ls hl => ?_)
                refine lv_goto (tgt := 13) hx hb dX6_wordKind_97 (by decide) ?_
                exact ih_13 x3 (x4 + 1) 0 (x6 + 1) _ _ _ (by omega) (by omega) (by omega) (by omega) (by omega) (by omega) (by have h := hI; first | (rw [wl_ne (i := x6) (by omega) (by omega) (by omega)] at h; first | (rw [if_pos (by omega)] at h; exact h) | (rw [if_neg (by omega)] at h; exact h)) | (rw [wl_sp (i := x6) (by omega) (by omega) (by omega), if_neg (by omega)] at h; exact h)) hP hS (lv_sub hl [4, 5, 6, 7, 1, 2, 0] rfl)
              · refine lv_iconst (v := iI 1) hx hb dX6_wordKind_59 rfl ?_
                refine lv_goto (tgt := 64) hx hb dX6_wordKind_60 (by decide) ?_
                refine lv_istore (lv' := [(5, .int (iI 1)), (7, .int (iI (gEch x6))), (0, .ref (ad 1)), (1, .int (iI a2)), (2, .int (iI a3)), (3, .int (iI x3)), (4, .int (iI x4)), (6, .int (iI x6))]) hx hb dX6_wordKind_64 hl (by decide) rfl (fun ls hl => ?_)
                refine lv_iinc (v := iI (x4 + 1)) (lv' := [(4, .int (iI (x4 + 1))), (5, .int (iI 1)), (7, .int (iI (gEch x6))), (0, .ref (ad 1)), (1, .int (iI a2)), (2, .int (iI a3)), (3, .int (iI x3)), (6, .int (iI x6))]) hx hb dX6_wordKind_66 hl (k := 6) rfl (by show iI _ + iI 1 = _; rw [iI_add]) (by decide) rfl (fun ls hl => ?_)
                refine lv_goto (tgt := 94) hx hb dX6_wordKind_69 (by decide) ?_
                refine lv_iinc (v := iI (x6 + 1)) (lv' := [(6, .int (iI (x6 + 1))), (4, .int (iI (x4 + 1))), (5, .int (iI 1)), (7, .int (iI (gEch x6))), (0, .ref (ad 1)), (1, .int (iI a2)), (2, .int (iI a3)), (3, .int (iI x3))]) hx hb dX6_wordKind_94 hl (k := 7) rfl (by show iI _ + iI 1 = _; rw [iI_add]) (by decide) rfl (fun ls hl => ?_)
                refine lv_goto (tgt := 13) hx hb dX6_wordKind_97 (by decide) ?_
                exact ih_13 x3 (x4 + 1) 1 (x6 + 1) _ _ _ (by omega) (by omega) (by omega) (by omega) (by omega) (by omega) (by have h := hI; first | (rw [wl_ne (i := x6) (by omega) (by omega) (by omega)] at h; first | (rw [if_pos (by omega)] at h; exact h) | (rw [if_neg (by omega)] at h; exact h)) | (rw [wl_sp (i := x6) (by omega) (by omega) (by omega), if_neg (by omega)] at h; exact h)) hP hS (lv_sub hl [4, 5, 6, 7, 1, 2, 0] rfl)
  exact L_1 98 260 a2 1 0 _ _ _ (by omega) (by omega) (by omega) rfl (by omega) (by decide) rfl hP hS (lv_sub hl [4, 5, 6, 3, 2, 1, 0] rfl)

set_option maxHeartbeats 4000000 in
set_option maxRecDepth 100000 in
theorem e_To_putWord (l : Launch) (D : va_G) (k : Nat → ClassId) (A : Nat → Prop) (ad : Nat → Nat) (hD : rwD A k ad) (za : Nat → Nat) (v : gV) (f g : gF) (a2 : Int) (a3 : Int) (h_a2 : inR a2) (h_a3 : inR a3) (h0 : (v 5) < 701) (h2 : 0 ≤ a2 ∧ a2 ≤ a3) (h3 : a3 ≤ 700) : GE l D k za A (rwT k ad) yX6_putWord cX6_putWord 5 (some .int) 5 112 [.ref (ad 10), .ref (ad 1), .int (iI a2), .int (iI a3)] v f g (fun r v1 f1 g1 => ∃ (z : Int), r = some (.int (iI z)) ∧ (va_up v 5 ((v 5) + 1)) = v1 ∧ (va_up (va_up (va_up f 6 (u1 (f 6) (v 5) (wK (f 0) a2 z))) 7 (u1 (f 7) (v 5) a2)) 8 (u1 (f 8) (v 5) 0)) = f1 ∧ g = g1 ∧ (z = (run bL (f 0) a3 a2)) ∧ (a2 ≤ z ∧ z ≤ a3)) := by
  refine GE.of (by decide) (Nat.le_of_ble_eq_true rfl) ?_
  intro p e s m args below meth c Q ls hQ C hml hr hlocks hP hl hE
  have hx := C.1
  have hb := C.2.1
  have hok := hP.2
  have hS : va_S A s.heap s.heap [] := va_S.rf
  have hl : lv_has ls 5 [(0, .ref (ad 10)), (1, .ref (ad 1)), (2, .int (iI a2)), (3, .int (iI a3))] := hl
  have hP : gWd D (rwT k ad) (va_up v 5 (v 5)) (va_up (va_up (va_up f 6 (f 6)) 7 (f 7)) 8 (f 8)) g s.heap := by rw [va_id, va_id, va_id, va_id]; exact hP
  refine lv_iload_n hx hb dX6_putWord_0 rfl (lv_at hl 2 rfl) ?_
  refine lv_istore (lv' := [(4, .int (iI a2)), (0, .ref (ad 10)), (1, .ref (ad 1)), (2, .int (iI a2)), (3, .int (iI a3))]) hx hb dX6_putWord_1 hl (by decide) rfl (fun ls hl => ?_)
  have L_1 : ∀ (n : Nat) (x4 : Int) (H : Heap) (locs : List Loc) (ls : Array Slot), 700 - x4 < (n : Int) → (a2 ≤ x4 ∧ x4 ≤ a3) → (∀ j, a2 ≤ j → j < x4 → j < a3 ∧ pL ((f 0) j)) → gWd D (rwT k ad) (va_up v 5 (v 5)) (va_up (va_up (va_up f 6 (f 6)) 7 (f 7)) 8 (f 8)) g H → va_S A s.heap H locs → lv_has ls 5 [(0, .ref (ad 10)), (1, .ref (ad 1)), (2, .int (iI a2)), (3, .int (iI a3)), (4, .int (iI x4))] → W p l e (gRm 5 112) s m args below meth c H locs 0 0 Q (F0 m 3 ls []) := by
    intro n
    induction n with
    | zero =>
      intro x4 H locs ls hn_1 i1_0 i1_1 hP hS hl
      exfalso; omega
    | succ n ih_3 =>
      intro x4 H locs ls hn_1 i1_0 i1_1 hP hS hl
      have hI := i1_1
      refine lv_iload hx hb dX6_putWord_3 (lv_at hl 4 rfl) ?_
      refine lv_iload_n hx hb dX6_putWord_5 rfl (lv_at hl 3 rfl) ?_
      refine gi_cge (tgt := 25) hx hb dX6_putWord_6 (by decide) (by omega) (by omega) (fun c_2 => ?_) (fun c_2 => ?_)
      · refine lv_aload_n hx hb dX6_putWord_25 rfl (lv_at hl 0 rfl) ?_
        refine lv_aload_n hx hb dX6_putWord_26 rfl (lv_at hl 1 rfl) ?_
        refine lv_iload_n hx hb dX6_putWord_27 rfl (lv_at hl 2 rfl) ?_
        refine lv_iload hx hb dX6_putWord_28 (lv_at hl 4 rfl) ?_
        refine g_csE (As := [.ref (ad 1), .int (iI a2), .int (iI x4)]) (rest := [.ref (ad 10)]) (n := 3) C hE hml (e_To_wordKind l D k A ad hD za (va_up v 5 (v 5)) (va_up (va_up (va_up f 6 (f 6)) 7 (f 7)) 8 (f 8)) g a2 x4 (by omega) (by omega) (show 0 ≤ a2 ∧ a2 ≤ x4 from by omega) (show x4 ≤ 700 from by omega)) mM_X6_49 mS_X6_wordKind mN_X6 mC_X6_wordKind (by decide +kernel) hP hS (fun _ h => h) ⟨Nat.le_of_ble_eq_true rfl, Nat.le_of_ble_eq_true rfl⟩ ⟨Nat.zero_le _, Nat.zero_le _⟩ hl.1 rfl rfl (Nat.le_of_ble_eq_true rfl) dX6_putWord_30 (fun r_3 v_3 f_3 g_3 H locs hq_3 hP _ hS => ?_)
        obtain ⟨z_3, rfl, rfl, rfl, rfl, p0_3, p1_3⟩ := hq_3
        show W p l e (gRm 5 112) s m args below meth c _ _ 0 0 Q (F0 m 33 ls [.int (iI z_3), .ref (ad 10)])
        replace p0_3 : z_3 = (wK (f 0) a2 x4) := p0_3
        replace p1_3 : 259 ≤ z_3 ∧ z_3 ≤ 277 := p1_3
        have hz_3 : inR z_3 := (by first | omega | (rw [p0_3]; split <;> omega))
        have hwk := p0_3
        refine lv_iload_n hx hb dX6_putWord_33 rfl (lv_at hl 2 rfl) ?_
        refine lv_iconst (v := iI 0) hx hb dX6_putWord_34 rfl ?_
        refine g_cv (As := [.int (iI z_3), .int (iI a2), .int (iI 0)]) (rest := []) (n := 3) C hml (e_To_put l D k A ad hD (va_up v 5 (v 5)) (va_up (va_up (va_up f 6 (f 6)) 7 (f 7)) 8 (f 8)) g z_3 a2 0 (by omega) (by omega) (by decide) (show (v 5) < 701 from by omega) (show 0 ≤ z_3 ∧ z_3 ≤ 300 from by omega) (show 0 ≤ a2 ∧ a2 ≤ 700 from by omega) (show 0 ≤ (0 : Int) ∧ (0 : Int) ≤ 999999 from by omega)) mM_X6_45 mI_X6_put mE_X6_put mN_X6 mC_X6_put (by decide +kernel) 10 (ci := 6) rfl rfl hP hS (fun _ h => h) ⟨Nat.le_of_ble_eq_true rfl, Nat.le_of_ble_eq_true rfl⟩ ⟨Nat.zero_le _, Nat.zero_le _⟩ hl.1 rfl rfl (Nat.le_of_ble_eq_true rfl) dX6_putWord_35 (fun r_4 v_4 f_4 g_4 H locs hq_4 hP _ hS => ?_)
        obtain ⟨rfl, rfl, rfl, rfl⟩ := hq_4
        show W p l e (gRm 5 112) s m args below meth c _ _ 0 0 Q (F0 m 38 ls [])
        have hP : gWd D (rwT k ad) (va_up v 5 ((v 5) + 1)) (va_up (va_up (va_up f 6 (u1 (f 6) (v 5) z_3)) 7 (u1 (f 7) (v 5) a2)) 8 (u1 (f 8) (v 5) (0 : Int))) g H := ⟨hP.1, (gF_up (V := rwV) (F := rwF) (gF_up (V := rwV) (F := rwF) (gF_up (V := rwV) (F := rwF) (gR_up (V := rwV) (F := rwF) ⟨hok.1, hok.2⟩ 5 (hP.2.1 5)) 6 (hP.2.2 6)) 7 (hP.2.2 7)) 8 (hP.2.2 8))⟩
        refine lv_iload hx hb dX6_putWord_38 (lv_at hl 4 rfl) ?_
        exact g_iret hQ C hr hlocks hP hS dX6_putWord_40 ⟨x4, rfl, rfl, (by rw [show ((u1 (f 6) (v 5) (wK (f 0) a2 x4)) : Int → Int) = (u1 (f 6) (v 5) z_3) from by rw [hwk]]), rfl, (runL_eq (B := (f 0)) (n := a3) (p := a2) (q := x4) (by omega) hI (by omega)).symm, (by first | omega | (split <;> omega))⟩
      · refine lv_aload_n hx hb dX6_putWord_9 rfl (lv_at hl 1 rfl) ?_
        refine lv_iload hx hb dX6_putWord_10 (lv_at hl 4 rfl) ?_
        refine rwL_tape C hP (by omega) (by omega) dX6_putWord_12 ?_
        show W p l e (gRm 5 112) s m args below meth c _ _ 0 0 Q (F0 m 13 ls [.int (iI (f 0 x4))])
        have r_5 : 0 ≤ (f 0 x4) ∧ (f 0 x4) ≤ 255 := hP.2.2 0 x4
        refine g_cs (As := [.int (iI (f 0 x4))]) (rest := []) (n := 1) C hml (e_To_isLetter l D k A ad hD (va_up v 5 (v 5)) (va_up (va_up (va_up f 6 (f 6)) 7 (f 7)) 8 (f 8)) g (f 0 x4) (by omega)) mM_X6_28 mS_X6_isLetter mN_X6 mC_X6_isLetter (by decide +kernel) hP hS (fun _ h => h) ⟨Nat.le_of_ble_eq_true rfl, Nat.le_of_ble_eq_true rfl⟩ ⟨Nat.zero_le _, Nat.zero_le _⟩ hl.1 rfl rfl (Nat.le_of_ble_eq_true rfl) dX6_putWord_13 (fun r_6 v_6 f_6 g_6 H locs hq_6 hP _ hS => ?_)
        obtain ⟨z_6, rfl, rfl, rfl, rfl, p0_6⟩ := hq_6
        show W p l e (gRm 5 112) s m args below meth c _ _ 0 0 Q (F0 m 16 ls [.int (iI z_6)])
        replace p0_6 : z_6 = (if 97 ≤ (f 0 x4) ∧ (f 0 x4) ≤ 122 then 1 else 0) := p0_6
        have w_6 := gif (P := 97 ≤ (f 0 x4) ∧ (f 0 x4) ≤ 122) p0_6
        have hz_6 : inR z_6 := (by first | omega | (rw [p0_6]; split <;> omega))
        refine gi_zeq (tgt := 25) hx hb dX6_putWord_16 (by decide) (by omega) (fun c_7 => ?_) (fun c_7 => ?_)
        · refine lv_aload_n hx hb dX6_putWord_25 rfl (lv_at hl 0 rfl) ?_
          refine lv_aload_n hx hb dX6_putWord_26 rfl (lv_at hl 1 rfl) ?_
          refine lv_iload_n hx hb dX6_putWord_27 rfl (lv_at hl 2 rfl) ?_
          refine lv_iload hx hb dX6_putWord_28 (lv_at hl 4 rfl) ?_
          refine g_csE (As := [.ref (ad 1), .int (iI a2), .int (iI x4)]) (rest := [.ref (ad 10)]) (n := 3) C hE hml (e_To_wordKind l D k A ad hD za (va_up v 5 (v 5)) (va_up (va_up (va_up f 6 (f 6)) 7 (f 7)) 8 (f 8)) g a2 x4 (by omega) (by omega) (show 0 ≤ a2 ∧ a2 ≤ x4 from by omega) (show x4 ≤ 700 from by omega)) mM_X6_49 mS_X6_wordKind mN_X6 mC_X6_wordKind (by decide +kernel) hP hS (fun _ h => h) ⟨Nat.le_of_ble_eq_true rfl, Nat.le_of_ble_eq_true rfl⟩ ⟨Nat.zero_le _, Nat.zero_le _⟩ hl.1 rfl rfl (Nat.le_of_ble_eq_true rfl) dX6_putWord_30 (fun r_8 v_8 f_8 g_8 H locs hq_8 hP _ hS => ?_)
          obtain ⟨z_8, rfl, rfl, rfl, rfl, p0_8, p1_8⟩ := hq_8
          show W p l e (gRm 5 112) s m args below meth c _ _ 0 0 Q (F0 m 33 ls [.int (iI z_8), .ref (ad 10)])
          replace p0_8 : z_8 = (wK (f 0) a2 x4) := p0_8
          replace p1_8 : 259 ≤ z_8 ∧ z_8 ≤ 277 := p1_8
          have hz_8 : inR z_8 := (by first | omega | (rw [p0_8]; split <;> omega))
          have hwk := p0_8
          refine lv_iload_n hx hb dX6_putWord_33 rfl (lv_at hl 2 rfl) ?_
          refine lv_iconst (v := iI 0) hx hb dX6_putWord_34 rfl ?_
          refine g_cv (As := [.int (iI z_8), .int (iI a2), .int (iI 0)]) (rest := []) (n := 3) C hml (e_To_put l D k A ad hD (va_up v 5 (v 5)) (va_up (va_up (va_up f 6 (f 6)) 7 (f 7)) 8 (f 8)) g z_8 a2 0 (by omega) (by omega) (by decide) (show (v 5) < 701 from by omega) (show 0 ≤ z_8 ∧ z_8 ≤ 300 from by omega) (show 0 ≤ a2 ∧ a2 ≤ 700 from by omega) (show 0 ≤ (0 : Int) ∧ (0 : Int) ≤ 999999 from by omega)) mM_X6_45 mI_X6_put mE_X6_put mN_X6 mC_X6_put (by decide +kernel) 10 (ci := 6) rfl rfl hP hS (fun _ h => h) ⟨Nat.le_of_ble_eq_true rfl, Nat.le_of_ble_eq_true rfl⟩ ⟨Nat.zero_le _, Nat.zero_le _⟩ hl.1 rfl rfl (Nat.le_of_ble_eq_true rfl) dX6_putWord_35 (fun r_9 v_9 f_9 g_9 H locs hq_9 hP _ hS => ?_)
          obtain ⟨rfl, rfl, rfl, rfl⟩ := hq_9
          show W p l e (gRm 5 112) s m args below meth c _ _ 0 0 Q (F0 m 38 ls [])
          have hP : gWd D (rwT k ad) (va_up v 5 ((v 5) + 1)) (va_up (va_up (va_up f 6 (u1 (f 6) (v 5) z_8)) 7 (u1 (f 7) (v 5) a2)) 8 (u1 (f 8) (v 5) (0 : Int))) g H := ⟨hP.1, (gF_up (V := rwV) (F := rwF) (gF_up (V := rwV) (F := rwF) (gF_up (V := rwV) (F := rwF) (gR_up (V := rwV) (F := rwF) ⟨hok.1, hok.2⟩ 5 (hP.2.1 5)) 6 (hP.2.2 6)) 7 (hP.2.2 7)) 8 (hP.2.2 8))⟩
          refine lv_iload hx hb dX6_putWord_38 (lv_at hl 4 rfl) ?_
          exact g_iret hQ C hr hlocks hP hS dX6_putWord_40 ⟨x4, rfl, rfl, (by rw [show ((u1 (f 6) (v 5) (wK (f 0) a2 x4)) : Int → Int) = (u1 (f 6) (v 5) z_8) from by rw [hwk]]), rfl, (runL_eq (B := (f 0)) (n := a3) (p := a2) (q := x4) (by omega) hI (by omega)).symm, (by first | omega | (split <;> omega))⟩
        · refine lv_iinc (v := iI (x4 + 1)) (lv' := [(4, .int (iI (x4 + 1))), (0, .ref (ad 10)), (1, .ref (ad 1)), (2, .int (iI a2)), (3, .int (iI a3))]) hx hb dX6_putWord_19 hl (k := 4) rfl (by show iI _ + iI 1 = _; rw [iI_add]) (by decide) rfl (fun ls hl => ?_)
          refine lv_goto (tgt := 3) hx hb dX6_putWord_22 (by decide) ?_
          exact ih_3 (x4 + 1) _ _ _ (by omega) (by omega) (run_snoc hI (by omega) (by omega)) hP hS (lv_sub hl [1, 2, 3, 4, 0] rfl)
  exact L_1 701 a2 _ _ _ (by omega) (by omega) run_none hP hS (lv_sub hl [1, 2, 3, 4, 0] rfl)

set_option maxHeartbeats 4000000 in
set_option maxRecDepth 100000 in
theorem e_To_putNumber (l : Launch) (D : va_G) (k : Nat → ClassId) (A : Nat → Prop) (ad : Nat → Nat) (hD : rwD A k ad) (v : gV) (f g : gF) (a2 : Int) (a3 : Int) (h_a2 : inR a2) (h_a3 : inR a3) (h0 : (v 5) < 701) (h2 : 0 ≤ a2 ∧ a2 ≤ a3) (h3 : a3 ≤ 700) : GM l D k A (rwT k ad) yX6_putNumber cX6_putNumber 6 (some .int) 1 23 [.ref (ad 10), .ref (ad 1), .int (iI a2), .int (iI a3)] v f g (fun r v1 f1 g1 => ∃ (z : Int), r = some (.int (iI z)) ∧ (va_up v 5 ((v 5) + 1)) = v1 ∧ (va_up (va_up (va_up f 6 (u1 (f 6) (v 5) (if 6 < z - a2 then 257 else 258))) 7 (u1 (f 7) (v 5) a2)) 8 (u1 (f 8) (v 5) (nV (f 0) a2 (z - a2).toNat))) = f1 ∧ g = g1 ∧ (z = (run bD (f 0) a3 a2)) ∧ (a2 ≤ z ∧ z ≤ a3)) := by
  refine GM.of (by decide) (Nat.le_of_ble_eq_true rfl) ?_
  intro p e s m args below meth c Q ls hQ C hml hr hlocks hP hl
  have hx := C.1
  have hb := C.2.1
  have hok := hP.2
  have hS : va_S A s.heap s.heap [] := va_S.rf
  have hl : lv_has ls 6 [(0, .ref (ad 10)), (1, .ref (ad 1)), (2, .int (iI a2)), (3, .int (iI a3))] := hl
  have hP : gWd D (rwT k ad) (va_up v 5 (v 5)) (va_up (va_up (va_up f 6 (f 6)) 7 (f 7)) 8 (f 8)) g s.heap := by rw [va_id, va_id, va_id, va_id]; exact hP
  refine lv_iload_n hx hb dX6_putNumber_0 rfl (lv_at hl 2 rfl) ?_
  refine lv_istore (lv' := [(4, .int (iI a2)), (0, .ref (ad 10)), (1, .ref (ad 1)), (2, .int (iI a2)), (3, .int (iI a3))]) hx hb dX6_putNumber_1 hl (by decide) rfl (fun ls hl => ?_)
  refine lv_iconst (v := iI 0) hx hb dX6_putNumber_3 rfl ?_
  refine lv_istore (lv' := [(5, .int (iI 0)), (4, .int (iI a2)), (0, .ref (ad 10)), (1, .ref (ad 1)), (2, .int (iI a2)), (3, .int (iI a3))]) hx hb dX6_putNumber_4 hl (by decide) rfl (fun ls hl => ?_)
  have L_1 : ∀ (n : Nat) (x4 : Int) (x5 : Int) (H : Heap) (locs : List Loc) (ls : Array Slot), 700 - x4 < (n : Int) → (a2 ≤ x4 ∧ x4 ≤ a3) → (∀ j, a2 ≤ j → j < x4 → j < a3 ∧ pD ((f 0) j)) → (x5 = nV (f 0) a2 (x4 - a2).toNat) → gWd D (rwT k ad) (va_up v 5 (v 5)) (va_up (va_up (va_up f 6 (f 6)) 7 (f 7)) 8 (f 8)) g H → va_S A s.heap H locs → lv_has ls 6 [(0, .ref (ad 10)), (1, .ref (ad 1)), (2, .int (iI a2)), (3, .int (iI a3)), (4, .int (iI x4)), (5, .int (iI x5))] → W p l e (gRm 1 23) s m args below meth c H locs 0 0 Q (F0 m 6 ls []) := by
    intro n
    induction n with
    | zero =>
      intro x4 x5 H locs ls hn_1 i1_0 i1_1 i1_2 hP hS hl
      exfalso; omega
    | succ n ih_6 =>
      intro x4 x5 H locs ls hn_1 i1_0 i1_1 i1_2 hP hS hl
      have hI := i1_1
      have hN := i1_2
      have hR := nV_rng (B := (f 0)) (q := a2) (x4 - a2).toNat (runD_mem (fun j b1 b2 => (hI j b1 b2).2) (by omega))
      refine lv_iload hx hb dX6_putNumber_6 (lv_at hl 4 rfl) ?_
      refine lv_iload_n hx hb dX6_putNumber_8 rfl (lv_at hl 3 rfl) ?_
      refine gi_cge (tgt := 52) hx hb dX6_putNumber_9 (by decide) (by omega) (by omega) (fun c_2 => ?_) (fun c_2 => ?_)
      · refine lv_aload_n hx hb dX6_putNumber_52 rfl (lv_at hl 0 rfl) ?_
        refine lv_iload hx hb dX6_putNumber_53 (lv_at hl 4 rfl) ?_
        refine lv_iload_n hx hb dX6_putNumber_55 rfl (lv_at hl 2 rfl) ?_
        refine gi_sub (z := (x4 - a2)) hx hb dX6_putNumber_56 rfl ?_
        refine lv_bipush (v := iI 6) hx hb dX6_putNumber_57 (by decide) ?_
        refine gi_cle (tgt := 68) hx hb dX6_putNumber_59 (by decide) (by omega) (by decide) (fun c_3 => ?_) (fun c_3 => ?_)
        · refine lv_sipush (v := iI 258) hx hb dX6_putNumber_68 (by decide) ?_
          refine lv_iload_n hx hb dX6_putNumber_71 rfl (lv_at hl 2 rfl) ?_
          refine lv_iload hx hb dX6_putNumber_72 (lv_at hl 5 rfl) ?_
          refine g_cv (As := [.int (iI 258), .int (iI a2), .int (iI x5)]) (rest := []) (n := 3) C hml (e_To_put l D k A ad hD (va_up v 5 (v 5)) (va_up (va_up (va_up f 6 (f 6)) 7 (f 7)) 8 (f 8)) g 258 a2 x5 (by decide) (by omega) (by omega) (show (v 5) < 701 from by omega) (show 0 ≤ (258 : Int) ∧ (258 : Int) ≤ 300 from by omega) (show 0 ≤ a2 ∧ a2 ≤ 700 from by omega) (show 0 ≤ x5 ∧ x5 ≤ 999999 from by omega)) mM_X6_45 mI_X6_put mE_X6_put mN_X6 mC_X6_put (by decide +kernel) 10 (ci := 6) rfl rfl hP hS (fun _ h => h) ⟨Nat.le_of_ble_eq_true rfl, Nat.le_of_ble_eq_true rfl⟩ ⟨Nat.zero_le _, Nat.zero_le _⟩ hl.1 rfl rfl (Nat.le_of_ble_eq_true rfl) dX6_putNumber_74 (fun r_4 v_4 f_4 g_4 H locs hq_4 hP _ hS => ?_)
          obtain ⟨rfl, rfl, rfl, rfl⟩ := hq_4
          show W p l e (gRm 1 23) s m args below meth c _ _ 0 0 Q (F0 m 77 ls [])
          have hP : gWd D (rwT k ad) (va_up v 5 ((v 5) + 1)) (va_up (va_up (va_up f 6 (u1 (f 6) (v 5) (258 : Int))) 7 (u1 (f 7) (v 5) a2)) 8 (u1 (f 8) (v 5) x5)) g H := ⟨hP.1, (gF_up (V := rwV) (F := rwF) (gF_up (V := rwV) (F := rwF) (gF_up (V := rwV) (F := rwF) (gR_up (V := rwV) (F := rwF) ⟨hok.1, hok.2⟩ 5 (hP.2.1 5)) 6 (hP.2.2 6)) 7 (hP.2.2 7)) 8 (hP.2.2 8))⟩
          refine lv_iload hx hb dX6_putNumber_77 (lv_at hl 4 rfl) ?_
          exact g_iret hQ C hr hlocks hP hS dX6_putNumber_79 ⟨x4, rfl, rfl, (by rw [show ((u1 (f 6) (v 5) (if 6 < x4 - a2 then 257 else 258)) : Int → Int) = (u1 (f 6) (v 5) (258 : Int)) from by first | rw [if_pos (by omega)] | rw [if_neg (by omega)], show ((u1 (f 8) (v 5) (nV (f 0) a2 (x4 - a2).toNat)) : Int → Int) = (u1 (f 8) (v 5) x5) from by rw [hN]]), rfl, (runD_eq (B := (f 0)) (n := a3) (p := a2) (q := x4) (by omega) hI (by omega)).symm, (by first | omega | (split <;> omega))⟩
        · refine lv_sipush (v := iI 257) hx hb dX6_putNumber_62 (by decide) ?_
          refine lv_goto (tgt := 71) hx hb dX6_putNumber_65 (by decide) ?_
          refine lv_iload_n hx hb dX6_putNumber_71 rfl (lv_at hl 2 rfl) ?_
          refine lv_iload hx hb dX6_putNumber_72 (lv_at hl 5 rfl) ?_
          refine g_cv (As := [.int (iI 257), .int (iI a2), .int (iI x5)]) (rest := []) (n := 3) C hml (e_To_put l D k A ad hD (va_up v 5 (v 5)) (va_up (va_up (va_up f 6 (f 6)) 7 (f 7)) 8 (f 8)) g 257 a2 x5 (by decide) (by omega) (by omega) (show (v 5) < 701 from by omega) (show 0 ≤ (257 : Int) ∧ (257 : Int) ≤ 300 from by omega) (show 0 ≤ a2 ∧ a2 ≤ 700 from by omega) (show 0 ≤ x5 ∧ x5 ≤ 999999 from by omega)) mM_X6_45 mI_X6_put mE_X6_put mN_X6 mC_X6_put (by decide +kernel) 10 (ci := 6) rfl rfl hP hS (fun _ h => h) ⟨Nat.le_of_ble_eq_true rfl, Nat.le_of_ble_eq_true rfl⟩ ⟨Nat.zero_le _, Nat.zero_le _⟩ hl.1 rfl rfl (Nat.le_of_ble_eq_true rfl) dX6_putNumber_74 (fun r_5 v_5 f_5 g_5 H locs hq_5 hP _ hS => ?_)
          obtain ⟨rfl, rfl, rfl, rfl⟩ := hq_5
          show W p l e (gRm 1 23) s m args below meth c _ _ 0 0 Q (F0 m 77 ls [])
          have hP : gWd D (rwT k ad) (va_up v 5 ((v 5) + 1)) (va_up (va_up (va_up f 6 (u1 (f 6) (v 5) (257 : Int))) 7 (u1 (f 7) (v 5) a2)) 8 (u1 (f 8) (v 5) x5)) g H := ⟨hP.1, (gF_up (V := rwV) (F := rwF) (gF_up (V := rwV) (F := rwF) (gF_up (V := rwV) (F := rwF) (gR_up (V := rwV) (F := rwF) ⟨hok.1, hok.2⟩ 5 (hP.2.1 5)) 6 (hP.2.2 6)) 7 (hP.2.2 7)) 8 (hP.2.2 8))⟩
          refine lv_iload hx hb dX6_putNumber_77 (lv_at hl 4 rfl) ?_
          exact g_iret hQ C hr hlocks hP hS dX6_putNumber_79 ⟨x4, rfl, rfl, (by rw [show ((u1 (f 6) (v 5) (if 6 < x4 - a2 then 257 else 258)) : Int → Int) = (u1 (f 6) (v 5) (257 : Int)) from by first | rw [if_pos (by omega)] | rw [if_neg (by omega)], show ((u1 (f 8) (v 5) (nV (f 0) a2 (x4 - a2).toNat)) : Int → Int) = (u1 (f 8) (v 5) x5) from by rw [hN]]), rfl, (runD_eq (B := (f 0)) (n := a3) (p := a2) (q := x4) (by omega) hI (by omega)).symm, (by first | omega | (split <;> omega))⟩
      · refine lv_aload_n hx hb dX6_putNumber_12 rfl (lv_at hl 1 rfl) ?_
        refine lv_iload hx hb dX6_putNumber_13 (lv_at hl 4 rfl) ?_
        refine rwL_tape C hP (by omega) (by omega) dX6_putNumber_15 ?_
        show W p l e (gRm 1 23) s m args below meth c _ _ 0 0 Q (F0 m 16 ls [.int (iI (f 0 x4))])
        have r_6 : 0 ≤ (f 0 x4) ∧ (f 0 x4) ≤ 255 := hP.2.2 0 x4
        refine g_cs (As := [.int (iI (f 0 x4))]) (rest := []) (n := 1) C hml (e_To_isDigit l D k A ad hD (va_up v 5 (v 5)) (va_up (va_up (va_up f 6 (f 6)) 7 (f 7)) 8 (f 8)) g (f 0 x4) (by omega)) mM_X6_36 mS_X6_isDigit mN_X6 mC_X6_isDigit (by decide +kernel) hP hS (fun _ h => h) ⟨Nat.le_of_ble_eq_true rfl, Nat.le_of_ble_eq_true rfl⟩ ⟨Nat.zero_le _, Nat.zero_le _⟩ hl.1 rfl rfl (Nat.le_of_ble_eq_true rfl) dX6_putNumber_16 (fun r_7 v_7 f_7 g_7 H locs hq_7 hP _ hS => ?_)
        obtain ⟨z_7, rfl, rfl, rfl, rfl, p0_7⟩ := hq_7
        show W p l e (gRm 1 23) s m args below meth c _ _ 0 0 Q (F0 m 19 ls [.int (iI z_7)])
        replace p0_7 : z_7 = (if 48 ≤ (f 0 x4) ∧ (f 0 x4) ≤ 57 then 1 else 0) := p0_7
        have w_7 := gif (P := 48 ≤ (f 0 x4) ∧ (f 0 x4) ≤ 57) p0_7
        have hz_7 : inR z_7 := (by first | omega | (rw [p0_7]; split <;> omega))
        refine gi_zeq (tgt := 52) hx hb dX6_putNumber_19 (by decide) (by omega) (fun c_8 => ?_) (fun c_8 => ?_)
        · refine lv_aload_n hx hb dX6_putNumber_52 rfl (lv_at hl 0 rfl) ?_
          refine lv_iload hx hb dX6_putNumber_53 (lv_at hl 4 rfl) ?_
          refine lv_iload_n hx hb dX6_putNumber_55 rfl (lv_at hl 2 rfl) ?_
          refine gi_sub (z := (x4 - a2)) hx hb dX6_putNumber_56 rfl ?_
          refine lv_bipush (v := iI 6) hx hb dX6_putNumber_57 (by decide) ?_
          refine gi_cle (tgt := 68) hx hb dX6_putNumber_59 (by decide) (by omega) (by decide) (fun c_9 => ?_) (fun c_9 => ?_)
          · refine lv_sipush (v := iI 258) hx hb dX6_putNumber_68 (by decide) ?_
            refine lv_iload_n hx hb dX6_putNumber_71 rfl (lv_at hl 2 rfl) ?_
            refine lv_iload hx hb dX6_putNumber_72 (lv_at hl 5 rfl) ?_
            refine g_cv (As := [.int (iI 258), .int (iI a2), .int (iI x5)]) (rest := []) (n := 3) C hml (e_To_put l D k A ad hD (va_up v 5 (v 5)) (va_up (va_up (va_up f 6 (f 6)) 7 (f 7)) 8 (f 8)) g 258 a2 x5 (by decide) (by omega) (by omega) (show (v 5) < 701 from by omega) (show 0 ≤ (258 : Int) ∧ (258 : Int) ≤ 300 from by omega) (show 0 ≤ a2 ∧ a2 ≤ 700 from by omega) (show 0 ≤ x5 ∧ x5 ≤ 999999 from by omega)) mM_X6_45 mI_X6_put mE_X6_put mN_X6 mC_X6_put (by decide +kernel) 10 (ci := 6) rfl rfl hP hS (fun _ h => h) ⟨Nat.le_of_ble_eq_true rfl, Nat.le_of_ble_eq_true rfl⟩ ⟨Nat.zero_le _, Nat.zero_le _⟩ hl.1 rfl rfl (Nat.le_of_ble_eq_true rfl) dX6_putNumber_74 (fun r_10 v_10 f_10 g_10 H locs hq_10 hP _ hS => ?_)
            obtain ⟨rfl, rfl, rfl, rfl⟩ := hq_10
            show W p l e (gRm 1 23) s m args below meth c _ _ 0 0 Q (F0 m 77 ls [])
            have hP : gWd D (rwT k ad) (va_up v 5 ((v 5) + 1)) (va_up (va_up (va_up f 6 (u1 (f 6) (v 5) (258 : Int))) 7 (u1 (f 7) (v 5) a2)) 8 (u1 (f 8) (v 5) x5)) g H := ⟨hP.1, (gF_up (V := rwV) (F := rwF) (gF_up (V := rwV) (F := rwF) (gF_up (V := rwV) (F := rwF) (gR_up (V := rwV) (F := rwF) ⟨hok.1, hok.2⟩ 5 (hP.2.1 5)) 6 (hP.2.2 6)) 7 (hP.2.2 7)) 8 (hP.2.2 8))⟩
            refine lv_iload hx hb dX6_putNumber_77 (lv_at hl 4 rfl) ?_
            exact g_iret hQ C hr hlocks hP hS dX6_putNumber_79 ⟨x4, rfl, rfl, (by rw [show ((u1 (f 6) (v 5) (if 6 < x4 - a2 then 257 else 258)) : Int → Int) = (u1 (f 6) (v 5) (258 : Int)) from by first | rw [if_pos (by omega)] | rw [if_neg (by omega)], show ((u1 (f 8) (v 5) (nV (f 0) a2 (x4 - a2).toNat)) : Int → Int) = (u1 (f 8) (v 5) x5) from by rw [hN]]), rfl, (runD_eq (B := (f 0)) (n := a3) (p := a2) (q := x4) (by omega) hI (by omega)).symm, (by first | omega | (split <;> omega))⟩
          · refine lv_sipush (v := iI 257) hx hb dX6_putNumber_62 (by decide) ?_
            refine lv_goto (tgt := 71) hx hb dX6_putNumber_65 (by decide) ?_
            refine lv_iload_n hx hb dX6_putNumber_71 rfl (lv_at hl 2 rfl) ?_
            refine lv_iload hx hb dX6_putNumber_72 (lv_at hl 5 rfl) ?_
            refine g_cv (As := [.int (iI 257), .int (iI a2), .int (iI x5)]) (rest := []) (n := 3) C hml (e_To_put l D k A ad hD (va_up v 5 (v 5)) (va_up (va_up (va_up f 6 (f 6)) 7 (f 7)) 8 (f 8)) g 257 a2 x5 (by decide) (by omega) (by omega) (show (v 5) < 701 from by omega) (show 0 ≤ (257 : Int) ∧ (257 : Int) ≤ 300 from by omega) (show 0 ≤ a2 ∧ a2 ≤ 700 from by omega) (show 0 ≤ x5 ∧ x5 ≤ 999999 from by omega)) mM_X6_45 mI_X6_put mE_X6_put mN_X6 mC_X6_put (by decide +kernel) 10 (ci := 6) rfl rfl hP hS (fun _ h => h) ⟨Nat.le_of_ble_eq_true rfl, Nat.le_of_ble_eq_true rfl⟩ ⟨Nat.zero_le _, Nat.zero_le _⟩ hl.1 rfl rfl (Nat.le_of_ble_eq_true rfl) dX6_putNumber_74 (fun r_11 v_11 f_11 g_11 H locs hq_11 hP _ hS => ?_)
            obtain ⟨rfl, rfl, rfl, rfl⟩ := hq_11
            show W p l e (gRm 1 23) s m args below meth c _ _ 0 0 Q (F0 m 77 ls [])
            have hP : gWd D (rwT k ad) (va_up v 5 ((v 5) + 1)) (va_up (va_up (va_up f 6 (u1 (f 6) (v 5) (257 : Int))) 7 (u1 (f 7) (v 5) a2)) 8 (u1 (f 8) (v 5) x5)) g H := ⟨hP.1, (gF_up (V := rwV) (F := rwF) (gF_up (V := rwV) (F := rwF) (gF_up (V := rwV) (F := rwF) (gR_up (V := rwV) (F := rwF) ⟨hok.1, hok.2⟩ 5 (hP.2.1 5)) 6 (hP.2.2 6)) 7 (hP.2.2 7)) 8 (hP.2.2 8))⟩
            refine lv_iload hx hb dX6_putNumber_77 (lv_at hl 4 rfl) ?_
            exact g_iret hQ C hr hlocks hP hS dX6_putNumber_79 ⟨x4, rfl, rfl, (by rw [show ((u1 (f 6) (v 5) (if 6 < x4 - a2 then 257 else 258)) : Int → Int) = (u1 (f 6) (v 5) (257 : Int)) from by first | rw [if_pos (by omega)] | rw [if_neg (by omega)], show ((u1 (f 8) (v 5) (nV (f 0) a2 (x4 - a2).toNat)) : Int → Int) = (u1 (f 8) (v 5) x5) from by rw [hN]]), rfl, (runD_eq (B := (f 0)) (n := a3) (p := a2) (q := x4) (by omega) hI (by omega)).symm, (by first | omega | (split <;> omega))⟩
        · refine lv_iload hx hb dX6_putNumber_22 (lv_at hl 4 rfl) ?_
          refine lv_iload_n hx hb dX6_putNumber_24 rfl (lv_at hl 2 rfl) ?_
          refine gi_sub (z := (x4 - a2)) hx hb dX6_putNumber_25 rfl ?_
          refine lv_bipush (v := iI 6) hx hb dX6_putNumber_26 (by decide) ?_
          refine gi_cge (tgt := 46) hx hb dX6_putNumber_28 (by decide) (by omega) (by decide) (fun c_12 => ?_) (fun c_12 => ?_)
          · refine lv_iinc (v := iI (x4 + 1)) (lv' := [(4, .int (iI (x4 + 1))), (0, .ref (ad 10)), (1, .ref (ad 1)), (2, .int (iI a2)), (3, .int (iI a3)), (5, .int (iI x5))]) hx hb dX6_putNumber_46 hl (k := 4) rfl (by show iI _ + iI 1 = _; rw [iI_add]) (by decide) rfl (fun ls hl => ?_)
            refine lv_goto (tgt := 6) hx hb dX6_putNumber_49 (by decide) ?_
            exact ih_6 (x4 + 1) x5 _ _ _ (by omega) (by omega) (run_snoc hI (by omega) (by omega)) (by rw [nV_up (by omega)]; first | (rw [if_pos (by omega)]; omega) | (rw [if_neg (by omega)]; omega)) hP hS (lv_sub hl [1, 2, 3, 4, 0, 5] rfl)
          · refine lv_iload hx hb dX6_putNumber_31 (lv_at hl 5 rfl) ?_
            refine lv_bipush (v := iI 10) hx hb dX6_putNumber_33 (by decide) ?_
            refine gi_mul (z := (x5 * 10)) hx hb dX6_putNumber_35 rfl ?_
            refine lv_aload_n hx hb dX6_putNumber_36 rfl (lv_at hl 1 rfl) ?_
            refine lv_iload hx hb dX6_putNumber_37 (lv_at hl 4 rfl) ?_
            refine rwL_tape C hP (by omega) (by omega) dX6_putNumber_39 ?_
            show W p l e (gRm 1 23) s m args below meth c _ _ 0 0 Q (F0 m 40 ls [.int (iI (f 0 x4)), .int (iI (x5 * 10))])
            refine gi_add (z := ((x5 * 10) + (f 0 x4))) hx hb dX6_putNumber_40 rfl ?_
            refine lv_bipush (v := iI 48) hx hb dX6_putNumber_41 (by decide) ?_
            refine gi_sub (z := (((x5 * 10) + (f 0 x4)) - 48)) hx hb dX6_putNumber_43 rfl ?_
            refine lv_istore (lv' := [(5, .int (iI (((x5 * 10) + (f 0 x4)) - 48))), (0, .ref (ad 10)), (1, .ref (ad 1)), (2, .int (iI a2)), (3, .int (iI a3)), (4, .int (iI x4))]) hx hb dX6_putNumber_44 hl (by decide) rfl (fun ls hl => ?_)
            refine lv_iinc (v := iI (x4 + 1)) (lv' := [(4, .int (iI (x4 + 1))), (5, .int (iI (((x5 * 10) + (f 0 x4)) - 48))), (0, .ref (ad 10)), (1, .ref (ad 1)), (2, .int (iI a2)), (3, .int (iI a3))]) hx hb dX6_putNumber_46 hl (k := 5) rfl (by show iI _ + iI 1 = _; rw [iI_add]) (by decide) rfl (fun ls hl => ?_)
            refine lv_goto (tgt := 6) hx hb dX6_putNumber_49 (by decide) ?_
            exact ih_6 (x4 + 1) (((x5 * 10) + (f 0 x4)) - 48) _ _ _ (by omega) (by omega) (run_snoc hI (by omega) (by omega)) (by rw [nV_up (by omega)]; first | (rw [if_pos (by omega)]; omega) | (rw [if_neg (by omega)]; omega)) hP hS (lv_sub hl [2, 3, 4, 5, 0, 1] rfl)
  exact L_1 701 a2 0 _ _ _ (by omega) (by omega) run_none (by rw [show (a2 - a2).toNat = 0 by omega]; rfl) hP hS (lv_sub hl [2, 3, 4, 5, 1, 0] rfl)

set_option maxHeartbeats 4000000 in
set_option maxRecDepth 100000 in
theorem e_To_split (l : Launch) (D : va_G) (k : Nat → ClassId) (A : Nat → Prop) (ad : Nat → Nat) (hD : rwD A k ad) (za : Nat → Nat) (v : gV) (f g : gF) (a2 : Int) (h_a2 : inR a2) (h2 : 0 ≤ a2 ∧ a2 ≤ 700) : GE l D k za A (rwT k ad) yX6_split cX6_split 6 none 6 136 [.ref (ad 10), .ref (ad 1), .int (iI a2)] v f g (fun r v1 f1 g1 => ∃ (w5 : Int) (a6_ : Int → Int) (a7_ : Int → Int) (a8_ : Int → Int), r = none ∧ (va_up (va_up v 6 0) 5 w5) = v1 ∧ (va_up (va_up (va_up f 6 a6_) 7 a7_) 8 a8_) = f1 ∧ g = g1 ∧ (tRow (f 0) a2 a6_ a7_ a8_ w5)) := by
  refine GE.of (by decide) (Nat.le_of_ble_eq_true rfl) ?_
  intro p e s m args below meth c Q ls hQ C hml hr hlocks hP hl hE
  have hx := C.1
  have hb := C.2.1
  have hok := hP.2
  have hS : va_S A s.heap s.heap [] := va_S.rf
  have hl : lv_has ls 6 [(0, .ref (ad 10)), (1, .ref (ad 1)), (2, .int (iI a2))] := hl
  have hP : gWd D (rwT k ad) (va_up (va_up v 6 (v 6)) 5 (v 5)) (va_up (va_up (va_up f 6 (f 6)) 7 (f 7)) 8 (f 8)) g s.heap := by rw [va_id, va_id, va_id, va_id, va_id]; exact hP
  refine lv_aload_n hx hb dX6_split_0 rfl (lv_at hl 0 rfl) ?_
  refine lv_iconst (v := iI 0) hx hb dX6_split_1 rfl ?_
  refine rwP_reader_tokens_at (v1 := (va_up (va_up v 6 0) 5 (v 5))) C hP hD hS mF_X6_21 (by decide) rfl (Or.inr (gF_up (V := rwV) (F := rwF) (gF_up (V := rwV) (F := rwF) (gF_up (V := rwV) (F := rwF) (gR_up (V := rwV) (F := rwF) (gR_up (V := rwV) (F := rwF) ⟨hok.1, hok.2⟩ 6 (show 0 ≤ 0 ∧ 0 ≤ 700 from by decide)) 5 (hP.2.1 5)) 6 (hP.2.2 6)) 7 (hP.2.2 7)) 8 (hP.2.2 8))) dX6_split_2 (fun H locs hP hS => ?_)
  refine lv_aload_n hx hb dX6_split_5 rfl (lv_at hl 0 rfl) ?_
  refine lv_iconst (v := iI 0) hx hb dX6_split_6 rfl ?_
  refine rwP_reader_tokens_many (v1 := (va_up (va_up v 6 0) 5 0)) C hP hD hS mF_X6_25 (by decide) rfl (Or.inr (gF_up (V := rwV) (F := rwF) (gF_up (V := rwV) (F := rwF) (gF_up (V := rwV) (F := rwF) (gR_up (V := rwV) (F := rwF) (gR_up (V := rwV) (F := rwF) ⟨hok.1, hok.2⟩ 6 (hP.2.1 6)) 5 (show 0 ≤ 0 ∧ 0 ≤ 701 from by decide)) 6 (hP.2.2 6)) 7 (hP.2.2 7)) 8 (hP.2.2 8))) dX6_split_7 (fun H locs hP hS => ?_)
  refine lv_iconst (v := iI 0) hx hb dX6_split_10 rfl ?_
  refine lv_istore_n (lv' := [(3, .int (iI 0)), (0, .ref (ad 10)), (1, .ref (ad 1)), (2, .int (iI a2))]) hx hb dX6_split_11 rfl hl (by decide) rfl (fun ls hl => ?_)
  refine lv_iconst (v := iI 0) hx hb dX6_split_12 rfl ?_
  refine lv_istore (lv' := [(4, .int (iI 0)), (3, .int (iI 0)), (0, .ref (ad 10)), (1, .ref (ad 1)), (2, .int (iI a2))]) hx hb dX6_split_13 hl (by decide) rfl (fun ls hl => ?_)
  have L_1 : ∀ (n : Nat) (x3 : Int) (x4 : Int) (y5_1 : Int) (c6_1 : Int → Int) (c7_1 : Int → Int) (c8_1 : Int → Int) (H : Heap) (locs : List Loc) (ls : Array Slot), 700 - x4 < (n : Int) → (0 ≤ x4 ∧ x4 ≤ a2) → (x4 ≤ x3 ∧ x3 ≤ a2) → (0 ≤ y5_1 ∧ y5_1 ≤ x4) → (tPre (f 0) a2 c6_1 c7_1 c8_1 y5_1 x3) → gWd D (rwT k ad) (va_up (va_up v 6 0) 5 y5_1) (va_up (va_up (va_up f 6 c6_1) 7 c7_1) 8 c8_1) g H → va_S A s.heap H locs → lv_has ls 6 [(0, .ref (ad 10)), (1, .ref (ad 1)), (2, .int (iI a2)), (3, .int (iI x3)), (4, .int (iI x4))] → W p l e (gRm 6 136) s m args below meth c H locs 0 0 Q (F0 m 15 ls []) := by
    intro n
    induction n with
    | zero =>
      intro x3 x4 y5_1 c6_1 c7_1 c8_1 H locs ls hn_1 i1_0 i1_1 i1_2 i1_3 hP hS hl
      have ry5_1 : 0 ≤ y5_1 ∧ y5_1 ≤ 701 := hP.2.1 5
      exfalso; omega
    | succ n ih_15 =>
      intro x3 x4 y5_1 c6_1 c7_1 c8_1 H locs ls hn_1 i1_0 i1_1 i1_2 i1_3 hP hS hl
      have ry5_1 : 0 ≤ y5_1 ∧ y5_1 ≤ 701 := hP.2.1 5
      have hT := i1_3
      refine lv_iload hx hb dX6_split_15 (lv_at hl 4 rfl) ?_
      refine lv_iload_n hx hb dX6_split_17 rfl (lv_at hl 2 rfl) ?_
      refine gi_cge (tgt := 145) hx hb dX6_split_18 (by decide) (by omega) (by omega) (fun c_2 => ?_) (fun c_2 => ?_)
      · refine lv_aload_n hx hb dX6_split_145 rfl (lv_at hl 0 rfl) ?_
        refine lv_sipush (v := iI 256) hx hb dX6_split_146 (by decide) ?_
        refine lv_iload_n hx hb dX6_split_149 rfl (lv_at hl 2 rfl) ?_
        refine lv_iconst (v := iI 0) hx hb dX6_split_150 rfl ?_
        refine g_cv (As := [.int (iI 256), .int (iI a2), .int (iI 0)]) (rest := []) (n := 3) C hml (e_To_put l D k A ad hD (va_up (va_up v 6 0) 5 y5_1) (va_up (va_up (va_up f 6 c6_1) 7 c7_1) 8 c8_1) g 256 a2 0 (by decide) (by omega) (by decide) (show y5_1 < 701 from by omega) (show 0 ≤ (256 : Int) ∧ (256 : Int) ≤ 300 from by omega) (show 0 ≤ a2 ∧ a2 ≤ 700 from by omega) (show 0 ≤ (0 : Int) ∧ (0 : Int) ≤ 999999 from by omega)) mM_X6_45 mI_X6_put mE_X6_put mN_X6 mC_X6_put (by decide +kernel) 10 (ci := 6) rfl rfl hP hS (fun _ h => h) ⟨Nat.le_of_ble_eq_true rfl, Nat.le_of_ble_eq_true rfl⟩ ⟨Nat.zero_le _, Nat.zero_le _⟩ hl.1 rfl rfl (Nat.le_of_ble_eq_true rfl) dX6_split_151 (fun r_3 v_3 f_3 g_3 H locs hq_3 hP _ hS => ?_)
        obtain ⟨rfl, rfl, rfl, rfl⟩ := hq_3
        show W p l e (gRm 6 136) s m args below meth c _ _ 0 0 Q (F0 m 154 ls [])
        have hP : gWd D (rwT k ad) (va_up (va_up v 6 0) 5 (y5_1 + 1)) (va_up (va_up (va_up f 6 (u1 c6_1 y5_1 (256 : Int))) 7 (u1 c7_1 y5_1 a2)) 8 (u1 c8_1 y5_1 (0 : Int))) g H := ⟨hP.1, (gF_up (V := rwV) (F := rwF) (gF_up (V := rwV) (F := rwF) (gF_up (V := rwV) (F := rwF) (gR_up (V := rwV) (F := rwF) (gR_up (V := rwV) (F := rwF) ⟨hok.1, hok.2⟩ 6 (hP.2.1 6)) 5 (hP.2.1 5)) 6 (hP.2.2 6)) 7 (hP.2.2 7)) 8 (hP.2.2 8))⟩
        exact g_vret hQ C hr hlocks hP hS dX6_split_154 ⟨(y5_1 + 1), (u1 c6_1 y5_1 (256 : Int)), (u1 c7_1 y5_1 a2), (u1 c8_1 y5_1 (0 : Int)), rfl, rfl, rfl, rfl, (by first | (exfalso; omega) | exact tPre_end hT (by omega) (by omega) (by omega) (by omega) hk hv (by omega) | exact tPre_end (x := a2) (by have h := hT; rw [show x3 = a2 by omega] at h; exact h) (by omega) (by omega) (by omega) (by omega) (tK_N (by omega)).symm (tV_0 (by omega)).symm (by omega))⟩
      · refine lv_iload_n hx hb dX6_split_21 rfl (lv_at hl 3 rfl) ?_
        refine lv_iload_n hx hb dX6_split_22 rfl (lv_at hl 2 rfl) ?_
        refine gi_cge (tgt := 145) hx hb dX6_split_23 (by decide) (by omega) (by omega) (fun c_4 => ?_) (fun c_4 => ?_)
        · refine lv_aload_n hx hb dX6_split_145 rfl (lv_at hl 0 rfl) ?_
          refine lv_sipush (v := iI 256) hx hb dX6_split_146 (by decide) ?_
          refine lv_iload_n hx hb dX6_split_149 rfl (lv_at hl 2 rfl) ?_
          refine lv_iconst (v := iI 0) hx hb dX6_split_150 rfl ?_
          refine g_cv (As := [.int (iI 256), .int (iI a2), .int (iI 0)]) (rest := []) (n := 3) C hml (e_To_put l D k A ad hD (va_up (va_up v 6 0) 5 y5_1) (va_up (va_up (va_up f 6 c6_1) 7 c7_1) 8 c8_1) g 256 a2 0 (by decide) (by omega) (by decide) (show y5_1 < 701 from by omega) (show 0 ≤ (256 : Int) ∧ (256 : Int) ≤ 300 from by omega) (show 0 ≤ a2 ∧ a2 ≤ 700 from by omega) (show 0 ≤ (0 : Int) ∧ (0 : Int) ≤ 999999 from by omega)) mM_X6_45 mI_X6_put mE_X6_put mN_X6 mC_X6_put (by decide +kernel) 10 (ci := 6) rfl rfl hP hS (fun _ h => h) ⟨Nat.le_of_ble_eq_true rfl, Nat.le_of_ble_eq_true rfl⟩ ⟨Nat.zero_le _, Nat.zero_le _⟩ hl.1 rfl rfl (Nat.le_of_ble_eq_true rfl) dX6_split_151 (fun r_5 v_5 f_5 g_5 H locs hq_5 hP _ hS => ?_)
          obtain ⟨rfl, rfl, rfl, rfl⟩ := hq_5
          show W p l e (gRm 6 136) s m args below meth c _ _ 0 0 Q (F0 m 154 ls [])
          have hP : gWd D (rwT k ad) (va_up (va_up v 6 0) 5 (y5_1 + 1)) (va_up (va_up (va_up f 6 (u1 c6_1 y5_1 (256 : Int))) 7 (u1 c7_1 y5_1 a2)) 8 (u1 c8_1 y5_1 (0 : Int))) g H := ⟨hP.1, (gF_up (V := rwV) (F := rwF) (gF_up (V := rwV) (F := rwF) (gF_up (V := rwV) (F := rwF) (gR_up (V := rwV) (F := rwF) (gR_up (V := rwV) (F := rwF) ⟨hok.1, hok.2⟩ 6 (hP.2.1 6)) 5 (hP.2.1 5)) 6 (hP.2.2 6)) 7 (hP.2.2 7)) 8 (hP.2.2 8))⟩
          exact g_vret hQ C hr hlocks hP hS dX6_split_154 ⟨(y5_1 + 1), (u1 c6_1 y5_1 (256 : Int)), (u1 c7_1 y5_1 a2), (u1 c8_1 y5_1 (0 : Int)), rfl, rfl, rfl, rfl, (by first | (exfalso; omega) | exact tPre_end hT (by omega) (by omega) (by omega) (by omega) hk hv (by omega) | exact tPre_end (x := a2) (by have h := hT; rw [show x3 = a2 by omega] at h; exact h) (by omega) (by omega) (by omega) (by omega) (tK_N (by omega)).symm (tV_0 (by omega)).symm (by omega))⟩
        · refine lv_aload_n hx hb dX6_split_26 rfl (lv_at hl 1 rfl) ?_
          refine lv_iload_n hx hb dX6_split_27 rfl (lv_at hl 3 rfl) ?_
          refine rwL_tape C hP (by omega) (by omega) dX6_split_28 ?_
          show W p l e (gRm 6 136) s m args below meth c _ _ 0 0 Q (F0 m 29 ls [.int (iI (f 0 x3))])
          have r_6 : 0 ≤ (f 0 x3) ∧ (f 0 x3) ≤ 255 := hP.2.2 0 x3
          refine lv_istore (lv' := [(5, .int (iI (f 0 x3))), (0, .ref (ad 10)), (1, .ref (ad 1)), (2, .int (iI a2)), (3, .int (iI x3)), (4, .int (iI x4))]) hx hb dX6_split_29 hl (by decide) rfl (fun ls hl => ?_)
          refine lv_iload hx hb dX6_split_31 (lv_at hl 0 rfl) ?_
          refine lv_bipush (v := iI 32) hx hb dX6_split_33 (by decide) ?_
          refine gi_ceq (tgt := 45) hx hb dX6_split_35 (by decide) (by omega) (by decide) (fun c_7 => ?_) (fun c_7 => ?_)
          · refine lv_iinc (v := iI (x3 + 1)) (lv' := [(3, .int (iI (x3 + 1))), (5, .int (iI (f 0 x3))), (0, .ref (ad 10)), (1, .ref (ad 1)), (2, .int (iI a2)), (4, .int (iI x4))]) hx hb dX6_split_45 hl (k := 4) rfl (by show iI _ + iI 1 = _; rw [iI_add]) (by decide) rfl (fun ls hl => ?_)
            refine lv_goto (tgt := 114) hx hb dX6_split_48 (by decide) ?_
            refine lv_aload_n hx hb dX6_split_114 rfl (lv_at hl 2 rfl) ?_
            refine rwG_reader_tokens_many C hP mF_X6_25 dX6_split_115 ?_
            show W p l e (gRm 6 136) s m args below meth c _ _ 0 0 Q (F0 m 118 ls [.int (iI y5_1)])
            have r_8 : 0 ≤ y5_1 ∧ y5_1 ≤ 701 := hP.2.1 5
            refine gi_zle (tgt := 139) hx hb dX6_split_118 (by decide) (by omega) (fun c_9 => ?_) (fun c_9 => ?_)
            · refine lv_iinc (v := iI (x4 + 1)) (lv' := [(4, .int (iI (x4 + 1))), (3, .int (iI (x3 + 1))), (5, .int (iI (f 0 x3))), (0, .ref (ad 10)), (1, .ref (ad 1)), (2, .int (iI a2))]) hx hb dX6_split_139 hl (k := 5) rfl (by show iI _ + iI 1 = _; rw [iI_add]) (by decide) rfl (fun ls hl => ?_)
              refine lv_goto (tgt := 15) hx hb dX6_split_142 (by decide) ?_
              exact ih_15 (x3 + 1) (x4 + 1) y5_1 c6_1 c7_1 c8_1 _ _ _ (by omega) (by omega) (by omega) (by omega) (by first | exact tPre_ws hT (by omega) (by omega) | exact tPre_put hT (by omega) (by omega) (by omega) (by omega) hk hv (by omega) hy) hP hS (lv_sub hl [3, 4, 5, 1, 0] rfl)
            · refine lv_aload_n hx hb dX6_split_121 rfl (lv_at hl 2 rfl) ?_
              refine rwG_reader_tokens_kinds C hP mF_X6_9 dX6_split_122 ?_
              refine lv_aload_n hx hb dX6_split_125 rfl (lv_at hl 2 rfl) ?_
              refine rwG_reader_tokens_many C hP mF_X6_25 dX6_split_126 ?_
              show W p l e (gRm 6 136) s m args below meth c _ _ 0 0 Q (F0 m 129 ls [.int (iI y5_1), .ref (ad 11)])
              refine lv_iconst (v := iI 1) hx hb dX6_split_129 rfl ?_
              refine gi_sub (z := (y5_1 - 1)) hx hb dX6_split_130 rfl ?_
              refine rwL_reader_tokens_kinds C hP (by omega) (by omega) dX6_split_131 ?_
              show W p l e (gRm 6 136) s m args below meth c _ _ 0 0 Q (F0 m 132 ls [.int (iI (c6_1 (y5_1 - 1)))])
              have r_10 : 0 ≤ (c6_1 (y5_1 - 1)) ∧ (c6_1 (y5_1 - 1)) ≤ 300 := hP.2.2 6 (y5_1 - 1)
              have q_11 : (c6_1 (y5_1 - 1)) ≠ 257 := tPre_at hT (by omega) (by omega)
              refine lv_sipush (v := iI 257) hx hb dX6_split_132 (by decide) ?_
              refine gi_cne (tgt := 139) hx hb dX6_split_135 (by decide) (by omega) (by decide) (fun c_12 => ?_) (fun c_12 => ?_)
              · refine lv_iinc (v := iI (x4 + 1)) (lv' := [(4, .int (iI (x4 + 1))), (3, .int (iI (x3 + 1))), (5, .int (iI (f 0 x3))), (0, .ref (ad 10)), (1, .ref (ad 1)), (2, .int (iI a2))]) hx hb dX6_split_139 hl (k := 5) rfl (by show iI _ + iI 1 = _; rw [iI_add]) (by decide) rfl (fun ls hl => ?_)
                refine lv_goto (tgt := 15) hx hb dX6_split_142 (by decide) ?_
                exact ih_15 (x3 + 1) (x4 + 1) y5_1 c6_1 c7_1 c8_1 _ _ _ (by omega) (by omega) (by omega) (by omega) (by first | exact tPre_ws hT (by omega) (by omega) | exact tPre_put hT (by omega) (by omega) (by omega) (by omega) hk hv (by omega) hy) hP hS (lv_sub hl [3, 4, 5, 1, 0] rfl)
              · exact g_vret hQ C hr hlocks hP hS dX6_split_138 ⟨y5_1, c6_1, c7_1, c8_1, rfl, rfl, rfl, rfl, (by first | (exfalso; omega) | exact tPre_end hT (by omega) (by omega) (by omega) (by omega) hk hv (by omega) | exact tPre_end (x := a2) (by have h := hT; rw [show x3 = a2 by omega] at h; exact h) (by omega) (by omega) (by omega) (by omega) (tK_N (by omega)).symm (tV_0 (by omega)).symm (by omega))⟩
          · refine lv_iload hx hb dX6_split_38 (lv_at hl 0 rfl) ?_
            refine lv_bipush (v := iI 10) hx hb dX6_split_40 (by decide) ?_
            refine gi_cne (tgt := 51) hx hb dX6_split_42 (by decide) (by omega) (by decide) (fun c_13 => ?_) (fun c_13 => ?_)
            · refine lv_iload hx hb dX6_split_51 (lv_at hl 0 rfl) ?_
              refine g_cs (As := [.int (iI (f 0 x3))]) (rest := []) (n := 1) C hml (e_To_isLetter l D k A ad hD (va_up (va_up v 6 0) 5 y5_1) (va_up (va_up (va_up f 6 c6_1) 7 c7_1) 8 c8_1) g (f 0 x3) (by omega)) mM_X6_28 mS_X6_isLetter mN_X6 mC_X6_isLetter (by decide +kernel) hP hS (fun _ h => h) ⟨Nat.le_of_ble_eq_true rfl, Nat.le_of_ble_eq_true rfl⟩ ⟨Nat.zero_le _, Nat.zero_le _⟩ hl.1 rfl rfl (Nat.le_of_ble_eq_true rfl) dX6_split_53 (fun r_14 v_14 f_14 g_14 H locs hq_14 hP _ hS => ?_)
              obtain ⟨z_14, rfl, rfl, rfl, rfl, p0_14⟩ := hq_14
              show W p l e (gRm 6 136) s m args below meth c _ _ 0 0 Q (F0 m 56 ls [.int (iI z_14)])
              replace p0_14 : z_14 = (if 97 ≤ (f 0 x3) ∧ (f 0 x3) ≤ 122 then 1 else 0) := p0_14
              have w_14 := gif (P := 97 ≤ (f 0 x3) ∧ (f 0 x3) ≤ 122) p0_14
              have hz_14 : inR z_14 := (by first | omega | (rw [p0_14]; split <;> omega))
              refine gi_zeq (tgt := 70) hx hb dX6_split_56 (by decide) (by omega) (fun c_15 => ?_) (fun c_15 => ?_)
              · refine lv_iload hx hb dX6_split_70 (lv_at hl 0 rfl) ?_
                refine g_cs (As := [.int (iI (f 0 x3))]) (rest := []) (n := 1) C hml (e_To_isDigit l D k A ad hD (va_up (va_up v 6 0) 5 y5_1) (va_up (va_up (va_up f 6 c6_1) 7 c7_1) 8 c8_1) g (f 0 x3) (by omega)) mM_X6_36 mS_X6_isDigit mN_X6 mC_X6_isDigit (by decide +kernel) hP hS (fun _ h => h) ⟨Nat.le_of_ble_eq_true rfl, Nat.le_of_ble_eq_true rfl⟩ ⟨Nat.zero_le _, Nat.zero_le _⟩ hl.1 rfl rfl (Nat.le_of_ble_eq_true rfl) dX6_split_72 (fun r_16 v_16 f_16 g_16 H locs hq_16 hP _ hS => ?_)
                obtain ⟨z_16, rfl, rfl, rfl, rfl, p0_16⟩ := hq_16
                show W p l e (gRm 6 136) s m args below meth c _ _ 0 0 Q (F0 m 75 ls [.int (iI z_16)])
                replace p0_16 : z_16 = (if 48 ≤ (f 0 x3) ∧ (f 0 x3) ≤ 57 then 1 else 0) := p0_16
                have w_16 := gif (P := 48 ≤ (f 0 x3) ∧ (f 0 x3) ≤ 57) p0_16
                have hz_16 : inR z_16 := (by first | omega | (rw [p0_16]; split <;> omega))
                refine gi_zeq (tgt := 89) hx hb dX6_split_75 (by decide) (by omega) (fun c_17 => ?_) (fun c_17 => ?_)
                · refine lv_aload_n hx hb dX6_split_89 rfl (lv_at hl 1 rfl) ?_
                  refine lv_iload hx hb dX6_split_90 (lv_at hl 0 rfl) ?_
                  refine g_cs (As := [.int (iI (f 0 x3))]) (rest := [.ref (ad 10)]) (n := 1) C hml (e_To_isSign l D k A ad hD (va_up (va_up v 6 0) 5 y5_1) (va_up (va_up (va_up f 6 c6_1) 7 c7_1) 8 c8_1) g (f 0 x3) (by omega)) mM_X6_42 mS_X6_isSign mN_X6 mC_X6_isSign (by decide +kernel) hP hS (fun _ h => h) ⟨Nat.le_of_ble_eq_true rfl, Nat.le_of_ble_eq_true rfl⟩ ⟨Nat.zero_le _, Nat.zero_le _⟩ hl.1 rfl rfl (Nat.le_of_ble_eq_true rfl) dX6_split_92 (fun r_18 v_18 f_18 g_18 H locs hq_18 hP _ hS => ?_)
                  obtain ⟨z_18, rfl, rfl, rfl, rfl, p0_18⟩ := hq_18
                  show W p l e (gRm 6 136) s m args below meth c _ _ 0 0 Q (F0 m 95 ls [.int (iI z_18), .ref (ad 10)])
                  replace p0_18 : z_18 = (if (f 0 x3) = 43 ∨ (f 0 x3) = 45 ∨ (f 0 x3) = 42 ∨ (f 0 x3) = 40 ∨ (f 0 x3) = 41 ∨ (f 0 x3) = 44 ∨ (f 0 x3) = 59 then 1 else 0) := p0_18
                  have w_18 := gif (P := (f 0 x3) = 43 ∨ (f 0 x3) = 45 ∨ (f 0 x3) = 42 ∨ (f 0 x3) = 40 ∨ (f 0 x3) = 41 ∨ (f 0 x3) = 44 ∨ (f 0 x3) = 59) p0_18
                  have hz_18 : inR z_18 := (by first | omega | (rw [p0_18]; split <;> omega))
                  refine gi_zeq (tgt := 103) hx hb dX6_split_95 (by decide) (by omega) (fun c_19 => ?_) (fun c_19 => ?_)
                  · refine lv_sipush (v := iI 257) hx hb dX6_split_103 (by decide) ?_
                    refine lv_iload_n hx hb dX6_split_106 rfl (lv_at hl 4 rfl) ?_
                    refine lv_iconst (v := iI 0) hx hb dX6_split_107 rfl ?_
                    refine g_cv (As := [.int (iI 257), .int (iI x3), .int (iI 0)]) (rest := []) (n := 3) C hml (e_To_put l D k A ad hD (va_up (va_up v 6 0) 5 y5_1) (va_up (va_up (va_up f 6 c6_1) 7 c7_1) 8 c8_1) g 257 x3 0 (by decide) (by omega) (by decide) (show y5_1 < 701 from by omega) (show 0 ≤ (257 : Int) ∧ (257 : Int) ≤ 300 from by omega) (show 0 ≤ x3 ∧ x3 ≤ 700 from by omega) (show 0 ≤ (0 : Int) ∧ (0 : Int) ≤ 999999 from by omega)) mM_X6_45 mI_X6_put mE_X6_put mN_X6 mC_X6_put (by decide +kernel) 10 (ci := 6) rfl rfl hP hS (fun _ h => h) ⟨Nat.le_of_ble_eq_true rfl, Nat.le_of_ble_eq_true rfl⟩ ⟨Nat.zero_le _, Nat.zero_le _⟩ hl.1 rfl rfl (Nat.le_of_ble_eq_true rfl) dX6_split_108 (fun r_20 v_20 f_20 g_20 H locs hq_20 hP _ hS => ?_)
                    obtain ⟨rfl, rfl, rfl, rfl⟩ := hq_20
                    show W p l e (gRm 6 136) s m args below meth c _ _ 0 0 Q (F0 m 111 ls [])
                    have hP : gWd D (rwT k ad) (va_up (va_up v 6 0) 5 (y5_1 + 1)) (va_up (va_up (va_up f 6 (u1 c6_1 y5_1 (257 : Int))) 7 (u1 c7_1 y5_1 x3)) 8 (u1 c8_1 y5_1 (0 : Int))) g H := ⟨hP.1, (gF_up (V := rwV) (F := rwF) (gF_up (V := rwV) (F := rwF) (gF_up (V := rwV) (F := rwF) (gR_up (V := rwV) (F := rwF) (gR_up (V := rwV) (F := rwF) ⟨hok.1, hok.2⟩ 6 (hP.2.1 6)) 5 (hP.2.1 5)) 6 (hP.2.2 6)) 7 (hP.2.2 7)) 8 (hP.2.2 8))⟩
                    have hk : 257 = tK (f 0) a2 x3 := by first | exact (tK_S (by omega) (by omega)).symm | exact (tK_B (by omega) (by omega) (by omega) (by omega)).symm
                    have hv : (0 : Int) = tV (f 0) a2 x3 := (tV_0 (by omega)).symm
                    have hy : x3 + 1 = tE (f 0) a2 x3 := (tE_S (by omega) (by omega) (by omega)).symm
                    refine lv_iinc (v := iI (x3 + 1)) (lv' := [(3, .int (iI (x3 + 1))), (5, .int (iI (f 0 x3))), (0, .ref (ad 10)), (1, .ref (ad 1)), (2, .int (iI a2)), (4, .int (iI x4))]) hx hb dX6_split_111 hl (k := 4) rfl (by show iI _ + iI 1 = _; rw [iI_add]) (by decide) rfl (fun ls hl => ?_)
                    refine lv_aload_n hx hb dX6_split_114 rfl (lv_at hl 2 rfl) ?_
                    refine rwG_reader_tokens_many C hP mF_X6_25 dX6_split_115 ?_
                    show W p l e (gRm 6 136) s m args below meth c _ _ 0 0 Q (F0 m 118 ls [.int (iI (y5_1 + 1))])
                    have r_21 : 0 ≤ (y5_1 + 1) ∧ (y5_1 + 1) ≤ 701 := hP.2.1 5
                    refine gi_zle (tgt := 139) hx hb dX6_split_118 (by decide) (by omega) (fun c_22 => ?_) (fun c_22 => ?_)
                    · refine lv_iinc (v := iI (x4 + 1)) (lv' := [(4, .int (iI (x4 + 1))), (3, .int (iI (x3 + 1))), (5, .int (iI (f 0 x3))), (0, .ref (ad 10)), (1, .ref (ad 1)), (2, .int (iI a2))]) hx hb dX6_split_139 hl (k := 5) rfl (by show iI _ + iI 1 = _; rw [iI_add]) (by decide) rfl (fun ls hl => ?_)
                      refine lv_goto (tgt := 15) hx hb dX6_split_142 (by decide) ?_
                      exact ih_15 (x3 + 1) (x4 + 1) (y5_1 + 1) (u1 c6_1 y5_1 (257 : Int)) (u1 c7_1 y5_1 x3) (u1 c8_1 y5_1 (0 : Int)) _ _ _ (by omega) (by omega) (by omega) (by omega) (by first | exact tPre_ws hT (by omega) (by omega) | exact tPre_put hT (by omega) (by omega) (by omega) (by omega) hk hv (by omega) hy) hP hS (lv_sub hl [3, 4, 5, 1, 0] rfl)
                    · refine lv_aload_n hx hb dX6_split_121 rfl (lv_at hl 2 rfl) ?_
                      refine rwG_reader_tokens_kinds C hP mF_X6_9 dX6_split_122 ?_
                      refine lv_aload_n hx hb dX6_split_125 rfl (lv_at hl 2 rfl) ?_
                      refine rwG_reader_tokens_many C hP mF_X6_25 dX6_split_126 ?_
                      show W p l e (gRm 6 136) s m args below meth c _ _ 0 0 Q (F0 m 129 ls [.int (iI (y5_1 + 1)), .ref (ad 11)])
                      refine lv_iconst (v := iI 1) hx hb dX6_split_129 rfl ?_
                      refine gi_sub (z := ((y5_1 + 1) - 1)) hx hb dX6_split_130 rfl ?_
                      refine rwL_reader_tokens_kinds C hP (by omega) (by omega) dX6_split_131 ?_
                      show W p l e (gRm 6 136) s m args below meth c _ _ 0 0 Q (F0 m 132 ls [.int (iI ((u1 c6_1 y5_1 (257 : Int)) ((y5_1 + 1) - 1)))])
                      have r_23 : 0 ≤ ((u1 c6_1 y5_1 (257 : Int)) ((y5_1 + 1) - 1)) ∧ ((u1 c6_1 y5_1 (257 : Int)) ((y5_1 + 1) - 1)) ≤ 300 := hP.2.2 6 ((y5_1 + 1) - 1)
                      have q_24 : ((u1 c6_1 y5_1 (257 : Int)) ((y5_1 + 1) - 1)) = (257 : Int) := by rw [show ((y5_1 + 1) - 1) = y5_1 by omega]; exact u1_s
                      refine lv_sipush (v := iI 257) hx hb dX6_split_132 (by decide) ?_
                      refine gi_cne (tgt := 139) hx hb dX6_split_135 (by decide) (by omega) (by decide) (fun c_25 => ?_) (fun c_25 => ?_)
                      · refine lv_iinc (v := iI (x4 + 1)) (lv' := [(4, .int (iI (x4 + 1))), (3, .int (iI (x3 + 1))), (5, .int (iI (f 0 x3))), (0, .ref (ad 10)), (1, .ref (ad 1)), (2, .int (iI a2))]) hx hb dX6_split_139 hl (k := 5) rfl (by show iI _ + iI 1 = _; rw [iI_add]) (by decide) rfl (fun ls hl => ?_)
                        refine lv_goto (tgt := 15) hx hb dX6_split_142 (by decide) ?_
                        exact ih_15 (x3 + 1) (x4 + 1) (y5_1 + 1) (u1 c6_1 y5_1 (257 : Int)) (u1 c7_1 y5_1 x3) (u1 c8_1 y5_1 (0 : Int)) _ _ _ (by omega) (by omega) (by omega) (by omega) (by first | exact tPre_ws hT (by omega) (by omega) | exact tPre_put hT (by omega) (by omega) (by omega) (by omega) hk hv (by omega) hy) hP hS (lv_sub hl [3, 4, 5, 1, 0] rfl)
                      · exact g_vret hQ C hr hlocks hP hS dX6_split_138 ⟨(y5_1 + 1), (u1 c6_1 y5_1 (257 : Int)), (u1 c7_1 y5_1 x3), (u1 c8_1 y5_1 (0 : Int)), rfl, rfl, rfl, rfl, (by first | (exfalso; omega) | exact tPre_end hT (by omega) (by omega) (by omega) (by omega) hk hv (by omega) | exact tPre_end (x := a2) (by have h := hT; rw [show x3 = a2 by omega] at h; exact h) (by omega) (by omega) (by omega) (by omega) (tK_N (by omega)).symm (tV_0 (by omega)).symm (by omega))⟩
                  · refine lv_iload hx hb dX6_split_98 (lv_at hl 0 rfl) ?_
                    refine lv_goto (tgt := 106) hx hb dX6_split_100 (by decide) ?_
                    refine lv_iload_n hx hb dX6_split_106 rfl (lv_at hl 4 rfl) ?_
                    refine lv_iconst (v := iI 0) hx hb dX6_split_107 rfl ?_
                    refine g_cv (As := [.int (iI (f 0 x3)), .int (iI x3), .int (iI 0)]) (rest := []) (n := 3) C hml (e_To_put l D k A ad hD (va_up (va_up v 6 0) 5 y5_1) (va_up (va_up (va_up f 6 c6_1) 7 c7_1) 8 c8_1) g (f 0 x3) x3 0 (by omega) (by omega) (by decide) (show y5_1 < 701 from by omega) (show 0 ≤ (f 0 x3) ∧ (f 0 x3) ≤ 300 from by omega) (show 0 ≤ x3 ∧ x3 ≤ 700 from by omega) (show 0 ≤ (0 : Int) ∧ (0 : Int) ≤ 999999 from by omega)) mM_X6_45 mI_X6_put mE_X6_put mN_X6 mC_X6_put (by decide +kernel) 10 (ci := 6) rfl rfl hP hS (fun _ h => h) ⟨Nat.le_of_ble_eq_true rfl, Nat.le_of_ble_eq_true rfl⟩ ⟨Nat.zero_le _, Nat.zero_le _⟩ hl.1 rfl rfl (Nat.le_of_ble_eq_true rfl) dX6_split_108 (fun r_26 v_26 f_26 g_26 H locs hq_26 hP _ hS => ?_)
                    obtain ⟨rfl, rfl, rfl, rfl⟩ := hq_26
                    show W p l e (gRm 6 136) s m args below meth c _ _ 0 0 Q (F0 m 111 ls [])
                    have hP : gWd D (rwT k ad) (va_up (va_up v 6 0) 5 (y5_1 + 1)) (va_up (va_up (va_up f 6 (u1 c6_1 y5_1 (f 0 x3))) 7 (u1 c7_1 y5_1 x3)) 8 (u1 c8_1 y5_1 (0 : Int))) g H := ⟨hP.1, (gF_up (V := rwV) (F := rwF) (gF_up (V := rwV) (F := rwF) (gF_up (V := rwV) (F := rwF) (gR_up (V := rwV) (F := rwF) (gR_up (V := rwV) (F := rwF) ⟨hok.1, hok.2⟩ 6 (hP.2.1 6)) 5 (hP.2.1 5)) 6 (hP.2.2 6)) 7 (hP.2.2 7)) 8 (hP.2.2 8))⟩
                    have hk : (f 0 x3) = tK (f 0) a2 x3 := by first | exact (tK_S (by omega) (by omega)).symm | exact (tK_B (by omega) (by omega) (by omega) (by omega)).symm
                    have hv : (0 : Int) = tV (f 0) a2 x3 := (tV_0 (by omega)).symm
                    have hy : x3 + 1 = tE (f 0) a2 x3 := (tE_S (by omega) (by omega) (by omega)).symm
                    refine lv_iinc (v := iI (x3 + 1)) (lv' := [(3, .int (iI (x3 + 1))), (5, .int (iI (f 0 x3))), (0, .ref (ad 10)), (1, .ref (ad 1)), (2, .int (iI a2)), (4, .int (iI x4))]) hx hb dX6_split_111 hl (k := 4) rfl (by show iI _ + iI 1 = _; rw [iI_add]) (by decide) rfl (fun ls hl => ?_)
                    refine lv_aload_n hx hb dX6_split_114 rfl (lv_at hl 2 rfl) ?_
                    refine rwG_reader_tokens_many C hP mF_X6_25 dX6_split_115 ?_
                    show W p l e (gRm 6 136) s m args below meth c _ _ 0 0 Q (F0 m 118 ls [.int (iI (y5_1 + 1))])
                    have r_27 : 0 ≤ (y5_1 + 1) ∧ (y5_1 + 1) ≤ 701 := hP.2.1 5
                    refine gi_zle (tgt := 139) hx hb dX6_split_118 (by decide) (by omega) (fun c_28 => ?_) (fun c_28 => ?_)
                    · refine lv_iinc (v := iI (x4 + 1)) (lv' := [(4, .int (iI (x4 + 1))), (3, .int (iI (x3 + 1))), (5, .int (iI (f 0 x3))), (0, .ref (ad 10)), (1, .ref (ad 1)), (2, .int (iI a2))]) hx hb dX6_split_139 hl (k := 5) rfl (by show iI _ + iI 1 = _; rw [iI_add]) (by decide) rfl (fun ls hl => ?_)
                      refine lv_goto (tgt := 15) hx hb dX6_split_142 (by decide) ?_
                      exact ih_15 (x3 + 1) (x4 + 1) (y5_1 + 1) (u1 c6_1 y5_1 (f 0 x3)) (u1 c7_1 y5_1 x3) (u1 c8_1 y5_1 (0 : Int)) _ _ _ (by omega) (by omega) (by omega) (by omega) (by first | exact tPre_ws hT (by omega) (by omega) | exact tPre_put hT (by omega) (by omega) (by omega) (by omega) hk hv (by omega) hy) hP hS (lv_sub hl [3, 4, 5, 1, 0] rfl)
                    · refine lv_aload_n hx hb dX6_split_121 rfl (lv_at hl 2 rfl) ?_
                      refine rwG_reader_tokens_kinds C hP mF_X6_9 dX6_split_122 ?_
                      refine lv_aload_n hx hb dX6_split_125 rfl (lv_at hl 2 rfl) ?_
                      refine rwG_reader_tokens_many C hP mF_X6_25 dX6_split_126 ?_
                      show W p l e (gRm 6 136) s m args below meth c _ _ 0 0 Q (F0 m 129 ls [.int (iI (y5_1 + 1)), .ref (ad 11)])
                      refine lv_iconst (v := iI 1) hx hb dX6_split_129 rfl ?_
                      refine gi_sub (z := ((y5_1 + 1) - 1)) hx hb dX6_split_130 rfl ?_
                      refine rwL_reader_tokens_kinds C hP (by omega) (by omega) dX6_split_131 ?_
                      show W p l e (gRm 6 136) s m args below meth c _ _ 0 0 Q (F0 m 132 ls [.int (iI ((u1 c6_1 y5_1 (f 0 x3)) ((y5_1 + 1) - 1)))])
                      have r_29 : 0 ≤ ((u1 c6_1 y5_1 (f 0 x3)) ((y5_1 + 1) - 1)) ∧ ((u1 c6_1 y5_1 (f 0 x3)) ((y5_1 + 1) - 1)) ≤ 300 := hP.2.2 6 ((y5_1 + 1) - 1)
                      have q_30 : ((u1 c6_1 y5_1 (f 0 x3)) ((y5_1 + 1) - 1)) = (f 0 x3) := by rw [show ((y5_1 + 1) - 1) = y5_1 by omega]; exact u1_s
                      refine lv_sipush (v := iI 257) hx hb dX6_split_132 (by decide) ?_
                      refine gi_cne (tgt := 139) hx hb dX6_split_135 (by decide) (by omega) (by decide) (fun c_31 => ?_) (fun c_31 => ?_)
                      · refine lv_iinc (v := iI (x4 + 1)) (lv' := [(4, .int (iI (x4 + 1))), (3, .int (iI (x3 + 1))), (5, .int (iI (f 0 x3))), (0, .ref (ad 10)), (1, .ref (ad 1)), (2, .int (iI a2))]) hx hb dX6_split_139 hl (k := 5) rfl (by show iI _ + iI 1 = _; rw [iI_add]) (by decide) rfl (fun ls hl => ?_)
                        refine lv_goto (tgt := 15) hx hb dX6_split_142 (by decide) ?_
                        exact ih_15 (x3 + 1) (x4 + 1) (y5_1 + 1) (u1 c6_1 y5_1 (f 0 x3)) (u1 c7_1 y5_1 x3) (u1 c8_1 y5_1 (0 : Int)) _ _ _ (by omega) (by omega) (by omega) (by omega) (by first | exact tPre_ws hT (by omega) (by omega) | exact tPre_put hT (by omega) (by omega) (by omega) (by omega) hk hv (by omega) hy) hP hS (lv_sub hl [3, 4, 5, 1, 0] rfl)
                      · exact g_vret hQ C hr hlocks hP hS dX6_split_138 ⟨(y5_1 + 1), (u1 c6_1 y5_1 (f 0 x3)), (u1 c7_1 y5_1 x3), (u1 c8_1 y5_1 (0 : Int)), rfl, rfl, rfl, rfl, (by first | (exfalso; omega) | exact tPre_end hT (by omega) (by omega) (by omega) (by omega) hk hv (by omega) | exact tPre_end (x := a2) (by have h := hT; rw [show x3 = a2 by omega] at h; exact h) (by omega) (by omega) (by omega) (by omega) (tK_N (by omega)).symm (tV_0 (by omega)).symm (by omega))⟩
                · refine lv_aload_n hx hb dX6_split_78 rfl (lv_at hl 1 rfl) ?_
                  refine lv_aload_n hx hb dX6_split_79 rfl (lv_at hl 2 rfl) ?_
                  refine lv_iload_n hx hb dX6_split_80 rfl (lv_at hl 4 rfl) ?_
                  refine lv_iload_n hx hb dX6_split_81 rfl (lv_at hl 3 rfl) ?_
                  refine g_cv (As := [.ref (ad 1), .int (iI x3), .int (iI a2)]) (rest := []) (n := 3) C hml (e_To_putNumber l D k A ad hD (va_up (va_up v 6 0) 5 y5_1) (va_up (va_up (va_up f 6 c6_1) 7 c7_1) 8 c8_1) g x3 a2 (by omega) (by omega) (show y5_1 < 701 from by omega) (show 0 ≤ x3 ∧ x3 ≤ a2 from by omega) (show a2 ≤ 700 from by omega)) mM_X6_39 mI_X6_putNumber mE_X6_putNumber mN_X6 mC_X6_putNumber (by decide +kernel) 10 (ci := 6) rfl rfl hP hS (fun _ h => h) ⟨Nat.le_of_ble_eq_true rfl, Nat.le_of_ble_eq_true rfl⟩ ⟨Nat.zero_le _, Nat.zero_le _⟩ hl.1 rfl rfl (Nat.le_of_ble_eq_true rfl) dX6_split_82 (fun r_32 v_32 f_32 g_32 H locs hq_32 hP _ hS => ?_)
                  obtain ⟨z_32, rfl, rfl, rfl, rfl, p0_32, p1_32⟩ := hq_32
                  show W p l e (gRm 6 136) s m args below meth c _ _ 0 0 Q (F0 m 85 ls [.int (iI z_32)])
                  have hP : gWd D (rwT k ad) (va_up (va_up v 6 0) 5 (y5_1 + 1)) (va_up (va_up (va_up f 6 (u1 c6_1 y5_1 (if 6 < z_32 - x3 then 257 else 258))) 7 (u1 c7_1 y5_1 x3)) 8 (u1 c8_1 y5_1 (nV (f 0) x3 (z_32 - x3).toNat))) g H := ⟨hP.1, (gF_up (V := rwV) (F := rwF) (gF_up (V := rwV) (F := rwF) (gF_up (V := rwV) (F := rwF) (gR_up (V := rwV) (F := rwF) (gR_up (V := rwV) (F := rwF) ⟨hok.1, hok.2⟩ 6 (hP.2.1 6)) 5 (hP.2.1 5)) 6 (hP.2.2 6)) 7 (hP.2.2 7)) 8 (hP.2.2 8))⟩
                  replace p0_32 : z_32 = (run bD (f 0) a2 x3) := p0_32
                  replace p1_32 : x3 ≤ z_32 ∧ z_32 ≤ a2 := p1_32
                  have hz_32 : inR z_32 := (by first | omega | (rw [p0_32]; split <;> omega))
                  have hk : (if 6 < z_32 - x3 then (257 : Int) else 258) = tK (f 0) a2 x3 := by rw [p0_32, tK_D (by omega) (by omega)]
                  have hy : z_32 = tE (f 0) a2 x3 := by rw [p0_32, tE_D (by omega) (by omega)]
                  have hv : nV (f 0) x3 (z_32 - x3).toNat = tV (f 0) a2 x3 := by rw [p0_32, tV_D (by omega) (by omega)]
                  have hup := tE_up (B := (f 0)) (n := a2) (q := x3) (by omega)
                  refine lv_istore_n (lv' := [(3, .int (iI z_32)), (5, .int (iI (f 0 x3))), (0, .ref (ad 10)), (1, .ref (ad 1)), (2, .int (iI a2)), (4, .int (iI x4))]) hx hb dX6_split_85 rfl hl (by decide) rfl (fun ls hl => ?_)
                  refine lv_goto (tgt := 114) hx hb dX6_split_86 (by decide) ?_
                  refine lv_aload_n hx hb dX6_split_114 rfl (lv_at hl 2 rfl) ?_
                  refine rwG_reader_tokens_many C hP mF_X6_25 dX6_split_115 ?_
                  show W p l e (gRm 6 136) s m args below meth c _ _ 0 0 Q (F0 m 118 ls [.int (iI (y5_1 + 1))])
                  have r_33 : 0 ≤ (y5_1 + 1) ∧ (y5_1 + 1) ≤ 701 := hP.2.1 5
                  refine gi_zle (tgt := 139) hx hb dX6_split_118 (by decide) (by omega) (fun c_34 => ?_) (fun c_34 => ?_)
                  · refine lv_iinc (v := iI (x4 + 1)) (lv' := [(4, .int (iI (x4 + 1))), (3, .int (iI z_32)), (5, .int (iI (f 0 x3))), (0, .ref (ad 10)), (1, .ref (ad 1)), (2, .int (iI a2))]) hx hb dX6_split_139 hl (k := 5) rfl (by show iI _ + iI 1 = _; rw [iI_add]) (by decide) rfl (fun ls hl => ?_)
                    refine lv_goto (tgt := 15) hx hb dX6_split_142 (by decide) ?_
                    exact ih_15 z_32 (x4 + 1) (y5_1 + 1) (u1 c6_1 y5_1 (if 6 < z_32 - x3 then 257 else 258)) (u1 c7_1 y5_1 x3) (u1 c8_1 y5_1 (nV (f 0) x3 (z_32 - x3).toNat)) _ _ _ (by omega) (by omega) (by omega) (by omega) (by first | exact tPre_ws hT (by omega) (by omega) | exact tPre_put hT (by omega) (by omega) (by omega) (by omega) hk hv (by omega) hy) hP hS (lv_sub hl [3, 4, 5, 1, 0] rfl)
                  · refine lv_aload_n hx hb dX6_split_121 rfl (lv_at hl 2 rfl) ?_
                    refine rwG_reader_tokens_kinds C hP mF_X6_9 dX6_split_122 ?_
                    refine lv_aload_n hx hb dX6_split_125 rfl (lv_at hl 2 rfl) ?_
                    refine rwG_reader_tokens_many C hP mF_X6_25 dX6_split_126 ?_
                    show W p l e (gRm 6 136) s m args below meth c _ _ 0 0 Q (F0 m 129 ls [.int (iI (y5_1 + 1)), .ref (ad 11)])
                    refine lv_iconst (v := iI 1) hx hb dX6_split_129 rfl ?_
                    refine gi_sub (z := ((y5_1 + 1) - 1)) hx hb dX6_split_130 rfl ?_
                    refine rwL_reader_tokens_kinds C hP (by omega) (by omega) dX6_split_131 ?_
                    show W p l e (gRm 6 136) s m args below meth c _ _ 0 0 Q (F0 m 132 ls [.int (iI ((u1 c6_1 y5_1 (if 6 < z_32 - x3 then 257 else 258)) ((y5_1 + 1) - 1)))])
                    have r_35 : 0 ≤ ((u1 c6_1 y5_1 (if 6 < z_32 - x3 then 257 else 258)) ((y5_1 + 1) - 1)) ∧ ((u1 c6_1 y5_1 (if 6 < z_32 - x3 then 257 else 258)) ((y5_1 + 1) - 1)) ≤ 300 := hP.2.2 6 ((y5_1 + 1) - 1)
                    have q_36 : ((u1 c6_1 y5_1 (if 6 < z_32 - x3 then 257 else 258)) ((y5_1 + 1) - 1)) = (if 6 < z_32 - x3 then 257 else 258) := by rw [show ((y5_1 + 1) - 1) = y5_1 by omega]; exact u1_s
                    refine lv_sipush (v := iI 257) hx hb dX6_split_132 (by decide) ?_
                    refine gi_cne (tgt := 139) hx hb dX6_split_135 (by decide) (by omega) (by decide) (fun c_37 => ?_) (fun c_37 => ?_)
                    · refine lv_iinc (v := iI (x4 + 1)) (lv' := [(4, .int (iI (x4 + 1))), (3, .int (iI z_32)), (5, .int (iI (f 0 x3))), (0, .ref (ad 10)), (1, .ref (ad 1)), (2, .int (iI a2))]) hx hb dX6_split_139 hl (k := 5) rfl (by show iI _ + iI 1 = _; rw [iI_add]) (by decide) rfl (fun ls hl => ?_)
                      refine lv_goto (tgt := 15) hx hb dX6_split_142 (by decide) ?_
                      exact ih_15 z_32 (x4 + 1) (y5_1 + 1) (u1 c6_1 y5_1 (if 6 < z_32 - x3 then 257 else 258)) (u1 c7_1 y5_1 x3) (u1 c8_1 y5_1 (nV (f 0) x3 (z_32 - x3).toNat)) _ _ _ (by omega) (by omega) (by omega) (by omega) (by first | exact tPre_ws hT (by omega) (by omega) | exact tPre_put hT (by omega) (by omega) (by omega) (by omega) hk hv (by omega) hy) hP hS (lv_sub hl [3, 4, 5, 1, 0] rfl)
                    · exact g_vret hQ C hr hlocks hP hS dX6_split_138 ⟨(y5_1 + 1), (u1 c6_1 y5_1 (if 6 < z_32 - x3 then 257 else 258)), (u1 c7_1 y5_1 x3), (u1 c8_1 y5_1 (nV (f 0) x3 (z_32 - x3).toNat)), rfl, rfl, rfl, rfl, (by first | (exfalso; omega) | exact tPre_end hT (by omega) (by omega) (by omega) (by omega) hk hv (by omega) | exact tPre_end (x := a2) (by have h := hT; rw [show x3 = a2 by omega] at h; exact h) (by omega) (by omega) (by omega) (by omega) (tK_N (by omega)).symm (tV_0 (by omega)).symm (by omega))⟩
              · refine lv_aload_n hx hb dX6_split_59 rfl (lv_at hl 1 rfl) ?_
                refine lv_aload_n hx hb dX6_split_60 rfl (lv_at hl 2 rfl) ?_
                refine lv_iload_n hx hb dX6_split_61 rfl (lv_at hl 4 rfl) ?_
                refine lv_iload_n hx hb dX6_split_62 rfl (lv_at hl 3 rfl) ?_
                refine g_cvE (As := [.ref (ad 1), .int (iI x3), .int (iI a2)]) (rest := []) (n := 3) C hE hml (e_To_putWord l D k A ad hD za (va_up (va_up v 6 0) 5 y5_1) (va_up (va_up (va_up f 6 c6_1) 7 c7_1) 8 c8_1) g x3 a2 (by omega) (by omega) (show y5_1 < 701 from by omega) (show 0 ≤ x3 ∧ x3 ≤ a2 from by omega) (show a2 ≤ 700 from by omega)) mM_X6_32 mI_X6_putWord mE_X6_putWord mN_X6 mC_X6_putWord (by decide +kernel) 10 (ci := 6) rfl rfl hP hS (fun _ h => h) ⟨Nat.le_of_ble_eq_true rfl, Nat.le_of_ble_eq_true rfl⟩ ⟨Nat.zero_le _, Nat.zero_le _⟩ hl.1 rfl rfl (Nat.le_of_ble_eq_true rfl) dX6_split_63 (fun r_38 v_38 f_38 g_38 H locs hq_38 hP _ hS => ?_)
                obtain ⟨z_38, rfl, rfl, rfl, rfl, p0_38, p1_38⟩ := hq_38
                show W p l e (gRm 6 136) s m args below meth c _ _ 0 0 Q (F0 m 66 ls [.int (iI z_38)])
                have hP : gWd D (rwT k ad) (va_up (va_up v 6 0) 5 (y5_1 + 1)) (va_up (va_up (va_up f 6 (u1 c6_1 y5_1 (wK (f 0) x3 z_38))) 7 (u1 c7_1 y5_1 x3)) 8 (u1 c8_1 y5_1 0)) g H := ⟨hP.1, (gF_up (V := rwV) (F := rwF) (gF_up (V := rwV) (F := rwF) (gF_up (V := rwV) (F := rwF) (gR_up (V := rwV) (F := rwF) (gR_up (V := rwV) (F := rwF) ⟨hok.1, hok.2⟩ 6 (hP.2.1 6)) 5 (hP.2.1 5)) 6 (hP.2.2 6)) 7 (hP.2.2 7)) 8 (hP.2.2 8))⟩
                replace p0_38 : z_38 = (run bL (f 0) a2 x3) := p0_38
                replace p1_38 : x3 ≤ z_38 ∧ z_38 ≤ a2 := p1_38
                have hz_38 : inR z_38 := (by first | omega | (rw [p0_38]; split <;> omega))
                have hk : wK (f 0) x3 z_38 = tK (f 0) a2 x3 := by rw [p0_38, tK_L (by omega) (by omega)]
                have hwr := wK_rng (f 0) x3 z_38
                have hy : z_38 = tE (f 0) a2 x3 := by rw [p0_38, tE_L (by omega) (by omega)]
                have hv : (0 : Int) = tV (f 0) a2 x3 := (tV_0 (by omega)).symm
                have hup := tE_up (B := (f 0)) (n := a2) (q := x3) (by omega)
                refine lv_istore_n (lv' := [(3, .int (iI z_38)), (5, .int (iI (f 0 x3))), (0, .ref (ad 10)), (1, .ref (ad 1)), (2, .int (iI a2)), (4, .int (iI x4))]) hx hb dX6_split_66 rfl hl (by decide) rfl (fun ls hl => ?_)
                refine lv_goto (tgt := 114) hx hb dX6_split_67 (by decide) ?_
                refine lv_aload_n hx hb dX6_split_114 rfl (lv_at hl 2 rfl) ?_
                refine rwG_reader_tokens_many C hP mF_X6_25 dX6_split_115 ?_
                show W p l e (gRm 6 136) s m args below meth c _ _ 0 0 Q (F0 m 118 ls [.int (iI (y5_1 + 1))])
                have r_39 : 0 ≤ (y5_1 + 1) ∧ (y5_1 + 1) ≤ 701 := hP.2.1 5
                refine gi_zle (tgt := 139) hx hb dX6_split_118 (by decide) (by omega) (fun c_40 => ?_) (fun c_40 => ?_)
                · refine lv_iinc (v := iI (x4 + 1)) (lv' := [(4, .int (iI (x4 + 1))), (3, .int (iI z_38)), (5, .int (iI (f 0 x3))), (0, .ref (ad 10)), (1, .ref (ad 1)), (2, .int (iI a2))]) hx hb dX6_split_139 hl (k := 5) rfl (by show iI _ + iI 1 = _; rw [iI_add]) (by decide) rfl (fun ls hl => ?_)
                  refine lv_goto (tgt := 15) hx hb dX6_split_142 (by decide) ?_
                  exact ih_15 z_38 (x4 + 1) (y5_1 + 1) (u1 c6_1 y5_1 (wK (f 0) x3 z_38)) (u1 c7_1 y5_1 x3) (u1 c8_1 y5_1 0) _ _ _ (by omega) (by omega) (by omega) (by omega) (by first | exact tPre_ws hT (by omega) (by omega) | exact tPre_put hT (by omega) (by omega) (by omega) (by omega) hk hv (by omega) hy) hP hS (lv_sub hl [3, 4, 5, 1, 0] rfl)
                · refine lv_aload_n hx hb dX6_split_121 rfl (lv_at hl 2 rfl) ?_
                  refine rwG_reader_tokens_kinds C hP mF_X6_9 dX6_split_122 ?_
                  refine lv_aload_n hx hb dX6_split_125 rfl (lv_at hl 2 rfl) ?_
                  refine rwG_reader_tokens_many C hP mF_X6_25 dX6_split_126 ?_
                  show W p l e (gRm 6 136) s m args below meth c _ _ 0 0 Q (F0 m 129 ls [.int (iI (y5_1 + 1)), .ref (ad 11)])
                  refine lv_iconst (v := iI 1) hx hb dX6_split_129 rfl ?_
                  refine gi_sub (z := ((y5_1 + 1) - 1)) hx hb dX6_split_130 rfl ?_
                  refine rwL_reader_tokens_kinds C hP (by omega) (by omega) dX6_split_131 ?_
                  show W p l e (gRm 6 136) s m args below meth c _ _ 0 0 Q (F0 m 132 ls [.int (iI ((u1 c6_1 y5_1 (wK (f 0) x3 z_38)) ((y5_1 + 1) - 1)))])
                  have r_41 : 0 ≤ ((u1 c6_1 y5_1 (wK (f 0) x3 z_38)) ((y5_1 + 1) - 1)) ∧ ((u1 c6_1 y5_1 (wK (f 0) x3 z_38)) ((y5_1 + 1) - 1)) ≤ 300 := hP.2.2 6 ((y5_1 + 1) - 1)
                  have q_42 : ((u1 c6_1 y5_1 (wK (f 0) x3 z_38)) ((y5_1 + 1) - 1)) = (wK (f 0) x3 z_38) := by rw [show ((y5_1 + 1) - 1) = y5_1 by omega]; exact u1_s
                  refine lv_sipush (v := iI 257) hx hb dX6_split_132 (by decide) ?_
                  refine gi_cne (tgt := 139) hx hb dX6_split_135 (by decide) (by omega) (by decide) (fun c_43 => ?_) (fun c_43 => ?_)
                  · refine lv_iinc (v := iI (x4 + 1)) (lv' := [(4, .int (iI (x4 + 1))), (3, .int (iI z_38)), (5, .int (iI (f 0 x3))), (0, .ref (ad 10)), (1, .ref (ad 1)), (2, .int (iI a2))]) hx hb dX6_split_139 hl (k := 5) rfl (by show iI _ + iI 1 = _; rw [iI_add]) (by decide) rfl (fun ls hl => ?_)
                    refine lv_goto (tgt := 15) hx hb dX6_split_142 (by decide) ?_
                    exact ih_15 z_38 (x4 + 1) (y5_1 + 1) (u1 c6_1 y5_1 (wK (f 0) x3 z_38)) (u1 c7_1 y5_1 x3) (u1 c8_1 y5_1 0) _ _ _ (by omega) (by omega) (by omega) (by omega) (by first | exact tPre_ws hT (by omega) (by omega) | exact tPre_put hT (by omega) (by omega) (by omega) (by omega) hk hv (by omega) hy) hP hS (lv_sub hl [3, 4, 5, 1, 0] rfl)
                  · exact g_vret hQ C hr hlocks hP hS dX6_split_138 ⟨(y5_1 + 1), (u1 c6_1 y5_1 (wK (f 0) x3 z_38)), (u1 c7_1 y5_1 x3), (u1 c8_1 y5_1 0), rfl, rfl, rfl, rfl, (by first | (exfalso; omega) | exact tPre_end hT (by omega) (by omega) (by omega) (by omega) hk hv (by omega) | exact tPre_end (x := a2) (by have h := hT; rw [show x3 = a2 by omega] at h; exact h) (by omega) (by omega) (by omega) (by omega) (tK_N (by omega)).symm (tV_0 (by omega)).symm (by omega))⟩
            · refine lv_iinc (v := iI (x3 + 1)) (lv' := [(3, .int (iI (x3 + 1))), (5, .int (iI (f 0 x3))), (0, .ref (ad 10)), (1, .ref (ad 1)), (2, .int (iI a2)), (4, .int (iI x4))]) hx hb dX6_split_45 hl (k := 4) rfl (by show iI _ + iI 1 = _; rw [iI_add]) (by decide) rfl (fun ls hl => ?_)
              refine lv_goto (tgt := 114) hx hb dX6_split_48 (by decide) ?_
              refine lv_aload_n hx hb dX6_split_114 rfl (lv_at hl 2 rfl) ?_
              refine rwG_reader_tokens_many C hP mF_X6_25 dX6_split_115 ?_
              show W p l e (gRm 6 136) s m args below meth c _ _ 0 0 Q (F0 m 118 ls [.int (iI y5_1)])
              have r_44 : 0 ≤ y5_1 ∧ y5_1 ≤ 701 := hP.2.1 5
              refine gi_zle (tgt := 139) hx hb dX6_split_118 (by decide) (by omega) (fun c_45 => ?_) (fun c_45 => ?_)
              · refine lv_iinc (v := iI (x4 + 1)) (lv' := [(4, .int (iI (x4 + 1))), (3, .int (iI (x3 + 1))), (5, .int (iI (f 0 x3))), (0, .ref (ad 10)), (1, .ref (ad 1)), (2, .int (iI a2))]) hx hb dX6_split_139 hl (k := 5) rfl (by show iI _ + iI 1 = _; rw [iI_add]) (by decide) rfl (fun ls hl => ?_)
                refine lv_goto (tgt := 15) hx hb dX6_split_142 (by decide) ?_
                exact ih_15 (x3 + 1) (x4 + 1) y5_1 c6_1 c7_1 c8_1 _ _ _ (by omega) (by omega) (by omega) (by omega) (by first | exact tPre_ws hT (by omega) (by omega) | exact tPre_put hT (by omega) (by omega) (by omega) (by omega) hk hv (by omega) hy) hP hS (lv_sub hl [3, 4, 5, 1, 0] rfl)
              · refine lv_aload_n hx hb dX6_split_121 rfl (lv_at hl 2 rfl) ?_
                refine rwG_reader_tokens_kinds C hP mF_X6_9 dX6_split_122 ?_
                refine lv_aload_n hx hb dX6_split_125 rfl (lv_at hl 2 rfl) ?_
                refine rwG_reader_tokens_many C hP mF_X6_25 dX6_split_126 ?_
                show W p l e (gRm 6 136) s m args below meth c _ _ 0 0 Q (F0 m 129 ls [.int (iI y5_1), .ref (ad 11)])
                refine lv_iconst (v := iI 1) hx hb dX6_split_129 rfl ?_
                refine gi_sub (z := (y5_1 - 1)) hx hb dX6_split_130 rfl ?_
                refine rwL_reader_tokens_kinds C hP (by omega) (by omega) dX6_split_131 ?_
                show W p l e (gRm 6 136) s m args below meth c _ _ 0 0 Q (F0 m 132 ls [.int (iI (c6_1 (y5_1 - 1)))])
                have r_46 : 0 ≤ (c6_1 (y5_1 - 1)) ∧ (c6_1 (y5_1 - 1)) ≤ 300 := hP.2.2 6 (y5_1 - 1)
                have q_47 : (c6_1 (y5_1 - 1)) ≠ 257 := tPre_at hT (by omega) (by omega)
                refine lv_sipush (v := iI 257) hx hb dX6_split_132 (by decide) ?_
                refine gi_cne (tgt := 139) hx hb dX6_split_135 (by decide) (by omega) (by decide) (fun c_48 => ?_) (fun c_48 => ?_)
                · refine lv_iinc (v := iI (x4 + 1)) (lv' := [(4, .int (iI (x4 + 1))), (3, .int (iI (x3 + 1))), (5, .int (iI (f 0 x3))), (0, .ref (ad 10)), (1, .ref (ad 1)), (2, .int (iI a2))]) hx hb dX6_split_139 hl (k := 5) rfl (by show iI _ + iI 1 = _; rw [iI_add]) (by decide) rfl (fun ls hl => ?_)
                  refine lv_goto (tgt := 15) hx hb dX6_split_142 (by decide) ?_
                  exact ih_15 (x3 + 1) (x4 + 1) y5_1 c6_1 c7_1 c8_1 _ _ _ (by omega) (by omega) (by omega) (by omega) (by first | exact tPre_ws hT (by omega) (by omega) | exact tPre_put hT (by omega) (by omega) (by omega) (by omega) hk hv (by omega) hy) hP hS (lv_sub hl [3, 4, 5, 1, 0] rfl)
                · exact g_vret hQ C hr hlocks hP hS dX6_split_138 ⟨y5_1, c6_1, c7_1, c8_1, rfl, rfl, rfl, rfl, (by first | (exfalso; omega) | exact tPre_end hT (by omega) (by omega) (by omega) (by omega) hk hv (by omega) | exact tPre_end (x := a2) (by have h := hT; rw [show x3 = a2 by omega] at h; exact h) (by omega) (by omega) (by omega) (by omega) (tK_N (by omega)).symm (tV_0 (by omega)).symm (by omega))⟩
  exact L_1 701 0 0 0 (f 6) (f 7) (f 8) _ _ _ (by omega) (by omega) (by omega) (by omega) tPre0 hP hS (lv_sub hl [2, 3, 4, 1, 0] rfl)
