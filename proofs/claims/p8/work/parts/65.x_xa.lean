set_option maxHeartbeats 4000000 in
set_option maxRecDepth 100000 in
theorem c_X10_refuse (l : Launch) (D : va_G) (k : Nat → ClassId) (A : Nat → Prop) (ad : Nat → Nat) (hD : rwD A k ad) (v : gV) (f g : gF) (a1 : Int) (h_a1 : inR a1) (ha : 0 ≤ a1 ∧ a1 ≤ 10) : GM l D k A (rwT k ad) yX10_refuse cX10_refuse 2 (some .int) 0 0 [.ref (ad 0), .int (iI a1)] v f g (fun r v1 f1 g1 => r = some (.int (iI (-1))) ∧ (va_up v 25 a1) = v1 ∧ f = f1 ∧ g = g1) := by
  refine GM.of (by decide) (Nat.le_of_ble_eq_true rfl) ?_
  intro p e s m args below meth c Q ls hQ C hml hr hlocks hP hl
  have hx := C.1
  have hb := C.2.1
  have hok := hP.2
  have hS : va_S A s.heap s.heap [] := va_S.rf
  have hl : lv_has ls 2 [(0, .ref (ad 0)), (1, .int (iI a1))] := hl
  have hP : gWd D (rwT k ad) (va_up v 25 (v 25)) f g s.heap := by rw [va_id]; exact hP
  refine lv_aload_n hx hb dX10_refuse_0 rfl (lv_at hl 0 rfl) ?_
  refine lv_iload_n hx hb dX10_refuse_1 rfl (lv_at hl 1 rfl) ?_
  refine rwP_state (v1 := (va_up v 25 a1)) C hP hD hS mF_X10_71 (by omega) rfl (Or.inr (gR_up (V := rwV) (F := rwF) ⟨hok.1, hok.2⟩ 25 (show 0 ≤ a1 ∧ a1 ≤ 10 from by omega))) dX10_refuse_2 (fun H locs hP hS => ?_)
  refine lv_iconst (v := iI (-1)) hx hb dX10_refuse_5 rfl ?_
  exact g_iret hQ C hr hlocks hP hS dX10_refuse_6 ⟨rfl, rfl, rfl, rfl⟩

set_option maxHeartbeats 4000000 in
set_option maxRecDepth 100000 in
theorem c_X10_answer (l : Launch) (D : va_G) (k : Nat → ClassId) (A : Nat → Prop) (ad : Nat → Nat) (hD : rwD A k ad) (v : gV) (f g : gF) (a1 : Int) (h_a1 : inR a1) : GM l D k A (rwT k ad) yX10_answer cX10_answer 2 (some .int) 0 0 [.ref (ad 0), .int (iI a1)] v f g (fun r v1 f1 g1 => ∃ (z : Int), r = some (.int (iI z)) ∧ (va_up v 25 0) = v1 ∧ f = f1 ∧ g = g1 ∧ (z = a1)) := by
  refine GM.of (by decide) (Nat.le_of_ble_eq_true rfl) ?_
  intro p e s m args below meth c Q ls hQ C hml hr hlocks hP hl
  have hx := C.1
  have hb := C.2.1
  have hok := hP.2
  have hS : va_S A s.heap s.heap [] := va_S.rf
  have hl : lv_has ls 2 [(0, .ref (ad 0)), (1, .int (iI a1))] := hl
  have hP : gWd D (rwT k ad) (va_up v 25 (v 25)) f g s.heap := by rw [va_id]; exact hP
  refine lv_aload_n hx hb dX10_answer_0 rfl (lv_at hl 0 rfl) ?_
  refine lv_iconst (v := iI 0) hx hb dX10_answer_1 rfl ?_
  refine rwP_state (v1 := (va_up v 25 0)) C hP hD hS mF_X10_71 (by decide) rfl (Or.inr (gR_up (V := rwV) (F := rwF) ⟨hok.1, hok.2⟩ 25 (show 0 ≤ 0 ∧ 0 ≤ 10 from by decide))) dX10_answer_2 (fun H locs hP hS => ?_)
  refine lv_iload_n hx hb dX10_answer_5 rfl (lv_at hl 1 rfl) ?_
  exact g_iret hQ C hr hlocks hP hS dX10_answer_6 ⟨a1, rfl, rfl, rfl, rfl, rfl⟩

set_option maxHeartbeats 4000000 in
set_option maxRecDepth 100000 in
theorem c_X10_deny (l : Launch) (D : va_G) (k : Nat → ClassId) (A : Nat → Prop) (ad : Nat → Nat) (hD : rwD A k ad) (v : gV) (f g : gF) (a1 : Int) (h_a1 : inR a1) (ha : 0 ≤ a1 ∧ a1 ≤ 10) : GM l D k A (rwT k ad) yX10_deny cX10_deny 2 (some .boolean) 0 0 [.ref (ad 0), .int (iI a1)] v f g (fun r v1 f1 g1 => r = some (.int (iI 0)) ∧ (va_up v 25 a1) = v1 ∧ f = f1 ∧ g = g1) := by
  refine GM.of (by decide) (Nat.le_of_ble_eq_true rfl) ?_
  intro p e s m args below meth c Q ls hQ C hml hr hlocks hP hl
  have hx := C.1
  have hb := C.2.1
  have hok := hP.2
  have hS : va_S A s.heap s.heap [] := va_S.rf
  have hl : lv_has ls 2 [(0, .ref (ad 0)), (1, .int (iI a1))] := hl
  have hP : gWd D (rwT k ad) (va_up v 25 (v 25)) f g s.heap := by rw [va_id]; exact hP
  refine lv_aload_n hx hb dX10_deny_0 rfl (lv_at hl 0 rfl) ?_
  refine lv_iload_n hx hb dX10_deny_1 rfl (lv_at hl 1 rfl) ?_
  refine rwP_state (v1 := (va_up v 25 a1)) C hP hD hS mF_X10_71 (by omega) rfl (Or.inr (gR_up (V := rwV) (F := rwF) ⟨hok.1, hok.2⟩ 25 (show 0 ≤ a1 ∧ a1 ≤ 10 from by omega))) dX10_deny_2 (fun H locs hP hS => ?_)
  refine lv_iconst (v := iI 0) hx hb dX10_deny_5 rfl ?_
  exact g_zret hQ C hr hlocks (by decide) hP hS dX10_deny_6 ⟨rfl, rfl, rfl, rfl⟩

set_option maxHeartbeats 4000000 in
set_option maxRecDepth 100000 in
theorem c_X10_grant (l : Launch) (D : va_G) (k : Nat → ClassId) (A : Nat → Prop) (ad : Nat → Nat) (hD : rwD A k ad) (v : gV) (f g : gF) : GM l D k A (rwT k ad) yX10_grant cX10_grant 1 (some .boolean) 0 0 [.ref (ad 0)] v f g (fun r v1 f1 g1 => r = some (.int (iI 1)) ∧ (va_up v 25 0) = v1 ∧ f = f1 ∧ g = g1) := by
  refine GM.of (by decide) (Nat.le_of_ble_eq_true rfl) ?_
  intro p e s m args below meth c Q ls hQ C hml hr hlocks hP hl
  have hx := C.1
  have hb := C.2.1
  have hok := hP.2
  have hS : va_S A s.heap s.heap [] := va_S.rf
  have hl : lv_has ls 1 [(0, .ref (ad 0))] := hl
  have hP : gWd D (rwT k ad) (va_up v 25 (v 25)) f g s.heap := by rw [va_id]; exact hP
  refine lv_aload_n hx hb dX10_grant_0 rfl (lv_at hl 0 rfl) ?_
  refine lv_iconst (v := iI 0) hx hb dX10_grant_1 rfl ?_
  refine rwP_state (v1 := (va_up v 25 0)) C hP hD hS mF_X10_71 (by decide) rfl (Or.inr (gR_up (V := rwV) (F := rwF) ⟨hok.1, hok.2⟩ 25 (show 0 ≤ 0 ∧ 0 ≤ 10 from by decide))) dX10_grant_2 (fun H locs hP hS => ?_)
  refine lv_iconst (v := iI 1) hx hb dX10_grant_5 rfl ?_
  exact g_zret hQ C hr hlocks (by decide) hP hS dX10_grant_6 ⟨rfl, rfl, rfl, rfl⟩

set_option maxHeartbeats 4000000 in
set_option maxRecDepth 100000 in
theorem c_X10_isDay (l : Launch) (D : va_G) (k : Nat → ClassId) (A : Nat → Prop) (ad : Nat → Nat) (hD : rwD A k ad) (v : gV) (f g : gF) (a1 : Int) (h_a1 : inR a1) : GM l D k A (rwT k ad) yX10_isDay cX10_isDay 1 (some .boolean) 0 0 [.int (iI a1)] v f g (fun r v1 f1 g1 => ∃ (z : Int), r = some (.int (iI z)) ∧ v = v1 ∧ f = f1 ∧ g = g1 ∧ (z = (if 0 ≤ a1 ∧ a1 ≤ 999 then 1 else 0))) := by
  refine GM.of (by decide) (Nat.le_of_ble_eq_true rfl) ?_
  intro p e s m args below meth c Q ls hQ C hml hr hlocks hP hl
  have hx := C.1
  have hb := C.2.1
  have hok := hP.2
  have hS : va_S A s.heap s.heap [] := va_S.rf
  have hl : lv_has ls 1 [(0, .int (iI a1))] := hl
  refine lv_iload_n hx hb dX10_isDay_0 rfl (lv_at hl 0 rfl) ?_
  refine gi_zlt (tgt := 15) hx hb dX10_isDay_1 (by decide) (by omega) (fun c_1 => ?_) (fun c_1 => ?_)
  · refine lv_iconst (v := iI 0) hx hb dX10_isDay_15 rfl ?_
    exact g_zret hQ C hr hlocks (by decide) hP hS dX10_isDay_16 ⟨0, rfl, rfl, rfl, rfl, (by first | omega | ((repeat' split) <;> omega))⟩
  · refine lv_iload_n hx hb dX10_isDay_4 rfl (lv_at hl 0 rfl) ?_
    refine lv_sipush (v := iI 999) hx hb dX10_isDay_5 (by decide) ?_
    refine gi_cgt (tgt := 15) hx hb dX10_isDay_8 (by decide) (by omega) (by decide) (fun c_2 => ?_) (fun c_2 => ?_)
    · refine lv_iconst (v := iI 0) hx hb dX10_isDay_15 rfl ?_
      exact g_zret hQ C hr hlocks (by decide) hP hS dX10_isDay_16 ⟨0, rfl, rfl, rfl, rfl, (by first | omega | ((repeat' split) <;> omega))⟩
    · refine lv_iconst (v := iI 1) hx hb dX10_isDay_11 rfl ?_
      refine lv_goto (tgt := 16) hx hb dX10_isDay_12 (by decide) ?_
      exact g_zret hQ C hr hlocks (by decide) hP hS dX10_isDay_16 ⟨1, rfl, rfl, rfl, rfl, (by first | omega | ((repeat' split) <;> omega))⟩

set_option maxHeartbeats 4000000 in
set_option maxRecDepth 100000 in
theorem c_X10_zoneCanBe (l : Launch) (D : va_G) (k : Nat → ClassId) (A : Nat → Prop) (ad : Nat → Nat) (hD : rwD A k ad) (v : gV) (f g : gF) (a1 : Int) (a2 : Int) (a3 : Int) (a4 : Int) (h_a1 : inR a1) (h_a2 : inR a2) (h_a3 : inR a3) (h_a4 : inR a4) : GM l D k A (rwT k ad) yX10_zoneCanBe cX10_zoneCanBe 4 (some .boolean) 0 0 [.int (iI a1), .int (iI a2), .int (iI a3), .int (iI a4)] v f g (fun r v1 f1 g1 => ∃ (z : Int), r = some (.int (iI z)) ∧ v = v1 ∧ f = f1 ∧ g = g1 ∧ (z = (if a2 = 0 ∨ (a4 ≠ 0 ∧ a3 < a2 ∧ a2 ≤ a1) then 1 else 0))) := by
  refine GM.of (by decide) (Nat.le_of_ble_eq_true rfl) ?_
  intro p e s m args below meth c Q ls hQ C hml hr hlocks hP hl
  have hx := C.1
  have hb := C.2.1
  have hok := hP.2
  have hS : va_S A s.heap s.heap [] := va_S.rf
  have hl : lv_has ls 4 [(0, .int (iI a1)), (1, .int (iI a2)), (2, .int (iI a3)), (3, .int (iI a4))] := hl
  refine lv_iload_n hx hb dX10_zoneCanBe_0 rfl (lv_at hl 1 rfl) ?_
  refine gi_zeq (tgt := 18) hx hb dX10_zoneCanBe_1 (by decide) (by omega) (fun c_1 => ?_) (fun c_1 => ?_)
  · refine lv_iconst (v := iI 1) hx hb dX10_zoneCanBe_18 rfl ?_
    refine lv_goto (tgt := 23) hx hb dX10_zoneCanBe_19 (by decide) ?_
    exact g_zret hQ C hr hlocks (by decide) hP hS dX10_zoneCanBe_23 ⟨1, rfl, rfl, rfl, rfl, (by first | omega | ((repeat' split) <;> omega))⟩
  · refine lv_iload_n hx hb dX10_zoneCanBe_4 rfl (lv_at hl 3 rfl) ?_
    refine gi_zeq (tgt := 22) hx hb dX10_zoneCanBe_5 (by decide) (by omega) (fun c_2 => ?_) (fun c_2 => ?_)
    · refine lv_iconst (v := iI 0) hx hb dX10_zoneCanBe_22 rfl ?_
      exact g_zret hQ C hr hlocks (by decide) hP hS dX10_zoneCanBe_23 ⟨0, rfl, rfl, rfl, rfl, (by first | omega | ((repeat' split) <;> omega))⟩
    · refine lv_iload_n hx hb dX10_zoneCanBe_8 rfl (lv_at hl 1 rfl) ?_
      refine lv_iload_n hx hb dX10_zoneCanBe_9 rfl (lv_at hl 2 rfl) ?_
      refine gi_cle (tgt := 22) hx hb dX10_zoneCanBe_10 (by decide) (by omega) (by omega) (fun c_3 => ?_) (fun c_3 => ?_)
      · refine lv_iconst (v := iI 0) hx hb dX10_zoneCanBe_22 rfl ?_
        exact g_zret hQ C hr hlocks (by decide) hP hS dX10_zoneCanBe_23 ⟨0, rfl, rfl, rfl, rfl, (by first | omega | ((repeat' split) <;> omega))⟩
      · refine lv_iload_n hx hb dX10_zoneCanBe_13 rfl (lv_at hl 1 rfl) ?_
        refine lv_iload_n hx hb dX10_zoneCanBe_14 rfl (lv_at hl 0 rfl) ?_
        refine gi_cgt (tgt := 22) hx hb dX10_zoneCanBe_15 (by decide) (by omega) (by omega) (fun c_4 => ?_) (fun c_4 => ?_)
        · refine lv_iconst (v := iI 0) hx hb dX10_zoneCanBe_22 rfl ?_
          exact g_zret hQ C hr hlocks (by decide) hP hS dX10_zoneCanBe_23 ⟨0, rfl, rfl, rfl, rfl, (by first | omega | ((repeat' split) <;> omega))⟩
        · refine lv_iconst (v := iI 1) hx hb dX10_zoneCanBe_18 rfl ?_
          refine lv_goto (tgt := 23) hx hb dX10_zoneCanBe_19 (by decide) ?_
          exact g_zret hQ C hr hlocks (by decide) hP hS dX10_zoneCanBe_23 ⟨1, rfl, rfl, rfl, rfl, (by first | omega | ((repeat' split) <;> omega))⟩

set_option maxHeartbeats 4000000 in
set_option maxRecDepth 100000 in
theorem c_X2_knows (l : Launch) (D : va_G) (k : Nat → ClassId) (A : Nat → Prop) (ad : Nat → Nat) (hD : rwD A k ad) (v : gV) (f g : gF) (a1 : Int) (h_a1 : inR a1) : GM l D k A (rwT k ad) yX2_knows cX2_knows 2 (some .boolean) 0 0 [.ref (ad 27), .int (iI a1)] v f g (fun r v1 f1 g1 => ∃ (z : Int), r = some (.int (iI z)) ∧ v = v1 ∧ f = f1 ∧ g = g1 ∧ (z = (if 0 ≤ a1 ∧ a1 < (v 21) then 1 else 0))) := by
  refine GM.of (by decide) (Nat.le_of_ble_eq_true rfl) ?_
  intro p e s m args below meth c Q ls hQ C hml hr hlocks hP hl
  have hx := C.1
  have hb := C.2.1
  have hok := hP.2
  have hS : va_S A s.heap s.heap [] := va_S.rf
  have hl : lv_has ls 2 [(0, .ref (ad 27)), (1, .int (iI a1))] := hl
  refine lv_iload_n hx hb dX2_knows_0 rfl (lv_at hl 1 rfl) ?_
  refine gi_zlt (tgt := 16) hx hb dX2_knows_1 (by decide) (by omega) (fun c_1 => ?_) (fun c_1 => ?_)
  · refine lv_iconst (v := iI 0) hx hb dX2_knows_16 rfl ?_
    exact g_zret hQ C hr hlocks (by decide) hP hS dX2_knows_17 ⟨0, rfl, rfl, rfl, rfl, (by first | omega | ((repeat' split) <;> omega))⟩
  · refine lv_iload_n hx hb dX2_knows_4 rfl (lv_at hl 1 rfl) ?_
    refine lv_aload_n hx hb dX2_knows_5 rfl (lv_at hl 0 rfl) ?_
    refine rwG_field_climbers C hP mF_X2_18 dX2_knows_6 ?_
    have r_2 : 0 ≤ (v 21) ∧ (v 21) ≤ 16 := hok.1 21
    refine gi_cge (tgt := 16) hx hb dX2_knows_9 (by decide) (by omega) (by omega) (fun c_3 => ?_) (fun c_3 => ?_)
    · refine lv_iconst (v := iI 0) hx hb dX2_knows_16 rfl ?_
      exact g_zret hQ C hr hlocks (by decide) hP hS dX2_knows_17 ⟨0, rfl, rfl, rfl, rfl, (by first | omega | ((repeat' split) <;> omega))⟩
    · refine lv_iconst (v := iI 1) hx hb dX2_knows_12 rfl ?_
      refine lv_goto (tgt := 17) hx hb dX2_knows_13 (by decide) ?_
      exact g_zret hQ C hr hlocks (by decide) hP hS dX2_knows_17 ⟨1, rfl, rfl, rfl, rfl, (by first | omega | ((repeat' split) <;> omega))⟩

set_option maxHeartbeats 4000000 in
set_option maxRecDepth 100000 in
theorem c_X7_knows (l : Launch) (D : va_G) (k : Nat → ClassId) (A : Nat → Prop) (ad : Nat → Nat) (hD : rwD A k ad) (v : gV) (f g : gF) (a1 : Int) (h_a1 : inR a1) : GM l D k A (rwT k ad) yX7_knows cX7_knows 2 (some .boolean) 0 0 [.ref (ad 30), .int (iI a1)] v f g (fun r v1 f1 g1 => ∃ (z : Int), r = some (.int (iI z)) ∧ v = v1 ∧ f = f1 ∧ g = g1 ∧ (z = (if 0 ≤ a1 ∧ a1 < (v 23) then 1 else 0))) := by
  refine GM.of (by decide) (Nat.le_of_ble_eq_true rfl) ?_
  intro p e s m args below meth c Q ls hQ C hml hr hlocks hP hl
  have hx := C.1
  have hb := C.2.1
  have hok := hP.2
  have hS : va_S A s.heap s.heap [] := va_S.rf
  have hl : lv_has ls 2 [(0, .ref (ad 30)), (1, .int (iI a1))] := hl
  refine lv_iload_n hx hb dX7_knows_0 rfl (lv_at hl 1 rfl) ?_
  refine gi_zlt (tgt := 16) hx hb dX7_knows_1 (by decide) (by omega) (fun c_1 => ?_) (fun c_1 => ?_)
  · refine lv_iconst (v := iI 0) hx hb dX7_knows_16 rfl ?_
    exact g_zret hQ C hr hlocks (by decide) hP hS dX7_knows_17 ⟨0, rfl, rfl, rfl, rfl, (by first | omega | ((repeat' split) <;> omega))⟩
  · refine lv_iload_n hx hb dX7_knows_4 rfl (lv_at hl 1 rfl) ?_
    refine lv_aload_n hx hb dX7_knows_5 rfl (lv_at hl 0 rfl) ?_
    refine rwG_tries_many C hP mF_X7_36 dX7_knows_6 ?_
    have r_2 : 0 ≤ (v 23) ∧ (v 23) ≤ 300 := hok.1 23
    refine gi_cge (tgt := 16) hx hb dX7_knows_9 (by decide) (by omega) (by omega) (fun c_3 => ?_) (fun c_3 => ?_)
    · refine lv_iconst (v := iI 0) hx hb dX7_knows_16 rfl ?_
      exact g_zret hQ C hr hlocks (by decide) hP hS dX7_knows_17 ⟨0, rfl, rfl, rfl, rfl, (by first | omega | ((repeat' split) <;> omega))⟩
    · refine lv_iconst (v := iI 1) hx hb dX7_knows_12 rfl ?_
      refine lv_goto (tgt := 17) hx hb dX7_knows_13 (by decide) ?_
      exact g_zret hQ C hr hlocks (by decide) hP hS dX7_knows_17 ⟨1, rfl, rfl, rfl, rfl, (by first | omega | ((repeat' split) <;> omega))⟩

set_option maxHeartbeats 4000000 in
set_option maxRecDepth 100000 in
theorem c_X4_hasRound (l : Launch) (D : va_G) (k : Nat → ClassId) (A : Nat → Prop) (ad : Nat → Nat) (hD : rwD A k ad) (v : gV) (f g : gF) (a1 : Int) (h_a1 : inR a1) : GM l D k A (rwT k ad) yX4_hasRound cX4_hasRound 2 (some .boolean) 0 0 [.ref (ad 2), .int (iI a1)] v f g (fun r v1 f1 g1 => ∃ (z : Int), r = some (.int (iI z)) ∧ v = v1 ∧ f = f1 ∧ g = g1 ∧ (z = (if 0 ≤ a1 ∧ a1 < (v 1) then 1 else 0))) := by
  refine GM.of (by decide) (Nat.le_of_ble_eq_true rfl) ?_
  intro p e s m args below meth c Q ls hQ C hml hr hlocks hP hl
  have hx := C.1
  have hb := C.2.1
  have hok := hP.2
  have hS : va_S A s.heap s.heap [] := va_S.rf
  have hl : lv_has ls 2 [(0, .ref (ad 2)), (1, .int (iI a1))] := hl
  refine lv_iload_n hx hb dX4_hasRound_0 rfl (lv_at hl 1 rfl) ?_
  refine gi_zlt (tgt := 16) hx hb dX4_hasRound_1 (by decide) (by omega) (fun c_1 => ?_) (fun c_1 => ?_)
  · refine lv_iconst (v := iI 0) hx hb dX4_hasRound_16 rfl ?_
    exact g_zret hQ C hr hlocks (by decide) hP hS dX4_hasRound_17 ⟨0, rfl, rfl, rfl, rfl, (by first | omega | ((repeat' split) <;> omega))⟩
  · refine lv_iload_n hx hb dX4_hasRound_4 rfl (lv_at hl 1 rfl) ?_
    refine lv_aload_n hx hb dX4_hasRound_5 rfl (lv_at hl 0 rfl) ?_
    refine rwG_laws_rounds C hP mF_X4_31 dX4_hasRound_6 ?_
    have r_2 : 0 ≤ (v 1) ∧ (v 1) ≤ 4 := hok.1 1
    refine gi_cge (tgt := 16) hx hb dX4_hasRound_9 (by decide) (by omega) (by omega) (fun c_3 => ?_) (fun c_3 => ?_)
    · refine lv_iconst (v := iI 0) hx hb dX4_hasRound_16 rfl ?_
      exact g_zret hQ C hr hlocks (by decide) hP hS dX4_hasRound_17 ⟨0, rfl, rfl, rfl, rfl, (by first | omega | ((repeat' split) <;> omega))⟩
    · refine lv_iconst (v := iI 1) hx hb dX4_hasRound_12 rfl ?_
      refine lv_goto (tgt := 17) hx hb dX4_hasRound_13 (by decide) ?_
      exact g_zret hQ C hr hlocks (by decide) hP hS dX4_hasRound_17 ⟨1, rfl, rfl, rfl, rfl, (by first | omega | ((repeat' split) <;> omega))⟩

set_option maxHeartbeats 4000000 in
set_option maxRecDepth 100000 in
theorem c_X4_hasRoute (l : Launch) (D : va_G) (k : Nat → ClassId) (A : Nat → Prop) (ad : Nat → Nat) (hD : rwD A k ad) (v : gV) (f g : gF) (a1 : Int) (a2 : Int) (h_a1 : inR a1) (h_a2 : inR a2) : GM l D k A (rwT k ad) yX4_hasRoute cX4_hasRoute 3 (some .boolean) 1 21 [.ref (ad 2), .int (iI a1), .int (iI a2)] v f g (fun r v1 f1 g1 => ∃ (z : Int), r = some (.int (iI z)) ∧ v = v1 ∧ f = f1 ∧ g = g1 ∧ (z = (if (0 ≤ a1 ∧ a1 < (v 1)) ∧ 0 ≤ a2 ∧ a2 < (f 1) (a1 * 4) then 1 else 0))) := by
  refine GM.of (by decide) (Nat.le_of_ble_eq_true rfl) ?_
  intro p e s m args below meth c Q ls hQ C hml hr hlocks hP hl
  have hx := C.1
  have hb := C.2.1
  have hok := hP.2
  have hS : va_S A s.heap s.heap [] := va_S.rf
  have hl : lv_has ls 3 [(0, .ref (ad 2)), (1, .int (iI a1)), (2, .int (iI a2))] := hl
  have r_1 : 0 ≤ (v 1) ∧ (v 1) ≤ 4 := hok.1 1
  refine lv_aload_n hx hb dX4_hasRoute_0 rfl (lv_at hl 0 rfl) ?_
  refine lv_iload_n hx hb dX4_hasRoute_1 rfl (lv_at hl 1 rfl) ?_
  refine g_cv (As := [.int (iI a1)]) (rest := []) (n := 1) C hml (c_X4_hasRound l D k A ad hD v f g a1 (by omega)) mM_X4_59 mI_X4_hasRound mE_X4_hasRound mN_X4 mC_X4_hasRound (by decide +kernel) 2 (ci := 4) rfl rfl hP hS (fun _ h => h) ⟨Nat.le_of_ble_eq_true rfl, Nat.le_of_ble_eq_true rfl⟩ ⟨Nat.zero_le _, Nat.zero_le _⟩ hl.1 rfl rfl (Nat.le_of_ble_eq_true rfl) dX4_hasRoute_2 (fun r_2 v_2 f_2 g_2 H locs hq_2 hP _ hS => ?_)
  obtain ⟨z_2, rfl, rfl, rfl, rfl, p0_2⟩ := hq_2
  show W p l e (gRm 1 21) s m args below meth c _ _ 0 0 Q (F0 m 5 ls [.int (iI z_2)])
  replace p0_2 : z_2 = (if 0 ≤ a1 ∧ a1 < (v 1) then 1 else 0) := p0_2
  have w_2 := gif (P := 0 ≤ a1 ∧ a1 < (v 1)) p0_2
  clear p0_2
  have hz_2 : inR z_2 := (by first | omega | (rw [p0_2]; split <;> omega))
  refine gi_zeq (tgt := 30) hx hb dX4_hasRoute_5 (by decide) (by omega) (fun c_3 => ?_) (fun c_3 => ?_)
  · have vz_2 := gif0 w_2 c_3
    clear w_2
    refine lv_iconst (v := iI 0) hx hb dX4_hasRoute_30 rfl ?_
    exact g_zret hQ C hr hlocks (by decide) hP hS dX4_hasRoute_31 ⟨0, rfl, rfl, rfl, rfl, (by first | omega | ((repeat' split) <;> omega))⟩
  · have vz_2 := gif1 w_2 c_3
    clear w_2
    refine lv_iload_n hx hb dX4_hasRoute_8 rfl (lv_at hl 2 rfl) ?_
    refine gi_zlt (tgt := 30) hx hb dX4_hasRoute_9 (by decide) (by omega) (fun c_4 => ?_) (fun c_4 => ?_)
    · refine lv_iconst (v := iI 0) hx hb dX4_hasRoute_30 rfl ?_
      exact g_zret hQ C hr hlocks (by decide) hP hS dX4_hasRoute_31 ⟨0, rfl, rfl, rfl, rfl, (by first | omega | ((repeat' split) <;> omega))⟩
    · refine lv_iload_n hx hb dX4_hasRoute_12 rfl (lv_at hl 2 rfl) ?_
      refine lv_aload_n hx hb dX4_hasRoute_13 rfl (lv_at hl 0 rfl) ?_
      refine rwG_laws_shape C hP mF_X4_9 dX4_hasRoute_14 ?_
      refine lv_iload_n hx hb dX4_hasRoute_17 rfl (lv_at hl 1 rfl) ?_
      refine lv_iconst (v := iI 4) hx hb dX4_hasRoute_18 rfl ?_
      refine gi_mul (z := (a1 * 4)) hx hb dX4_hasRoute_19 rfl ?_
      refine lv_iconst (v := iI 0) hx hb dX4_hasRoute_20 rfl ?_
      refine gi_add (z := (a1 * 4)) hx hb dX4_hasRoute_21 (by omega) ?_
      refine rwL_laws_shape C hP (by omega) (by omega) dX4_hasRoute_22 ?_
      have r_5 : 0 ≤ (f 1 (a1 * 4)) ∧ (f 1 (a1 * 4)) ≤ 999999 := hP.2.2 1 (a1 * 4)
      refine gi_cge (tgt := 30) hx hb dX4_hasRoute_23 (by decide) (by omega) (by omega) (fun c_6 => ?_) (fun c_6 => ?_)
      · refine lv_iconst (v := iI 0) hx hb dX4_hasRoute_30 rfl ?_
        exact g_zret hQ C hr hlocks (by decide) hP hS dX4_hasRoute_31 ⟨0, rfl, rfl, rfl, rfl, (by first | omega | ((repeat' split) <;> omega))⟩
      · refine lv_iconst (v := iI 1) hx hb dX4_hasRoute_26 rfl ?_
        refine lv_goto (tgt := 31) hx hb dX4_hasRoute_27 (by decide) ?_
        exact g_zret hQ C hr hlocks (by decide) hP hS dX4_hasRoute_31 ⟨1, rfl, rfl, rfl, rfl, (by first | omega | ((repeat' split) <;> omega))⟩

set_option maxHeartbeats 4000000 in
set_option maxRecDepth 100000 in
theorem c_X4_shapeOf (l : Launch) (D : va_G) (k : Nat → ClassId) (A : Nat → Prop) (ad : Nat → Nat) (hD : rwD A k ad) (v : gV) (f g : gF) (a1 : Int) (a2 : Int) (h_a1 : inR a1) (h_a2 : inR a2) : GM l D k A (rwT k ad) yX4_shapeOf cX4_shapeOf 3 (some .int) 1 21 [.ref (ad 2), .int (iI a1), .int (iI a2)] v f g (fun r v1 f1 g1 => ∃ (z : Int), r = some (.int (iI z)) ∧ v = v1 ∧ f = f1 ∧ g = g1 ∧ (z = (if (0 ≤ a1 ∧ a1 < (v 1)) ∧ 0 ≤ a2 ∧ a2 < 4 then (f 1) (a1 * 4 + a2) else 0)) ∧ (0 ≤ z ∧ z ≤ 999999)) := by
  refine GM.of (by decide) (Nat.le_of_ble_eq_true rfl) ?_
  intro p e s m args below meth c Q ls hQ C hml hr hlocks hP hl
  have hx := C.1
  have hb := C.2.1
  have hok := hP.2
  have hS : va_S A s.heap s.heap [] := va_S.rf
  have hl : lv_has ls 3 [(0, .ref (ad 2)), (1, .int (iI a1)), (2, .int (iI a2))] := hl
  have r_1 : 0 ≤ (v 1) ∧ (v 1) ≤ 4 := hok.1 1
  refine lv_aload_n hx hb dX4_shapeOf_0 rfl (lv_at hl 0 rfl) ?_
  refine lv_iload_n hx hb dX4_shapeOf_1 rfl (lv_at hl 1 rfl) ?_
  refine g_cv (As := [.int (iI a1)]) (rest := []) (n := 1) C hml (c_X4_hasRound l D k A ad hD v f g a1 (by omega)) mM_X4_59 mI_X4_hasRound mE_X4_hasRound mN_X4 mC_X4_hasRound (by decide +kernel) 2 (ci := 4) rfl rfl hP hS (fun _ h => h) ⟨Nat.le_of_ble_eq_true rfl, Nat.le_of_ble_eq_true rfl⟩ ⟨Nat.zero_le _, Nat.zero_le _⟩ hl.1 rfl rfl (Nat.le_of_ble_eq_true rfl) dX4_shapeOf_2 (fun r_2 v_2 f_2 g_2 H locs hq_2 hP _ hS => ?_)
  obtain ⟨z_2, rfl, rfl, rfl, rfl, p0_2⟩ := hq_2
  show W p l e (gRm 1 21) s m args below meth c _ _ 0 0 Q (F0 m 5 ls [.int (iI z_2)])
  replace p0_2 : z_2 = (if 0 ≤ a1 ∧ a1 < (v 1) then 1 else 0) := p0_2
  have w_2 := gif (P := 0 ≤ a1 ∧ a1 < (v 1)) p0_2
  clear p0_2
  have hz_2 : inR z_2 := (by first | omega | (rw [p0_2]; split <;> omega))
  refine gi_zeq (tgt := 30) hx hb dX4_shapeOf_5 (by decide) (by omega) (fun c_3 => ?_) (fun c_3 => ?_)
  · have vz_2 := gif0 w_2 c_3
    clear w_2
    refine lv_iconst (v := iI 0) hx hb dX4_shapeOf_30 rfl ?_
    exact g_iret hQ C hr hlocks hP hS dX4_shapeOf_31 ⟨0, rfl, rfl, rfl, rfl, (by first | omega | ((repeat' split) <;> omega)), (by first | omega | ((repeat' split) <;> omega))⟩
  · have vz_2 := gif1 w_2 c_3
    clear w_2
    refine lv_iload_n hx hb dX4_shapeOf_8 rfl (lv_at hl 2 rfl) ?_
    refine gi_zlt (tgt := 30) hx hb dX4_shapeOf_9 (by decide) (by omega) (fun c_4 => ?_) (fun c_4 => ?_)
    · refine lv_iconst (v := iI 0) hx hb dX4_shapeOf_30 rfl ?_
      exact g_iret hQ C hr hlocks hP hS dX4_shapeOf_31 ⟨0, rfl, rfl, rfl, rfl, (by first | omega | ((repeat' split) <;> omega)), (by first | omega | ((repeat' split) <;> omega))⟩
    · refine lv_iload_n hx hb dX4_shapeOf_12 rfl (lv_at hl 2 rfl) ?_
      refine lv_iconst (v := iI 4) hx hb dX4_shapeOf_13 rfl ?_
      refine gi_cge (tgt := 30) hx hb dX4_shapeOf_14 (by decide) (by omega) (by decide) (fun c_5 => ?_) (fun c_5 => ?_)
      · refine lv_iconst (v := iI 0) hx hb dX4_shapeOf_30 rfl ?_
        exact g_iret hQ C hr hlocks hP hS dX4_shapeOf_31 ⟨0, rfl, rfl, rfl, rfl, (by first | omega | ((repeat' split) <;> omega)), (by first | omega | ((repeat' split) <;> omega))⟩
      · refine lv_aload_n hx hb dX4_shapeOf_17 rfl (lv_at hl 0 rfl) ?_
        refine rwG_laws_shape C hP mF_X4_9 dX4_shapeOf_18 ?_
        refine lv_iload_n hx hb dX4_shapeOf_21 rfl (lv_at hl 1 rfl) ?_
        refine lv_iconst (v := iI 4) hx hb dX4_shapeOf_22 rfl ?_
        refine gi_mul (z := (a1 * 4)) hx hb dX4_shapeOf_23 rfl ?_
        refine lv_iload_n hx hb dX4_shapeOf_24 rfl (lv_at hl 2 rfl) ?_
        refine gi_add (z := ((a1 * 4) + a2)) hx hb dX4_shapeOf_25 rfl ?_
        refine rwL_laws_shape C hP (by omega) (by omega) dX4_shapeOf_26 ?_
        have r_6 : 0 ≤ (f 1 ((a1 * 4) + a2)) ∧ (f 1 ((a1 * 4) + a2)) ≤ 999999 := hP.2.2 1 ((a1 * 4) + a2)
        refine lv_goto (tgt := 31) hx hb dX4_shapeOf_27 (by decide) ?_
        exact g_iret hQ C hr hlocks hP hS dX4_shapeOf_31 ⟨(f 1 ((a1 * 4) + a2)), rfl, rfl, rfl, rfl, (by first | omega | ((repeat' split) <;> omega)), (by first | omega | ((repeat' split) <;> omega))⟩

set_option maxHeartbeats 4000000 in
set_option maxRecDepth 100000 in
theorem c_X8_clear (l : Launch) (D : va_G) (k : Nat → ClassId) (A : Nat → Prop) (ad : Nat → Nat) (hD : rwD A k ad) (v : gV) (f g : gF) : GM l D k A (rwT k ad) yX8_clear cX8_clear 1 none 1 23 [.ref (ad 23)] v f g (fun r v1 f1 g1 => r = none ∧ v = v1 ∧ (va_up (va_up (va_up f 15 (gfill (f 15) 20 10)) 16 (gfill (f 16) 20 0)) 17 (gfill (f 17) 60 0)) = f1 ∧ g = g1) := by
  refine GM.of (by decide) (Nat.le_of_ble_eq_true rfl) ?_
  intro p e s m args below meth c Q ls hQ C hml hr hlocks hP hl
  have hx := C.1
  have hb := C.2.1
  have hok := hP.2
  have hS : va_S A s.heap s.heap [] := va_S.rf
  have hl : lv_has ls 1 [(0, .ref (ad 23))] := hl
  have hP : gWd D (rwT k ad) v (va_up (va_up (va_up f 15 (f 15)) 16 (f 16)) 17 (f 17)) g s.heap := by rw [va_id, va_id, va_id]; exact hP
  refine lv_aload_n hx hb dX8_clear_0 rfl (lv_at hl 0 rfl) ?_
  refine rwG_wall_holds C hP mF_X8_9 dX8_clear_1 ?_
  refine lv_bipush (v := iI 10) hx hb dX8_clear_4 (by decide) ?_
  refine g_cs (As := [.ref (ad 24), .int (iI 10)]) (rest := []) (n := 2) C hml (c_fillI l D k A (rwT k ad) (ad 24) 24 15 20 (fun _ _ _ => rfl) (fun _ _ _ _ => rfl) hD (by decide) v (va_up (va_up (va_up f 15 (f 15)) 16 (f 16)) 17 (f 17)) g 10 (by decide) (show 0 ≤ 10 ∧ 10 ≤ 60 from (by decide))) mM_X8_21 mS_J7_fill_53178 mN_J7 mC_J7_fill_53178 (by decide +kernel) hP hS (fun _ h => h) ⟨Nat.le_of_ble_eq_true rfl, Nat.le_of_ble_eq_true rfl⟩ ⟨Nat.zero_le _, Nat.zero_le _⟩ hl.1 rfl rfl (Nat.le_of_ble_eq_true rfl) dX8_clear_6 (fun r v1 f1 g1 H locs hq hP _ hS => ?_)
  obtain ⟨rfl, rfl, rfl, rfl⟩ := hq
  show W p l e (gRm 1 23) s m args below meth c _ _ 0 0 Q (F0 m 9 ls [])
  have hP : gWd D (rwT k ad) v (va_up (va_up (va_up f 15 (gfill (f 15) 20 10)) 16 (f 16)) 17 (f 17)) g H := ⟨hP.1, (gF_up (V := rwV) (F := rwF) (gF_up (V := rwV) (F := rwF) (gF_up (V := rwV) (F := rwF) ⟨hok.1, hok.2⟩ 15 (hP.2.2 15)) 16 (hP.2.2 16)) 17 (hP.2.2 17))⟩
  refine lv_aload_n hx hb dX8_clear_9 rfl (lv_at hl 0 rfl) ?_
  refine rwG_wall_begun C hP mF_X8_15 dX8_clear_10 ?_
  refine lv_iconst (v := iI 0) hx hb dX8_clear_13 rfl ?_
  refine g_cs (As := [.ref (ad 25), .int (iI 0)]) (rest := []) (n := 2) C hml (c_fillI l D k A (rwT k ad) (ad 25) 25 16 20 (fun _ _ _ => rfl) (fun _ _ _ _ => rfl) hD (by decide) v (va_up (va_up (va_up f 15 (gfill (f 15) 20 10)) 16 (f 16)) 17 (f 17)) g 0 (by decide) (show 0 ≤ 0 ∧ 0 ≤ 300 from (by decide))) mM_X8_21 mS_J7_fill_53178 mN_J7 mC_J7_fill_53178 (by decide +kernel) hP hS (fun _ h => h) ⟨Nat.le_of_ble_eq_true rfl, Nat.le_of_ble_eq_true rfl⟩ ⟨Nat.zero_le _, Nat.zero_le _⟩ hl.1 rfl rfl (Nat.le_of_ble_eq_true rfl) dX8_clear_14 (fun r v1 f1 g1 H locs hq hP _ hS => ?_)
  obtain ⟨rfl, rfl, rfl, rfl⟩ := hq
  show W p l e (gRm 1 23) s m args below meth c _ _ 0 0 Q (F0 m 17 ls [])
  have hP : gWd D (rwT k ad) v (va_up (va_up (va_up f 15 (gfill (f 15) 20 10)) 16 (gfill (f 16) 20 0)) 17 (f 17)) g H := ⟨hP.1, (gF_up (V := rwV) (F := rwF) (gF_up (V := rwV) (F := rwF) (gF_up (V := rwV) (F := rwF) ⟨hok.1, hok.2⟩ 15 (hP.2.2 15)) 16 (hP.2.2 16)) 17 (hP.2.2 17))⟩
  refine lv_aload_n hx hb dX8_clear_17 rfl (lv_at hl 0 rfl) ?_
  refine rwG_wall_zones C hP mF_X8_18 dX8_clear_18 ?_
  refine lv_iconst (v := iI 0) hx hb dX8_clear_21 rfl ?_
  refine g_cs (As := [.ref (ad 26), .int (iI 0)]) (rest := []) (n := 2) C hml (c_fillI l D k A (rwT k ad) (ad 26) 26 17 60 (fun _ _ _ => rfl) (fun _ _ _ _ => rfl) hD (by decide) v (va_up (va_up (va_up f 15 (gfill (f 15) 20 10)) 16 (gfill (f 16) 20 0)) 17 (f 17)) g 0 (by decide) (show 0 ≤ 0 ∧ 0 ≤ 60 from (by decide))) mM_X8_21 mS_J7_fill_53178 mN_J7 mC_J7_fill_53178 (by decide +kernel) hP hS (fun _ h => h) ⟨Nat.le_of_ble_eq_true rfl, Nat.le_of_ble_eq_true rfl⟩ ⟨Nat.zero_le _, Nat.zero_le _⟩ hl.1 rfl rfl (Nat.le_of_ble_eq_true rfl) dX8_clear_22 (fun r v1 f1 g1 H locs hq hP _ hS => ?_)
  obtain ⟨rfl, rfl, rfl, rfl⟩ := hq
  show W p l e (gRm 1 23) s m args below meth c _ _ 0 0 Q (F0 m 25 ls [])
  have hP : gWd D (rwT k ad) v (va_up (va_up (va_up f 15 (gfill (f 15) 20 10)) 16 (gfill (f 16) 20 0)) 17 (gfill (f 17) 60 0)) g H := ⟨hP.1, (gF_up (V := rwV) (F := rwF) (gF_up (V := rwV) (F := rwF) (gF_up (V := rwV) (F := rwF) ⟨hok.1, hok.2⟩ 15 (hP.2.2 15)) 16 (hP.2.2 16)) 17 (hP.2.2 17))⟩
  exact g_vret hQ C hr hlocks hP hS dX8_clear_25 ⟨rfl, rfl, rfl, rfl⟩

set_option maxHeartbeats 4000000 in
set_option maxRecDepth 100000 in
theorem c_X8_holdsOf (l : Launch) (D : va_G) (k : Nat → ClassId) (A : Nat → Prop) (ad : Nat → Nat) (hD : rwD A k ad) (v : gV) (f g : gF) (a1 : Int) (a2 : Int) (h_a1 : inR a1) (h_a2 : inR a2) (h1 : 0 ≤ a1 ∧ a1 ≤ 3) (h2 : 0 ≤ a2 ∧ a2 ≤ 4) : GM l D k A (rwT k ad) yX8_holdsOf cX8_holdsOf 3 (some .int) 0 0 [.ref (ad 23), .int (iI a1), .int (iI a2)] v f g (fun r v1 f1 g1 => ∃ (z : Int), r = some (.int (iI z)) ∧ v = v1 ∧ f = f1 ∧ g = g1 ∧ (z = ((f 15) (a1 * 5 + a2))) ∧ (0 ≤ z ∧ z ≤ 60)) := by
  refine GM.of (by decide) (Nat.le_of_ble_eq_true rfl) ?_
  intro p e s m args below meth c Q ls hQ C hml hr hlocks hP hl
  have hx := C.1
  have hb := C.2.1
  have hok := hP.2
  have hS : va_S A s.heap s.heap [] := va_S.rf
  have hl : lv_has ls 3 [(0, .ref (ad 23)), (1, .int (iI a1)), (2, .int (iI a2))] := hl
  refine lv_aload_n hx hb dX8_holdsOf_0 rfl (lv_at hl 0 rfl) ?_
  refine rwG_wall_holds C hP mF_X8_9 dX8_holdsOf_1 ?_
  refine lv_iload_n hx hb dX8_holdsOf_4 rfl (lv_at hl 1 rfl) ?_
  refine lv_iconst (v := iI 5) hx hb dX8_holdsOf_5 rfl ?_
  refine gi_mul (z := (a1 * 5)) hx hb dX8_holdsOf_6 rfl ?_
  refine lv_iload_n hx hb dX8_holdsOf_7 rfl (lv_at hl 2 rfl) ?_
  refine gi_add (z := ((a1 * 5) + a2)) hx hb dX8_holdsOf_8 rfl ?_
  refine rwL_wall_holds C hP (by omega) (by omega) dX8_holdsOf_9 ?_
  have r_1 : 0 ≤ (f 15 ((a1 * 5) + a2)) ∧ (f 15 ((a1 * 5) + a2)) ≤ 60 := hP.2.2 15 ((a1 * 5) + a2)
  exact g_iret hQ C hr hlocks hP hS dX8_holdsOf_10 ⟨(f 15 ((a1 * 5) + a2)), rfl, rfl, rfl, rfl, (by first | omega | ((repeat' split) <;> omega)), (by first | omega | ((repeat' split) <;> omega))⟩

set_option maxHeartbeats 4000000 in
set_option maxRecDepth 100000 in
theorem c_X8_begunOn (l : Launch) (D : va_G) (k : Nat → ClassId) (A : Nat → Prop) (ad : Nat → Nat) (hD : rwD A k ad) (v : gV) (f g : gF) (a1 : Int) (a2 : Int) (h_a1 : inR a1) (h_a2 : inR a2) (h1 : 0 ≤ a1 ∧ a1 ≤ 3) (h2 : 0 ≤ a2 ∧ a2 ≤ 4) : GM l D k A (rwT k ad) yX8_begunOn cX8_begunOn 3 (some .int) 0 0 [.ref (ad 23), .int (iI a1), .int (iI a2)] v f g (fun r v1 f1 g1 => ∃ (z : Int), r = some (.int (iI z)) ∧ v = v1 ∧ f = f1 ∧ g = g1 ∧ (z = ((f 16) (a1 * 5 + a2))) ∧ (0 ≤ z ∧ z ≤ 300)) := by
  refine GM.of (by decide) (Nat.le_of_ble_eq_true rfl) ?_
  intro p e s m args below meth c Q ls hQ C hml hr hlocks hP hl
  have hx := C.1
  have hb := C.2.1
  have hok := hP.2
  have hS : va_S A s.heap s.heap [] := va_S.rf
  have hl : lv_has ls 3 [(0, .ref (ad 23)), (1, .int (iI a1)), (2, .int (iI a2))] := hl
  refine lv_aload_n hx hb dX8_begunOn_0 rfl (lv_at hl 0 rfl) ?_
  refine rwG_wall_begun C hP mF_X8_15 dX8_begunOn_1 ?_
  refine lv_iload_n hx hb dX8_begunOn_4 rfl (lv_at hl 1 rfl) ?_
  refine lv_iconst (v := iI 5) hx hb dX8_begunOn_5 rfl ?_
  refine gi_mul (z := (a1 * 5)) hx hb dX8_begunOn_6 rfl ?_
  refine lv_iload_n hx hb dX8_begunOn_7 rfl (lv_at hl 2 rfl) ?_
  refine gi_add (z := ((a1 * 5) + a2)) hx hb dX8_begunOn_8 rfl ?_
  refine rwL_wall_begun C hP (by omega) (by omega) dX8_begunOn_9 ?_
  have r_1 : 0 ≤ (f 16 ((a1 * 5) + a2)) ∧ (f 16 ((a1 * 5) + a2)) ≤ 300 := hP.2.2 16 ((a1 * 5) + a2)
  exact g_iret hQ C hr hlocks hP hS dX8_begunOn_10 ⟨(f 16 ((a1 * 5) + a2)), rfl, rfl, rfl, rfl, (by first | omega | ((repeat' split) <;> omega)), (by first | omega | ((repeat' split) <;> omega))⟩

set_option maxHeartbeats 4000000 in
set_option maxRecDepth 100000 in
theorem c_X8_zoneOf (l : Launch) (D : va_G) (k : Nat → ClassId) (A : Nat → Prop) (ad : Nat → Nat) (hD : rwD A k ad) (v : gV) (f g : gF) (a1 : Int) (a2 : Int) (a3 : Int) (h_a1 : inR a1) (h_a2 : inR a2) (h_a3 : inR a3) (h1 : 0 ≤ a1 ∧ a1 ≤ 3) (h2 : 0 ≤ a2 ∧ a2 ≤ 4) (h3 : 0 ≤ a3 ∧ a3 < 3) : GM l D k A (rwT k ad) yX8_zoneOf cX8_zoneOf 4 (some .int) 0 0 [.ref (ad 23), .int (iI a1), .int (iI a2), .int (iI a3)] v f g (fun r v1 f1 g1 => ∃ (z : Int), r = some (.int (iI z)) ∧ v = v1 ∧ f = f1 ∧ g = g1 ∧ (z = ((f 17) ((a1 * 5 + a2) * 3 + a3))) ∧ (0 ≤ z ∧ z ≤ 60)) := by
  refine GM.of (by decide) (Nat.le_of_ble_eq_true rfl) ?_
  intro p e s m args below meth c Q ls hQ C hml hr hlocks hP hl
  have hx := C.1
  have hb := C.2.1
  have hok := hP.2
  have hS : va_S A s.heap s.heap [] := va_S.rf
  have hl : lv_has ls 4 [(0, .ref (ad 23)), (1, .int (iI a1)), (2, .int (iI a2)), (3, .int (iI a3))] := hl
  refine lv_aload_n hx hb dX8_zoneOf_0 rfl (lv_at hl 0 rfl) ?_
  refine rwG_wall_zones C hP mF_X8_18 dX8_zoneOf_1 ?_
  refine lv_iload_n hx hb dX8_zoneOf_4 rfl (lv_at hl 1 rfl) ?_
  refine lv_iconst (v := iI 5) hx hb dX8_zoneOf_5 rfl ?_
  refine gi_mul (z := (a1 * 5)) hx hb dX8_zoneOf_6 rfl ?_
  refine lv_iload_n hx hb dX8_zoneOf_7 rfl (lv_at hl 2 rfl) ?_
  refine gi_add (z := ((a1 * 5) + a2)) hx hb dX8_zoneOf_8 rfl ?_
  refine lv_iconst (v := iI 3) hx hb dX8_zoneOf_9 rfl ?_
  refine gi_mul (z := (((a1 * 5) + a2) * 3)) hx hb dX8_zoneOf_10 rfl ?_
  refine lv_iload_n hx hb dX8_zoneOf_11 rfl (lv_at hl 3 rfl) ?_
  refine gi_add (z := ((((a1 * 5) + a2) * 3) + a3)) hx hb dX8_zoneOf_12 rfl ?_
  refine rwL_wall_zones C hP (by omega) (by omega) dX8_zoneOf_13 ?_
  have r_1 : 0 ≤ (f 17 ((((a1 * 5) + a2) * 3) + a3)) ∧ (f 17 ((((a1 * 5) + a2) * 3) + a3)) ≤ 60 := hP.2.2 17 ((((a1 * 5) + a2) * 3) + a3)
  exact g_iret hQ C hr hlocks hP hS dX8_zoneOf_14 ⟨(f 17 ((((a1 * 5) + a2) * 3) + a3)), rfl, rfl, rfl, rfl, (by first | omega | ((repeat' split) <;> omega)), (by first | omega | ((repeat' split) <;> omega))⟩

set_option maxHeartbeats 4000000 in
set_option maxRecDepth 100000 in
theorem c_X8_set (l : Launch) (D : va_G) (k : Nat → ClassId) (A : Nat → Prop) (ad : Nat → Nat) (hD : rwD A k ad) (v : gV) (f g : gF) (a1 : Int) (a2 : Int) (a3 : Int) (h_a1 : inR a1) (h_a2 : inR a2) (h_a3 : inR a3) (h1 : 0 ≤ a1 ∧ a1 ≤ 3) (h2 : 0 ≤ a2 ∧ a2 ≤ 4) (h3 : 0 ≤ a3 ∧ a3 ≤ 60) : GM l D k A (rwT k ad) yX8_set cX8_set 4 none 0 0 [.ref (ad 23), .int (iI a1), .int (iI a2), .int (iI a3)] v f g (fun r v1 f1 g1 => r = none ∧ v = v1 ∧ (va_up f 15 (u1 (f 15) (a1 * 5 + a2) a3)) = f1 ∧ g = g1) := by
  refine GM.of (by decide) (Nat.le_of_ble_eq_true rfl) ?_
  intro p e s m args below meth c Q ls hQ C hml hr hlocks hP hl
  have hx := C.1
  have hb := C.2.1
  have hok := hP.2
  have hS : va_S A s.heap s.heap [] := va_S.rf
  have hl : lv_has ls 4 [(0, .ref (ad 23)), (1, .int (iI a1)), (2, .int (iI a2)), (3, .int (iI a3))] := hl
  have hP : gWd D (rwT k ad) v (va_up f 15 (f 15)) g s.heap := by rw [va_id]; exact hP
  refine lv_aload_n hx hb dX8_set_0 rfl (lv_at hl 0 rfl) ?_
  refine rwG_wall_holds C hP mF_X8_9 dX8_set_1 ?_
  refine lv_iload_n hx hb dX8_set_4 rfl (lv_at hl 1 rfl) ?_
  refine lv_iconst (v := iI 5) hx hb dX8_set_5 rfl ?_
  refine gi_mul (z := (a1 * 5)) hx hb dX8_set_6 rfl ?_
  refine lv_iload_n hx hb dX8_set_7 rfl (lv_at hl 2 rfl) ?_
  refine gi_add (z := ((a1 * 5) + a2)) hx hb dX8_set_8 rfl ?_
  refine lv_iload_n hx hb dX8_set_9 rfl (lv_at hl 3 rfl) ?_
  refine rwS_wall_holds (f1 := (va_up f 15 (u1 (f 15) ((a1 * 5) + a2) a3))) C hP hD hS (by omega) (by omega) (by omega) rfl (Or.inr (gF_up (V := rwV) (F := rwF) ⟨hok.1, hok.2⟩ 15 (u1_rng (hP.2.2 15) (show 0 ≤ a3 ∧ a3 ≤ 60 from (by omega))))) dX8_set_10 (fun H locs hP hS => ?_)
  exact g_vret hQ C hr hlocks hP hS dX8_set_11 ⟨rfl, rfl, (by rw [show ((u1 (f 15) (a1 * 5 + a2) a3) : Int → Int) = (u1 (f 15) ((a1 * 5) + a2) a3) from rfl]), rfl⟩

set_option maxHeartbeats 4000000 in
set_option maxRecDepth 100000 in
theorem c_X8_setZone (l : Launch) (D : va_G) (k : Nat → ClassId) (A : Nat → Prop) (ad : Nat → Nat) (hD : rwD A k ad) (v : gV) (f g : gF) (a1 : Int) (a2 : Int) (a3 : Int) (a4 : Int) (h_a1 : inR a1) (h_a2 : inR a2) (h_a3 : inR a3) (h_a4 : inR a4) (h1 : 0 ≤ a1 ∧ a1 ≤ 3) (h2 : 0 ≤ a2 ∧ a2 ≤ 4) (h3 : 0 ≤ a3 ∧ a3 < 3) (h4 : 0 ≤ a4 ∧ a4 ≤ 60) : GM l D k A (rwT k ad) yX8_setZone cX8_setZone 5 none 0 0 [.ref (ad 23), .int (iI a1), .int (iI a2), .int (iI a3), .int (iI a4)] v f g (fun r v1 f1 g1 => r = none ∧ v = v1 ∧ (va_up f 17 (u1 (f 17) ((a1 * 5 + a2) * 3 + a3) a4)) = f1 ∧ g = g1) := by
  refine GM.of (by decide) (Nat.le_of_ble_eq_true rfl) ?_
  intro p e s m args below meth c Q ls hQ C hml hr hlocks hP hl
  have hx := C.1
  have hb := C.2.1
  have hok := hP.2
  have hS : va_S A s.heap s.heap [] := va_S.rf
  have hl : lv_has ls 5 [(0, .ref (ad 23)), (1, .int (iI a1)), (2, .int (iI a2)), (3, .int (iI a3)), (4, .int (iI a4))] := hl
  have hP : gWd D (rwT k ad) v (va_up f 17 (f 17)) g s.heap := by rw [va_id]; exact hP
  refine lv_aload_n hx hb dX8_setZone_0 rfl (lv_at hl 0 rfl) ?_
  refine rwG_wall_zones C hP mF_X8_18 dX8_setZone_1 ?_
  refine lv_iload_n hx hb dX8_setZone_4 rfl (lv_at hl 1 rfl) ?_
  refine lv_iconst (v := iI 5) hx hb dX8_setZone_5 rfl ?_
  refine gi_mul (z := (a1 * 5)) hx hb dX8_setZone_6 rfl ?_
  refine lv_iload_n hx hb dX8_setZone_7 rfl (lv_at hl 2 rfl) ?_
  refine gi_add (z := ((a1 * 5) + a2)) hx hb dX8_setZone_8 rfl ?_
  refine lv_iconst (v := iI 3) hx hb dX8_setZone_9 rfl ?_
  refine gi_mul (z := (((a1 * 5) + a2) * 3)) hx hb dX8_setZone_10 rfl ?_
  refine lv_iload_n hx hb dX8_setZone_11 rfl (lv_at hl 3 rfl) ?_
  refine gi_add (z := ((((a1 * 5) + a2) * 3) + a3)) hx hb dX8_setZone_12 rfl ?_
  refine lv_iload hx hb dX8_setZone_13 (lv_at hl 4 rfl) ?_
  refine rwS_wall_zones (f1 := (va_up f 17 (u1 (f 17) ((((a1 * 5) + a2) * 3) + a3) a4))) C hP hD hS (by omega) (by omega) (by omega) rfl (Or.inr (gF_up (V := rwV) (F := rwF) ⟨hok.1, hok.2⟩ 17 (u1_rng (hP.2.2 17) (show 0 ≤ a4 ∧ a4 ≤ 60 from (by omega))))) dX8_setZone_15 (fun H locs hP hS => ?_)
  exact g_vret hQ C hr hlocks hP hS dX8_setZone_16 ⟨rfl, rfl, (by rw [show ((u1 (f 17) ((a1 * 5 + a2) * 3 + a3) a4) : Int → Int) = (u1 (f 17) ((((a1 * 5) + a2) * 3) + a3) a4) from rfl]), rfl⟩

set_option maxHeartbeats 4000000 in
set_option maxRecDepth 100000 in
theorem c_X8_countBegun (l : Launch) (D : va_G) (k : Nat → ClassId) (A : Nat → Prop) (ad : Nat → Nat) (hD : rwD A k ad) (v : gV) (f g : gF) (a1 : Int) (a2 : Int) (h_a1 : inR a1) (h_a2 : inR a2) (h1 : 0 ≤ a1 ∧ a1 ≤ 3) (h2 : 0 ≤ a2 ∧ a2 ≤ 4) (h3 : (f 16) (a1 * 5 + a2) < 300) : GM l D k A (rwT k ad) yX8_countBegun cX8_countBegun 3 none 0 0 [.ref (ad 23), .int (iI a1), .int (iI a2)] v f g (fun r v1 f1 g1 => r = none ∧ v = v1 ∧ (va_up f 16 (u1 (f 16) (a1 * 5 + a2) ((f 16) (a1 * 5 + a2) + 1))) = f1 ∧ g = g1) := by
  refine GM.of (by decide) (Nat.le_of_ble_eq_true rfl) ?_
  intro p e s m args below meth c Q ls hQ C hml hr hlocks hP hl
  have hx := C.1
  have hb := C.2.1
  have hok := hP.2
  have hS : va_S A s.heap s.heap [] := va_S.rf
  have hl : lv_has ls 3 [(0, .ref (ad 23)), (1, .int (iI a1)), (2, .int (iI a2))] := hl
  have hP : gWd D (rwT k ad) v (va_up f 16 (f 16)) g s.heap := by rw [va_id]; exact hP
  refine lv_aload_n hx hb dX8_countBegun_0 rfl (lv_at hl 0 rfl) ?_
  refine rwG_wall_begun C hP mF_X8_15 dX8_countBegun_1 ?_
  refine lv_iload_n hx hb dX8_countBegun_4 rfl (lv_at hl 1 rfl) ?_
  refine lv_iconst (v := iI 5) hx hb dX8_countBegun_5 rfl ?_
  refine gi_mul (z := (a1 * 5)) hx hb dX8_countBegun_6 rfl ?_
  refine lv_iload_n hx hb dX8_countBegun_7 rfl (lv_at hl 2 rfl) ?_
  refine gi_add (z := ((a1 * 5) + a2)) hx hb dX8_countBegun_8 rfl ?_
  refine lv_dup2_11 hx hb dX8_countBegun_9 rfl rfl ?_
  refine rwL_wall_begun C hP (by omega) (by omega) dX8_countBegun_10 ?_
  show W p l e (gRm 0 0) s m args below meth c _ _ 0 0 Q (F0 m 11 ls [.int (iI (f 16 ((a1 * 5) + a2))), .int (iI ((a1 * 5) + a2)), .ref (ad 25)])
  have r_1 : 0 ≤ (f 16 ((a1 * 5) + a2)) ∧ (f 16 ((a1 * 5) + a2)) ≤ 300 := hP.2.2 16 ((a1 * 5) + a2)
  refine lv_iconst (v := iI 1) hx hb dX8_countBegun_11 rfl ?_
  refine gi_add (z := ((f 16 ((a1 * 5) + a2)) + 1)) hx hb dX8_countBegun_12 rfl ?_
  refine rwS_wall_begun (f1 := (va_up f 16 (u1 (f 16) ((a1 * 5) + a2) ((f 16 ((a1 * 5) + a2)) + 1)))) C hP hD hS (by omega) (by omega) (by omega) rfl (Or.inr (gF_up (V := rwV) (F := rwF) ⟨hok.1, hok.2⟩ 16 (u1_rng (hP.2.2 16) (show 0 ≤ ((f 16 ((a1 * 5) + a2)) + 1) ∧ ((f 16 ((a1 * 5) + a2)) + 1) ≤ 300 from (by omega))))) dX8_countBegun_13 (fun H locs hP hS => ?_)
  exact g_vret hQ C hr hlocks hP hS dX8_countBegun_14 ⟨rfl, rfl, (by rw [show ((u1 (f 16) (a1 * 5 + a2) ((f 16) (a1 * 5 + a2) + 1)) : Int → Int) = (u1 (f 16) ((a1 * 5) + a2) ((f 16 ((a1 * 5) + a2)) + 1)) from rfl]), rfl⟩

set_option maxHeartbeats 4000000 in
set_option maxRecDepth 100000 in
theorem c_X2_clear (l : Launch) (D : va_G) (k : Nat → ClassId) (A : Nat → Prop) (ad : Nat → Nat) (hD : rwD A k ad) (v : gV) (f g : gF) : GM l D k A (rwT k ad) yX2_clear cX2_clear 1 none 0 0 [.ref (ad 27)] v f g (fun r v1 f1 g1 => r = none ∧ (va_up (va_up v 21 0) 22 0) = v1 ∧ f = f1 ∧ g = g1) := by
  refine GM.of (by decide) (Nat.le_of_ble_eq_true rfl) ?_
  intro p e s m args below meth c Q ls hQ C hml hr hlocks hP hl
  have hx := C.1
  have hb := C.2.1
  have hok := hP.2
  have hS : va_S A s.heap s.heap [] := va_S.rf
  have hl : lv_has ls 1 [(0, .ref (ad 27))] := hl
  have hP : gWd D (rwT k ad) (va_up (va_up v 21 (v 21)) 22 (v 22)) f g s.heap := by rw [va_id, va_id]; exact hP
  refine lv_aload_n hx hb dX2_clear_0 rfl (lv_at hl 0 rfl) ?_
  refine lv_iconst (v := iI 0) hx hb dX2_clear_1 rfl ?_
  refine rwP_field_climbers (v1 := (va_up (va_up v 21 0) 22 (v 22))) C hP hD hS mF_X2_18 (by decide) rfl (Or.inr (gR_up (V := rwV) (F := rwF) (gR_up (V := rwV) (F := rwF) ⟨hok.1, hok.2⟩ 21 (show 0 ≤ 0 ∧ 0 ≤ 16 from by decide)) 22 (hP.2.1 22))) dX2_clear_2 (fun H locs hP hS => ?_)
  refine lv_aload_n hx hb dX2_clear_5 rfl (lv_at hl 0 rfl) ?_
  refine lv_iconst (v := iI 0) hx hb dX2_clear_6 rfl ?_
  refine rwP_field_open (v1 := (va_up (va_up v 21 0) 22 0)) C hP hD hS mF_X2_22 (by decide) rfl (Or.inr (gR_up (V := rwV) (F := rwF) (gR_up (V := rwV) (F := rwF) ⟨hok.1, hok.2⟩ 21 (hP.2.1 21)) 22 (show 0 ≤ 0 ∧ 0 ≤ 3 from by decide))) dX2_clear_7 (fun H locs hP hS => ?_)
  exact g_vret hQ C hr hlocks hP hS dX2_clear_10 ⟨rfl, rfl, rfl, rfl⟩

set_option maxHeartbeats 4000000 in
set_option maxRecDepth 100000 in
theorem c_X2_enter (l : Launch) (D : va_G) (k : Nat → ClassId) (A : Nat → Prop) (ad : Nat → Nat) (hD : rwD A k ad) (v : gV) (f g : gF) (h1 : (v 21) < 16) : GM l D k A (rwT k ad) yX2_enter cX2_enter 1 (some .int) 0 0 [.ref (ad 27)] v f g (fun r v1 f1 g1 => ∃ (z : Int), r = some (.int (iI z)) ∧ (va_up v 21 ((v 21) + 1)) = v1 ∧ (va_up f 18 (u1 (f 18) (v 21) 0)) = f1 ∧ g = g1 ∧ (z = (v 21))) := by
  refine GM.of (by decide) (Nat.le_of_ble_eq_true rfl) ?_
  intro p e s m args below meth c Q ls hQ C hml hr hlocks hP hl
  have hx := C.1
  have hb := C.2.1
  have hok := hP.2
  have hS : va_S A s.heap s.heap [] := va_S.rf
  have hl : lv_has ls 1 [(0, .ref (ad 27))] := hl
  have hP : gWd D (rwT k ad) (va_up v 21 (v 21)) (va_up f 18 (f 18)) g s.heap := by rw [va_id, va_id]; exact hP
  refine lv_aload_n hx hb dX2_enter_0 rfl (lv_at hl 0 rfl) ?_
  refine rwG_field_latest C hP mF_X2_9 dX2_enter_1 ?_
  refine lv_aload_n hx hb dX2_enter_4 rfl (lv_at hl 0 rfl) ?_
  refine rwG_field_climbers C hP mF_X2_18 dX2_enter_5 ?_
  show W p l e (gRm 0 0) s m args below meth c _ _ 0 0 Q (F0 m 8 ls [.int (iI (v 21)), .ref (ad 28)])
  have r_1 : 0 ≤ (v 21) ∧ (v 21) ≤ 16 := hok.1 21
  refine lv_iconst (v := iI 0) hx hb dX2_enter_8 rfl ?_
  refine rwS_field_latest (f1 := (va_up f 18 (u1 (f 18) (v 21) 0))) C hP hD hS (by omega) (by omega) (by decide) rfl (Or.inr (gF_up (V := rwV) (F := rwF) (gR_up (V := rwV) (F := rwF) ⟨hok.1, hok.2⟩ 21 (hP.2.1 21)) 18 (u1_rng (hP.2.2 18) (show 0 ≤ 0 ∧ 0 ≤ 3 from (by decide))))) dX2_enter_9 (fun H locs hP hS => ?_)
  refine lv_aload_n hx hb dX2_enter_10 rfl (lv_at hl 0 rfl) ?_
  refine lv_dup hx hb dX2_enter_11 rfl ?_
  refine rwG_field_climbers C hP mF_X2_18 dX2_enter_12 ?_
  show W p l e (gRm 0 0) s m args below meth c _ _ 0 0 Q (F0 m 15 ls [.int (iI (v 21)), .ref (ad 27)])
  refine lv_iconst (v := iI 1) hx hb dX2_enter_15 rfl ?_
  refine gi_add (z := ((v 21) + 1)) hx hb dX2_enter_16 rfl ?_
  refine rwP_field_climbers (v1 := (va_up v 21 ((v 21) + 1))) C hP hD hS mF_X2_18 (by omega) rfl (Or.inr (gF_up (V := rwV) (F := rwF) (gR_up (V := rwV) (F := rwF) ⟨hok.1, hok.2⟩ 21 (show 0 ≤ ((v 21) + 1) ∧ ((v 21) + 1) ≤ 16 from by omega)) 18 (hP.2.2 18))) dX2_enter_17 (fun H locs hP hS => ?_)
  refine lv_aload_n hx hb dX2_enter_20 rfl (lv_at hl 0 rfl) ?_
  refine rwG_field_climbers C hP mF_X2_18 dX2_enter_21 ?_
  show W p l e (gRm 0 0) s m args below meth c _ _ 0 0 Q (F0 m 24 ls [.int (iI ((v 21) + 1))])
  have r_2 : 0 ≤ ((v 21) + 1) ∧ ((v 21) + 1) ≤ 16 := hP.2.1 21
  refine lv_iconst (v := iI 1) hx hb dX2_enter_24 rfl ?_
  refine gi_sub (z := (((v 21) + 1) - 1)) hx hb dX2_enter_25 rfl ?_
  exact g_iret hQ C hr hlocks hP hS dX2_enter_26 ⟨(((v 21) + 1) - 1), rfl, rfl, rfl, rfl, (by first | omega | ((repeat' split) <;> omega))⟩

set_option maxHeartbeats 4000000 in
set_option maxRecDepth 100000 in
theorem c_X2_isIn (l : Launch) (D : va_G) (k : Nat → ClassId) (A : Nat → Prop) (ad : Nat → Nat) (hD : rwD A k ad) (v : gV) (f g : gF) (a1 : Int) (a2 : Int) (h_a1 : inR a1) (h_a2 : inR a2) : GM l D k A (rwT k ad) yX2_isIn cX2_isIn 3 (some .boolean) 1 21 [.ref (ad 27), .int (iI a1), .int (iI a2)] v f g (fun r v1 f1 g1 => ∃ (z : Int), r = some (.int (iI z)) ∧ v = v1 ∧ f = f1 ∧ g = g1 ∧ (z = (if (0 ≤ a2 ∧ a2 < (v 21)) ∧ a1 ≤ (f 18) a2 then 1 else 0))) := by
  refine GM.of (by decide) (Nat.le_of_ble_eq_true rfl) ?_
  intro p e s m args below meth c Q ls hQ C hml hr hlocks hP hl
  have hx := C.1
  have hb := C.2.1
  have hok := hP.2
  have hS : va_S A s.heap s.heap [] := va_S.rf
  have hl : lv_has ls 3 [(0, .ref (ad 27)), (1, .int (iI a1)), (2, .int (iI a2))] := hl
  have r_1 : 0 ≤ (v 21) ∧ (v 21) ≤ 16 := hok.1 21
  refine lv_aload_n hx hb dX2_isIn_0 rfl (lv_at hl 0 rfl) ?_
  refine lv_iload_n hx hb dX2_isIn_1 rfl (lv_at hl 2 rfl) ?_
  refine g_cv (As := [.int (iI a2)]) (rest := []) (n := 1) C hml (c_X2_knows l D k A ad hD v f g a2 (by omega)) mM_X2_25 mI_X2_knows mE_X2_knows mN_X2 mC_X2_knows (by decide +kernel) 27 (ci := 2) rfl rfl hP hS (fun _ h => h) ⟨Nat.le_of_ble_eq_true rfl, Nat.le_of_ble_eq_true rfl⟩ ⟨Nat.zero_le _, Nat.zero_le _⟩ hl.1 rfl rfl (Nat.le_of_ble_eq_true rfl) dX2_isIn_2 (fun r_2 v_2 f_2 g_2 H locs hq_2 hP _ hS => ?_)
  obtain ⟨z_2, rfl, rfl, rfl, rfl, p0_2⟩ := hq_2
  show W p l e (gRm 1 21) s m args below meth c _ _ 0 0 Q (F0 m 5 ls [.int (iI z_2)])
  replace p0_2 : z_2 = (if 0 ≤ a2 ∧ a2 < (v 21) then 1 else 0) := p0_2
  have w_2 := gif (P := 0 ≤ a2 ∧ a2 < (v 21)) p0_2
  clear p0_2
  have hz_2 : inR z_2 := (by first | omega | (rw [p0_2]; split <;> omega))
  refine gi_zeq (tgt := 22) hx hb dX2_isIn_5 (by decide) (by omega) (fun c_3 => ?_) (fun c_3 => ?_)
  · have vz_2 := gif0 w_2 c_3
    clear w_2
    refine lv_iconst (v := iI 0) hx hb dX2_isIn_22 rfl ?_
    exact g_zret hQ C hr hlocks (by decide) hP hS dX2_isIn_23 ⟨0, rfl, rfl, rfl, rfl, (by first | omega | ((repeat' split) <;> omega))⟩
  · have vz_2 := gif1 w_2 c_3
    clear w_2
    refine lv_aload_n hx hb dX2_isIn_8 rfl (lv_at hl 0 rfl) ?_
    refine rwG_field_latest C hP mF_X2_9 dX2_isIn_9 ?_
    refine lv_iload_n hx hb dX2_isIn_12 rfl (lv_at hl 2 rfl) ?_
    refine rwL_field_latest C hP (by omega) (by omega) dX2_isIn_13 ?_
    have r_4 : 0 ≤ (f 18 a2) ∧ (f 18 a2) ≤ 3 := hP.2.2 18 a2
    refine lv_iload_n hx hb dX2_isIn_14 rfl (lv_at hl 1 rfl) ?_
    refine gi_clt (tgt := 22) hx hb dX2_isIn_15 (by decide) (by omega) (by omega) (fun c_5 => ?_) (fun c_5 => ?_)
    · refine lv_iconst (v := iI 0) hx hb dX2_isIn_22 rfl ?_
      exact g_zret hQ C hr hlocks (by decide) hP hS dX2_isIn_23 ⟨0, rfl, rfl, rfl, rfl, (by first | omega | ((repeat' split) <;> omega))⟩
    · refine lv_iconst (v := iI 1) hx hb dX2_isIn_18 rfl ?_
      refine lv_goto (tgt := 23) hx hb dX2_isIn_19 (by decide) ?_
      exact g_zret hQ C hr hlocks (by decide) hP hS dX2_isIn_23 ⟨1, rfl, rfl, rfl, rfl, (by first | omega | ((repeat' split) <;> omega))⟩

set_option maxHeartbeats 4000000 in
set_option maxRecDepth 100000 in
theorem c_X2_dayOf (l : Launch) (D : va_G) (k : Nat → ClassId) (A : Nat → Prop) (ad : Nat → Nat) (hD : rwD A k ad) (v : gV) (f g : gF) (a1 : Int) (h_a1 : inR a1) (h1 : 0 ≤ a1 ∧ a1 ≤ 3) : GM l D k A (rwT k ad) yX2_dayOf cX2_dayOf 2 (some .int) 0 0 [.ref (ad 27), .int (iI a1)] v f g (fun r v1 f1 g1 => ∃ (z : Int), r = some (.int (iI z)) ∧ v = v1 ∧ f = f1 ∧ g = g1 ∧ (z = ((f 19) a1)) ∧ (0 ≤ z ∧ z ≤ 999)) := by
  refine GM.of (by decide) (Nat.le_of_ble_eq_true rfl) ?_
  intro p e s m args below meth c Q ls hQ C hml hr hlocks hP hl
  have hx := C.1
  have hb := C.2.1
  have hok := hP.2
  have hS : va_S A s.heap s.heap [] := va_S.rf
  have hl : lv_has ls 2 [(0, .ref (ad 27)), (1, .int (iI a1))] := hl
  refine lv_aload_n hx hb dX2_dayOf_0 rfl (lv_at hl 0 rfl) ?_
  refine rwG_field_cutDay C hP mF_X2_15 dX2_dayOf_1 ?_
  refine lv_iload_n hx hb dX2_dayOf_4 rfl (lv_at hl 1 rfl) ?_
  refine rwL_field_cutDay C hP (by omega) (by omega) dX2_dayOf_5 ?_
  have r_1 : 0 ≤ (f 19 a1) ∧ (f 19 a1) ≤ 999 := hP.2.2 19 a1
  exact g_iret hQ C hr hlocks hP hS dX2_dayOf_6 ⟨(f 19 a1), rfl, rfl, rfl, rfl, (by first | omega | ((repeat' split) <;> omega)), (by first | omega | ((repeat' split) <;> omega))⟩

set_option maxHeartbeats 4000000 in
set_option maxRecDepth 100000 in
theorem c_X7_clear (l : Launch) (D : va_G) (k : Nat → ClassId) (A : Nat → Prop) (ad : Nat → Nat) (hD : rwD A k ad) (v : gV) (f g : gF) : GM l D k A (rwT k ad) yX7_clear cX7_clear 1 none 1 23 [.ref (ad 30)] v f g (fun r v1 f1 g1 => r = none ∧ (va_up v 23 0) = v1 ∧ (va_up f 27 (gfill (f 27) 16 0)) = f1 ∧ g = g1) := by
  refine GM.of (by decide) (Nat.le_of_ble_eq_true rfl) ?_
  intro p e s m args below meth c Q ls hQ C hml hr hlocks hP hl
  have hx := C.1
  have hb := C.2.1
  have hok := hP.2
  have hS : va_S A s.heap s.heap [] := va_S.rf
  have hl : lv_has ls 1 [(0, .ref (ad 30))] := hl
  have hP : gWd D (rwT k ad) (va_up v 23 (v 23)) (va_up f 27 (f 27)) g s.heap := by rw [va_id, va_id]; exact hP
  refine lv_aload_n hx hb dX7_clear_0 rfl (lv_at hl 0 rfl) ?_
  refine lv_iconst (v := iI 0) hx hb dX7_clear_1 rfl ?_
  refine rwP_tries_many (v1 := (va_up v 23 0)) C hP hD hS mF_X7_36 (by decide) rfl (Or.inr (gF_up (V := rwV) (F := rwF) (gR_up (V := rwV) (F := rwF) ⟨hok.1, hok.2⟩ 23 (show 0 ≤ 0 ∧ 0 ≤ 300 from by decide)) 27 (hP.2.2 27))) dX7_clear_2 (fun H locs hP hS => ?_)
  refine lv_aload_n hx hb dX7_clear_5 rfl (lv_at hl 0 rfl) ?_
  refine rwG_tries_openNext C hP mF_X7_33 dX7_clear_6 ?_
  refine lv_iconst (v := iI 0) hx hb dX7_clear_9 rfl ?_
  refine g_cs (As := [.ref (ad 38), .int (iI 0)]) (rest := []) (n := 2) C hml (c_fillI l D k A (rwT k ad) (ad 38) 38 27 16 (fun _ _ _ => rfl) (fun _ _ _ _ => rfl) hD (by decide) (va_up v 23 0) (va_up f 27 (f 27)) g 0 (by decide) (show 0 ≤ 0 ∧ 0 ≤ 300 from (by decide))) mM_X7_40 mS_J7_fill_53178 mN_J7 mC_J7_fill_53178 (by decide +kernel) hP hS (fun _ h => h) ⟨Nat.le_of_ble_eq_true rfl, Nat.le_of_ble_eq_true rfl⟩ ⟨Nat.zero_le _, Nat.zero_le _⟩ hl.1 rfl rfl (Nat.le_of_ble_eq_true rfl) dX7_clear_10 (fun r v1 f1 g1 H locs hq hP _ hS => ?_)
  obtain ⟨rfl, rfl, rfl, rfl⟩ := hq
  show W p l e (gRm 1 23) s m args below meth c _ _ 0 0 Q (F0 m 13 ls [])
  have hP : gWd D (rwT k ad) (va_up v 23 0) (va_up f 27 (gfill (f 27) 16 0)) g H := ⟨hP.1, (gF_up (V := rwV) (F := rwF) (gR_up (V := rwV) (F := rwF) ⟨hok.1, hok.2⟩ 23 (hP.2.1 23)) 27 (hP.2.2 27))⟩
  exact g_vret hQ C hr hlocks hP hS dX7_clear_13 ⟨rfl, rfl, rfl, rfl⟩

set_option maxHeartbeats 4000000 in
set_option maxRecDepth 100000 in
theorem c_X7_openOf (l : Launch) (D : va_G) (k : Nat → ClassId) (A : Nat → Prop) (ad : Nat → Nat) (hD : rwD A k ad) (v : gV) (f g : gF) (a1 : Int) (h_a1 : inR a1) (h1 : 0 ≤ a1 ∧ a1 ≤ 15) : GM l D k A (rwT k ad) yX7_openOf cX7_openOf 2 (some .int) 0 0 [.ref (ad 30), .int (iI a1)] v f g (fun r v1 f1 g1 => ∃ (z : Int), r = some (.int (iI z)) ∧ v = v1 ∧ f = f1 ∧ g = g1 ∧ (z = ((f 27) a1 - 1)) ∧ ((-1) ≤ z ∧ z ≤ 299)) := by
  refine GM.of (by decide) (Nat.le_of_ble_eq_true rfl) ?_
  intro p e s m args below meth c Q ls hQ C hml hr hlocks hP hl
  have hx := C.1
  have hb := C.2.1
  have hok := hP.2
  have hS : va_S A s.heap s.heap [] := va_S.rf
  have hl : lv_has ls 2 [(0, .ref (ad 30)), (1, .int (iI a1))] := hl
  refine lv_aload_n hx hb dX7_openOf_0 rfl (lv_at hl 0 rfl) ?_
  refine rwG_tries_openNext C hP mF_X7_33 dX7_openOf_1 ?_
  refine lv_iload_n hx hb dX7_openOf_4 rfl (lv_at hl 1 rfl) ?_
  refine rwL_tries_openNext C hP (by omega) (by omega) dX7_openOf_5 ?_
  have r_1 : 0 ≤ (f 27 a1) ∧ (f 27 a1) ≤ 300 := hP.2.2 27 a1
  refine lv_iconst (v := iI 1) hx hb dX7_openOf_6 rfl ?_
  refine gi_sub (z := ((f 27 a1) - 1)) hx hb dX7_openOf_7 rfl ?_
  exact g_iret hQ C hr hlocks hP hS dX7_openOf_8 ⟨((f 27 a1) - 1), rfl, rfl, rfl, rfl, (by first | omega | ((repeat' split) <;> omega)), (by first | omega | ((repeat' split) <;> omega))⟩

set_option maxHeartbeats 4000000 in
set_option maxRecDepth 100000 in
theorem c_X7_start (l : Launch) (D : va_G) (k : Nat → ClassId) (A : Nat → Prop) (ad : Nat → Nat) (hD : rwD A k ad) (v : gV) (f g : gF) (a1 : Int) (a2 : Int) (a3 : Int) (a4 : Int) (h_a1 : inR a1) (h_a2 : inR a2) (h_a3 : inR a3) (h_a4 : inR a4) (h0 : (v 23) < 300) (h1 : 0 ≤ a1 ∧ a1 ≤ 15) (h2 : 0 ≤ a2 ∧ a2 ≤ 3) (h3 : 0 ≤ a3 ∧ a3 ≤ 4) (h4 : 0 ≤ a4 ∧ a4 ≤ 1000000) : GM l D k A (rwT k ad) yX7_start cX7_start 6 (some .int) 0 0 [.ref (ad 30), .int (iI a1), .int (iI a2), .int (iI a3), .int (iI a4)] v f g (fun r v1 f1 g1 => ∃ (z : Int), r = some (.int (iI z)) ∧ (va_up v 23 ((v 23) + 1)) = v1 ∧ (va_up (va_up (va_up (va_up (va_up (va_up (va_up (va_up f 20 (u1 (f 20) (v 23) a1)) 21 (u1 (f 21) (v 23) a2)) 22 (u1 (f 22) (v 23) a3)) 23 (u1 (f 23) (v 23) a4)) 24 (u1 (f 24) (v 23) (-1))) 25 (u1 (f 25) (v 23) 0)) 26 (u1 (f 26) (v 23) 0)) 27 (u1 (f 27) a1 ((v 23) + 1))) = f1 ∧ g = g1 ∧ (z = (v 23))) := by
  refine GM.of (by decide) (Nat.le_of_ble_eq_true rfl) ?_
  intro p e s m args below meth c Q ls hQ C hml hr hlocks hP hl
  have hx := C.1
  have hb := C.2.1
  have hok := hP.2
  have hS : va_S A s.heap s.heap [] := va_S.rf
  have hl : lv_has ls 6 [(0, .ref (ad 30)), (1, .int (iI a1)), (2, .int (iI a2)), (3, .int (iI a3)), (4, .int (iI a4))] := hl
  have hP : gWd D (rwT k ad) (va_up v 23 (v 23)) (va_up (va_up (va_up (va_up (va_up (va_up (va_up (va_up f 20 (f 20)) 21 (f 21)) 22 (f 22)) 23 (f 23)) 24 (f 24)) 25 (f 25)) 26 (f 26)) 27 (f 27)) g s.heap := by rw [va_id, va_id, va_id, va_id, va_id, va_id, va_id, va_id, va_id]; exact hP
  refine lv_aload_n hx hb dX7_start_0 rfl (lv_at hl 0 rfl) ?_
  refine rwG_tries_many C hP mF_X7_36 dX7_start_1 ?_
  show W p l e (gRm 0 0) s m args below meth c _ _ 0 0 Q (F0 m 4 ls [.int (iI (v 23))])
  have r_1 : 0 ≤ (v 23) ∧ (v 23) ≤ 300 := hok.1 23
  refine lv_istore (lv' := [(5, .int (iI (v 23))), (0, .ref (ad 30)), (1, .int (iI a1)), (2, .int (iI a2)), (3, .int (iI a3)), (4, .int (iI a4))]) hx hb dX7_start_4 hl (by decide) rfl (fun ls hl => ?_)
  refine lv_aload_n hx hb dX7_start_6 rfl (lv_at hl 1 rfl) ?_
  refine rwG_tries_climber C hP mF_X7_9 dX7_start_7 ?_
  refine lv_iload hx hb dX7_start_10 (lv_at hl 0 rfl) ?_
  refine lv_iload_n hx hb dX7_start_12 rfl (lv_at hl 2 rfl) ?_
  refine rwS_tries_climber (f1 := (va_up (va_up (va_up (va_up (va_up (va_up (va_up (va_up f 20 (u1 (f 20) (v 23) a1)) 21 (f 21)) 22 (f 22)) 23 (f 23)) 24 (f 24)) 25 (f 25)) 26 (f 26)) 27 (f 27))) C hP hD hS (by omega) (by omega) (by omega) rfl (Or.inr (gF_up (V := rwV) (F := rwF) (gF_up (V := rwV) (F := rwF) (gF_up (V := rwV) (F := rwF) (gF_up (V := rwV) (F := rwF) (gF_up (V := rwV) (F := rwF) (gF_up (V := rwV) (F := rwF) (gF_up (V := rwV) (F := rwF) (gF_up (V := rwV) (F := rwF) (gR_up (V := rwV) (F := rwF) ⟨hok.1, hok.2⟩ 23 (hP.2.1 23)) 20 (u1_rng (hP.2.2 20) (show 0 ≤ a1 ∧ a1 ≤ 15 from (by omega)))) 21 (hP.2.2 21)) 22 (hP.2.2 22)) 23 (hP.2.2 23)) 24 (hP.2.2 24)) 25 (hP.2.2 25)) 26 (hP.2.2 26)) 27 (hP.2.2 27))) dX7_start_13 (fun H locs hP hS => ?_)
  refine lv_aload_n hx hb dX7_start_14 rfl (lv_at hl 1 rfl) ?_
  refine rwG_tries_round C hP mF_X7_15 dX7_start_15 ?_
  refine lv_iload hx hb dX7_start_18 (lv_at hl 0 rfl) ?_
  refine lv_iload_n hx hb dX7_start_20 rfl (lv_at hl 3 rfl) ?_
  refine rwS_tries_round (f1 := (va_up (va_up (va_up (va_up (va_up (va_up (va_up (va_up f 20 (u1 (f 20) (v 23) a1)) 21 (u1 (f 21) (v 23) a2)) 22 (f 22)) 23 (f 23)) 24 (f 24)) 25 (f 25)) 26 (f 26)) 27 (f 27))) C hP hD hS (by omega) (by omega) (by omega) rfl (Or.inr (gF_up (V := rwV) (F := rwF) (gF_up (V := rwV) (F := rwF) (gF_up (V := rwV) (F := rwF) (gF_up (V := rwV) (F := rwF) (gF_up (V := rwV) (F := rwF) (gF_up (V := rwV) (F := rwF) (gF_up (V := rwV) (F := rwF) (gF_up (V := rwV) (F := rwF) (gR_up (V := rwV) (F := rwF) ⟨hok.1, hok.2⟩ 23 (hP.2.1 23)) 20 (hP.2.2 20)) 21 (u1_rng (hP.2.2 21) (show 0 ≤ a2 ∧ a2 ≤ 3 from (by omega)))) 22 (hP.2.2 22)) 23 (hP.2.2 23)) 24 (hP.2.2 24)) 25 (hP.2.2 25)) 26 (hP.2.2 26)) 27 (hP.2.2 27))) dX7_start_21 (fun H locs hP hS => ?_)
  refine lv_aload_n hx hb dX7_start_22 rfl (lv_at hl 1 rfl) ?_
  refine rwG_tries_route C hP mF_X7_18 dX7_start_23 ?_
  refine lv_iload hx hb dX7_start_26 (lv_at hl 0 rfl) ?_
  refine lv_iload_n hx hb dX7_start_28 rfl (lv_at hl 4 rfl) ?_
  refine rwS_tries_route (f1 := (va_up (va_up (va_up (va_up (va_up (va_up (va_up (va_up f 20 (u1 (f 20) (v 23) a1)) 21 (u1 (f 21) (v 23) a2)) 22 (u1 (f 22) (v 23) a3)) 23 (f 23)) 24 (f 24)) 25 (f 25)) 26 (f 26)) 27 (f 27))) C hP hD hS (by omega) (by omega) (by omega) rfl (Or.inr (gF_up (V := rwV) (F := rwF) (gF_up (V := rwV) (F := rwF) (gF_up (V := rwV) (F := rwF) (gF_up (V := rwV) (F := rwF) (gF_up (V := rwV) (F := rwF) (gF_up (V := rwV) (F := rwF) (gF_up (V := rwV) (F := rwF) (gF_up (V := rwV) (F := rwF) (gR_up (V := rwV) (F := rwF) ⟨hok.1, hok.2⟩ 23 (hP.2.1 23)) 20 (hP.2.2 20)) 21 (hP.2.2 21)) 22 (u1_rng (hP.2.2 22) (show 0 ≤ a3 ∧ a3 ≤ 4 from (by omega)))) 23 (hP.2.2 23)) 24 (hP.2.2 24)) 25 (hP.2.2 25)) 26 (hP.2.2 26)) 27 (hP.2.2 27))) dX7_start_29 (fun H locs hP hS => ?_)
  refine lv_aload_n hx hb dX7_start_30 rfl (lv_at hl 1 rfl) ?_
  refine rwG_tries_begun C hP mF_X7_21 dX7_start_31 ?_
  refine lv_iload hx hb dX7_start_34 (lv_at hl 0 rfl) ?_
  refine lv_iload hx hb dX7_start_36 (lv_at hl 5 rfl) ?_
  refine rwS_tries_begun (f1 := (va_up (va_up (va_up (va_up (va_up (va_up (va_up (va_up f 20 (u1 (f 20) (v 23) a1)) 21 (u1 (f 21) (v 23) a2)) 22 (u1 (f 22) (v 23) a3)) 23 (u1 (f 23) (v 23) a4)) 24 (f 24)) 25 (f 25)) 26 (f 26)) 27 (f 27))) C hP hD hS (by omega) (by omega) (by omega) rfl (Or.inr (gF_up (V := rwV) (F := rwF) (gF_up (V := rwV) (F := rwF) (gF_up (V := rwV) (F := rwF) (gF_up (V := rwV) (F := rwF) (gF_up (V := rwV) (F := rwF) (gF_up (V := rwV) (F := rwF) (gF_up (V := rwV) (F := rwF) (gF_up (V := rwV) (F := rwF) (gR_up (V := rwV) (F := rwF) ⟨hok.1, hok.2⟩ 23 (hP.2.1 23)) 20 (hP.2.2 20)) 21 (hP.2.2 21)) 22 (hP.2.2 22)) 23 (u1_rng (hP.2.2 23) (show 0 ≤ a4 ∧ a4 ≤ 1000000 from (by omega)))) 24 (hP.2.2 24)) 25 (hP.2.2 25)) 26 (hP.2.2 26)) 27 (hP.2.2 27))) dX7_start_38 (fun H locs hP hS => ?_)
  refine lv_aload_n hx hb dX7_start_39 rfl (lv_at hl 1 rfl) ?_
  refine rwG_tries_ended C hP mF_X7_24 dX7_start_40 ?_
  refine lv_iload hx hb dX7_start_43 (lv_at hl 0 rfl) ?_
  refine lv_iconst (v := iI (-1)) hx hb dX7_start_45 rfl ?_
  refine rwS_tries_ended (f1 := (va_up (va_up (va_up (va_up (va_up (va_up (va_up (va_up f 20 (u1 (f 20) (v 23) a1)) 21 (u1 (f 21) (v 23) a2)) 22 (u1 (f 22) (v 23) a3)) 23 (u1 (f 23) (v 23) a4)) 24 (u1 (f 24) (v 23) (-1))) 25 (f 25)) 26 (f 26)) 27 (f 27))) C hP hD hS (by omega) (by omega) (by decide) rfl (Or.inr (gF_up (V := rwV) (F := rwF) (gF_up (V := rwV) (F := rwF) (gF_up (V := rwV) (F := rwF) (gF_up (V := rwV) (F := rwF) (gF_up (V := rwV) (F := rwF) (gF_up (V := rwV) (F := rwF) (gF_up (V := rwV) (F := rwF) (gF_up (V := rwV) (F := rwF) (gR_up (V := rwV) (F := rwF) ⟨hok.1, hok.2⟩ 23 (hP.2.1 23)) 20 (hP.2.2 20)) 21 (hP.2.2 21)) 22 (hP.2.2 22)) 23 (hP.2.2 23)) 24 (u1_rng (hP.2.2 24) (show (-1) ≤ (-1) ∧ (-1) ≤ 1000999 from (by decide)))) 25 (hP.2.2 25)) 26 (hP.2.2 26)) 27 (hP.2.2 27))) dX7_start_46 (fun H locs hP hS => ?_)
  refine lv_aload_n hx hb dX7_start_47 rfl (lv_at hl 1 rfl) ?_
  refine rwG_tries_hold C hP mF_X7_27 dX7_start_48 ?_
  refine lv_iload hx hb dX7_start_51 (lv_at hl 0 rfl) ?_
  refine lv_iconst (v := iI 0) hx hb dX7_start_53 rfl ?_
  refine rwS_tries_hold (f1 := (va_up (va_up (va_up (va_up (va_up (va_up (va_up (va_up f 20 (u1 (f 20) (v 23) a1)) 21 (u1 (f 21) (v 23) a2)) 22 (u1 (f 22) (v 23) a3)) 23 (u1 (f 23) (v 23) a4)) 24 (u1 (f 24) (v 23) (-1))) 25 (u1 (f 25) (v 23) 0)) 26 (f 26)) 27 (f 27))) C hP hD hS (by omega) (by omega) (by decide) rfl (Or.inr (gF_up (V := rwV) (F := rwF) (gF_up (V := rwV) (F := rwF) (gF_up (V := rwV) (F := rwF) (gF_up (V := rwV) (F := rwF) (gF_up (V := rwV) (F := rwF) (gF_up (V := rwV) (F := rwF) (gF_up (V := rwV) (F := rwF) (gF_up (V := rwV) (F := rwF) (gR_up (V := rwV) (F := rwF) ⟨hok.1, hok.2⟩ 23 (hP.2.1 23)) 20 (hP.2.2 20)) 21 (hP.2.2 21)) 22 (hP.2.2 22)) 23 (hP.2.2 23)) 24 (hP.2.2 24)) 25 (u1_rng (hP.2.2 25) (show 0 ≤ 0 ∧ 0 ≤ 60 from (by decide)))) 26 (hP.2.2 26)) 27 (hP.2.2 27))) dX7_start_54 (fun H locs hP hS => ?_)
  refine lv_aload_n hx hb dX7_start_55 rfl (lv_at hl 1 rfl) ?_
  refine rwG_tries_how C hP mF_X7_30 dX7_start_56 ?_
  refine lv_iload hx hb dX7_start_59 (lv_at hl 0 rfl) ?_
  refine lv_iconst (v := iI 0) hx hb dX7_start_61 rfl ?_
  refine rwS_tries_how (f1 := (va_up (va_up (va_up (va_up (va_up (va_up (va_up (va_up f 20 (u1 (f 20) (v 23) a1)) 21 (u1 (f 21) (v 23) a2)) 22 (u1 (f 22) (v 23) a3)) 23 (u1 (f 23) (v 23) a4)) 24 (u1 (f 24) (v 23) (-1))) 25 (u1 (f 25) (v 23) 0)) 26 (u1 (f 26) (v 23) 0)) 27 (f 27))) C hP hD hS (by omega) (by omega) (by decide) rfl (Or.inr (gF_up (V := rwV) (F := rwF) (gF_up (V := rwV) (F := rwF) (gF_up (V := rwV) (F := rwF) (gF_up (V := rwV) (F := rwF) (gF_up (V := rwV) (F := rwF) (gF_up (V := rwV) (F := rwF) (gF_up (V := rwV) (F := rwF) (gF_up (V := rwV) (F := rwF) (gR_up (V := rwV) (F := rwF) ⟨hok.1, hok.2⟩ 23 (hP.2.1 23)) 20 (hP.2.2 20)) 21 (hP.2.2 21)) 22 (hP.2.2 22)) 23 (hP.2.2 23)) 24 (hP.2.2 24)) 25 (hP.2.2 25)) 26 (u1_rng (hP.2.2 26) (show 0 ≤ 0 ∧ 0 ≤ 4 from (by decide)))) 27 (hP.2.2 27))) dX7_start_62 (fun H locs hP hS => ?_)
  refine lv_aload_n hx hb dX7_start_63 rfl (lv_at hl 1 rfl) ?_
  refine rwG_tries_openNext C hP mF_X7_33 dX7_start_64 ?_
  refine lv_iload_n hx hb dX7_start_67 rfl (lv_at hl 2 rfl) ?_
  refine lv_iload hx hb dX7_start_68 (lv_at hl 0 rfl) ?_
  refine lv_iconst (v := iI 1) hx hb dX7_start_70 rfl ?_
  refine gi_add (z := ((v 23) + 1)) hx hb dX7_start_71 rfl ?_
  refine rwS_tries_openNext (f1 := (va_up (va_up (va_up (va_up (va_up (va_up (va_up (va_up f 20 (u1 (f 20) (v 23) a1)) 21 (u1 (f 21) (v 23) a2)) 22 (u1 (f 22) (v 23) a3)) 23 (u1 (f 23) (v 23) a4)) 24 (u1 (f 24) (v 23) (-1))) 25 (u1 (f 25) (v 23) 0)) 26 (u1 (f 26) (v 23) 0)) 27 (u1 (f 27) a1 ((v 23) + 1)))) C hP hD hS (by omega) (by omega) (by omega) rfl (Or.inr (gF_up (V := rwV) (F := rwF) (gF_up (V := rwV) (F := rwF) (gF_up (V := rwV) (F := rwF) (gF_up (V := rwV) (F := rwF) (gF_up (V := rwV) (F := rwF) (gF_up (V := rwV) (F := rwF) (gF_up (V := rwV) (F := rwF) (gF_up (V := rwV) (F := rwF) (gR_up (V := rwV) (F := rwF) ⟨hok.1, hok.2⟩ 23 (hP.2.1 23)) 20 (hP.2.2 20)) 21 (hP.2.2 21)) 22 (hP.2.2 22)) 23 (hP.2.2 23)) 24 (hP.2.2 24)) 25 (hP.2.2 25)) 26 (hP.2.2 26)) 27 (u1_rng (hP.2.2 27) (show 0 ≤ ((v 23) + 1) ∧ ((v 23) + 1) ≤ 300 from (by omega))))) dX7_start_72 (fun H locs hP hS => ?_)
  refine lv_aload_n hx hb dX7_start_73 rfl (lv_at hl 1 rfl) ?_
  refine lv_dup hx hb dX7_start_74 rfl ?_
  refine rwG_tries_many C hP mF_X7_36 dX7_start_75 ?_
  show W p l e (gRm 0 0) s m args below meth c _ _ 0 0 Q (F0 m 78 ls [.int (iI (v 23)), .ref (ad 30)])
  refine lv_iconst (v := iI 1) hx hb dX7_start_78 rfl ?_
  refine gi_add (z := ((v 23) + 1)) hx hb dX7_start_79 rfl ?_
  refine rwP_tries_many (v1 := (va_up v 23 ((v 23) + 1))) C hP hD hS mF_X7_36 (by omega) rfl (Or.inr (gF_up (V := rwV) (F := rwF) (gF_up (V := rwV) (F := rwF) (gF_up (V := rwV) (F := rwF) (gF_up (V := rwV) (F := rwF) (gF_up (V := rwV) (F := rwF) (gF_up (V := rwV) (F := rwF) (gF_up (V := rwV) (F := rwF) (gF_up (V := rwV) (F := rwF) (gR_up (V := rwV) (F := rwF) ⟨hok.1, hok.2⟩ 23 (show 0 ≤ ((v 23) + 1) ∧ ((v 23) + 1) ≤ 300 from by omega)) 20 (hP.2.2 20)) 21 (hP.2.2 21)) 22 (hP.2.2 22)) 23 (hP.2.2 23)) 24 (hP.2.2 24)) 25 (hP.2.2 25)) 26 (hP.2.2 26)) 27 (hP.2.2 27))) dX7_start_80 (fun H locs hP hS => ?_)
  refine lv_iload hx hb dX7_start_83 (lv_at hl 0 rfl) ?_
  exact g_iret hQ C hr hlocks hP hS dX7_start_85 ⟨(v 23), rfl, rfl, rfl, rfl, rfl⟩

set_option maxHeartbeats 4000000 in
set_option maxRecDepth 100000 in
theorem c_X7_finish (l : Launch) (D : va_G) (k : Nat → ClassId) (A : Nat → Prop) (ad : Nat → Nat) (hD : rwD A k ad) (v : gV) (f g : gF) (a1 : Int) (a2 : Int) (a3 : Int) (h_a1 : inR a1) (h_a2 : inR a2) (h_a3 : inR a3) (h1 : 0 ≤ a1 ∧ a1 ≤ 299) (h2 : (-1) ≤ a2 ∧ a2 ≤ 1000999) (h3 : 0 ≤ a3 ∧ a3 ≤ 4) : GM l D k A (rwT k ad) yX7_finish cX7_finish 4 none 0 0 [.ref (ad 30), .int (iI a1), .int (iI a2), .int (iI a3)] v f g (fun r v1 f1 g1 => r = none ∧ v = v1 ∧ (va_up (va_up (va_up f 24 (u1 (f 24) a1 a2)) 26 (u1 (f 26) a1 a3)) 27 (u1 (f 27) ((f 20) a1) 0)) = f1 ∧ g = g1) := by
  refine GM.of (by decide) (Nat.le_of_ble_eq_true rfl) ?_
  intro p e s m args below meth c Q ls hQ C hml hr hlocks hP hl
  have hx := C.1
  have hb := C.2.1
  have hok := hP.2
  have hS : va_S A s.heap s.heap [] := va_S.rf
  have hl : lv_has ls 4 [(0, .ref (ad 30)), (1, .int (iI a1)), (2, .int (iI a2)), (3, .int (iI a3))] := hl
  have hP : gWd D (rwT k ad) v (va_up (va_up (va_up f 24 (f 24)) 26 (f 26)) 27 (f 27)) g s.heap := by rw [va_id, va_id, va_id]; exact hP
  refine lv_aload_n hx hb dX7_finish_0 rfl (lv_at hl 0 rfl) ?_
  refine rwG_tries_ended C hP mF_X7_24 dX7_finish_1 ?_
  refine lv_iload_n hx hb dX7_finish_4 rfl (lv_at hl 1 rfl) ?_
  refine lv_iload_n hx hb dX7_finish_5 rfl (lv_at hl 2 rfl) ?_
  refine rwS_tries_ended (f1 := (va_up (va_up (va_up f 24 (u1 (f 24) a1 a2)) 26 (f 26)) 27 (f 27))) C hP hD hS (by omega) (by omega) (by omega) rfl (Or.inr (gF_up (V := rwV) (F := rwF) (gF_up (V := rwV) (F := rwF) (gF_up (V := rwV) (F := rwF) ⟨hok.1, hok.2⟩ 24 (u1_rng (hP.2.2 24) (show (-1) ≤ a2 ∧ a2 ≤ 1000999 from (by omega)))) 26 (hP.2.2 26)) 27 (hP.2.2 27))) dX7_finish_6 (fun H locs hP hS => ?_)
  refine lv_aload_n hx hb dX7_finish_7 rfl (lv_at hl 0 rfl) ?_
  refine rwG_tries_how C hP mF_X7_30 dX7_finish_8 ?_
  refine lv_iload_n hx hb dX7_finish_11 rfl (lv_at hl 1 rfl) ?_
  refine lv_iload_n hx hb dX7_finish_12 rfl (lv_at hl 3 rfl) ?_
  refine rwS_tries_how (f1 := (va_up (va_up (va_up f 24 (u1 (f 24) a1 a2)) 26 (u1 (f 26) a1 a3)) 27 (f 27))) C hP hD hS (by omega) (by omega) (by omega) rfl (Or.inr (gF_up (V := rwV) (F := rwF) (gF_up (V := rwV) (F := rwF) (gF_up (V := rwV) (F := rwF) ⟨hok.1, hok.2⟩ 24 (hP.2.2 24)) 26 (u1_rng (hP.2.2 26) (show 0 ≤ a3 ∧ a3 ≤ 4 from (by omega)))) 27 (hP.2.2 27))) dX7_finish_13 (fun H locs hP hS => ?_)
  refine lv_aload_n hx hb dX7_finish_14 rfl (lv_at hl 0 rfl) ?_
  refine rwG_tries_openNext C hP mF_X7_33 dX7_finish_15 ?_
  refine lv_aload_n hx hb dX7_finish_18 rfl (lv_at hl 0 rfl) ?_
  refine rwG_tries_climber C hP mF_X7_9 dX7_finish_19 ?_
  refine lv_iload_n hx hb dX7_finish_22 rfl (lv_at hl 1 rfl) ?_
  refine rwL_tries_climber C hP (by omega) (by omega) dX7_finish_23 ?_
  show W p l e (gRm 0 0) s m args below meth c _ _ 0 0 Q (F0 m 24 ls [.int (iI (f 20 a1)), .ref (ad 38)])
  have r_1 : 0 ≤ (f 20 a1) ∧ (f 20 a1) ≤ 15 := hP.2.2 20 a1
  refine lv_iconst (v := iI 0) hx hb dX7_finish_24 rfl ?_
  refine rwS_tries_openNext (f1 := (va_up (va_up (va_up f 24 (u1 (f 24) a1 a2)) 26 (u1 (f 26) a1 a3)) 27 (u1 (f 27) (f 20 a1) 0))) C hP hD hS (by omega) (by omega) (by decide) rfl (Or.inr (gF_up (V := rwV) (F := rwF) (gF_up (V := rwV) (F := rwF) (gF_up (V := rwV) (F := rwF) ⟨hok.1, hok.2⟩ 24 (hP.2.2 24)) 26 (hP.2.2 26)) 27 (u1_rng (hP.2.2 27) (show 0 ≤ 0 ∧ 0 ≤ 300 from (by decide))))) dX7_finish_25 (fun H locs hP hS => ?_)
  exact g_vret hQ C hr hlocks hP hS dX7_finish_26 ⟨rfl, rfl, (by rw [show ((u1 (f 27) ((f 20) a1) 0) : Int → Int) = (u1 (f 27) (f 20 a1) 0) from rfl]), rfl⟩

set_option maxHeartbeats 4000000 in
set_option maxRecDepth 100000 in
theorem c_X7_isOf (l : Launch) (D : va_G) (k : Nat → ClassId) (A : Nat → Prop) (ad : Nat → Nat) (hD : rwD A k ad) (v : gV) (f g : gF) (a1 : Int) (a2 : Int) (a3 : Int) (a4 : Int) (h_a1 : inR a1) (h_a2 : inR a2) (h_a3 : inR a3) (h_a4 : inR a4) (h1 : 0 ≤ a1 ∧ a1 ≤ 299) : GM l D k A (rwT k ad) yX7_isOf cX7_isOf 5 (some .boolean) 0 0 [.ref (ad 30), .int (iI a1), .int (iI a2), .int (iI a3), .int (iI a4)] v f g (fun r v1 f1 g1 => ∃ (z : Int), r = some (.int (iI z)) ∧ v = v1 ∧ f = f1 ∧ g = g1 ∧ (z = (if (f 20) a1 = a2 ∧ (f 21) a1 = a3 ∧ (f 22) a1 = a4 then 1 else 0))) := by
  refine GM.of (by decide) (Nat.le_of_ble_eq_true rfl) ?_
  intro p e s m args below meth c Q ls hQ C hml hr hlocks hP hl
  have hx := C.1
  have hb := C.2.1
  have hok := hP.2
  have hS : va_S A s.heap s.heap [] := va_S.rf
  have hl : lv_has ls 5 [(0, .ref (ad 30)), (1, .int (iI a1)), (2, .int (iI a2)), (3, .int (iI a3)), (4, .int (iI a4))] := hl
  refine lv_aload_n hx hb dX7_isOf_0 rfl (lv_at hl 0 rfl) ?_
  refine rwG_tries_climber C hP mF_X7_9 dX7_isOf_1 ?_
  refine lv_iload_n hx hb dX7_isOf_4 rfl (lv_at hl 1 rfl) ?_
  refine rwL_tries_climber C hP (by omega) (by omega) dX7_isOf_5 ?_
  have r_1 : 0 ≤ (f 20 a1) ∧ (f 20 a1) ≤ 15 := hP.2.2 20 a1
  refine lv_iload_n hx hb dX7_isOf_6 rfl (lv_at hl 2 rfl) ?_
  refine gi_cne (tgt := 35) hx hb dX7_isOf_7 (by decide) (by omega) (by omega) (fun c_2 => ?_) (fun c_2 => ?_)
  · refine lv_iconst (v := iI 0) hx hb dX7_isOf_35 rfl ?_
    exact g_zret hQ C hr hlocks (by decide) hP hS dX7_isOf_36 ⟨0, rfl, rfl, rfl, rfl, (by first | omega | ((repeat' split) <;> omega))⟩
  · refine lv_aload_n hx hb dX7_isOf_10 rfl (lv_at hl 0 rfl) ?_
    refine rwG_tries_round C hP mF_X7_15 dX7_isOf_11 ?_
    refine lv_iload_n hx hb dX7_isOf_14 rfl (lv_at hl 1 rfl) ?_
    refine rwL_tries_round C hP (by omega) (by omega) dX7_isOf_15 ?_
    have r_3 : 0 ≤ (f 21 a1) ∧ (f 21 a1) ≤ 3 := hP.2.2 21 a1
    refine lv_iload_n hx hb dX7_isOf_16 rfl (lv_at hl 3 rfl) ?_
    refine gi_cne (tgt := 35) hx hb dX7_isOf_17 (by decide) (by omega) (by omega) (fun c_4 => ?_) (fun c_4 => ?_)
    · refine lv_iconst (v := iI 0) hx hb dX7_isOf_35 rfl ?_
      exact g_zret hQ C hr hlocks (by decide) hP hS dX7_isOf_36 ⟨0, rfl, rfl, rfl, rfl, (by first | omega | ((repeat' split) <;> omega))⟩
    · refine lv_aload_n hx hb dX7_isOf_20 rfl (lv_at hl 0 rfl) ?_
      refine rwG_tries_route C hP mF_X7_18 dX7_isOf_21 ?_
      refine lv_iload_n hx hb dX7_isOf_24 rfl (lv_at hl 1 rfl) ?_
      refine rwL_tries_route C hP (by omega) (by omega) dX7_isOf_25 ?_
      have r_5 : 0 ≤ (f 22 a1) ∧ (f 22 a1) ≤ 4 := hP.2.2 22 a1
      refine lv_iload hx hb dX7_isOf_26 (lv_at hl 4 rfl) ?_
      refine gi_cne (tgt := 35) hx hb dX7_isOf_28 (by decide) (by omega) (by omega) (fun c_6 => ?_) (fun c_6 => ?_)
      · refine lv_iconst (v := iI 0) hx hb dX7_isOf_35 rfl ?_
        exact g_zret hQ C hr hlocks (by decide) hP hS dX7_isOf_36 ⟨0, rfl, rfl, rfl, rfl, (by first | omega | ((repeat' split) <;> omega))⟩
      · refine lv_iconst (v := iI 1) hx hb dX7_isOf_31 rfl ?_
        refine lv_goto (tgt := 36) hx hb dX7_isOf_32 (by decide) ?_
        exact g_zret hQ C hr hlocks (by decide) hP hS dX7_isOf_36 ⟨1, rfl, rfl, rfl, rfl, (by first | omega | ((repeat' split) <;> omega))⟩

set_option maxHeartbeats 4000000 in
set_option maxRecDepth 100000 in
theorem c_X0_clear (l : Launch) (D : va_G) (k : Nat → ClassId) (A : Nat → Prop) (ad : Nat → Nat) (hD : rwD A k ad) (v : gV) (f g : gF) : GM l D k A (rwT k ad) yX0_clear cX0_clear 1 none 0 0 [.ref (ad 39)] v f g (fun r v1 f1 g1 => r = none ∧ (va_up v 24 0) = v1 ∧ f = f1 ∧ g = g1) := by
  refine GM.of (by decide) (Nat.le_of_ble_eq_true rfl) ?_
  intro p e s m args below meth c Q ls hQ C hml hr hlocks hP hl
  have hx := C.1
  have hb := C.2.1
  have hok := hP.2
  have hS : va_S A s.heap s.heap [] := va_S.rf
  have hl : lv_has ls 1 [(0, .ref (ad 39))] := hl
  have hP : gWd D (rwT k ad) (va_up v 24 (v 24)) f g s.heap := by rw [va_id]; exact hP
  refine lv_aload_n hx hb dX0_clear_0 rfl (lv_at hl 0 rfl) ?_
  refine lv_iconst (v := iI 0) hx hb dX0_clear_1 rfl ?_
  refine rwP_appeals_many (v1 := (va_up v 24 0)) C hP hD hS mF_X0_21 (by decide) rfl (Or.inr (gR_up (V := rwV) (F := rwF) ⟨hok.1, hok.2⟩ 24 (show 0 ≤ 0 ∧ 0 ≤ 40 from by decide))) dX0_clear_2 (fun H locs hP hS => ?_)
  exact g_vret hQ C hr hlocks hP hS dX0_clear_5 ⟨rfl, rfl, rfl, rfl⟩

set_option maxHeartbeats 4000000 in
set_option maxRecDepth 100000 in
theorem c_X0_put (l : Launch) (D : va_G) (k : Nat → ClassId) (A : Nat → Prop) (ad : Nat → Nat) (hD : rwD A k ad) (v : gV) (f g : gF) (a1 : Int) (a2 : Int) (a3 : Int) (h_a1 : inR a1) (h_a2 : inR a2) (h_a3 : inR a3) (h0 : (v 24) < 40) (h1 : 0 ≤ a1 ∧ a1 ≤ 299) (h2 : 0 ≤ a2 ∧ a2 ≤ 60) (h3 : 0 ≤ a3 ∧ a3 ≤ 999) : GM l D k A (rwT k ad) yX0_put cX0_put 4 none 0 0 [.ref (ad 39), .int (iI a1), .int (iI a2), .int (iI a3)] v f g (fun r v1 f1 g1 => r = none ∧ (va_up v 24 ((v 24) + 1)) = v1 ∧ (va_up (va_up (va_up f 28 (u1 (f 28) (v 24) a1)) 29 (u1 (f 29) (v 24) a2)) 30 (u1 (f 30) (v 24) a3)) = f1 ∧ g = g1) := by
  refine GM.of (by decide) (Nat.le_of_ble_eq_true rfl) ?_
  intro p e s m args below meth c Q ls hQ C hml hr hlocks hP hl
  have hx := C.1
  have hb := C.2.1
  have hok := hP.2
  have hS : va_S A s.heap s.heap [] := va_S.rf
  have hl : lv_has ls 4 [(0, .ref (ad 39)), (1, .int (iI a1)), (2, .int (iI a2)), (3, .int (iI a3))] := hl
  have hP : gWd D (rwT k ad) (va_up v 24 (v 24)) (va_up (va_up (va_up f 28 (f 28)) 29 (f 29)) 30 (f 30)) g s.heap := by rw [va_id, va_id, va_id, va_id]; exact hP
  refine lv_aload_n hx hb dX0_put_0 rfl (lv_at hl 0 rfl) ?_
  refine rwG_appeals_number C hP mF_X0_9 dX0_put_1 ?_
  refine lv_aload_n hx hb dX0_put_4 rfl (lv_at hl 0 rfl) ?_
  refine rwG_appeals_many C hP mF_X0_21 dX0_put_5 ?_
  show W p l e (gRm 0 0) s m args below meth c _ _ 0 0 Q (F0 m 8 ls [.int (iI (v 24)), .ref (ad 40)])
  have r_1 : 0 ≤ (v 24) ∧ (v 24) ≤ 40 := hok.1 24
  refine lv_iload_n hx hb dX0_put_8 rfl (lv_at hl 1 rfl) ?_
  refine rwS_appeals_number (f1 := (va_up (va_up (va_up f 28 (u1 (f 28) (v 24) a1)) 29 (f 29)) 30 (f 30))) C hP hD hS (by omega) (by omega) (by omega) rfl (Or.inr (gF_up (V := rwV) (F := rwF) (gF_up (V := rwV) (F := rwF) (gF_up (V := rwV) (F := rwF) (gR_up (V := rwV) (F := rwF) ⟨hok.1, hok.2⟩ 24 (hP.2.1 24)) 28 (u1_rng (hP.2.2 28) (show 0 ≤ a1 ∧ a1 ≤ 299 from (by omega)))) 29 (hP.2.2 29)) 30 (hP.2.2 30))) dX0_put_9 (fun H locs hP hS => ?_)
  refine lv_aload_n hx hb dX0_put_10 rfl (lv_at hl 0 rfl) ?_
  refine rwG_appeals_hold C hP mF_X0_15 dX0_put_11 ?_
  refine lv_aload_n hx hb dX0_put_14 rfl (lv_at hl 0 rfl) ?_
  refine rwG_appeals_many C hP mF_X0_21 dX0_put_15 ?_
  show W p l e (gRm 0 0) s m args below meth c _ _ 0 0 Q (F0 m 18 ls [.int (iI (v 24)), .ref (ad 41)])
  refine lv_iload_n hx hb dX0_put_18 rfl (lv_at hl 2 rfl) ?_
  refine rwS_appeals_hold (f1 := (va_up (va_up (va_up f 28 (u1 (f 28) (v 24) a1)) 29 (u1 (f 29) (v 24) a2)) 30 (f 30))) C hP hD hS (by omega) (by omega) (by omega) rfl (Or.inr (gF_up (V := rwV) (F := rwF) (gF_up (V := rwV) (F := rwF) (gF_up (V := rwV) (F := rwF) (gR_up (V := rwV) (F := rwF) ⟨hok.1, hok.2⟩ 24 (hP.2.1 24)) 28 (hP.2.2 28)) 29 (u1_rng (hP.2.2 29) (show 0 ≤ a2 ∧ a2 ≤ 60 from (by omega)))) 30 (hP.2.2 30))) dX0_put_19 (fun H locs hP hS => ?_)
  refine lv_aload_n hx hb dX0_put_20 rfl (lv_at hl 0 rfl) ?_
  refine rwG_appeals_day C hP mF_X0_18 dX0_put_21 ?_
  refine lv_aload_n hx hb dX0_put_24 rfl (lv_at hl 0 rfl) ?_
  refine rwG_appeals_many C hP mF_X0_21 dX0_put_25 ?_
  show W p l e (gRm 0 0) s m args below meth c _ _ 0 0 Q (F0 m 28 ls [.int (iI (v 24)), .ref (ad 42)])
  refine lv_iload_n hx hb dX0_put_28 rfl (lv_at hl 3 rfl) ?_
  refine rwS_appeals_day (f1 := (va_up (va_up (va_up f 28 (u1 (f 28) (v 24) a1)) 29 (u1 (f 29) (v 24) a2)) 30 (u1 (f 30) (v 24) a3))) C hP hD hS (by omega) (by omega) (by omega) rfl (Or.inr (gF_up (V := rwV) (F := rwF) (gF_up (V := rwV) (F := rwF) (gF_up (V := rwV) (F := rwF) (gR_up (V := rwV) (F := rwF) ⟨hok.1, hok.2⟩ 24 (hP.2.1 24)) 28 (hP.2.2 28)) 29 (hP.2.2 29)) 30 (u1_rng (hP.2.2 30) (show 0 ≤ a3 ∧ a3 ≤ 999 from (by omega))))) dX0_put_29 (fun H locs hP hS => ?_)
  refine lv_aload_n hx hb dX0_put_30 rfl (lv_at hl 0 rfl) ?_
  refine lv_dup hx hb dX0_put_31 rfl ?_
  refine rwG_appeals_many C hP mF_X0_21 dX0_put_32 ?_
  show W p l e (gRm 0 0) s m args below meth c _ _ 0 0 Q (F0 m 35 ls [.int (iI (v 24)), .ref (ad 39)])
  refine lv_iconst (v := iI 1) hx hb dX0_put_35 rfl ?_
  refine gi_add (z := ((v 24) + 1)) hx hb dX0_put_36 rfl ?_
  refine rwP_appeals_many (v1 := (va_up v 24 ((v 24) + 1))) C hP hD hS mF_X0_21 (by omega) rfl (Or.inr (gF_up (V := rwV) (F := rwF) (gF_up (V := rwV) (F := rwF) (gF_up (V := rwV) (F := rwF) (gR_up (V := rwV) (F := rwF) ⟨hok.1, hok.2⟩ 24 (show 0 ≤ ((v 24) + 1) ∧ ((v 24) + 1) ≤ 40 from by omega)) 28 (hP.2.2 28)) 29 (hP.2.2 29)) 30 (hP.2.2 30))) dX0_put_37 (fun H locs hP hS => ?_)
  exact g_vret hQ C hr hlocks hP hS dX0_put_40 ⟨rfl, rfl, rfl, rfl⟩

set_option maxHeartbeats 4000000 in
set_option maxRecDepth 100000 in
theorem c_X9_clear (l : Launch) (D : va_G) (k : Nat → ClassId) (A : Nat → Prop) (ad : Nat → Nat) (hD : rwD A k ad) (v : gV) (f g : gF) : GM l D k A (rwT k ad) yX9_clear cX9_clear 1 none 1 23 [.ref (ad 43)] v f g (fun r v1 f1 g1 => r = none ∧ v = v1 ∧ (va_up f 31 (gfill (f 31) 16 0)) = f1 ∧ g = g1) := by
  refine GM.of (by decide) (Nat.le_of_ble_eq_true rfl) ?_
  intro p e s m args below meth c Q ls hQ C hml hr hlocks hP hl
  have hx := C.1
  have hb := C.2.1
  have hok := hP.2
  have hS : va_S A s.heap s.heap [] := va_S.rf
  have hl : lv_has ls 1 [(0, .ref (ad 43))] := hl
  have hP : gWd D (rwT k ad) v (va_up f 31 (f 31)) g s.heap := by rw [va_id]; exact hP
  refine lv_aload_n hx hb dX9_clear_0 rfl (lv_at hl 0 rfl) ?_
  refine rwG_watch_times C hP mF_X9_9 dX9_clear_1 ?_
  refine lv_iconst (v := iI 0) hx hb dX9_clear_4 rfl ?_
  refine g_cs (As := [.ref (ad 44), .int (iI 0)]) (rest := []) (n := 2) C hml (c_fillI l D k A (rwT k ad) (ad 44) 44 31 16 (fun _ _ _ => rfl) (fun _ _ _ _ => rfl) hD (by decide) v (va_up f 31 (f 31)) g 0 (by decide) (show 0 ≤ 0 ∧ 0 ≤ 20 from (by decide))) mM_X9_21 mS_J7_fill_53178 mN_J7 mC_J7_fill_53178 (by decide +kernel) hP hS (fun _ h => h) ⟨Nat.le_of_ble_eq_true rfl, Nat.le_of_ble_eq_true rfl⟩ ⟨Nat.zero_le _, Nat.zero_le _⟩ hl.1 rfl rfl (Nat.le_of_ble_eq_true rfl) dX9_clear_5 (fun r v1 f1 g1 H locs hq hP _ hS => ?_)
  obtain ⟨rfl, rfl, rfl, rfl⟩ := hq
  show W p l e (gRm 1 23) s m args below meth c _ _ 0 0 Q (F0 m 8 ls [])
  have hP : gWd D (rwT k ad) v (va_up f 31 (gfill (f 31) 16 0)) g H := ⟨hP.1, (gF_up (V := rwV) (F := rwF) ⟨hok.1, hok.2⟩ 31 (hP.2.2 31))⟩
  exact g_vret hQ C hr hlocks hP hS dX9_clear_8 ⟨rfl, rfl, rfl, rfl⟩

set_option maxHeartbeats 4000000 in
set_option maxRecDepth 100000 in
theorem c_X9_latest (l : Launch) (D : va_G) (k : Nat → ClassId) (A : Nat → Prop) (ad : Nat → Nat) (hD : rwD A k ad) (v : gV) (f g : gF) (a1 : Int) (h_a1 : inR a1) (hc : 0 ≤ a1 ∧ a1 ≤ 15) : GM l D k A (rwT k ad) yX9_latest cX9_latest 2 (some .int) 0 0 [.ref (ad 43), .int (iI a1)] v f g (fun r v1 f1 g1 => ∃ (z : Int), r = some (.int (iI z)) ∧ v = v1 ∧ f = f1 ∧ g = g1 ∧ (z = (a1 * 20 + (f 31) a1 - 1)) ∧ (z = a1 * 20 + (f 31) a1 - 1 ∧ 0 ≤ (f 31) a1 ∧ (f 31) a1 ≤ 20)) := by
  refine GM.of (by decide) (Nat.le_of_ble_eq_true rfl) ?_
  intro p e s m args below meth c Q ls hQ C hml hr hlocks hP hl
  have hx := C.1
  have hb := C.2.1
  have hok := hP.2
  have hS : va_S A s.heap s.heap [] := va_S.rf
  have hl : lv_has ls 2 [(0, .ref (ad 43)), (1, .int (iI a1))] := hl
  refine lv_iload_n hx hb dX9_latest_0 rfl (lv_at hl 1 rfl) ?_
  refine lv_bipush (v := iI 20) hx hb dX9_latest_1 (by decide) ?_
  refine gi_mul (z := (a1 * 20)) hx hb dX9_latest_3 rfl ?_
  refine lv_aload_n hx hb dX9_latest_4 rfl (lv_at hl 0 rfl) ?_
  refine rwG_watch_times C hP mF_X9_9 dX9_latest_5 ?_
  refine lv_iload_n hx hb dX9_latest_8 rfl (lv_at hl 1 rfl) ?_
  refine rwL_watch_times C hP (by omega) (by omega) dX9_latest_9 ?_
  have r_1 : 0 ≤ (f 31 a1) ∧ (f 31 a1) ≤ 20 := hP.2.2 31 a1
  refine gi_add (z := ((a1 * 20) + (f 31 a1))) hx hb dX9_latest_10 rfl ?_
  refine lv_iconst (v := iI 1) hx hb dX9_latest_11 rfl ?_
  refine gi_sub (z := (((a1 * 20) + (f 31 a1)) - 1)) hx hb dX9_latest_12 rfl ?_
  exact g_iret hQ C hr hlocks hP hS dX9_latest_13 ⟨(((a1 * 20) + (f 31 a1)) - 1), rfl, rfl, rfl, rfl, (by first | omega | ((repeat' split) <;> omega)), (by first | omega | ((repeat' split) <;> omega))⟩

set_option maxHeartbeats 4000000 in
set_option maxRecDepth 100000 in
theorem x_Ro_zonesCanBe (l : Launch) (D : va_G) (k : Nat → ClassId) (A : Nat → Prop) (ad : Nat → Nat) (hD : rwD A k ad) (v : gV) (f g : gF) (a1 : Int) (a2 : Int) (a3 : Int) (a4 : Int) (h_a1 : inR a1) (h_a2 : inR a2) (h_a3 : inR a3) (h_a4 : inR a4) : GM l D k A (rwT k ad) yX10_zonesCanBe cX10_zonesCanBe 4 (some .boolean) 1 23 [.int (iI a1), .int (iI a2), .int (iI a3), .int (iI a4)] v f g (fun r v1 f1 g1 => ∃ (z : Int), r = some (.int (iI z)) ∧ v = v1 ∧ f = f1 ∧ g = g1 ∧ (z = (if (a2 = 0 ∨ (0 < a2 ∧ a2 ≤ a1)) ∧ (a3 = 0 ∨ (a2 ≠ 0 ∧ a2 < a3 ∧ a3 ≤ a1)) ∧ (a4 = 0 ∨ (a3 ≠ 0 ∧ a3 < a4 ∧ a4 ≤ a1)) then 1 else 0))) := by
  refine GM.of (by decide) (Nat.le_of_ble_eq_true rfl) ?_
  intro p e s m args below meth c Q ls hQ C hml hr hlocks hP hl
  have hx := C.1
  have hb := C.2.1
  have hok := hP.2
  have hS : va_S A s.heap s.heap [] := va_S.rf
  have hl : lv_has ls 4 [(0, .int (iI a1)), (1, .int (iI a2)), (2, .int (iI a3)), (3, .int (iI a4))] := hl
  refine lv_iload_n hx hb dX10_zonesCanBe_0 rfl (lv_at hl 0 rfl) ?_
  refine lv_iload_n hx hb dX10_zonesCanBe_1 rfl (lv_at hl 1 rfl) ?_
  refine lv_iconst (v := iI 0) hx hb dX10_zonesCanBe_2 rfl ?_
  refine lv_iconst (v := iI 1) hx hb dX10_zonesCanBe_3 rfl ?_
  refine g_cs (As := [.int (iI a1), .int (iI a2), .int (iI 0), .int (iI 1)]) (rest := []) (n := 4) C hml (c_X10_zoneCanBe l D k A ad hD v f g a1 a2 0 1 (by omega) (by omega) (by decide) (by decide)) mM_X10_309 mS_X10_zoneCanBe mN_X10 mC_X10_zoneCanBe (by decide +kernel) hP hS (fun _ h => h) ⟨Nat.le_of_ble_eq_true rfl, Nat.le_of_ble_eq_true rfl⟩ ⟨Nat.zero_le _, Nat.zero_le _⟩ hl.1 rfl rfl (Nat.le_of_ble_eq_true rfl) dX10_zonesCanBe_4 (fun r_1 v_1 f_1 g_1 H locs hq_1 hP _ hS => ?_)
  obtain ⟨z_1, rfl, rfl, rfl, rfl, p0_1⟩ := hq_1
  show W p l e (gRm 1 23) s m args below meth c _ _ 0 0 Q (F0 m 7 ls [.int (iI z_1)])
  replace p0_1 : z_1 = (if a2 = 0 ∨ ((1 : Int) ≠ 0 ∧ (0 : Int) < a2 ∧ a2 ≤ a1) then 1 else 0) := p0_1
  have w_1 := gif (P := a2 = 0 ∨ ((1 : Int) ≠ 0 ∧ (0 : Int) < a2 ∧ a2 ≤ a1)) p0_1
  clear p0_1
  have hz_1 : inR z_1 := (by first | omega | (rw [p0_1]; split <;> omega))
  refine gi_zeq (tgt := 50) hx hb dX10_zonesCanBe_7 (by decide) (by omega) (fun c_2 => ?_) (fun c_2 => ?_)
  · have vz_1 := gif0 w_1 c_2
    clear w_1
    refine lv_iconst (v := iI 0) hx hb dX10_zonesCanBe_50 rfl ?_
    exact g_zret hQ C hr hlocks (by decide) hP hS dX10_zonesCanBe_51 ⟨0, rfl, rfl, rfl, rfl, (by first | omega | ((repeat' split) <;> omega))⟩
  · have vz_1 := gif1 w_1 c_2
    clear w_1
    refine lv_iload_n hx hb dX10_zonesCanBe_10 rfl (lv_at hl 0 rfl) ?_
    refine lv_iload_n hx hb dX10_zonesCanBe_11 rfl (lv_at hl 2 rfl) ?_
    refine lv_iload_n hx hb dX10_zonesCanBe_12 rfl (lv_at hl 1 rfl) ?_
    refine lv_iload_n hx hb dX10_zonesCanBe_13 rfl (lv_at hl 1 rfl) ?_
    refine gi_zeq (tgt := 21) hx hb dX10_zonesCanBe_14 (by decide) (by omega) (fun c_3 => ?_) (fun c_3 => ?_)
    · refine lv_iconst (v := iI 0) hx hb dX10_zonesCanBe_21 rfl ?_
      refine g_cs (As := [.int (iI a1), .int (iI a3), .int (iI a2), .int (iI 0)]) (rest := []) (n := 4) C hml (c_X10_zoneCanBe l D k A ad hD v f g a1 a3 a2 0 (by omega) (by omega) (by omega) (by decide)) mM_X10_309 mS_X10_zoneCanBe mN_X10 mC_X10_zoneCanBe (by decide +kernel) hP hS (fun _ h => h) ⟨Nat.le_of_ble_eq_true rfl, Nat.le_of_ble_eq_true rfl⟩ ⟨Nat.zero_le _, Nat.zero_le _⟩ hl.1 rfl rfl (Nat.le_of_ble_eq_true rfl) dX10_zonesCanBe_22 (fun r_4 v_4 f_4 g_4 H locs hq_4 hP _ hS => ?_)
      obtain ⟨z_4, rfl, rfl, rfl, rfl, p0_4⟩ := hq_4
      show W p l e (gRm 1 23) s m args below meth c _ _ 0 0 Q (F0 m 25 ls [.int (iI z_4)])
      replace p0_4 : z_4 = (if a3 = 0 ∨ ((0 : Int) ≠ 0 ∧ a2 < a3 ∧ a3 ≤ a1) then 1 else 0) := p0_4
      have w_4 := gif (P := a3 = 0 ∨ ((0 : Int) ≠ 0 ∧ a2 < a3 ∧ a3 ≤ a1)) p0_4
      clear p0_4
      have hz_4 : inR z_4 := (by first | omega | (rw [p0_4]; split <;> omega))
      refine gi_zeq (tgt := 50) hx hb dX10_zonesCanBe_25 (by decide) (by omega) (fun c_5 => ?_) (fun c_5 => ?_)
      · have vz_4 := gif0 w_4 c_5
        clear w_4
        refine lv_iconst (v := iI 0) hx hb dX10_zonesCanBe_50 rfl ?_
        exact g_zret hQ C hr hlocks (by decide) hP hS dX10_zonesCanBe_51 ⟨0, rfl, rfl, rfl, rfl, (by first | omega | ((repeat' split) <;> omega))⟩
      · have vz_4 := gif1 w_4 c_5
        clear w_4
        refine lv_iload_n hx hb dX10_zonesCanBe_28 rfl (lv_at hl 0 rfl) ?_
        refine lv_iload_n hx hb dX10_zonesCanBe_29 rfl (lv_at hl 3 rfl) ?_
        refine lv_iload_n hx hb dX10_zonesCanBe_30 rfl (lv_at hl 2 rfl) ?_
        refine lv_iload_n hx hb dX10_zonesCanBe_31 rfl (lv_at hl 2 rfl) ?_
        refine gi_zeq (tgt := 39) hx hb dX10_zonesCanBe_32 (by decide) (by omega) (fun c_6 => ?_) (fun c_6 => ?_)
        · refine lv_iconst (v := iI 0) hx hb dX10_zonesCanBe_39 rfl ?_
          refine g_cs (As := [.int (iI a1), .int (iI a4), .int (iI a3), .int (iI 0)]) (rest := []) (n := 4) C hml (c_X10_zoneCanBe l D k A ad hD v f g a1 a4 a3 0 (by omega) (by omega) (by omega) (by decide)) mM_X10_309 mS_X10_zoneCanBe mN_X10 mC_X10_zoneCanBe (by decide +kernel) hP hS (fun _ h => h) ⟨Nat.le_of_ble_eq_true rfl, Nat.le_of_ble_eq_true rfl⟩ ⟨Nat.zero_le _, Nat.zero_le _⟩ hl.1 rfl rfl (Nat.le_of_ble_eq_true rfl) dX10_zonesCanBe_40 (fun r_7 v_7 f_7 g_7 H locs hq_7 hP _ hS => ?_)
          obtain ⟨z_7, rfl, rfl, rfl, rfl, p0_7⟩ := hq_7
          show W p l e (gRm 1 23) s m args below meth c _ _ 0 0 Q (F0 m 43 ls [.int (iI z_7)])
          replace p0_7 : z_7 = (if a4 = 0 ∨ ((0 : Int) ≠ 0 ∧ a3 < a4 ∧ a4 ≤ a1) then 1 else 0) := p0_7
          have w_7 := gif (P := a4 = 0 ∨ ((0 : Int) ≠ 0 ∧ a3 < a4 ∧ a4 ≤ a1)) p0_7
          clear p0_7
          have hz_7 : inR z_7 := (by first | omega | (rw [p0_7]; split <;> omega))
          refine gi_zeq (tgt := 50) hx hb dX10_zonesCanBe_43 (by decide) (by omega) (fun c_8 => ?_) (fun c_8 => ?_)
          · have vz_7 := gif0 w_7 c_8
            clear w_7
            refine lv_iconst (v := iI 0) hx hb dX10_zonesCanBe_50 rfl ?_
            exact g_zret hQ C hr hlocks (by decide) hP hS dX10_zonesCanBe_51 ⟨0, rfl, rfl, rfl, rfl, (by first | omega | ((repeat' split) <;> omega))⟩
          · have vz_7 := gif1 w_7 c_8
            clear w_7
            refine lv_iconst (v := iI 1) hx hb dX10_zonesCanBe_46 rfl ?_
            refine lv_goto (tgt := 51) hx hb dX10_zonesCanBe_47 (by decide) ?_
            exact g_zret hQ C hr hlocks (by decide) hP hS dX10_zonesCanBe_51 ⟨1, rfl, rfl, rfl, rfl, (by first | omega | ((repeat' split) <;> omega))⟩
        · refine lv_iconst (v := iI 1) hx hb dX10_zonesCanBe_35 rfl ?_
          refine lv_goto (tgt := 40) hx hb dX10_zonesCanBe_36 (by decide) ?_
          refine g_cs (As := [.int (iI a1), .int (iI a4), .int (iI a3), .int (iI 1)]) (rest := []) (n := 4) C hml (c_X10_zoneCanBe l D k A ad hD v f g a1 a4 a3 1 (by omega) (by omega) (by omega) (by decide)) mM_X10_309 mS_X10_zoneCanBe mN_X10 mC_X10_zoneCanBe (by decide +kernel) hP hS (fun _ h => h) ⟨Nat.le_of_ble_eq_true rfl, Nat.le_of_ble_eq_true rfl⟩ ⟨Nat.zero_le _, Nat.zero_le _⟩ hl.1 rfl rfl (Nat.le_of_ble_eq_true rfl) dX10_zonesCanBe_40 (fun r_9 v_9 f_9 g_9 H locs hq_9 hP _ hS => ?_)
          obtain ⟨z_9, rfl, rfl, rfl, rfl, p0_9⟩ := hq_9
          show W p l e (gRm 1 23) s m args below meth c _ _ 0 0 Q (F0 m 43 ls [.int (iI z_9)])
          replace p0_9 : z_9 = (if a4 = 0 ∨ ((1 : Int) ≠ 0 ∧ a3 < a4 ∧ a4 ≤ a1) then 1 else 0) := p0_9
          have w_9 := gif (P := a4 = 0 ∨ ((1 : Int) ≠ 0 ∧ a3 < a4 ∧ a4 ≤ a1)) p0_9
          clear p0_9
          have hz_9 : inR z_9 := (by first | omega | (rw [p0_9]; split <;> omega))
          refine gi_zeq (tgt := 50) hx hb dX10_zonesCanBe_43 (by decide) (by omega) (fun c_10 => ?_) (fun c_10 => ?_)
          · have vz_9 := gif0 w_9 c_10
            clear w_9
            refine lv_iconst (v := iI 0) hx hb dX10_zonesCanBe_50 rfl ?_
            exact g_zret hQ C hr hlocks (by decide) hP hS dX10_zonesCanBe_51 ⟨0, rfl, rfl, rfl, rfl, (by first | omega | ((repeat' split) <;> omega))⟩
          · have vz_9 := gif1 w_9 c_10
            clear w_9
            refine lv_iconst (v := iI 1) hx hb dX10_zonesCanBe_46 rfl ?_
            refine lv_goto (tgt := 51) hx hb dX10_zonesCanBe_47 (by decide) ?_
            exact g_zret hQ C hr hlocks (by decide) hP hS dX10_zonesCanBe_51 ⟨1, rfl, rfl, rfl, rfl, (by first | omega | ((repeat' split) <;> omega))⟩
    · refine lv_iconst (v := iI 1) hx hb dX10_zonesCanBe_17 rfl ?_
      refine lv_goto (tgt := 22) hx hb dX10_zonesCanBe_18 (by decide) ?_
      refine g_cs (As := [.int (iI a1), .int (iI a3), .int (iI a2), .int (iI 1)]) (rest := []) (n := 4) C hml (c_X10_zoneCanBe l D k A ad hD v f g a1 a3 a2 1 (by omega) (by omega) (by omega) (by decide)) mM_X10_309 mS_X10_zoneCanBe mN_X10 mC_X10_zoneCanBe (by decide +kernel) hP hS (fun _ h => h) ⟨Nat.le_of_ble_eq_true rfl, Nat.le_of_ble_eq_true rfl⟩ ⟨Nat.zero_le _, Nat.zero_le _⟩ hl.1 rfl rfl (Nat.le_of_ble_eq_true rfl) dX10_zonesCanBe_22 (fun r_11 v_11 f_11 g_11 H locs hq_11 hP _ hS => ?_)
      obtain ⟨z_11, rfl, rfl, rfl, rfl, p0_11⟩ := hq_11
      show W p l e (gRm 1 23) s m args below meth c _ _ 0 0 Q (F0 m 25 ls [.int (iI z_11)])
      replace p0_11 : z_11 = (if a3 = 0 ∨ ((1 : Int) ≠ 0 ∧ a2 < a3 ∧ a3 ≤ a1) then 1 else 0) := p0_11
      have w_11 := gif (P := a3 = 0 ∨ ((1 : Int) ≠ 0 ∧ a2 < a3 ∧ a3 ≤ a1)) p0_11
      clear p0_11
      have hz_11 : inR z_11 := (by first | omega | (rw [p0_11]; split <;> omega))
      refine gi_zeq (tgt := 50) hx hb dX10_zonesCanBe_25 (by decide) (by omega) (fun c_12 => ?_) (fun c_12 => ?_)
      · have vz_11 := gif0 w_11 c_12
        clear w_11
        refine lv_iconst (v := iI 0) hx hb dX10_zonesCanBe_50 rfl ?_
        exact g_zret hQ C hr hlocks (by decide) hP hS dX10_zonesCanBe_51 ⟨0, rfl, rfl, rfl, rfl, (by first | omega | ((repeat' split) <;> omega))⟩
      · have vz_11 := gif1 w_11 c_12
        clear w_11
        refine lv_iload_n hx hb dX10_zonesCanBe_28 rfl (lv_at hl 0 rfl) ?_
        refine lv_iload_n hx hb dX10_zonesCanBe_29 rfl (lv_at hl 3 rfl) ?_
        refine lv_iload_n hx hb dX10_zonesCanBe_30 rfl (lv_at hl 2 rfl) ?_
        refine lv_iload_n hx hb dX10_zonesCanBe_31 rfl (lv_at hl 2 rfl) ?_
        refine gi_zeq (tgt := 39) hx hb dX10_zonesCanBe_32 (by decide) (by omega) (fun c_13 => ?_) (fun c_13 => ?_)
        · refine lv_iconst (v := iI 0) hx hb dX10_zonesCanBe_39 rfl ?_
          refine g_cs (As := [.int (iI a1), .int (iI a4), .int (iI a3), .int (iI 0)]) (rest := []) (n := 4) C hml (c_X10_zoneCanBe l D k A ad hD v f g a1 a4 a3 0 (by omega) (by omega) (by omega) (by decide)) mM_X10_309 mS_X10_zoneCanBe mN_X10 mC_X10_zoneCanBe (by decide +kernel) hP hS (fun _ h => h) ⟨Nat.le_of_ble_eq_true rfl, Nat.le_of_ble_eq_true rfl⟩ ⟨Nat.zero_le _, Nat.zero_le _⟩ hl.1 rfl rfl (Nat.le_of_ble_eq_true rfl) dX10_zonesCanBe_40 (fun r_14 v_14 f_14 g_14 H locs hq_14 hP _ hS => ?_)
          obtain ⟨z_14, rfl, rfl, rfl, rfl, p0_14⟩ := hq_14
          show W p l e (gRm 1 23) s m args below meth c _ _ 0 0 Q (F0 m 43 ls [.int (iI z_14)])
          replace p0_14 : z_14 = (if a4 = 0 ∨ ((0 : Int) ≠ 0 ∧ a3 < a4 ∧ a4 ≤ a1) then 1 else 0) := p0_14
          have w_14 := gif (P := a4 = 0 ∨ ((0 : Int) ≠ 0 ∧ a3 < a4 ∧ a4 ≤ a1)) p0_14
          clear p0_14
          have hz_14 : inR z_14 := (by first | omega | (rw [p0_14]; split <;> omega))
          refine gi_zeq (tgt := 50) hx hb dX10_zonesCanBe_43 (by decide) (by omega) (fun c_15 => ?_) (fun c_15 => ?_)
          · have vz_14 := gif0 w_14 c_15
            clear w_14
            refine lv_iconst (v := iI 0) hx hb dX10_zonesCanBe_50 rfl ?_
            exact g_zret hQ C hr hlocks (by decide) hP hS dX10_zonesCanBe_51 ⟨0, rfl, rfl, rfl, rfl, (by first | omega | ((repeat' split) <;> omega))⟩
          · have vz_14 := gif1 w_14 c_15
            clear w_14
            refine lv_iconst (v := iI 1) hx hb dX10_zonesCanBe_46 rfl ?_
            refine lv_goto (tgt := 51) hx hb dX10_zonesCanBe_47 (by decide) ?_
            exact g_zret hQ C hr hlocks (by decide) hP hS dX10_zonesCanBe_51 ⟨1, rfl, rfl, rfl, rfl, (by first | omega | ((repeat' split) <;> omega))⟩
        · refine lv_iconst (v := iI 1) hx hb dX10_zonesCanBe_35 rfl ?_
          refine lv_goto (tgt := 40) hx hb dX10_zonesCanBe_36 (by decide) ?_
          refine g_cs (As := [.int (iI a1), .int (iI a4), .int (iI a3), .int (iI 1)]) (rest := []) (n := 4) C hml (c_X10_zoneCanBe l D k A ad hD v f g a1 a4 a3 1 (by omega) (by omega) (by omega) (by decide)) mM_X10_309 mS_X10_zoneCanBe mN_X10 mC_X10_zoneCanBe (by decide +kernel) hP hS (fun _ h => h) ⟨Nat.le_of_ble_eq_true rfl, Nat.le_of_ble_eq_true rfl⟩ ⟨Nat.zero_le _, Nat.zero_le _⟩ hl.1 rfl rfl (Nat.le_of_ble_eq_true rfl) dX10_zonesCanBe_40 (fun r_16 v_16 f_16 g_16 H locs hq_16 hP _ hS => ?_)
          obtain ⟨z_16, rfl, rfl, rfl, rfl, p0_16⟩ := hq_16
          show W p l e (gRm 1 23) s m args below meth c _ _ 0 0 Q (F0 m 43 ls [.int (iI z_16)])
          replace p0_16 : z_16 = (if a4 = 0 ∨ ((1 : Int) ≠ 0 ∧ a3 < a4 ∧ a4 ≤ a1) then 1 else 0) := p0_16
          have w_16 := gif (P := a4 = 0 ∨ ((1 : Int) ≠ 0 ∧ a3 < a4 ∧ a4 ≤ a1)) p0_16
          clear p0_16
          have hz_16 : inR z_16 := (by first | omega | (rw [p0_16]; split <;> omega))
          refine gi_zeq (tgt := 50) hx hb dX10_zonesCanBe_43 (by decide) (by omega) (fun c_17 => ?_) (fun c_17 => ?_)
          · have vz_16 := gif0 w_16 c_17
            clear w_16
            refine lv_iconst (v := iI 0) hx hb dX10_zonesCanBe_50 rfl ?_
            exact g_zret hQ C hr hlocks (by decide) hP hS dX10_zonesCanBe_51 ⟨0, rfl, rfl, rfl, rfl, (by first | omega | ((repeat' split) <;> omega))⟩
          · have vz_16 := gif1 w_16 c_17
            clear w_16
            refine lv_iconst (v := iI 1) hx hb dX10_zonesCanBe_46 rfl ?_
            refine lv_goto (tgt := 51) hx hb dX10_zonesCanBe_47 (by decide) ?_
            exact g_zret hQ C hr hlocks (by decide) hP hS dX10_zonesCanBe_51 ⟨1, rfl, rfl, rfl, rfl, (by first | omega | ((repeat' split) <;> omega))⟩

set_option maxHeartbeats 4000000 in
set_option maxRecDepth 100000 in
theorem x_Wa_zonesUpTo (l : Launch) (D : va_G) (k : Nat → ClassId) (A : Nat → Prop) (ad : Nat → Nat) (hD : rwD A k ad) (v : gV) (f g : gF) (a1 : Int) (a2 : Int) (a3 : Int) (h_a1 : inR a1) (h_a2 : inR a2) (h_a3 : inR a3) (h1 : 0 ≤ a1 ∧ a1 ≤ 3) (h2 : 0 ≤ a2 ∧ a2 ≤ 4) : GM l D k A (rwT k ad) yX8_zonesUpTo cX8_zonesUpTo 7 (some .int) 1 23 [.ref (ad 23), .int (iI a1), .int (iI a2), .int (iI a3)] v f g (fun r v1 f1 g1 => ∃ (z : Int), r = some (.int (iI z)) ∧ v = v1 ∧ f = f1 ∧ g = g1 ∧ (z = (zU (f 17) ((a1 * 5 + a2) * 3) a3)) ∧ (0 ≤ z ∧ z ≤ 3)) := by
  refine GM.of (by decide) (Nat.le_of_ble_eq_true rfl) ?_
  intro p e s m args below meth c Q ls hQ C hml hr hlocks hP hl
  have hx := C.1
  have hb := C.2.1
  have hok := hP.2
  have hS : va_S A s.heap s.heap [] := va_S.rf
  have hl : lv_has ls 7 [(0, .ref (ad 23)), (1, .int (iI a1)), (2, .int (iI a2)), (3, .int (iI a3))] := hl
  refine lv_iconst (v := iI 0) hx hb dX8_zonesUpTo_0 rfl ?_
  refine lv_istore (lv' := [(4, .int (iI 0)), (0, .ref (ad 23)), (1, .int (iI a1)), (2, .int (iI a2)), (3, .int (iI a3))]) hx hb dX8_zonesUpTo_1 hl (by decide) rfl (fun ls hl => ?_)
  refine lv_iconst (v := iI 0) hx hb dX8_zonesUpTo_3 rfl ?_
  refine lv_istore (lv' := [(5, .int (iI 0)), (4, .int (iI 0)), (0, .ref (ad 23)), (1, .int (iI a1)), (2, .int (iI a2)), (3, .int (iI a3))]) hx hb dX8_zonesUpTo_4 hl (by decide) rfl (fun ls hl => ?_)
  refine lv_iload hx hb dX8_zonesUpTo_6 (lv_at hl 0 rfl) ?_
  refine lv_iconst (v := iI 3) hx hb dX8_zonesUpTo_8 rfl ?_
  refine gi_cge (tgt := 42) hx hb dX8_zonesUpTo_9 (by decide) (by decide) (by decide) (fun c_1 => ?_) (fun c_1 => ?_)
  · exfalso; omega
  · refine lv_aload_n hx hb dX8_zonesUpTo_12 rfl (lv_at hl 2 rfl) ?_
    refine lv_iload_n hx hb dX8_zonesUpTo_13 rfl (lv_at hl 3 rfl) ?_
    refine lv_iload_n hx hb dX8_zonesUpTo_14 rfl (lv_at hl 4 rfl) ?_
    refine lv_iload hx hb dX8_zonesUpTo_15 (lv_at hl 0 rfl) ?_
    refine g_cv (As := [.int (iI a1), .int (iI a2), .int (iI 0)]) (rest := []) (n := 3) C hml (c_X8_zoneOf l D k A ad hD v f g a1 a2 0 (by omega) (by omega) (by decide) (show 0 ≤ a1 ∧ a1 ≤ 3 from by omega) (show 0 ≤ a2 ∧ a2 ≤ 4 from by omega) (show 0 ≤ (0 : Int) ∧ (0 : Int) < 3 from by omega)) mM_X8_27 mI_X8_zoneOf mE_X8_zoneOf mN_X8 mC_X8_zoneOf (by decide +kernel) 23 (ci := 8) rfl rfl hP hS (fun _ h => h) ⟨Nat.le_of_ble_eq_true rfl, Nat.le_of_ble_eq_true rfl⟩ ⟨Nat.zero_le _, Nat.zero_le _⟩ hl.1 rfl rfl (Nat.le_of_ble_eq_true rfl) dX8_zonesUpTo_17 (fun r_2 v_2 f_2 g_2 H locs hq_2 hP _ hS => ?_)
    obtain ⟨z_2, rfl, rfl, rfl, rfl, p0_2, p1_2⟩ := hq_2
    show W p l e (gRm 1 23) s m args below meth c _ _ 0 0 Q (F0 m 20 ls [.int (iI z_2)])
    replace p0_2 : z_2 = ((f 17) ((a1 * 5 + a2) * 3 + (0 : Int))) := p0_2
    replace p1_2 : 0 ≤ z_2 ∧ z_2 ≤ 60 := p1_2
    have hz_2 : inR z_2 := (by first | omega | (rw [p0_2]; split <;> omega))
    refine lv_istore (lv' := [(6, .int (iI z_2)), (5, .int (iI 0)), (4, .int (iI 0)), (0, .ref (ad 23)), (1, .int (iI a1)), (2, .int (iI a2)), (3, .int (iI a3))]) hx hb dX8_zonesUpTo_20 hl (by decide) rfl (fun ls hl => ?_)
    refine lv_iload hx hb dX8_zonesUpTo_22 (lv_at hl 0 rfl) ?_
    refine gi_zle (tgt := 36) hx hb dX8_zonesUpTo_24 (by decide) (by omega) (fun c_3 => ?_) (fun c_3 => ?_)
    · refine lv_iinc (v := iI 1) (lv' := [(5, .int (iI 1)), (6, .int (iI z_2)), (4, .int (iI 0)), (0, .ref (ad 23)), (1, .int (iI a1)), (2, .int (iI a2)), (3, .int (iI a3))]) hx hb dX8_zonesUpTo_36 hl (k := 1) rfl (by show iI _ + iI 1 = _; rw [iI_add]; congr 1) (by decide) rfl (fun ls hl => ?_)
      refine lv_goto (tgt := 6) hx hb dX8_zonesUpTo_39 (by decide) ?_
      refine lv_iload hx hb dX8_zonesUpTo_6 (lv_at hl 0 rfl) ?_
      refine lv_iconst (v := iI 3) hx hb dX8_zonesUpTo_8 rfl ?_
      refine gi_cge (tgt := 42) hx hb dX8_zonesUpTo_9 (by decide) (by decide) (by decide) (fun c_4 => ?_) (fun c_4 => ?_)
      · exfalso; omega
      · refine lv_aload_n hx hb dX8_zonesUpTo_12 rfl (lv_at hl 3 rfl) ?_
        refine lv_iload_n hx hb dX8_zonesUpTo_13 rfl (lv_at hl 4 rfl) ?_
        refine lv_iload_n hx hb dX8_zonesUpTo_14 rfl (lv_at hl 5 rfl) ?_
        refine lv_iload hx hb dX8_zonesUpTo_15 (lv_at hl 0 rfl) ?_
        refine g_cv (As := [.int (iI a1), .int (iI a2), .int (iI 1)]) (rest := []) (n := 3) C hml (c_X8_zoneOf l D k A ad hD v f g a1 a2 1 (by omega) (by omega) (by decide) (show 0 ≤ a1 ∧ a1 ≤ 3 from by omega) (show 0 ≤ a2 ∧ a2 ≤ 4 from by omega) (show 0 ≤ (1 : Int) ∧ (1 : Int) < 3 from by omega)) mM_X8_27 mI_X8_zoneOf mE_X8_zoneOf mN_X8 mC_X8_zoneOf (by decide +kernel) 23 (ci := 8) rfl rfl hP hS (fun _ h => h) ⟨Nat.le_of_ble_eq_true rfl, Nat.le_of_ble_eq_true rfl⟩ ⟨Nat.zero_le _, Nat.zero_le _⟩ hl.1 rfl rfl (Nat.le_of_ble_eq_true rfl) dX8_zonesUpTo_17 (fun r_5 v_5 f_5 g_5 H locs hq_5 hP _ hS => ?_)
        obtain ⟨z_5, rfl, rfl, rfl, rfl, p0_5, p1_5⟩ := hq_5
        show W p l e (gRm 1 23) s m args below meth c _ _ 0 0 Q (F0 m 20 ls [.int (iI z_5)])
        replace p0_5 : z_5 = ((f 17) ((a1 * 5 + a2) * 3 + (1 : Int))) := p0_5
        replace p1_5 : 0 ≤ z_5 ∧ z_5 ≤ 60 := p1_5
        have hz_5 : inR z_5 := (by first | omega | (rw [p0_5]; split <;> omega))
        refine lv_istore (lv' := [(6, .int (iI z_5)), (5, .int (iI 1)), (4, .int (iI 0)), (0, .ref (ad 23)), (1, .int (iI a1)), (2, .int (iI a2)), (3, .int (iI a3))]) hx hb dX8_zonesUpTo_20 hl (by decide) rfl (fun ls hl => ?_)
        refine lv_iload hx hb dX8_zonesUpTo_22 (lv_at hl 0 rfl) ?_
        refine gi_zle (tgt := 36) hx hb dX8_zonesUpTo_24 (by decide) (by omega) (fun c_6 => ?_) (fun c_6 => ?_)
        · refine lv_iinc (v := iI 2) (lv' := [(5, .int (iI 2)), (6, .int (iI z_5)), (4, .int (iI 0)), (0, .ref (ad 23)), (1, .int (iI a1)), (2, .int (iI a2)), (3, .int (iI a3))]) hx hb dX8_zonesUpTo_36 hl (k := 1) rfl (by show iI _ + iI 1 = _; rw [iI_add]; congr 1) (by decide) rfl (fun ls hl => ?_)
          refine lv_goto (tgt := 6) hx hb dX8_zonesUpTo_39 (by decide) ?_
          refine lv_iload hx hb dX8_zonesUpTo_6 (lv_at hl 0 rfl) ?_
          refine lv_iconst (v := iI 3) hx hb dX8_zonesUpTo_8 rfl ?_
          refine gi_cge (tgt := 42) hx hb dX8_zonesUpTo_9 (by decide) (by decide) (by decide) (fun c_7 => ?_) (fun c_7 => ?_)
          · exfalso; omega
          · refine lv_aload_n hx hb dX8_zonesUpTo_12 rfl (lv_at hl 3 rfl) ?_
            refine lv_iload_n hx hb dX8_zonesUpTo_13 rfl (lv_at hl 4 rfl) ?_
            refine lv_iload_n hx hb dX8_zonesUpTo_14 rfl (lv_at hl 5 rfl) ?_
            refine lv_iload hx hb dX8_zonesUpTo_15 (lv_at hl 0 rfl) ?_
            refine g_cv (As := [.int (iI a1), .int (iI a2), .int (iI 2)]) (rest := []) (n := 3) C hml (c_X8_zoneOf l D k A ad hD v f g a1 a2 2 (by omega) (by omega) (by decide) (show 0 ≤ a1 ∧ a1 ≤ 3 from by omega) (show 0 ≤ a2 ∧ a2 ≤ 4 from by omega) (show 0 ≤ (2 : Int) ∧ (2 : Int) < 3 from by omega)) mM_X8_27 mI_X8_zoneOf mE_X8_zoneOf mN_X8 mC_X8_zoneOf (by decide +kernel) 23 (ci := 8) rfl rfl hP hS (fun _ h => h) ⟨Nat.le_of_ble_eq_true rfl, Nat.le_of_ble_eq_true rfl⟩ ⟨Nat.zero_le _, Nat.zero_le _⟩ hl.1 rfl rfl (Nat.le_of_ble_eq_true rfl) dX8_zonesUpTo_17 (fun r_8 v_8 f_8 g_8 H locs hq_8 hP _ hS => ?_)
            obtain ⟨z_8, rfl, rfl, rfl, rfl, p0_8, p1_8⟩ := hq_8
            show W p l e (gRm 1 23) s m args below meth c _ _ 0 0 Q (F0 m 20 ls [.int (iI z_8)])
            replace p0_8 : z_8 = ((f 17) ((a1 * 5 + a2) * 3 + (2 : Int))) := p0_8
            replace p1_8 : 0 ≤ z_8 ∧ z_8 ≤ 60 := p1_8
            have hz_8 : inR z_8 := (by first | omega | (rw [p0_8]; split <;> omega))
            refine lv_istore (lv' := [(6, .int (iI z_8)), (5, .int (iI 2)), (4, .int (iI 0)), (0, .ref (ad 23)), (1, .int (iI a1)), (2, .int (iI a2)), (3, .int (iI a3))]) hx hb dX8_zonesUpTo_20 hl (by decide) rfl (fun ls hl => ?_)
            refine lv_iload hx hb dX8_zonesUpTo_22 (lv_at hl 0 rfl) ?_
            refine gi_zle (tgt := 36) hx hb dX8_zonesUpTo_24 (by decide) (by omega) (fun c_9 => ?_) (fun c_9 => ?_)
            · refine lv_iinc (v := iI 3) (lv' := [(5, .int (iI 3)), (6, .int (iI z_8)), (4, .int (iI 0)), (0, .ref (ad 23)), (1, .int (iI a1)), (2, .int (iI a2)), (3, .int (iI a3))]) hx hb dX8_zonesUpTo_36 hl (k := 1) rfl (by show iI _ + iI 1 = _; rw [iI_add]; congr 1) (by decide) rfl (fun ls hl => ?_)
              refine lv_goto (tgt := 6) hx hb dX8_zonesUpTo_39 (by decide) ?_
              refine lv_iload hx hb dX8_zonesUpTo_6 (lv_at hl 0 rfl) ?_
              refine lv_iconst (v := iI 3) hx hb dX8_zonesUpTo_8 rfl ?_
              refine gi_cge (tgt := 42) hx hb dX8_zonesUpTo_9 (by decide) (by decide) (by decide) (fun c_10 => ?_) (fun c_10 => ?_)
              · refine lv_iload hx hb dX8_zonesUpTo_42 (lv_at hl 2 rfl) ?_
                exact g_iret hQ C hr hlocks hP hS dX8_zonesUpTo_44 ⟨0, rfl, rfl, rfl, rfl, (by unfold zU; (repeat' split) <;> omega), (by first | omega | ((repeat' split) <;> omega))⟩
              · exfalso; omega
            · refine lv_iload hx hb dX8_zonesUpTo_27 (lv_at hl 0 rfl) ?_
              refine lv_iload_n hx hb dX8_zonesUpTo_29 rfl (lv_at hl 6 rfl) ?_
              refine gi_cgt (tgt := 36) hx hb dX8_zonesUpTo_30 (by decide) (by omega) (by omega) (fun c_11 => ?_) (fun c_11 => ?_)
              · refine lv_iinc (v := iI 3) (lv' := [(5, .int (iI 3)), (6, .int (iI z_8)), (4, .int (iI 0)), (0, .ref (ad 23)), (1, .int (iI a1)), (2, .int (iI a2)), (3, .int (iI a3))]) hx hb dX8_zonesUpTo_36 hl (k := 1) rfl (by show iI _ + iI 1 = _; rw [iI_add]; congr 1) (by decide) rfl (fun ls hl => ?_)
                refine lv_goto (tgt := 6) hx hb dX8_zonesUpTo_39 (by decide) ?_
                refine lv_iload hx hb dX8_zonesUpTo_6 (lv_at hl 0 rfl) ?_
                refine lv_iconst (v := iI 3) hx hb dX8_zonesUpTo_8 rfl ?_
                refine gi_cge (tgt := 42) hx hb dX8_zonesUpTo_9 (by decide) (by decide) (by decide) (fun c_12 => ?_) (fun c_12 => ?_)
                · refine lv_iload hx hb dX8_zonesUpTo_42 (lv_at hl 2 rfl) ?_
                  exact g_iret hQ C hr hlocks hP hS dX8_zonesUpTo_44 ⟨0, rfl, rfl, rfl, rfl, (by unfold zU; (repeat' split) <;> omega), (by first | omega | ((repeat' split) <;> omega))⟩
                · exfalso; omega
              · refine lv_iinc (v := iI 1) (lv' := [(4, .int (iI 1)), (6, .int (iI z_8)), (5, .int (iI 2)), (0, .ref (ad 23)), (1, .int (iI a1)), (2, .int (iI a2)), (3, .int (iI a3))]) hx hb dX8_zonesUpTo_33 hl (k := 2) rfl (by show iI _ + iI 1 = _; rw [iI_add]; congr 1) (by decide) rfl (fun ls hl => ?_)
                refine lv_iinc (v := iI 3) (lv' := [(5, .int (iI 3)), (4, .int (iI 1)), (6, .int (iI z_8)), (0, .ref (ad 23)), (1, .int (iI a1)), (2, .int (iI a2)), (3, .int (iI a3))]) hx hb dX8_zonesUpTo_36 hl (k := 2) rfl (by show iI _ + iI 1 = _; rw [iI_add]; congr 1) (by decide) rfl (fun ls hl => ?_)
                refine lv_goto (tgt := 6) hx hb dX8_zonesUpTo_39 (by decide) ?_
                refine lv_iload hx hb dX8_zonesUpTo_6 (lv_at hl 0 rfl) ?_
                refine lv_iconst (v := iI 3) hx hb dX8_zonesUpTo_8 rfl ?_
                refine gi_cge (tgt := 42) hx hb dX8_zonesUpTo_9 (by decide) (by decide) (by decide) (fun c_13 => ?_) (fun c_13 => ?_)
                · refine lv_iload hx hb dX8_zonesUpTo_42 (lv_at hl 1 rfl) ?_
                  exact g_iret hQ C hr hlocks hP hS dX8_zonesUpTo_44 ⟨1, rfl, rfl, rfl, rfl, (by unfold zU; (repeat' split) <;> omega), (by first | omega | ((repeat' split) <;> omega))⟩
                · exfalso; omega
        · refine lv_iload hx hb dX8_zonesUpTo_27 (lv_at hl 0 rfl) ?_
          refine lv_iload_n hx hb dX8_zonesUpTo_29 rfl (lv_at hl 6 rfl) ?_
          refine gi_cgt (tgt := 36) hx hb dX8_zonesUpTo_30 (by decide) (by omega) (by omega) (fun c_14 => ?_) (fun c_14 => ?_)
          · refine lv_iinc (v := iI 2) (lv' := [(5, .int (iI 2)), (6, .int (iI z_5)), (4, .int (iI 0)), (0, .ref (ad 23)), (1, .int (iI a1)), (2, .int (iI a2)), (3, .int (iI a3))]) hx hb dX8_zonesUpTo_36 hl (k := 1) rfl (by show iI _ + iI 1 = _; rw [iI_add]; congr 1) (by decide) rfl (fun ls hl => ?_)
            refine lv_goto (tgt := 6) hx hb dX8_zonesUpTo_39 (by decide) ?_
            refine lv_iload hx hb dX8_zonesUpTo_6 (lv_at hl 0 rfl) ?_
            refine lv_iconst (v := iI 3) hx hb dX8_zonesUpTo_8 rfl ?_
            refine gi_cge (tgt := 42) hx hb dX8_zonesUpTo_9 (by decide) (by decide) (by decide) (fun c_15 => ?_) (fun c_15 => ?_)
            · exfalso; omega
            · refine lv_aload_n hx hb dX8_zonesUpTo_12 rfl (lv_at hl 3 rfl) ?_
              refine lv_iload_n hx hb dX8_zonesUpTo_13 rfl (lv_at hl 4 rfl) ?_
              refine lv_iload_n hx hb dX8_zonesUpTo_14 rfl (lv_at hl 5 rfl) ?_
              refine lv_iload hx hb dX8_zonesUpTo_15 (lv_at hl 0 rfl) ?_
              refine g_cv (As := [.int (iI a1), .int (iI a2), .int (iI 2)]) (rest := []) (n := 3) C hml (c_X8_zoneOf l D k A ad hD v f g a1 a2 2 (by omega) (by omega) (by decide) (show 0 ≤ a1 ∧ a1 ≤ 3 from by omega) (show 0 ≤ a2 ∧ a2 ≤ 4 from by omega) (show 0 ≤ (2 : Int) ∧ (2 : Int) < 3 from by omega)) mM_X8_27 mI_X8_zoneOf mE_X8_zoneOf mN_X8 mC_X8_zoneOf (by decide +kernel) 23 (ci := 8) rfl rfl hP hS (fun _ h => h) ⟨Nat.le_of_ble_eq_true rfl, Nat.le_of_ble_eq_true rfl⟩ ⟨Nat.zero_le _, Nat.zero_le _⟩ hl.1 rfl rfl (Nat.le_of_ble_eq_true rfl) dX8_zonesUpTo_17 (fun r_16 v_16 f_16 g_16 H locs hq_16 hP _ hS => ?_)
              obtain ⟨z_16, rfl, rfl, rfl, rfl, p0_16, p1_16⟩ := hq_16
              show W p l e (gRm 1 23) s m args below meth c _ _ 0 0 Q (F0 m 20 ls [.int (iI z_16)])
              replace p0_16 : z_16 = ((f 17) ((a1 * 5 + a2) * 3 + (2 : Int))) := p0_16
              replace p1_16 : 0 ≤ z_16 ∧ z_16 ≤ 60 := p1_16
              have hz_16 : inR z_16 := (by first | omega | (rw [p0_16]; split <;> omega))
              refine lv_istore (lv' := [(6, .int (iI z_16)), (5, .int (iI 2)), (4, .int (iI 0)), (0, .ref (ad 23)), (1, .int (iI a1)), (2, .int (iI a2)), (3, .int (iI a3))]) hx hb dX8_zonesUpTo_20 hl (by decide) rfl (fun ls hl => ?_)
              refine lv_iload hx hb dX8_zonesUpTo_22 (lv_at hl 0 rfl) ?_
              refine gi_zle (tgt := 36) hx hb dX8_zonesUpTo_24 (by decide) (by omega) (fun c_17 => ?_) (fun c_17 => ?_)
              · refine lv_iinc (v := iI 3) (lv' := [(5, .int (iI 3)), (6, .int (iI z_16)), (4, .int (iI 0)), (0, .ref (ad 23)), (1, .int (iI a1)), (2, .int (iI a2)), (3, .int (iI a3))]) hx hb dX8_zonesUpTo_36 hl (k := 1) rfl (by show iI _ + iI 1 = _; rw [iI_add]; congr 1) (by decide) rfl (fun ls hl => ?_)
                refine lv_goto (tgt := 6) hx hb dX8_zonesUpTo_39 (by decide) ?_
                refine lv_iload hx hb dX8_zonesUpTo_6 (lv_at hl 0 rfl) ?_
                refine lv_iconst (v := iI 3) hx hb dX8_zonesUpTo_8 rfl ?_
                refine gi_cge (tgt := 42) hx hb dX8_zonesUpTo_9 (by decide) (by decide) (by decide) (fun c_18 => ?_) (fun c_18 => ?_)
                · refine lv_iload hx hb dX8_zonesUpTo_42 (lv_at hl 2 rfl) ?_
                  exact g_iret hQ C hr hlocks hP hS dX8_zonesUpTo_44 ⟨0, rfl, rfl, rfl, rfl, (by unfold zU; (repeat' split) <;> omega), (by first | omega | ((repeat' split) <;> omega))⟩
                · exfalso; omega
              · refine lv_iload hx hb dX8_zonesUpTo_27 (lv_at hl 0 rfl) ?_
                refine lv_iload_n hx hb dX8_zonesUpTo_29 rfl (lv_at hl 6 rfl) ?_
                refine gi_cgt (tgt := 36) hx hb dX8_zonesUpTo_30 (by decide) (by omega) (by omega) (fun c_19 => ?_) (fun c_19 => ?_)
                · refine lv_iinc (v := iI 3) (lv' := [(5, .int (iI 3)), (6, .int (iI z_16)), (4, .int (iI 0)), (0, .ref (ad 23)), (1, .int (iI a1)), (2, .int (iI a2)), (3, .int (iI a3))]) hx hb dX8_zonesUpTo_36 hl (k := 1) rfl (by show iI _ + iI 1 = _; rw [iI_add]; congr 1) (by decide) rfl (fun ls hl => ?_)
                  refine lv_goto (tgt := 6) hx hb dX8_zonesUpTo_39 (by decide) ?_
                  refine lv_iload hx hb dX8_zonesUpTo_6 (lv_at hl 0 rfl) ?_
                  refine lv_iconst (v := iI 3) hx hb dX8_zonesUpTo_8 rfl ?_
                  refine gi_cge (tgt := 42) hx hb dX8_zonesUpTo_9 (by decide) (by decide) (by decide) (fun c_20 => ?_) (fun c_20 => ?_)
                  · refine lv_iload hx hb dX8_zonesUpTo_42 (lv_at hl 2 rfl) ?_
                    exact g_iret hQ C hr hlocks hP hS dX8_zonesUpTo_44 ⟨0, rfl, rfl, rfl, rfl, (by unfold zU; (repeat' split) <;> omega), (by first | omega | ((repeat' split) <;> omega))⟩
                  · exfalso; omega
                · refine lv_iinc (v := iI 1) (lv' := [(4, .int (iI 1)), (6, .int (iI z_16)), (5, .int (iI 2)), (0, .ref (ad 23)), (1, .int (iI a1)), (2, .int (iI a2)), (3, .int (iI a3))]) hx hb dX8_zonesUpTo_33 hl (k := 2) rfl (by show iI _ + iI 1 = _; rw [iI_add]; congr 1) (by decide) rfl (fun ls hl => ?_)
                  refine lv_iinc (v := iI 3) (lv' := [(5, .int (iI 3)), (4, .int (iI 1)), (6, .int (iI z_16)), (0, .ref (ad 23)), (1, .int (iI a1)), (2, .int (iI a2)), (3, .int (iI a3))]) hx hb dX8_zonesUpTo_36 hl (k := 2) rfl (by show iI _ + iI 1 = _; rw [iI_add]; congr 1) (by decide) rfl (fun ls hl => ?_)
                  refine lv_goto (tgt := 6) hx hb dX8_zonesUpTo_39 (by decide) ?_
                  refine lv_iload hx hb dX8_zonesUpTo_6 (lv_at hl 0 rfl) ?_
                  refine lv_iconst (v := iI 3) hx hb dX8_zonesUpTo_8 rfl ?_
                  refine gi_cge (tgt := 42) hx hb dX8_zonesUpTo_9 (by decide) (by decide) (by decide) (fun c_21 => ?_) (fun c_21 => ?_)
                  · refine lv_iload hx hb dX8_zonesUpTo_42 (lv_at hl 1 rfl) ?_
                    exact g_iret hQ C hr hlocks hP hS dX8_zonesUpTo_44 ⟨1, rfl, rfl, rfl, rfl, (by unfold zU; (repeat' split) <;> omega), (by first | omega | ((repeat' split) <;> omega))⟩
                  · exfalso; omega
          · refine lv_iinc (v := iI 1) (lv' := [(4, .int (iI 1)), (6, .int (iI z_5)), (5, .int (iI 1)), (0, .ref (ad 23)), (1, .int (iI a1)), (2, .int (iI a2)), (3, .int (iI a3))]) hx hb dX8_zonesUpTo_33 hl (k := 2) rfl (by show iI _ + iI 1 = _; rw [iI_add]; congr 1) (by decide) rfl (fun ls hl => ?_)
            refine lv_iinc (v := iI 2) (lv' := [(5, .int (iI 2)), (4, .int (iI 1)), (6, .int (iI z_5)), (0, .ref (ad 23)), (1, .int (iI a1)), (2, .int (iI a2)), (3, .int (iI a3))]) hx hb dX8_zonesUpTo_36 hl (k := 2) rfl (by show iI _ + iI 1 = _; rw [iI_add]; congr 1) (by decide) rfl (fun ls hl => ?_)
            refine lv_goto (tgt := 6) hx hb dX8_zonesUpTo_39 (by decide) ?_
            refine lv_iload hx hb dX8_zonesUpTo_6 (lv_at hl 0 rfl) ?_
            refine lv_iconst (v := iI 3) hx hb dX8_zonesUpTo_8 rfl ?_
            refine gi_cge (tgt := 42) hx hb dX8_zonesUpTo_9 (by decide) (by decide) (by decide) (fun c_22 => ?_) (fun c_22 => ?_)
            · exfalso; omega
            · refine lv_aload_n hx hb dX8_zonesUpTo_12 rfl (lv_at hl 3 rfl) ?_
              refine lv_iload_n hx hb dX8_zonesUpTo_13 rfl (lv_at hl 4 rfl) ?_
              refine lv_iload_n hx hb dX8_zonesUpTo_14 rfl (lv_at hl 5 rfl) ?_
              refine lv_iload hx hb dX8_zonesUpTo_15 (lv_at hl 0 rfl) ?_
              refine g_cv (As := [.int (iI a1), .int (iI a2), .int (iI 2)]) (rest := []) (n := 3) C hml (c_X8_zoneOf l D k A ad hD v f g a1 a2 2 (by omega) (by omega) (by decide) (show 0 ≤ a1 ∧ a1 ≤ 3 from by omega) (show 0 ≤ a2 ∧ a2 ≤ 4 from by omega) (show 0 ≤ (2 : Int) ∧ (2 : Int) < 3 from by omega)) mM_X8_27 mI_X8_zoneOf mE_X8_zoneOf mN_X8 mC_X8_zoneOf (by decide +kernel) 23 (ci := 8) rfl rfl hP hS (fun _ h => h) ⟨Nat.le_of_ble_eq_true rfl, Nat.le_of_ble_eq_true rfl⟩ ⟨Nat.zero_le _, Nat.zero_le _⟩ hl.1 rfl rfl (Nat.le_of_ble_eq_true rfl) dX8_zonesUpTo_17 (fun r_23 v_23 f_23 g_23 H locs hq_23 hP _ hS => ?_)
              obtain ⟨z_23, rfl, rfl, rfl, rfl, p0_23, p1_23⟩ := hq_23
              show W p l e (gRm 1 23) s m args below meth c _ _ 0 0 Q (F0 m 20 ls [.int (iI z_23)])
              replace p0_23 : z_23 = ((f 17) ((a1 * 5 + a2) * 3 + (2 : Int))) := p0_23
              replace p1_23 : 0 ≤ z_23 ∧ z_23 ≤ 60 := p1_23
              have hz_23 : inR z_23 := (by first | omega | (rw [p0_23]; split <;> omega))
              refine lv_istore (lv' := [(6, .int (iI z_23)), (5, .int (iI 2)), (4, .int (iI 1)), (0, .ref (ad 23)), (1, .int (iI a1)), (2, .int (iI a2)), (3, .int (iI a3))]) hx hb dX8_zonesUpTo_20 hl (by decide) rfl (fun ls hl => ?_)
              refine lv_iload hx hb dX8_zonesUpTo_22 (lv_at hl 0 rfl) ?_
              refine gi_zle (tgt := 36) hx hb dX8_zonesUpTo_24 (by decide) (by omega) (fun c_24 => ?_) (fun c_24 => ?_)
              · refine lv_iinc (v := iI 3) (lv' := [(5, .int (iI 3)), (6, .int (iI z_23)), (4, .int (iI 1)), (0, .ref (ad 23)), (1, .int (iI a1)), (2, .int (iI a2)), (3, .int (iI a3))]) hx hb dX8_zonesUpTo_36 hl (k := 1) rfl (by show iI _ + iI 1 = _; rw [iI_add]; congr 1) (by decide) rfl (fun ls hl => ?_)
                refine lv_goto (tgt := 6) hx hb dX8_zonesUpTo_39 (by decide) ?_
                refine lv_iload hx hb dX8_zonesUpTo_6 (lv_at hl 0 rfl) ?_
                refine lv_iconst (v := iI 3) hx hb dX8_zonesUpTo_8 rfl ?_
                refine gi_cge (tgt := 42) hx hb dX8_zonesUpTo_9 (by decide) (by decide) (by decide) (fun c_25 => ?_) (fun c_25 => ?_)
                · refine lv_iload hx hb dX8_zonesUpTo_42 (lv_at hl 2 rfl) ?_
                  exact g_iret hQ C hr hlocks hP hS dX8_zonesUpTo_44 ⟨1, rfl, rfl, rfl, rfl, (by unfold zU; (repeat' split) <;> omega), (by first | omega | ((repeat' split) <;> omega))⟩
                · exfalso; omega
              · refine lv_iload hx hb dX8_zonesUpTo_27 (lv_at hl 0 rfl) ?_
                refine lv_iload_n hx hb dX8_zonesUpTo_29 rfl (lv_at hl 6 rfl) ?_
                refine gi_cgt (tgt := 36) hx hb dX8_zonesUpTo_30 (by decide) (by omega) (by omega) (fun c_26 => ?_) (fun c_26 => ?_)
                · refine lv_iinc (v := iI 3) (lv' := [(5, .int (iI 3)), (6, .int (iI z_23)), (4, .int (iI 1)), (0, .ref (ad 23)), (1, .int (iI a1)), (2, .int (iI a2)), (3, .int (iI a3))]) hx hb dX8_zonesUpTo_36 hl (k := 1) rfl (by show iI _ + iI 1 = _; rw [iI_add]; congr 1) (by decide) rfl (fun ls hl => ?_)
                  refine lv_goto (tgt := 6) hx hb dX8_zonesUpTo_39 (by decide) ?_
                  refine lv_iload hx hb dX8_zonesUpTo_6 (lv_at hl 0 rfl) ?_
                  refine lv_iconst (v := iI 3) hx hb dX8_zonesUpTo_8 rfl ?_
                  refine gi_cge (tgt := 42) hx hb dX8_zonesUpTo_9 (by decide) (by decide) (by decide) (fun c_27 => ?_) (fun c_27 => ?_)
                  · refine lv_iload hx hb dX8_zonesUpTo_42 (lv_at hl 2 rfl) ?_
                    exact g_iret hQ C hr hlocks hP hS dX8_zonesUpTo_44 ⟨1, rfl, rfl, rfl, rfl, (by unfold zU; (repeat' split) <;> omega), (by first | omega | ((repeat' split) <;> omega))⟩
                  · exfalso; omega
                · refine lv_iinc (v := iI 2) (lv' := [(4, .int (iI 2)), (6, .int (iI z_23)), (5, .int (iI 2)), (0, .ref (ad 23)), (1, .int (iI a1)), (2, .int (iI a2)), (3, .int (iI a3))]) hx hb dX8_zonesUpTo_33 hl (k := 2) rfl (by show iI _ + iI 1 = _; rw [iI_add]; congr 1) (by decide) rfl (fun ls hl => ?_)
                  refine lv_iinc (v := iI 3) (lv' := [(5, .int (iI 3)), (4, .int (iI 2)), (6, .int (iI z_23)), (0, .ref (ad 23)), (1, .int (iI a1)), (2, .int (iI a2)), (3, .int (iI a3))]) hx hb dX8_zonesUpTo_36 hl (k := 2) rfl (by show iI _ + iI 1 = _; rw [iI_add]; congr 1) (by decide) rfl (fun ls hl => ?_)
                  refine lv_goto (tgt := 6) hx hb dX8_zonesUpTo_39 (by decide) ?_
                  refine lv_iload hx hb dX8_zonesUpTo_6 (lv_at hl 0 rfl) ?_
                  refine lv_iconst (v := iI 3) hx hb dX8_zonesUpTo_8 rfl ?_
                  refine gi_cge (tgt := 42) hx hb dX8_zonesUpTo_9 (by decide) (by decide) (by decide) (fun c_28 => ?_) (fun c_28 => ?_)
                  · refine lv_iload hx hb dX8_zonesUpTo_42 (lv_at hl 1 rfl) ?_
                    exact g_iret hQ C hr hlocks hP hS dX8_zonesUpTo_44 ⟨2, rfl, rfl, rfl, rfl, (by unfold zU; (repeat' split) <;> omega), (by first | omega | ((repeat' split) <;> omega))⟩
                  · exfalso; omega
    · refine lv_iload hx hb dX8_zonesUpTo_27 (lv_at hl 0 rfl) ?_
      refine lv_iload_n hx hb dX8_zonesUpTo_29 rfl (lv_at hl 6 rfl) ?_
      refine gi_cgt (tgt := 36) hx hb dX8_zonesUpTo_30 (by decide) (by omega) (by omega) (fun c_29 => ?_) (fun c_29 => ?_)
      · refine lv_iinc (v := iI 1) (lv' := [(5, .int (iI 1)), (6, .int (iI z_2)), (4, .int (iI 0)), (0, .ref (ad 23)), (1, .int (iI a1)), (2, .int (iI a2)), (3, .int (iI a3))]) hx hb dX8_zonesUpTo_36 hl (k := 1) rfl (by show iI _ + iI 1 = _; rw [iI_add]; congr 1) (by decide) rfl (fun ls hl => ?_)
        refine lv_goto (tgt := 6) hx hb dX8_zonesUpTo_39 (by decide) ?_
        refine lv_iload hx hb dX8_zonesUpTo_6 (lv_at hl 0 rfl) ?_
        refine lv_iconst (v := iI 3) hx hb dX8_zonesUpTo_8 rfl ?_
        refine gi_cge (tgt := 42) hx hb dX8_zonesUpTo_9 (by decide) (by decide) (by decide) (fun c_30 => ?_) (fun c_30 => ?_)
        · exfalso; omega
        · refine lv_aload_n hx hb dX8_zonesUpTo_12 rfl (lv_at hl 3 rfl) ?_
          refine lv_iload_n hx hb dX8_zonesUpTo_13 rfl (lv_at hl 4 rfl) ?_
          refine lv_iload_n hx hb dX8_zonesUpTo_14 rfl (lv_at hl 5 rfl) ?_
          refine lv_iload hx hb dX8_zonesUpTo_15 (lv_at hl 0 rfl) ?_
          refine g_cv (As := [.int (iI a1), .int (iI a2), .int (iI 1)]) (rest := []) (n := 3) C hml (c_X8_zoneOf l D k A ad hD v f g a1 a2 1 (by omega) (by omega) (by decide) (show 0 ≤ a1 ∧ a1 ≤ 3 from by omega) (show 0 ≤ a2 ∧ a2 ≤ 4 from by omega) (show 0 ≤ (1 : Int) ∧ (1 : Int) < 3 from by omega)) mM_X8_27 mI_X8_zoneOf mE_X8_zoneOf mN_X8 mC_X8_zoneOf (by decide +kernel) 23 (ci := 8) rfl rfl hP hS (fun _ h => h) ⟨Nat.le_of_ble_eq_true rfl, Nat.le_of_ble_eq_true rfl⟩ ⟨Nat.zero_le _, Nat.zero_le _⟩ hl.1 rfl rfl (Nat.le_of_ble_eq_true rfl) dX8_zonesUpTo_17 (fun r_31 v_31 f_31 g_31 H locs hq_31 hP _ hS => ?_)
          obtain ⟨z_31, rfl, rfl, rfl, rfl, p0_31, p1_31⟩ := hq_31
          show W p l e (gRm 1 23) s m args below meth c _ _ 0 0 Q (F0 m 20 ls [.int (iI z_31)])
          replace p0_31 : z_31 = ((f 17) ((a1 * 5 + a2) * 3 + (1 : Int))) := p0_31
          replace p1_31 : 0 ≤ z_31 ∧ z_31 ≤ 60 := p1_31
          have hz_31 : inR z_31 := (by first | omega | (rw [p0_31]; split <;> omega))
          refine lv_istore (lv' := [(6, .int (iI z_31)), (5, .int (iI 1)), (4, .int (iI 0)), (0, .ref (ad 23)), (1, .int (iI a1)), (2, .int (iI a2)), (3, .int (iI a3))]) hx hb dX8_zonesUpTo_20 hl (by decide) rfl (fun ls hl => ?_)
          refine lv_iload hx hb dX8_zonesUpTo_22 (lv_at hl 0 rfl) ?_
          refine gi_zle (tgt := 36) hx hb dX8_zonesUpTo_24 (by decide) (by omega) (fun c_32 => ?_) (fun c_32 => ?_)
          · refine lv_iinc (v := iI 2) (lv' := [(5, .int (iI 2)), (6, .int (iI z_31)), (4, .int (iI 0)), (0, .ref (ad 23)), (1, .int (iI a1)), (2, .int (iI a2)), (3, .int (iI a3))]) hx hb dX8_zonesUpTo_36 hl (k := 1) rfl (by show iI _ + iI 1 = _; rw [iI_add]; congr 1) (by decide) rfl (fun ls hl => ?_)
            refine lv_goto (tgt := 6) hx hb dX8_zonesUpTo_39 (by decide) ?_
            refine lv_iload hx hb dX8_zonesUpTo_6 (lv_at hl 0 rfl) ?_
            refine lv_iconst (v := iI 3) hx hb dX8_zonesUpTo_8 rfl ?_
            refine gi_cge (tgt := 42) hx hb dX8_zonesUpTo_9 (by decide) (by decide) (by decide) (fun c_33 => ?_) (fun c_33 => ?_)
            · exfalso; omega
            · refine lv_aload_n hx hb dX8_zonesUpTo_12 rfl (lv_at hl 3 rfl) ?_
              refine lv_iload_n hx hb dX8_zonesUpTo_13 rfl (lv_at hl 4 rfl) ?_
              refine lv_iload_n hx hb dX8_zonesUpTo_14 rfl (lv_at hl 5 rfl) ?_
              refine lv_iload hx hb dX8_zonesUpTo_15 (lv_at hl 0 rfl) ?_
              refine g_cv (As := [.int (iI a1), .int (iI a2), .int (iI 2)]) (rest := []) (n := 3) C hml (c_X8_zoneOf l D k A ad hD v f g a1 a2 2 (by omega) (by omega) (by decide) (show 0 ≤ a1 ∧ a1 ≤ 3 from by omega) (show 0 ≤ a2 ∧ a2 ≤ 4 from by omega) (show 0 ≤ (2 : Int) ∧ (2 : Int) < 3 from by omega)) mM_X8_27 mI_X8_zoneOf mE_X8_zoneOf mN_X8 mC_X8_zoneOf (by decide +kernel) 23 (ci := 8) rfl rfl hP hS (fun _ h => h) ⟨Nat.le_of_ble_eq_true rfl, Nat.le_of_ble_eq_true rfl⟩ ⟨Nat.zero_le _, Nat.zero_le _⟩ hl.1 rfl rfl (Nat.le_of_ble_eq_true rfl) dX8_zonesUpTo_17 (fun r_34 v_34 f_34 g_34 H locs hq_34 hP _ hS => ?_)
              obtain ⟨z_34, rfl, rfl, rfl, rfl, p0_34, p1_34⟩ := hq_34
              show W p l e (gRm 1 23) s m args below meth c _ _ 0 0 Q (F0 m 20 ls [.int (iI z_34)])
              replace p0_34 : z_34 = ((f 17) ((a1 * 5 + a2) * 3 + (2 : Int))) := p0_34
              replace p1_34 : 0 ≤ z_34 ∧ z_34 ≤ 60 := p1_34
              have hz_34 : inR z_34 := (by first | omega | (rw [p0_34]; split <;> omega))
              refine lv_istore (lv' := [(6, .int (iI z_34)), (5, .int (iI 2)), (4, .int (iI 0)), (0, .ref (ad 23)), (1, .int (iI a1)), (2, .int (iI a2)), (3, .int (iI a3))]) hx hb dX8_zonesUpTo_20 hl (by decide) rfl (fun ls hl => ?_)
              refine lv_iload hx hb dX8_zonesUpTo_22 (lv_at hl 0 rfl) ?_
              refine gi_zle (tgt := 36) hx hb dX8_zonesUpTo_24 (by decide) (by omega) (fun c_35 => ?_) (fun c_35 => ?_)
              · refine lv_iinc (v := iI 3) (lv' := [(5, .int (iI 3)), (6, .int (iI z_34)), (4, .int (iI 0)), (0, .ref (ad 23)), (1, .int (iI a1)), (2, .int (iI a2)), (3, .int (iI a3))]) hx hb dX8_zonesUpTo_36 hl (k := 1) rfl (by show iI _ + iI 1 = _; rw [iI_add]; congr 1) (by decide) rfl (fun ls hl => ?_)
                refine lv_goto (tgt := 6) hx hb dX8_zonesUpTo_39 (by decide) ?_
                refine lv_iload hx hb dX8_zonesUpTo_6 (lv_at hl 0 rfl) ?_
                refine lv_iconst (v := iI 3) hx hb dX8_zonesUpTo_8 rfl ?_
                refine gi_cge (tgt := 42) hx hb dX8_zonesUpTo_9 (by decide) (by decide) (by decide) (fun c_36 => ?_) (fun c_36 => ?_)
                · refine lv_iload hx hb dX8_zonesUpTo_42 (lv_at hl 2 rfl) ?_
                  exact g_iret hQ C hr hlocks hP hS dX8_zonesUpTo_44 ⟨0, rfl, rfl, rfl, rfl, (by unfold zU; (repeat' split) <;> omega), (by first | omega | ((repeat' split) <;> omega))⟩
                · exfalso; omega
              · refine lv_iload hx hb dX8_zonesUpTo_27 (lv_at hl 0 rfl) ?_
                refine lv_iload_n hx hb dX8_zonesUpTo_29 rfl (lv_at hl 6 rfl) ?_
                refine gi_cgt (tgt := 36) hx hb dX8_zonesUpTo_30 (by decide) (by omega) (by omega) (fun c_37 => ?_) (fun c_37 => ?_)
                · refine lv_iinc (v := iI 3) (lv' := [(5, .int (iI 3)), (6, .int (iI z_34)), (4, .int (iI 0)), (0, .ref (ad 23)), (1, .int (iI a1)), (2, .int (iI a2)), (3, .int (iI a3))]) hx hb dX8_zonesUpTo_36 hl (k := 1) rfl (by show iI _ + iI 1 = _; rw [iI_add]; congr 1) (by decide) rfl (fun ls hl => ?_)
                  refine lv_goto (tgt := 6) hx hb dX8_zonesUpTo_39 (by decide) ?_
                  refine lv_iload hx hb dX8_zonesUpTo_6 (lv_at hl 0 rfl) ?_
                  refine lv_iconst (v := iI 3) hx hb dX8_zonesUpTo_8 rfl ?_
                  refine gi_cge (tgt := 42) hx hb dX8_zonesUpTo_9 (by decide) (by decide) (by decide) (fun c_38 => ?_) (fun c_38 => ?_)
                  · refine lv_iload hx hb dX8_zonesUpTo_42 (lv_at hl 2 rfl) ?_
                    exact g_iret hQ C hr hlocks hP hS dX8_zonesUpTo_44 ⟨0, rfl, rfl, rfl, rfl, (by unfold zU; (repeat' split) <;> omega), (by first | omega | ((repeat' split) <;> omega))⟩
                  · exfalso; omega
                · refine lv_iinc (v := iI 1) (lv' := [(4, .int (iI 1)), (6, .int (iI z_34)), (5, .int (iI 2)), (0, .ref (ad 23)), (1, .int (iI a1)), (2, .int (iI a2)), (3, .int (iI a3))]) hx hb dX8_zonesUpTo_33 hl (k := 2) rfl (by show iI _ + iI 1 = _; rw [iI_add]; congr 1) (by decide) rfl (fun ls hl => ?_)
                  refine lv_iinc (v := iI 3) (lv' := [(5, .int (iI 3)), (4, .int (iI 1)), (6, .int (iI z_34)), (0, .ref (ad 23)), (1, .int (iI a1)), (2, .int (iI a2)), (3, .int (iI a3))]) hx hb dX8_zonesUpTo_36 hl (k := 2) rfl (by show iI _ + iI 1 = _; rw [iI_add]; congr 1) (by decide) rfl (fun ls hl => ?_)
                  refine lv_goto (tgt := 6) hx hb dX8_zonesUpTo_39 (by decide) ?_
                  refine lv_iload hx hb dX8_zonesUpTo_6 (lv_at hl 0 rfl) ?_
                  refine lv_iconst (v := iI 3) hx hb dX8_zonesUpTo_8 rfl ?_
                  refine gi_cge (tgt := 42) hx hb dX8_zonesUpTo_9 (by decide) (by decide) (by decide) (fun c_39 => ?_) (fun c_39 => ?_)
                  · refine lv_iload hx hb dX8_zonesUpTo_42 (lv_at hl 1 rfl) ?_
                    exact g_iret hQ C hr hlocks hP hS dX8_zonesUpTo_44 ⟨1, rfl, rfl, rfl, rfl, (by unfold zU; (repeat' split) <;> omega), (by first | omega | ((repeat' split) <;> omega))⟩
                  · exfalso; omega
          · refine lv_iload hx hb dX8_zonesUpTo_27 (lv_at hl 0 rfl) ?_
            refine lv_iload_n hx hb dX8_zonesUpTo_29 rfl (lv_at hl 6 rfl) ?_
            refine gi_cgt (tgt := 36) hx hb dX8_zonesUpTo_30 (by decide) (by omega) (by omega) (fun c_40 => ?_) (fun c_40 => ?_)
            · refine lv_iinc (v := iI 2) (lv' := [(5, .int (iI 2)), (6, .int (iI z_31)), (4, .int (iI 0)), (0, .ref (ad 23)), (1, .int (iI a1)), (2, .int (iI a2)), (3, .int (iI a3))]) hx hb dX8_zonesUpTo_36 hl (k := 1) rfl (by show iI _ + iI 1 = _; rw [iI_add]; congr 1) (by decide) rfl (fun ls hl => ?_)
              refine lv_goto (tgt := 6) hx hb dX8_zonesUpTo_39 (by decide) ?_
              refine lv_iload hx hb dX8_zonesUpTo_6 (lv_at hl 0 rfl) ?_
              refine lv_iconst (v := iI 3) hx hb dX8_zonesUpTo_8 rfl ?_
              refine gi_cge (tgt := 42) hx hb dX8_zonesUpTo_9 (by decide) (by decide) (by decide) (fun c_41 => ?_) (fun c_41 => ?_)
              · exfalso; omega
              · refine lv_aload_n hx hb dX8_zonesUpTo_12 rfl (lv_at hl 3 rfl) ?_
                refine lv_iload_n hx hb dX8_zonesUpTo_13 rfl (lv_at hl 4 rfl) ?_
                refine lv_iload_n hx hb dX8_zonesUpTo_14 rfl (lv_at hl 5 rfl) ?_
                refine lv_iload hx hb dX8_zonesUpTo_15 (lv_at hl 0 rfl) ?_
                refine g_cv (As := [.int (iI a1), .int (iI a2), .int (iI 2)]) (rest := []) (n := 3) C hml (c_X8_zoneOf l D k A ad hD v f g a1 a2 2 (by omega) (by omega) (by decide) (show 0 ≤ a1 ∧ a1 ≤ 3 from by omega) (show 0 ≤ a2 ∧ a2 ≤ 4 from by omega) (show 0 ≤ (2 : Int) ∧ (2 : Int) < 3 from by omega)) mM_X8_27 mI_X8_zoneOf mE_X8_zoneOf mN_X8 mC_X8_zoneOf (by decide +kernel) 23 (ci := 8) rfl rfl hP hS (fun _ h => h) ⟨Nat.le_of_ble_eq_true rfl, Nat.le_of_ble_eq_true rfl⟩ ⟨Nat.zero_le _, Nat.zero_le _⟩ hl.1 rfl rfl (Nat.le_of_ble_eq_true rfl) dX8_zonesUpTo_17 (fun r_42 v_42 f_42 g_42 H locs hq_42 hP _ hS => ?_)
                obtain ⟨z_42, rfl, rfl, rfl, rfl, p0_42, p1_42⟩ := hq_42
                show W p l e (gRm 1 23) s m args below meth c _ _ 0 0 Q (F0 m 20 ls [.int (iI z_42)])
                replace p0_42 : z_42 = ((f 17) ((a1 * 5 + a2) * 3 + (2 : Int))) := p0_42
                replace p1_42 : 0 ≤ z_42 ∧ z_42 ≤ 60 := p1_42
                have hz_42 : inR z_42 := (by first | omega | (rw [p0_42]; split <;> omega))
                refine lv_istore (lv' := [(6, .int (iI z_42)), (5, .int (iI 2)), (4, .int (iI 0)), (0, .ref (ad 23)), (1, .int (iI a1)), (2, .int (iI a2)), (3, .int (iI a3))]) hx hb dX8_zonesUpTo_20 hl (by decide) rfl (fun ls hl => ?_)
                refine lv_iload hx hb dX8_zonesUpTo_22 (lv_at hl 0 rfl) ?_
                refine gi_zle (tgt := 36) hx hb dX8_zonesUpTo_24 (by decide) (by omega) (fun c_43 => ?_) (fun c_43 => ?_)
                · refine lv_iinc (v := iI 3) (lv' := [(5, .int (iI 3)), (6, .int (iI z_42)), (4, .int (iI 0)), (0, .ref (ad 23)), (1, .int (iI a1)), (2, .int (iI a2)), (3, .int (iI a3))]) hx hb dX8_zonesUpTo_36 hl (k := 1) rfl (by show iI _ + iI 1 = _; rw [iI_add]; congr 1) (by decide) rfl (fun ls hl => ?_)
                  refine lv_goto (tgt := 6) hx hb dX8_zonesUpTo_39 (by decide) ?_
                  refine lv_iload hx hb dX8_zonesUpTo_6 (lv_at hl 0 rfl) ?_
                  refine lv_iconst (v := iI 3) hx hb dX8_zonesUpTo_8 rfl ?_
                  refine gi_cge (tgt := 42) hx hb dX8_zonesUpTo_9 (by decide) (by decide) (by decide) (fun c_44 => ?_) (fun c_44 => ?_)
                  · refine lv_iload hx hb dX8_zonesUpTo_42 (lv_at hl 2 rfl) ?_
                    exact g_iret hQ C hr hlocks hP hS dX8_zonesUpTo_44 ⟨0, rfl, rfl, rfl, rfl, (by unfold zU; (repeat' split) <;> omega), (by first | omega | ((repeat' split) <;> omega))⟩
                  · exfalso; omega
                · refine lv_iload hx hb dX8_zonesUpTo_27 (lv_at hl 0 rfl) ?_
                  refine lv_iload_n hx hb dX8_zonesUpTo_29 rfl (lv_at hl 6 rfl) ?_
                  refine gi_cgt (tgt := 36) hx hb dX8_zonesUpTo_30 (by decide) (by omega) (by omega) (fun c_45 => ?_) (fun c_45 => ?_)
                  · refine lv_iinc (v := iI 3) (lv' := [(5, .int (iI 3)), (6, .int (iI z_42)), (4, .int (iI 0)), (0, .ref (ad 23)), (1, .int (iI a1)), (2, .int (iI a2)), (3, .int (iI a3))]) hx hb dX8_zonesUpTo_36 hl (k := 1) rfl (by show iI _ + iI 1 = _; rw [iI_add]; congr 1) (by decide) rfl (fun ls hl => ?_)
                    refine lv_goto (tgt := 6) hx hb dX8_zonesUpTo_39 (by decide) ?_
                    refine lv_iload hx hb dX8_zonesUpTo_6 (lv_at hl 0 rfl) ?_
                    refine lv_iconst (v := iI 3) hx hb dX8_zonesUpTo_8 rfl ?_
                    refine gi_cge (tgt := 42) hx hb dX8_zonesUpTo_9 (by decide) (by decide) (by decide) (fun c_46 => ?_) (fun c_46 => ?_)
                    · refine lv_iload hx hb dX8_zonesUpTo_42 (lv_at hl 2 rfl) ?_
                      exact g_iret hQ C hr hlocks hP hS dX8_zonesUpTo_44 ⟨0, rfl, rfl, rfl, rfl, (by unfold zU; (repeat' split) <;> omega), (by first | omega | ((repeat' split) <;> omega))⟩
                    · exfalso; omega
                  · refine lv_iinc (v := iI 1) (lv' := [(4, .int (iI 1)), (6, .int (iI z_42)), (5, .int (iI 2)), (0, .ref (ad 23)), (1, .int (iI a1)), (2, .int (iI a2)), (3, .int (iI a3))]) hx hb dX8_zonesUpTo_33 hl (k := 2) rfl (by show iI _ + iI 1 = _; rw [iI_add]; congr 1) (by decide) rfl (fun ls hl => ?_)
                    refine lv_iinc (v := iI 3) (lv' := [(5, .int (iI 3)), (4, .int (iI 1)), (6, .int (iI z_42)), (0, .ref (ad 23)), (1, .int (iI a1)), (2, .int (iI a2)), (3, .int (iI a3))]) hx hb dX8_zonesUpTo_36 hl (k := 2) rfl (by show iI _ + iI 1 = _; rw [iI_add]; congr 1) (by decide) rfl (fun ls hl => ?_)
                    refine lv_goto (tgt := 6) hx hb dX8_zonesUpTo_39 (by decide) ?_
                    refine lv_iload hx hb dX8_zonesUpTo_6 (lv_at hl 0 rfl) ?_
                    refine lv_iconst (v := iI 3) hx hb dX8_zonesUpTo_8 rfl ?_
                    refine gi_cge (tgt := 42) hx hb dX8_zonesUpTo_9 (by decide) (by decide) (by decide) (fun c_47 => ?_) (fun c_47 => ?_)
                    · refine lv_iload hx hb dX8_zonesUpTo_42 (lv_at hl 1 rfl) ?_
                      exact g_iret hQ C hr hlocks hP hS dX8_zonesUpTo_44 ⟨1, rfl, rfl, rfl, rfl, (by unfold zU; (repeat' split) <;> omega), (by first | omega | ((repeat' split) <;> omega))⟩
                    · exfalso; omega
            · refine lv_iinc (v := iI 1) (lv' := [(4, .int (iI 1)), (6, .int (iI z_31)), (5, .int (iI 1)), (0, .ref (ad 23)), (1, .int (iI a1)), (2, .int (iI a2)), (3, .int (iI a3))]) hx hb dX8_zonesUpTo_33 hl (k := 2) rfl (by show iI _ + iI 1 = _; rw [iI_add]; congr 1) (by decide) rfl (fun ls hl => ?_)
              refine lv_iinc (v := iI 2) (lv' := [(5, .int (iI 2)), (4, .int (iI 1)), (6, .int (iI z_31)), (0, .ref (ad 23)), (1, .int (iI a1)), (2, .int (iI a2)), (3, .int (iI a3))]) hx hb dX8_zonesUpTo_36 hl (k := 2) rfl (by show iI _ + iI 1 = _; rw [iI_add]; congr 1) (by decide) rfl (fun ls hl => ?_)
              refine lv_goto (tgt := 6) hx hb dX8_zonesUpTo_39 (by decide) ?_
              refine lv_iload hx hb dX8_zonesUpTo_6 (lv_at hl 0 rfl) ?_
              refine lv_iconst (v := iI 3) hx hb dX8_zonesUpTo_8 rfl ?_
              refine gi_cge (tgt := 42) hx hb dX8_zonesUpTo_9 (by decide) (by decide) (by decide) (fun c_48 => ?_) (fun c_48 => ?_)
              · exfalso; omega
              · refine lv_aload_n hx hb dX8_zonesUpTo_12 rfl (lv_at hl 3 rfl) ?_
                refine lv_iload_n hx hb dX8_zonesUpTo_13 rfl (lv_at hl 4 rfl) ?_
                refine lv_iload_n hx hb dX8_zonesUpTo_14 rfl (lv_at hl 5 rfl) ?_
                refine lv_iload hx hb dX8_zonesUpTo_15 (lv_at hl 0 rfl) ?_
                refine g_cv (As := [.int (iI a1), .int (iI a2), .int (iI 2)]) (rest := []) (n := 3) C hml (c_X8_zoneOf l D k A ad hD v f g a1 a2 2 (by omega) (by omega) (by decide) (show 0 ≤ a1 ∧ a1 ≤ 3 from by omega) (show 0 ≤ a2 ∧ a2 ≤ 4 from by omega) (show 0 ≤ (2 : Int) ∧ (2 : Int) < 3 from by omega)) mM_X8_27 mI_X8_zoneOf mE_X8_zoneOf mN_X8 mC_X8_zoneOf (by decide +kernel) 23 (ci := 8) rfl rfl hP hS (fun _ h => h) ⟨Nat.le_of_ble_eq_true rfl, Nat.le_of_ble_eq_true rfl⟩ ⟨Nat.zero_le _, Nat.zero_le _⟩ hl.1 rfl rfl (Nat.le_of_ble_eq_true rfl) dX8_zonesUpTo_17 (fun r_49 v_49 f_49 g_49 H locs hq_49 hP _ hS => ?_)
                obtain ⟨z_49, rfl, rfl, rfl, rfl, p0_49, p1_49⟩ := hq_49
                show W p l e (gRm 1 23) s m args below meth c _ _ 0 0 Q (F0 m 20 ls [.int (iI z_49)])
                replace p0_49 : z_49 = ((f 17) ((a1 * 5 + a2) * 3 + (2 : Int))) := p0_49
                replace p1_49 : 0 ≤ z_49 ∧ z_49 ≤ 60 := p1_49
                have hz_49 : inR z_49 := (by first | omega | (rw [p0_49]; split <;> omega))
                refine lv_istore (lv' := [(6, .int (iI z_49)), (5, .int (iI 2)), (4, .int (iI 1)), (0, .ref (ad 23)), (1, .int (iI a1)), (2, .int (iI a2)), (3, .int (iI a3))]) hx hb dX8_zonesUpTo_20 hl (by decide) rfl (fun ls hl => ?_)
                refine lv_iload hx hb dX8_zonesUpTo_22 (lv_at hl 0 rfl) ?_
                refine gi_zle (tgt := 36) hx hb dX8_zonesUpTo_24 (by decide) (by omega) (fun c_50 => ?_) (fun c_50 => ?_)
                · refine lv_iinc (v := iI 3) (lv' := [(5, .int (iI 3)), (6, .int (iI z_49)), (4, .int (iI 1)), (0, .ref (ad 23)), (1, .int (iI a1)), (2, .int (iI a2)), (3, .int (iI a3))]) hx hb dX8_zonesUpTo_36 hl (k := 1) rfl (by show iI _ + iI 1 = _; rw [iI_add]; congr 1) (by decide) rfl (fun ls hl => ?_)
                  refine lv_goto (tgt := 6) hx hb dX8_zonesUpTo_39 (by decide) ?_
                  refine lv_iload hx hb dX8_zonesUpTo_6 (lv_at hl 0 rfl) ?_
                  refine lv_iconst (v := iI 3) hx hb dX8_zonesUpTo_8 rfl ?_
                  refine gi_cge (tgt := 42) hx hb dX8_zonesUpTo_9 (by decide) (by decide) (by decide) (fun c_51 => ?_) (fun c_51 => ?_)
                  · refine lv_iload hx hb dX8_zonesUpTo_42 (lv_at hl 2 rfl) ?_
                    exact g_iret hQ C hr hlocks hP hS dX8_zonesUpTo_44 ⟨1, rfl, rfl, rfl, rfl, (by unfold zU; (repeat' split) <;> omega), (by first | omega | ((repeat' split) <;> omega))⟩
                  · exfalso; omega
                · refine lv_iload hx hb dX8_zonesUpTo_27 (lv_at hl 0 rfl) ?_
                  refine lv_iload_n hx hb dX8_zonesUpTo_29 rfl (lv_at hl 6 rfl) ?_
                  refine gi_cgt (tgt := 36) hx hb dX8_zonesUpTo_30 (by decide) (by omega) (by omega) (fun c_52 => ?_) (fun c_52 => ?_)
                  · refine lv_iinc (v := iI 3) (lv' := [(5, .int (iI 3)), (6, .int (iI z_49)), (4, .int (iI 1)), (0, .ref (ad 23)), (1, .int (iI a1)), (2, .int (iI a2)), (3, .int (iI a3))]) hx hb dX8_zonesUpTo_36 hl (k := 1) rfl (by show iI _ + iI 1 = _; rw [iI_add]; congr 1) (by decide) rfl (fun ls hl => ?_)
                    refine lv_goto (tgt := 6) hx hb dX8_zonesUpTo_39 (by decide) ?_
                    refine lv_iload hx hb dX8_zonesUpTo_6 (lv_at hl 0 rfl) ?_
                    refine lv_iconst (v := iI 3) hx hb dX8_zonesUpTo_8 rfl ?_
                    refine gi_cge (tgt := 42) hx hb dX8_zonesUpTo_9 (by decide) (by decide) (by decide) (fun c_53 => ?_) (fun c_53 => ?_)
                    · refine lv_iload hx hb dX8_zonesUpTo_42 (lv_at hl 2 rfl) ?_
                      exact g_iret hQ C hr hlocks hP hS dX8_zonesUpTo_44 ⟨1, rfl, rfl, rfl, rfl, (by unfold zU; (repeat' split) <;> omega), (by first | omega | ((repeat' split) <;> omega))⟩
                    · exfalso; omega
                  · refine lv_iinc (v := iI 2) (lv' := [(4, .int (iI 2)), (6, .int (iI z_49)), (5, .int (iI 2)), (0, .ref (ad 23)), (1, .int (iI a1)), (2, .int (iI a2)), (3, .int (iI a3))]) hx hb dX8_zonesUpTo_33 hl (k := 2) rfl (by show iI _ + iI 1 = _; rw [iI_add]; congr 1) (by decide) rfl (fun ls hl => ?_)
                    refine lv_iinc (v := iI 3) (lv' := [(5, .int (iI 3)), (4, .int (iI 2)), (6, .int (iI z_49)), (0, .ref (ad 23)), (1, .int (iI a1)), (2, .int (iI a2)), (3, .int (iI a3))]) hx hb dX8_zonesUpTo_36 hl (k := 2) rfl (by show iI _ + iI 1 = _; rw [iI_add]; congr 1) (by decide) rfl (fun ls hl => ?_)
                    refine lv_goto (tgt := 6) hx hb dX8_zonesUpTo_39 (by decide) ?_
                    refine lv_iload hx hb dX8_zonesUpTo_6 (lv_at hl 0 rfl) ?_
                    refine lv_iconst (v := iI 3) hx hb dX8_zonesUpTo_8 rfl ?_
                    refine gi_cge (tgt := 42) hx hb dX8_zonesUpTo_9 (by decide) (by decide) (by decide) (fun c_54 => ?_) (fun c_54 => ?_)
                    · refine lv_iload hx hb dX8_zonesUpTo_42 (lv_at hl 1 rfl) ?_
                      exact g_iret hQ C hr hlocks hP hS dX8_zonesUpTo_44 ⟨2, rfl, rfl, rfl, rfl, (by unfold zU; (repeat' split) <;> omega), (by first | omega | ((repeat' split) <;> omega))⟩
                    · exfalso; omega
      · refine lv_iinc (v := iI 1) (lv' := [(4, .int (iI 1)), (6, .int (iI z_2)), (5, .int (iI 0)), (0, .ref (ad 23)), (1, .int (iI a1)), (2, .int (iI a2)), (3, .int (iI a3))]) hx hb dX8_zonesUpTo_33 hl (k := 2) rfl (by show iI _ + iI 1 = _; rw [iI_add]; congr 1) (by decide) rfl (fun ls hl => ?_)
        refine lv_iinc (v := iI 1) (lv' := [(5, .int (iI 1)), (4, .int (iI 1)), (6, .int (iI z_2)), (0, .ref (ad 23)), (1, .int (iI a1)), (2, .int (iI a2)), (3, .int (iI a3))]) hx hb dX8_zonesUpTo_36 hl (k := 2) rfl (by show iI _ + iI 1 = _; rw [iI_add]; congr 1) (by decide) rfl (fun ls hl => ?_)
        refine lv_goto (tgt := 6) hx hb dX8_zonesUpTo_39 (by decide) ?_
        refine lv_iload hx hb dX8_zonesUpTo_6 (lv_at hl 0 rfl) ?_
        refine lv_iconst (v := iI 3) hx hb dX8_zonesUpTo_8 rfl ?_
        refine gi_cge (tgt := 42) hx hb dX8_zonesUpTo_9 (by decide) (by decide) (by decide) (fun c_55 => ?_) (fun c_55 => ?_)
        · exfalso; omega
        · refine lv_aload_n hx hb dX8_zonesUpTo_12 rfl (lv_at hl 3 rfl) ?_
          refine lv_iload_n hx hb dX8_zonesUpTo_13 rfl (lv_at hl 4 rfl) ?_
          refine lv_iload_n hx hb dX8_zonesUpTo_14 rfl (lv_at hl 5 rfl) ?_
          refine lv_iload hx hb dX8_zonesUpTo_15 (lv_at hl 0 rfl) ?_
          refine g_cv (As := [.int (iI a1), .int (iI a2), .int (iI 1)]) (rest := []) (n := 3) C hml (c_X8_zoneOf l D k A ad hD v f g a1 a2 1 (by omega) (by omega) (by decide) (show 0 ≤ a1 ∧ a1 ≤ 3 from by omega) (show 0 ≤ a2 ∧ a2 ≤ 4 from by omega) (show 0 ≤ (1 : Int) ∧ (1 : Int) < 3 from by omega)) mM_X8_27 mI_X8_zoneOf mE_X8_zoneOf mN_X8 mC_X8_zoneOf (by decide +kernel) 23 (ci := 8) rfl rfl hP hS (fun _ h => h) ⟨Nat.le_of_ble_eq_true rfl, Nat.le_of_ble_eq_true rfl⟩ ⟨Nat.zero_le _, Nat.zero_le _⟩ hl.1 rfl rfl (Nat.le_of_ble_eq_true rfl) dX8_zonesUpTo_17 (fun r_56 v_56 f_56 g_56 H locs hq_56 hP _ hS => ?_)
          obtain ⟨z_56, rfl, rfl, rfl, rfl, p0_56, p1_56⟩ := hq_56
          show W p l e (gRm 1 23) s m args below meth c _ _ 0 0 Q (F0 m 20 ls [.int (iI z_56)])
          replace p0_56 : z_56 = ((f 17) ((a1 * 5 + a2) * 3 + (1 : Int))) := p0_56
          replace p1_56 : 0 ≤ z_56 ∧ z_56 ≤ 60 := p1_56
          have hz_56 : inR z_56 := (by first | omega | (rw [p0_56]; split <;> omega))
          refine lv_istore (lv' := [(6, .int (iI z_56)), (5, .int (iI 1)), (4, .int (iI 1)), (0, .ref (ad 23)), (1, .int (iI a1)), (2, .int (iI a2)), (3, .int (iI a3))]) hx hb dX8_zonesUpTo_20 hl (by decide) rfl (fun ls hl => ?_)
          refine lv_iload hx hb dX8_zonesUpTo_22 (lv_at hl 0 rfl) ?_
          refine gi_zle (tgt := 36) hx hb dX8_zonesUpTo_24 (by decide) (by omega) (fun c_57 => ?_) (fun c_57 => ?_)
          · refine lv_iinc (v := iI 2) (lv' := [(5, .int (iI 2)), (6, .int (iI z_56)), (4, .int (iI 1)), (0, .ref (ad 23)), (1, .int (iI a1)), (2, .int (iI a2)), (3, .int (iI a3))]) hx hb dX8_zonesUpTo_36 hl (k := 1) rfl (by show iI _ + iI 1 = _; rw [iI_add]; congr 1) (by decide) rfl (fun ls hl => ?_)
            refine lv_goto (tgt := 6) hx hb dX8_zonesUpTo_39 (by decide) ?_
            refine lv_iload hx hb dX8_zonesUpTo_6 (lv_at hl 0 rfl) ?_
            refine lv_iconst (v := iI 3) hx hb dX8_zonesUpTo_8 rfl ?_
            refine gi_cge (tgt := 42) hx hb dX8_zonesUpTo_9 (by decide) (by decide) (by decide) (fun c_58 => ?_) (fun c_58 => ?_)
            · exfalso; omega
            · refine lv_aload_n hx hb dX8_zonesUpTo_12 rfl (lv_at hl 3 rfl) ?_
              refine lv_iload_n hx hb dX8_zonesUpTo_13 rfl (lv_at hl 4 rfl) ?_
              refine lv_iload_n hx hb dX8_zonesUpTo_14 rfl (lv_at hl 5 rfl) ?_
              refine lv_iload hx hb dX8_zonesUpTo_15 (lv_at hl 0 rfl) ?_
              refine g_cv (As := [.int (iI a1), .int (iI a2), .int (iI 2)]) (rest := []) (n := 3) C hml (c_X8_zoneOf l D k A ad hD v f g a1 a2 2 (by omega) (by omega) (by decide) (show 0 ≤ a1 ∧ a1 ≤ 3 from by omega) (show 0 ≤ a2 ∧ a2 ≤ 4 from by omega) (show 0 ≤ (2 : Int) ∧ (2 : Int) < 3 from by omega)) mM_X8_27 mI_X8_zoneOf mE_X8_zoneOf mN_X8 mC_X8_zoneOf (by decide +kernel) 23 (ci := 8) rfl rfl hP hS (fun _ h => h) ⟨Nat.le_of_ble_eq_true rfl, Nat.le_of_ble_eq_true rfl⟩ ⟨Nat.zero_le _, Nat.zero_le _⟩ hl.1 rfl rfl (Nat.le_of_ble_eq_true rfl) dX8_zonesUpTo_17 (fun r_59 v_59 f_59 g_59 H locs hq_59 hP _ hS => ?_)
              obtain ⟨z_59, rfl, rfl, rfl, rfl, p0_59, p1_59⟩ := hq_59
              show W p l e (gRm 1 23) s m args below meth c _ _ 0 0 Q (F0 m 20 ls [.int (iI z_59)])
              replace p0_59 : z_59 = ((f 17) ((a1 * 5 + a2) * 3 + (2 : Int))) := p0_59
              replace p1_59 : 0 ≤ z_59 ∧ z_59 ≤ 60 := p1_59
              have hz_59 : inR z_59 := (by first | omega | (rw [p0_59]; split <;> omega))
              refine lv_istore (lv' := [(6, .int (iI z_59)), (5, .int (iI 2)), (4, .int (iI 1)), (0, .ref (ad 23)), (1, .int (iI a1)), (2, .int (iI a2)), (3, .int (iI a3))]) hx hb dX8_zonesUpTo_20 hl (by decide) rfl (fun ls hl => ?_)
              refine lv_iload hx hb dX8_zonesUpTo_22 (lv_at hl 0 rfl) ?_
              refine gi_zle (tgt := 36) hx hb dX8_zonesUpTo_24 (by decide) (by omega) (fun c_60 => ?_) (fun c_60 => ?_)
              · refine lv_iinc (v := iI 3) (lv' := [(5, .int (iI 3)), (6, .int (iI z_59)), (4, .int (iI 1)), (0, .ref (ad 23)), (1, .int (iI a1)), (2, .int (iI a2)), (3, .int (iI a3))]) hx hb dX8_zonesUpTo_36 hl (k := 1) rfl (by show iI _ + iI 1 = _; rw [iI_add]; congr 1) (by decide) rfl (fun ls hl => ?_)
                refine lv_goto (tgt := 6) hx hb dX8_zonesUpTo_39 (by decide) ?_
                refine lv_iload hx hb dX8_zonesUpTo_6 (lv_at hl 0 rfl) ?_
                refine lv_iconst (v := iI 3) hx hb dX8_zonesUpTo_8 rfl ?_
                refine gi_cge (tgt := 42) hx hb dX8_zonesUpTo_9 (by decide) (by decide) (by decide) (fun c_61 => ?_) (fun c_61 => ?_)
                · refine lv_iload hx hb dX8_zonesUpTo_42 (lv_at hl 2 rfl) ?_
                  exact g_iret hQ C hr hlocks hP hS dX8_zonesUpTo_44 ⟨1, rfl, rfl, rfl, rfl, (by unfold zU; (repeat' split) <;> omega), (by first | omega | ((repeat' split) <;> omega))⟩
                · exfalso; omega
              · refine lv_iload hx hb dX8_zonesUpTo_27 (lv_at hl 0 rfl) ?_
                refine lv_iload_n hx hb dX8_zonesUpTo_29 rfl (lv_at hl 6 rfl) ?_
                refine gi_cgt (tgt := 36) hx hb dX8_zonesUpTo_30 (by decide) (by omega) (by omega) (fun c_62 => ?_) (fun c_62 => ?_)
                · refine lv_iinc (v := iI 3) (lv' := [(5, .int (iI 3)), (6, .int (iI z_59)), (4, .int (iI 1)), (0, .ref (ad 23)), (1, .int (iI a1)), (2, .int (iI a2)), (3, .int (iI a3))]) hx hb dX8_zonesUpTo_36 hl (k := 1) rfl (by show iI _ + iI 1 = _; rw [iI_add]; congr 1) (by decide) rfl (fun ls hl => ?_)
                  refine lv_goto (tgt := 6) hx hb dX8_zonesUpTo_39 (by decide) ?_
                  refine lv_iload hx hb dX8_zonesUpTo_6 (lv_at hl 0 rfl) ?_
                  refine lv_iconst (v := iI 3) hx hb dX8_zonesUpTo_8 rfl ?_
                  refine gi_cge (tgt := 42) hx hb dX8_zonesUpTo_9 (by decide) (by decide) (by decide) (fun c_63 => ?_) (fun c_63 => ?_)
                  · refine lv_iload hx hb dX8_zonesUpTo_42 (lv_at hl 2 rfl) ?_
                    exact g_iret hQ C hr hlocks hP hS dX8_zonesUpTo_44 ⟨1, rfl, rfl, rfl, rfl, (by unfold zU; (repeat' split) <;> omega), (by first | omega | ((repeat' split) <;> omega))⟩
                  · exfalso; omega
                · refine lv_iinc (v := iI 2) (lv' := [(4, .int (iI 2)), (6, .int (iI z_59)), (5, .int (iI 2)), (0, .ref (ad 23)), (1, .int (iI a1)), (2, .int (iI a2)), (3, .int (iI a3))]) hx hb dX8_zonesUpTo_33 hl (k := 2) rfl (by show iI _ + iI 1 = _; rw [iI_add]; congr 1) (by decide) rfl (fun ls hl => ?_)
                  refine lv_iinc (v := iI 3) (lv' := [(5, .int (iI 3)), (4, .int (iI 2)), (6, .int (iI z_59)), (0, .ref (ad 23)), (1, .int (iI a1)), (2, .int (iI a2)), (3, .int (iI a3))]) hx hb dX8_zonesUpTo_36 hl (k := 2) rfl (by show iI _ + iI 1 = _; rw [iI_add]; congr 1) (by decide) rfl (fun ls hl => ?_)
                  refine lv_goto (tgt := 6) hx hb dX8_zonesUpTo_39 (by decide) ?_
                  refine lv_iload hx hb dX8_zonesUpTo_6 (lv_at hl 0 rfl) ?_
                  refine lv_iconst (v := iI 3) hx hb dX8_zonesUpTo_8 rfl ?_
                  refine gi_cge (tgt := 42) hx hb dX8_zonesUpTo_9 (by decide) (by decide) (by decide) (fun c_64 => ?_) (fun c_64 => ?_)
                  · refine lv_iload hx hb dX8_zonesUpTo_42 (lv_at hl 1 rfl) ?_
                    exact g_iret hQ C hr hlocks hP hS dX8_zonesUpTo_44 ⟨2, rfl, rfl, rfl, rfl, (by unfold zU; (repeat' split) <;> omega), (by first | omega | ((repeat' split) <;> omega))⟩
                  · exfalso; omega
          · refine lv_iload hx hb dX8_zonesUpTo_27 (lv_at hl 0 rfl) ?_
            refine lv_iload_n hx hb dX8_zonesUpTo_29 rfl (lv_at hl 6 rfl) ?_
            refine gi_cgt (tgt := 36) hx hb dX8_zonesUpTo_30 (by decide) (by omega) (by omega) (fun c_65 => ?_) (fun c_65 => ?_)
            · refine lv_iinc (v := iI 2) (lv' := [(5, .int (iI 2)), (6, .int (iI z_56)), (4, .int (iI 1)), (0, .ref (ad 23)), (1, .int (iI a1)), (2, .int (iI a2)), (3, .int (iI a3))]) hx hb dX8_zonesUpTo_36 hl (k := 1) rfl (by show iI _ + iI 1 = _; rw [iI_add]; congr 1) (by decide) rfl (fun ls hl => ?_)
              refine lv_goto (tgt := 6) hx hb dX8_zonesUpTo_39 (by decide) ?_
              refine lv_iload hx hb dX8_zonesUpTo_6 (lv_at hl 0 rfl) ?_
              refine lv_iconst (v := iI 3) hx hb dX8_zonesUpTo_8 rfl ?_
              refine gi_cge (tgt := 42) hx hb dX8_zonesUpTo_9 (by decide) (by decide) (by decide) (fun c_66 => ?_) (fun c_66 => ?_)
              · exfalso; omega
              · refine lv_aload_n hx hb dX8_zonesUpTo_12 rfl (lv_at hl 3 rfl) ?_
                refine lv_iload_n hx hb dX8_zonesUpTo_13 rfl (lv_at hl 4 rfl) ?_
                refine lv_iload_n hx hb dX8_zonesUpTo_14 rfl (lv_at hl 5 rfl) ?_
                refine lv_iload hx hb dX8_zonesUpTo_15 (lv_at hl 0 rfl) ?_
                refine g_cv (As := [.int (iI a1), .int (iI a2), .int (iI 2)]) (rest := []) (n := 3) C hml (c_X8_zoneOf l D k A ad hD v f g a1 a2 2 (by omega) (by omega) (by decide) (show 0 ≤ a1 ∧ a1 ≤ 3 from by omega) (show 0 ≤ a2 ∧ a2 ≤ 4 from by omega) (show 0 ≤ (2 : Int) ∧ (2 : Int) < 3 from by omega)) mM_X8_27 mI_X8_zoneOf mE_X8_zoneOf mN_X8 mC_X8_zoneOf (by decide +kernel) 23 (ci := 8) rfl rfl hP hS (fun _ h => h) ⟨Nat.le_of_ble_eq_true rfl, Nat.le_of_ble_eq_true rfl⟩ ⟨Nat.zero_le _, Nat.zero_le _⟩ hl.1 rfl rfl (Nat.le_of_ble_eq_true rfl) dX8_zonesUpTo_17 (fun r_67 v_67 f_67 g_67 H locs hq_67 hP _ hS => ?_)
                obtain ⟨z_67, rfl, rfl, rfl, rfl, p0_67, p1_67⟩ := hq_67
                show W p l e (gRm 1 23) s m args below meth c _ _ 0 0 Q (F0 m 20 ls [.int (iI z_67)])
                replace p0_67 : z_67 = ((f 17) ((a1 * 5 + a2) * 3 + (2 : Int))) := p0_67
                replace p1_67 : 0 ≤ z_67 ∧ z_67 ≤ 60 := p1_67
                have hz_67 : inR z_67 := (by first | omega | (rw [p0_67]; split <;> omega))
                refine lv_istore (lv' := [(6, .int (iI z_67)), (5, .int (iI 2)), (4, .int (iI 1)), (0, .ref (ad 23)), (1, .int (iI a1)), (2, .int (iI a2)), (3, .int (iI a3))]) hx hb dX8_zonesUpTo_20 hl (by decide) rfl (fun ls hl => ?_)
                refine lv_iload hx hb dX8_zonesUpTo_22 (lv_at hl 0 rfl) ?_
                refine gi_zle (tgt := 36) hx hb dX8_zonesUpTo_24 (by decide) (by omega) (fun c_68 => ?_) (fun c_68 => ?_)
                · refine lv_iinc (v := iI 3) (lv' := [(5, .int (iI 3)), (6, .int (iI z_67)), (4, .int (iI 1)), (0, .ref (ad 23)), (1, .int (iI a1)), (2, .int (iI a2)), (3, .int (iI a3))]) hx hb dX8_zonesUpTo_36 hl (k := 1) rfl (by show iI _ + iI 1 = _; rw [iI_add]; congr 1) (by decide) rfl (fun ls hl => ?_)
                  refine lv_goto (tgt := 6) hx hb dX8_zonesUpTo_39 (by decide) ?_
                  refine lv_iload hx hb dX8_zonesUpTo_6 (lv_at hl 0 rfl) ?_
                  refine lv_iconst (v := iI 3) hx hb dX8_zonesUpTo_8 rfl ?_
                  refine gi_cge (tgt := 42) hx hb dX8_zonesUpTo_9 (by decide) (by decide) (by decide) (fun c_69 => ?_) (fun c_69 => ?_)
                  · refine lv_iload hx hb dX8_zonesUpTo_42 (lv_at hl 2 rfl) ?_
                    exact g_iret hQ C hr hlocks hP hS dX8_zonesUpTo_44 ⟨1, rfl, rfl, rfl, rfl, (by unfold zU; (repeat' split) <;> omega), (by first | omega | ((repeat' split) <;> omega))⟩
                  · exfalso; omega
                · refine lv_iload hx hb dX8_zonesUpTo_27 (lv_at hl 0 rfl) ?_
                  refine lv_iload_n hx hb dX8_zonesUpTo_29 rfl (lv_at hl 6 rfl) ?_
                  refine gi_cgt (tgt := 36) hx hb dX8_zonesUpTo_30 (by decide) (by omega) (by omega) (fun c_70 => ?_) (fun c_70 => ?_)
                  · refine lv_iinc (v := iI 3) (lv' := [(5, .int (iI 3)), (6, .int (iI z_67)), (4, .int (iI 1)), (0, .ref (ad 23)), (1, .int (iI a1)), (2, .int (iI a2)), (3, .int (iI a3))]) hx hb dX8_zonesUpTo_36 hl (k := 1) rfl (by show iI _ + iI 1 = _; rw [iI_add]; congr 1) (by decide) rfl (fun ls hl => ?_)
                    refine lv_goto (tgt := 6) hx hb dX8_zonesUpTo_39 (by decide) ?_
                    refine lv_iload hx hb dX8_zonesUpTo_6 (lv_at hl 0 rfl) ?_
                    refine lv_iconst (v := iI 3) hx hb dX8_zonesUpTo_8 rfl ?_
                    refine gi_cge (tgt := 42) hx hb dX8_zonesUpTo_9 (by decide) (by decide) (by decide) (fun c_71 => ?_) (fun c_71 => ?_)
                    · refine lv_iload hx hb dX8_zonesUpTo_42 (lv_at hl 2 rfl) ?_
                      exact g_iret hQ C hr hlocks hP hS dX8_zonesUpTo_44 ⟨1, rfl, rfl, rfl, rfl, (by unfold zU; (repeat' split) <;> omega), (by first | omega | ((repeat' split) <;> omega))⟩
                    · exfalso; omega
                  · refine lv_iinc (v := iI 2) (lv' := [(4, .int (iI 2)), (6, .int (iI z_67)), (5, .int (iI 2)), (0, .ref (ad 23)), (1, .int (iI a1)), (2, .int (iI a2)), (3, .int (iI a3))]) hx hb dX8_zonesUpTo_33 hl (k := 2) rfl (by show iI _ + iI 1 = _; rw [iI_add]; congr 1) (by decide) rfl (fun ls hl => ?_)
                    refine lv_iinc (v := iI 3) (lv' := [(5, .int (iI 3)), (4, .int (iI 2)), (6, .int (iI z_67)), (0, .ref (ad 23)), (1, .int (iI a1)), (2, .int (iI a2)), (3, .int (iI a3))]) hx hb dX8_zonesUpTo_36 hl (k := 2) rfl (by show iI _ + iI 1 = _; rw [iI_add]; congr 1) (by decide) rfl (fun ls hl => ?_)
                    refine lv_goto (tgt := 6) hx hb dX8_zonesUpTo_39 (by decide) ?_
                    refine lv_iload hx hb dX8_zonesUpTo_6 (lv_at hl 0 rfl) ?_
                    refine lv_iconst (v := iI 3) hx hb dX8_zonesUpTo_8 rfl ?_
                    refine gi_cge (tgt := 42) hx hb dX8_zonesUpTo_9 (by decide) (by decide) (by decide) (fun c_72 => ?_) (fun c_72 => ?_)
                    · refine lv_iload hx hb dX8_zonesUpTo_42 (lv_at hl 1 rfl) ?_
                      exact g_iret hQ C hr hlocks hP hS dX8_zonesUpTo_44 ⟨2, rfl, rfl, rfl, rfl, (by unfold zU; (repeat' split) <;> omega), (by first | omega | ((repeat' split) <;> omega))⟩
                    · exfalso; omega
            · refine lv_iinc (v := iI 2) (lv' := [(4, .int (iI 2)), (6, .int (iI z_56)), (5, .int (iI 1)), (0, .ref (ad 23)), (1, .int (iI a1)), (2, .int (iI a2)), (3, .int (iI a3))]) hx hb dX8_zonesUpTo_33 hl (k := 2) rfl (by show iI _ + iI 1 = _; rw [iI_add]; congr 1) (by decide) rfl (fun ls hl => ?_)
              refine lv_iinc (v := iI 2) (lv' := [(5, .int (iI 2)), (4, .int (iI 2)), (6, .int (iI z_56)), (0, .ref (ad 23)), (1, .int (iI a1)), (2, .int (iI a2)), (3, .int (iI a3))]) hx hb dX8_zonesUpTo_36 hl (k := 2) rfl (by show iI _ + iI 1 = _; rw [iI_add]; congr 1) (by decide) rfl (fun ls hl => ?_)
              refine lv_goto (tgt := 6) hx hb dX8_zonesUpTo_39 (by decide) ?_
              refine lv_iload hx hb dX8_zonesUpTo_6 (lv_at hl 0 rfl) ?_
              refine lv_iconst (v := iI 3) hx hb dX8_zonesUpTo_8 rfl ?_
              refine gi_cge (tgt := 42) hx hb dX8_zonesUpTo_9 (by decide) (by decide) (by decide) (fun c_73 => ?_) (fun c_73 => ?_)
              · exfalso; omega
              · refine lv_aload_n hx hb dX8_zonesUpTo_12 rfl (lv_at hl 3 rfl) ?_
                refine lv_iload_n hx hb dX8_zonesUpTo_13 rfl (lv_at hl 4 rfl) ?_
                refine lv_iload_n hx hb dX8_zonesUpTo_14 rfl (lv_at hl 5 rfl) ?_
                refine lv_iload hx hb dX8_zonesUpTo_15 (lv_at hl 0 rfl) ?_
                refine g_cv (As := [.int (iI a1), .int (iI a2), .int (iI 2)]) (rest := []) (n := 3) C hml (c_X8_zoneOf l D k A ad hD v f g a1 a2 2 (by omega) (by omega) (by decide) (show 0 ≤ a1 ∧ a1 ≤ 3 from by omega) (show 0 ≤ a2 ∧ a2 ≤ 4 from by omega) (show 0 ≤ (2 : Int) ∧ (2 : Int) < 3 from by omega)) mM_X8_27 mI_X8_zoneOf mE_X8_zoneOf mN_X8 mC_X8_zoneOf (by decide +kernel) 23 (ci := 8) rfl rfl hP hS (fun _ h => h) ⟨Nat.le_of_ble_eq_true rfl, Nat.le_of_ble_eq_true rfl⟩ ⟨Nat.zero_le _, Nat.zero_le _⟩ hl.1 rfl rfl (Nat.le_of_ble_eq_true rfl) dX8_zonesUpTo_17 (fun r_74 v_74 f_74 g_74 H locs hq_74 hP _ hS => ?_)
                obtain ⟨z_74, rfl, rfl, rfl, rfl, p0_74, p1_74⟩ := hq_74
                show W p l e (gRm 1 23) s m args below meth c _ _ 0 0 Q (F0 m 20 ls [.int (iI z_74)])
                replace p0_74 : z_74 = ((f 17) ((a1 * 5 + a2) * 3 + (2 : Int))) := p0_74
                replace p1_74 : 0 ≤ z_74 ∧ z_74 ≤ 60 := p1_74
                have hz_74 : inR z_74 := (by first | omega | (rw [p0_74]; split <;> omega))
                refine lv_istore (lv' := [(6, .int (iI z_74)), (5, .int (iI 2)), (4, .int (iI 2)), (0, .ref (ad 23)), (1, .int (iI a1)), (2, .int (iI a2)), (3, .int (iI a3))]) hx hb dX8_zonesUpTo_20 hl (by decide) rfl (fun ls hl => ?_)
                refine lv_iload hx hb dX8_zonesUpTo_22 (lv_at hl 0 rfl) ?_
                refine gi_zle (tgt := 36) hx hb dX8_zonesUpTo_24 (by decide) (by omega) (fun c_75 => ?_) (fun c_75 => ?_)
                · refine lv_iinc (v := iI 3) (lv' := [(5, .int (iI 3)), (6, .int (iI z_74)), (4, .int (iI 2)), (0, .ref (ad 23)), (1, .int (iI a1)), (2, .int (iI a2)), (3, .int (iI a3))]) hx hb dX8_zonesUpTo_36 hl (k := 1) rfl (by show iI _ + iI 1 = _; rw [iI_add]; congr 1) (by decide) rfl (fun ls hl => ?_)
                  refine lv_goto (tgt := 6) hx hb dX8_zonesUpTo_39 (by decide) ?_
                  refine lv_iload hx hb dX8_zonesUpTo_6 (lv_at hl 0 rfl) ?_
                  refine lv_iconst (v := iI 3) hx hb dX8_zonesUpTo_8 rfl ?_
                  refine gi_cge (tgt := 42) hx hb dX8_zonesUpTo_9 (by decide) (by decide) (by decide) (fun c_76 => ?_) (fun c_76 => ?_)
                  · refine lv_iload hx hb dX8_zonesUpTo_42 (lv_at hl 2 rfl) ?_
                    exact g_iret hQ C hr hlocks hP hS dX8_zonesUpTo_44 ⟨2, rfl, rfl, rfl, rfl, (by unfold zU; (repeat' split) <;> omega), (by first | omega | ((repeat' split) <;> omega))⟩
                  · exfalso; omega
                · refine lv_iload hx hb dX8_zonesUpTo_27 (lv_at hl 0 rfl) ?_
                  refine lv_iload_n hx hb dX8_zonesUpTo_29 rfl (lv_at hl 6 rfl) ?_
                  refine gi_cgt (tgt := 36) hx hb dX8_zonesUpTo_30 (by decide) (by omega) (by omega) (fun c_77 => ?_) (fun c_77 => ?_)
                  · refine lv_iinc (v := iI 3) (lv' := [(5, .int (iI 3)), (6, .int (iI z_74)), (4, .int (iI 2)), (0, .ref (ad 23)), (1, .int (iI a1)), (2, .int (iI a2)), (3, .int (iI a3))]) hx hb dX8_zonesUpTo_36 hl (k := 1) rfl (by show iI _ + iI 1 = _; rw [iI_add]; congr 1) (by decide) rfl (fun ls hl => ?_)
                    refine lv_goto (tgt := 6) hx hb dX8_zonesUpTo_39 (by decide) ?_
                    refine lv_iload hx hb dX8_zonesUpTo_6 (lv_at hl 0 rfl) ?_
                    refine lv_iconst (v := iI 3) hx hb dX8_zonesUpTo_8 rfl ?_
                    refine gi_cge (tgt := 42) hx hb dX8_zonesUpTo_9 (by decide) (by decide) (by decide) (fun c_78 => ?_) (fun c_78 => ?_)
                    · refine lv_iload hx hb dX8_zonesUpTo_42 (lv_at hl 2 rfl) ?_
                      exact g_iret hQ C hr hlocks hP hS dX8_zonesUpTo_44 ⟨2, rfl, rfl, rfl, rfl, (by unfold zU; (repeat' split) <;> omega), (by first | omega | ((repeat' split) <;> omega))⟩
                    · exfalso; omega
                  · refine lv_iinc (v := iI 3) (lv' := [(4, .int (iI 3)), (6, .int (iI z_74)), (5, .int (iI 2)), (0, .ref (ad 23)), (1, .int (iI a1)), (2, .int (iI a2)), (3, .int (iI a3))]) hx hb dX8_zonesUpTo_33 hl (k := 2) rfl (by show iI _ + iI 1 = _; rw [iI_add]; congr 1) (by decide) rfl (fun ls hl => ?_)
                    refine lv_iinc (v := iI 3) (lv' := [(5, .int (iI 3)), (4, .int (iI 3)), (6, .int (iI z_74)), (0, .ref (ad 23)), (1, .int (iI a1)), (2, .int (iI a2)), (3, .int (iI a3))]) hx hb dX8_zonesUpTo_36 hl (k := 2) rfl (by show iI _ + iI 1 = _; rw [iI_add]; congr 1) (by decide) rfl (fun ls hl => ?_)
                    refine lv_goto (tgt := 6) hx hb dX8_zonesUpTo_39 (by decide) ?_
                    refine lv_iload hx hb dX8_zonesUpTo_6 (lv_at hl 0 rfl) ?_
                    refine lv_iconst (v := iI 3) hx hb dX8_zonesUpTo_8 rfl ?_
                    refine gi_cge (tgt := 42) hx hb dX8_zonesUpTo_9 (by decide) (by decide) (by decide) (fun c_79 => ?_) (fun c_79 => ?_)
                    · refine lv_iload hx hb dX8_zonesUpTo_42 (lv_at hl 1 rfl) ?_
                      exact g_iret hQ C hr hlocks hP hS dX8_zonesUpTo_44 ⟨3, rfl, rfl, rfl, rfl, (by unfold zU; (repeat' split) <;> omega), (by first | omega | ((repeat' split) <;> omega))⟩
                    · exfalso; omega

set_option maxHeartbeats 4000000 in
set_option maxRecDepth 100000 in
theorem x_Fi_manyIn (l : Launch) (D : va_G) (k : Nat → ClassId) (A : Nat → Prop) (ad : Nat → Nat) (hD : rwD A k ad) (v : gV) (f g : gF) (a1 : Int) (h_a1 : inR a1) : GM l D k A (rwT k ad) yX2_manyIn cX2_manyIn 4 (some .int) 0 0 [.ref (ad 27), .int (iI a1)] v f g (fun r v1 f1 g1 => ∃ (z : Int), r = some (.int (iI z)) ∧ v = v1 ∧ f = f1 ∧ g = g1 ∧ (z = (cn (pIn (f 18) a1) (v 21).toNat)) ∧ (0 ≤ z ∧ z ≤ 16)) := by
  refine GM.of (by decide) (Nat.le_of_ble_eq_true rfl) ?_
  intro p e s m args below meth c Q ls hQ C hml hr hlocks hP hl
  have hx := C.1
  have hb := C.2.1
  have hok := hP.2
  have hS : va_S A s.heap s.heap [] := va_S.rf
  have hl : lv_has ls 4 [(0, .ref (ad 27)), (1, .int (iI a1))] := hl
  have r_1 : 0 ≤ (v 21) ∧ (v 21) ≤ 16 := hok.1 21
  refine lv_iconst (v := iI 0) hx hb dX2_manyIn_0 rfl ?_
  refine lv_istore_n (lv' := [(2, .int (iI 0)), (0, .ref (ad 27)), (1, .int (iI a1))]) hx hb dX2_manyIn_1 rfl hl (by decide) rfl (fun ls hl => ?_)
  refine lv_iconst (v := iI 0) hx hb dX2_manyIn_2 rfl ?_
  refine lv_istore_n (lv' := [(3, .int (iI 0)), (2, .int (iI 0)), (0, .ref (ad 27)), (1, .int (iI a1))]) hx hb dX2_manyIn_3 rfl hl (by decide) rfl (fun ls hl => ?_)
  have L_2 : ∀ (n : Nat) (x2 : Int) (x3 : Int) (H : Heap) (locs : List Loc) (ls : Array Slot), 16 - x3 < (n : Int) → (0 ≤ x3 ∧ x3 ≤ (v 21)) → (0 ≤ x2 ∧ x2 ≤ x3) → (x2 = cn (pIn (f 18) a1) x3.toNat) → gWd D (rwT k ad) v f g H → va_S A s.heap H locs → lv_has ls 4 [(0, .ref (ad 27)), (1, .int (iI a1)), (2, .int (iI x2)), (3, .int (iI x3))] → W p l e (gRm 0 0) s m args below meth c H locs 0 0 Q (F0 m 4 ls []) := by
    intro n
    induction n with
    | zero =>
      intro x2 x3 H locs ls hn_2 i2_0 i2_1 i2_2 hP hS hl
      exfalso; omega
    | succ n ih_4 =>
      intro x2 x3 H locs ls hn_2 i2_0 i2_1 i2_2 hP hS hl
      refine lv_iload_n hx hb dX2_manyIn_4 rfl (lv_at hl 3 rfl) ?_
      refine lv_aload_n hx hb dX2_manyIn_5 rfl (lv_at hl 0 rfl) ?_
      refine rwG_field_climbers C hP mF_X2_18 dX2_manyIn_6 ?_
      refine gi_cge (tgt := 31) hx hb dX2_manyIn_9 (by decide) (by omega) (by omega) (fun c_3 => ?_) (fun c_3 => ?_)
      · refine lv_iload_n hx hb dX2_manyIn_31 rfl (lv_at hl 2 rfl) ?_
        exact g_iret hQ C hr hlocks hP hS dX2_manyIn_32 ⟨x2, rfl, rfl, rfl, rfl, (by rw [show (v 21) = x3 by omega]; assumption), (by first | omega | ((repeat' split) <;> omega))⟩
      · refine lv_aload_n hx hb dX2_manyIn_12 rfl (lv_at hl 0 rfl) ?_
        refine rwG_field_latest C hP mF_X2_9 dX2_manyIn_13 ?_
        refine lv_iload_n hx hb dX2_manyIn_16 rfl (lv_at hl 3 rfl) ?_
        refine rwL_field_latest C hP (by omega) (by omega) dX2_manyIn_17 ?_
        have r_4 : 0 ≤ (f 18 x3) ∧ (f 18 x3) ≤ 3 := hP.2.2 18 x3
        refine lv_iload_n hx hb dX2_manyIn_18 rfl (lv_at hl 1 rfl) ?_
        refine gi_clt (tgt := 25) hx hb dX2_manyIn_19 (by decide) (by omega) (by omega) (fun c_5 => ?_) (fun c_5 => ?_)
        · refine lv_iinc (v := iI (x3 + 1)) (lv' := [(3, .int (iI (x3 + 1))), (0, .ref (ad 27)), (1, .int (iI a1)), (2, .int (iI x2))]) hx hb dX2_manyIn_25 hl (k := 3) rfl (by show iI _ + iI 1 = _; rw [iI_add]) (by decide) rfl (fun ls hl => ?_)
          refine lv_goto (tgt := 4) hx hb dX2_manyIn_28 (by decide) ?_
          exact ih_4 x2 (x3 + 1) _ _ _ (by omega) (by omega) (by omega) (by first | (rw [cn_y (by omega) (decide_eq_true (by omega))]; omega) | (rw [cn_n (by omega) (decide_eq_false (by omega))]; omega)) hP hS (lv_sub hl [1, 2, 3, 0] rfl)
        · refine lv_iinc (v := iI (x2 + 1)) (lv' := [(2, .int (iI (x2 + 1))), (0, .ref (ad 27)), (1, .int (iI a1)), (3, .int (iI x3))]) hx hb dX2_manyIn_22 hl (k := 2) rfl (by show iI _ + iI 1 = _; rw [iI_add]) (by decide) rfl (fun ls hl => ?_)
          refine lv_iinc (v := iI (x3 + 1)) (lv' := [(3, .int (iI (x3 + 1))), (2, .int (iI (x2 + 1))), (0, .ref (ad 27)), (1, .int (iI a1))]) hx hb dX2_manyIn_25 hl (k := 3) rfl (by show iI _ + iI 1 = _; rw [iI_add]) (by decide) rfl (fun ls hl => ?_)
          refine lv_goto (tgt := 4) hx hb dX2_manyIn_28 (by decide) ?_
          exact ih_4 (x2 + 1) (x3 + 1) _ _ _ (by omega) (by omega) (by omega) (by first | (rw [cn_y (by omega) (decide_eq_true (by omega))]; omega) | (rw [cn_n (by omega) (decide_eq_false (by omega))]; omega)) hP hS (lv_sub hl [2, 3, 1, 0] rfl)
  exact L_2 17 0 0 _ _ _ (by omega) (by omega) (by omega) rfl hP hS (lv_sub hl [2, 3, 1, 0] rfl)

set_option maxHeartbeats 4000000 in
set_option maxRecDepth 100000 in
theorem x_Tr_anyOpen (l : Launch) (D : va_G) (k : Nat → ClassId) (A : Nat → Prop) (ad : Nat → Nat) (hD : rwD A k ad) (v : gV) (f g : gF) : GM l D k A (rwT k ad) yX7_anyOpen cX7_anyOpen 2 (some .boolean) 0 0 [.ref (ad 30)] v f g (fun r v1 f1 g1 => ∃ (z : Int), r = some (.int (iI z)) ∧ v = v1 ∧ f = f1 ∧ g = g1 ∧ (z = (if 1 ≤ cn (pOn (f 27)) (16 : Int).toNat then 1 else 0))) := by
  refine GM.of (by decide) (Nat.le_of_ble_eq_true rfl) ?_
  intro p e s m args below meth c Q ls hQ C hml hr hlocks hP hl
  have hx := C.1
  have hb := C.2.1
  have hok := hP.2
  have hS : va_S A s.heap s.heap [] := va_S.rf
  have hl : lv_has ls 2 [(0, .ref (ad 30))] := hl
  refine lv_iconst (v := iI 0) hx hb dX7_anyOpen_0 rfl ?_
  refine lv_istore_n (lv' := [(1, .int (iI 0)), (0, .ref (ad 30))]) hx hb dX7_anyOpen_1 rfl hl (by decide) rfl (fun ls hl => ?_)
  have L_1 : ∀ (n : Nat) (x1 : Int) (H : Heap) (locs : List Loc) (ls : Array Slot), 16 - x1 < (n : Int) → (0 ≤ x1 ∧ x1 ≤ 16) → (cn (pOn (f 27)) x1.toNat = 0) → gWd D (rwT k ad) v f g H → va_S A s.heap H locs → lv_has ls 2 [(0, .ref (ad 30)), (1, .int (iI x1))] → W p l e (gRm 0 0) s m args below meth c H locs 0 0 Q (F0 m 2 ls []) := by
    intro n
    induction n with
    | zero =>
      intro x1 H locs ls hn_1 i1_0 i1_1 hP hS hl
      exfalso; omega
    | succ n ih_2 =>
      intro x1 H locs ls hn_1 i1_0 i1_1 hP hS hl
      have hI := i1_1
      refine lv_iload_n hx hb dX7_anyOpen_2 rfl (lv_at hl 1 rfl) ?_
      refine lv_bipush (v := iI 16) hx hb dX7_anyOpen_3 (by decide) ?_
      refine gi_cge (tgt := 25) hx hb dX7_anyOpen_5 (by decide) (by omega) (by decide) (fun c_2 => ?_) (fun c_2 => ?_)
      · refine lv_iconst (v := iI 0) hx hb dX7_anyOpen_25 rfl ?_
        exact g_zret hQ C hr hlocks (by decide) hP hS dX7_anyOpen_26 ⟨0, rfl, rfl, rfl, rfl, (by first | (rw [if_pos (cn_hi (x := x1) (by omega) (by omega) (decide_eq_true (by omega)))]) | (rw [if_neg (by rw [show (16 : Int) = x1 by omega, hI]; decide)]))⟩
      · refine lv_aload_n hx hb dX7_anyOpen_8 rfl (lv_at hl 0 rfl) ?_
        refine rwG_tries_openNext C hP mF_X7_33 dX7_anyOpen_9 ?_
        refine lv_iload_n hx hb dX7_anyOpen_12 rfl (lv_at hl 1 rfl) ?_
        refine rwL_tries_openNext C hP (by omega) (by omega) dX7_anyOpen_13 ?_
        have r_3 : 0 ≤ (f 27 x1) ∧ (f 27 x1) ≤ 300 := hP.2.2 27 x1
        refine gi_zle (tgt := 19) hx hb dX7_anyOpen_14 (by decide) (by omega) (fun c_4 => ?_) (fun c_4 => ?_)
        · refine lv_iinc (v := iI (x1 + 1)) (lv' := [(1, .int (iI (x1 + 1))), (0, .ref (ad 30))]) hx hb dX7_anyOpen_19 hl (k := 1) rfl (by show iI _ + iI 1 = _; rw [iI_add]) (by decide) rfl (fun ls hl => ?_)
          refine lv_goto (tgt := 2) hx hb dX7_anyOpen_22 (by decide) ?_
          exact ih_2 (x1 + 1) _ _ _ (by omega) (by omega) (by first | (rw [cn_y (by omega) (decide_eq_true (by omega))]; omega) | (rw [cn_n (by omega) (decide_eq_false (by omega))]; omega)) hP hS (lv_sub hl [1, 0] rfl)
        · refine lv_iconst (v := iI 1) hx hb dX7_anyOpen_17 rfl ?_
          exact g_zret hQ C hr hlocks (by decide) hP hS dX7_anyOpen_18 ⟨1, rfl, rfl, rfl, rfl, (by first | (rw [if_pos (cn_hi (x := x1) (by omega) (by omega) (decide_eq_true (by omega)))]) | (rw [if_neg (by rw [show (16 : Int) = x1 by omega, hI]; decide)]))⟩
  exact L_1 17 0 _ _ _ (by omega) (by omega) rfl hP hS (lv_sub hl [1, 0] rfl)

set_option maxHeartbeats 4000000 in
set_option maxRecDepth 100000 in
theorem x_Tr_endOverdue (l : Launch) (D : va_G) (k : Nat → ClassId) (A : Nat → Prop) (ad : Nat → Nat) (hD : rwD A k ad) (v : gV) (f g : gF) (a1 : Int) (a2 : Int) (h_a1 : inR a1) (h_a2 : inR a2) (h1 : 0 ≤ a1 ∧ a1 ≤ 1000000) (h2 : 0 ≤ a2 ∧ a2 ≤ 999) (hO : OI (v 23) (f 20) (f 26) (f 27)) : GM l D k A (rwT k ad) yX7_endOverdue cX7_endOverdue 5 none 1 23 [.ref (ad 30), .int (iI a1), .int (iI a2)] v f g (fun r v1 f1 g1 => r = none ∧ v = v1 ∧ (va_up (va_up (va_up f 24 (ovE (v 23) a1 (f 26) (f 23) (fun _ => a2) (f 24))) 26 (ovH (v 23) a1 (f 26) (f 23) (fun _ => a2))) 27 (ovO a1 (f 23) (fun _ => a2) (f 27))) = f1 ∧ g = g1) := by
  refine GM.of (by decide) (Nat.le_of_ble_eq_true rfl) ?_
  intro p e s m args below meth c Q ls hQ C hml hr hlocks hP hl
  have hx := C.1
  have hb := C.2.1
  have hok := hP.2
  have hS : va_S A s.heap s.heap [] := va_S.rf
  have hl : lv_has ls 5 [(0, .ref (ad 30)), (1, .int (iI a1)), (2, .int (iI a2))] := hl
  have hP : gWd D (rwT k ad) v (va_up (va_up (va_up f 24 (f 24)) 26 (f 26)) 27 (f 27)) g s.heap := by rw [va_id, va_id, va_id]; exact hP
  have hwr : ∀ k, 0 ≤ (f 20) k ∧ (f 20) k ≤ 15 := fun k => hok.2 20 k
  refine lv_iconst (v := iI 0) hx hb dX7_endOverdue_0 rfl ?_
  refine lv_istore_n (lv' := [(3, .int (iI 0)), (0, .ref (ad 30)), (1, .int (iI a1)), (2, .int (iI a2))]) hx hb dX7_endOverdue_1 rfl hl (by decide) rfl (fun ls hl => ?_)
  have L_1 : ∀ (n : Nat) (x3 : Int) (c24_1 : Int → Int) (c26_1 : Int → Int) (c27_1 : Int → Int) (H : Heap) (locs : List Loc) (ls : Array Slot), 16 - x3 < (n : Int) → (0 ≤ x3 ∧ x3 ≤ 16) → (c24_1 = oxE x3 (v 23) a1 (f 20) (f 26) (f 23) (fun _ => a2) (f 24)) → (c26_1 = oxH x3 (v 23) a1 (f 20) (f 26) (f 23) (fun _ => a2)) → (c27_1 = oxO x3 a1 (f 23) (fun _ => a2) (f 27)) → gWd D (rwT k ad) v (va_up (va_up (va_up f 24 c24_1) 26 c26_1) 27 c27_1) g H → va_S A s.heap H locs → lv_has ls 5 [(0, .ref (ad 30)), (1, .int (iI a1)), (2, .int (iI a2)), (3, .int (iI x3))] → W p l e (gRm 1 23) s m args below meth c H locs 0 0 Q (F0 m 2 ls []) := by
    intro n
    induction n with
    | zero =>
      intro x3 c24_1 c26_1 c27_1 H locs ls hn_1 i1_0 i1_1 i1_2 i1_3 hP hS hl
      exfalso; omega
    | succ n ih_2 =>
      intro x3 c24_1 c26_1 c27_1 H locs ls hn_1 i1_0 i1_1 i1_2 i1_3 hP hS hl
      have hI1 := i1_1
      have hI2 := i1_2
      have hI3 := i1_3
      refine lv_iload_n hx hb dX7_endOverdue_2 rfl (lv_at hl 3 rfl) ?_
      refine lv_bipush (v := iI 16) hx hb dX7_endOverdue_3 (by decide) ?_
      refine gi_cge (tgt := 56) hx hb dX7_endOverdue_5 (by decide) (by omega) (by decide) (fun c_2 => ?_) (fun c_2 => ?_)
      · exact g_vret hQ C hr hlocks hP hS dX7_endOverdue_56 ⟨rfl, rfl, (by rw [show ((ovE (v 23) a1 (f 26) (f 23) (fun _ => a2) (f 24)) : Int → Int) = c24_1 from by rw [hI1, show x3 = 16 by omega]; exact (oxE_16 hwr).symm, show ((ovH (v 23) a1 (f 26) (f 23) (fun _ => a2)) : Int → Int) = c26_1 from by rw [hI2, show x3 = 16 by omega]; exact (oxH_16 hwr).symm, show ((ovO a1 (f 23) (fun _ => a2) (f 27)) : Int → Int) = c27_1 from by rw [hI3, show x3 = 16 by omega]; exact oxO_16.symm]), rfl⟩
      · refine lv_aload_n hx hb dX7_endOverdue_8 rfl (lv_at hl 0 rfl) ?_
        refine lv_iload_n hx hb dX7_endOverdue_9 rfl (lv_at hl 3 rfl) ?_
        refine g_cv (As := [.int (iI x3)]) (rest := []) (n := 1) C hml (c_X7_openOf l D k A ad hD v (va_up (va_up (va_up f 24 c24_1) 26 c26_1) 27 c27_1) g x3 (by omega) (show 0 ≤ x3 ∧ x3 ≤ 15 from by omega)) mM_X7_46 mI_X7_openOf mE_X7_openOf mN_X7 mC_X7_openOf (by decide +kernel) 30 (ci := 7) rfl rfl hP hS (fun _ h => h) ⟨Nat.le_of_ble_eq_true rfl, Nat.le_of_ble_eq_true rfl⟩ ⟨Nat.zero_le _, Nat.zero_le _⟩ hl.1 rfl rfl (Nat.le_of_ble_eq_true rfl) dX7_endOverdue_10 (fun r_3 v_3 f_3 g_3 H locs hq_3 hP _ hS => ?_)
        obtain ⟨z_3, rfl, rfl, rfl, rfl, p0_3, p1_3⟩ := hq_3
        show W p l e (gRm 1 23) s m args below meth c _ _ 0 0 Q (F0 m 13 ls [.int (iI z_3)])
        replace p0_3 : z_3 = (c27_1 x3 - 1) := p0_3
        replace p1_3 : (-1) ≤ z_3 ∧ z_3 ≤ 299 := p1_3
        have hz_3 : inR z_3 := (by first | omega | (rw [p0_3]; split <;> omega))
        have hz1 : z_3 = (f 27) x3 - 1 := by rw [p0_3, hI3, oxO_at]
        have hbz : (f 23) ((f 27) x3 - 1) = (f 23) z_3 := by rw [hz1]
        have hwh : 0 < (f 27) x3 → (f 20) z_3 = x3 := fun h => by rw [hz1]; exact ((hO.1 x3 (by omega) (by omega)).2.2 h).1
        refine lv_istore (lv' := [(4, .int (iI z_3)), (0, .ref (ad 30)), (1, .int (iI a1)), (2, .int (iI a2)), (3, .int (iI x3))]) hx hb dX7_endOverdue_13 hl (by decide) rfl (fun ls hl => ?_)
        refine lv_iload hx hb dX7_endOverdue_15 (lv_at hl 0 rfl) ?_
        refine lv_iconst (v := iI (-1)) hx hb dX7_endOverdue_17 rfl ?_
        refine gi_ceq (tgt := 50) hx hb dX7_endOverdue_18 (by decide) (by omega) (by decide) (fun c_4 => ?_) (fun c_4 => ?_)
        · refine lv_iinc (v := iI (x3 + 1)) (lv' := [(3, .int (iI (x3 + 1))), (4, .int (iI z_3)), (0, .ref (ad 30)), (1, .int (iI a1)), (2, .int (iI a2))]) hx hb dX7_endOverdue_50 hl (k := 4) rfl (by show iI _ + iI 1 = _; rw [iI_add]) (by decide) rfl (fun ls hl => ?_)
          refine lv_goto (tgt := 2) hx hb dX7_endOverdue_53 (by decide) ?_
          exact ih_2 (x3 + 1) c24_1 c26_1 c27_1 _ _ _ (by omega) (by omega) (by first | (rw [hI1]; exact oxE_hit hO (by omega) hz1 ⟨by omega, by show _ + a2 ≤ a1; omega⟩ rfl) | (rw [hI1]; exact (oxE_skip (ox_no hO (fun h => by have h1 := h.1; have h2 : (f 23) ((f 27) x3 - 1) + a2 ≤ a1 := h.2; omega))).symm)) (by first | (rw [hI2]; exact oxH_hit hO (by omega) hz1 ⟨by omega, by show _ + a2 ≤ a1; omega⟩) | (rw [hI2]; exact (oxH_skip (ox_no hO (fun h => by have h1 := h.1; have h2 : (f 23) ((f 27) x3 - 1) + a2 ≤ a1 := h.2; omega))).symm)) (by first | (rw [hI3, hwh (by omega)]; exact oxO_hit (by omega) ⟨by omega, by show _ + a2 ≤ a1; omega⟩) | (rw [hI3]; exact (oxO_skip (fun h => by have h1 := h.1; have h2 : (f 23) ((f 27) x3 - 1) + a2 ≤ a1 := h.2; omega)).symm)) hP hS (lv_sub hl [2, 3, 4, 0] rfl)
        · refine lv_iload_n hx hb dX7_endOverdue_21 rfl (lv_at hl 2 rfl) ?_
          refine lv_aload_n hx hb dX7_endOverdue_22 rfl (lv_at hl 1 rfl) ?_
          refine rwG_tries_begun C hP mF_X7_21 dX7_endOverdue_23 ?_
          refine lv_iload hx hb dX7_endOverdue_26 (lv_at hl 0 rfl) ?_
          refine rwL_tries_begun C hP (by omega) (by omega) dX7_endOverdue_28 ?_
          show W p l e (gRm 1 23) s m args below meth c _ _ 0 0 Q (F0 m 29 ls [.int (iI (f 23 z_3)), .int (iI a1)])
          have r_5 : 0 ≤ (f 23 z_3) ∧ (f 23 z_3) ≤ 1000000 := hP.2.2 23 z_3
          refine lv_iload_n hx hb dX7_endOverdue_29 rfl (lv_at hl 3 rfl) ?_
          refine gi_add (z := ((f 23 z_3) + a2)) hx hb dX7_endOverdue_30 rfl ?_
          refine gi_clt (tgt := 50) hx hb dX7_endOverdue_31 (by decide) (by omega) (by omega) (fun c_6 => ?_) (fun c_6 => ?_)
          · refine lv_iinc (v := iI (x3 + 1)) (lv' := [(3, .int (iI (x3 + 1))), (4, .int (iI z_3)), (0, .ref (ad 30)), (1, .int (iI a1)), (2, .int (iI a2))]) hx hb dX7_endOverdue_50 hl (k := 4) rfl (by show iI _ + iI 1 = _; rw [iI_add]) (by decide) rfl (fun ls hl => ?_)
            refine lv_goto (tgt := 2) hx hb dX7_endOverdue_53 (by decide) ?_
            exact ih_2 (x3 + 1) c24_1 c26_1 c27_1 _ _ _ (by omega) (by omega) (by first | (rw [hI1]; exact oxE_hit hO (by omega) hz1 ⟨by omega, by show _ + a2 ≤ a1; omega⟩ rfl) | (rw [hI1]; exact (oxE_skip (ox_no hO (fun h => by have h1 := h.1; have h2 : (f 23) ((f 27) x3 - 1) + a2 ≤ a1 := h.2; omega))).symm)) (by first | (rw [hI2]; exact oxH_hit hO (by omega) hz1 ⟨by omega, by show _ + a2 ≤ a1; omega⟩) | (rw [hI2]; exact (oxH_skip (ox_no hO (fun h => by have h1 := h.1; have h2 : (f 23) ((f 27) x3 - 1) + a2 ≤ a1 := h.2; omega))).symm)) (by first | (rw [hI3, hwh (by omega)]; exact oxO_hit (by omega) ⟨by omega, by show _ + a2 ≤ a1; omega⟩) | (rw [hI3]; exact (oxO_skip (fun h => by have h1 := h.1; have h2 : (f 23) ((f 27) x3 - 1) + a2 ≤ a1 := h.2; omega)).symm)) hP hS (lv_sub hl [2, 3, 4, 0] rfl)
          · refine lv_aload_n hx hb dX7_endOverdue_34 rfl (lv_at hl 1 rfl) ?_
            refine lv_iload hx hb dX7_endOverdue_35 (lv_at hl 0 rfl) ?_
            refine lv_aload_n hx hb dX7_endOverdue_37 rfl (lv_at hl 1 rfl) ?_
            refine rwG_tries_begun C hP mF_X7_21 dX7_endOverdue_38 ?_
            refine lv_iload hx hb dX7_endOverdue_41 (lv_at hl 0 rfl) ?_
            refine rwL_tries_begun C hP (by omega) (by omega) dX7_endOverdue_43 ?_
            show W p l e (gRm 1 23) s m args below meth c _ _ 0 0 Q (F0 m 44 ls [.int (iI (f 23 z_3)), .int (iI z_3), .ref (ad 30)])
            refine lv_iload_n hx hb dX7_endOverdue_44 rfl (lv_at hl 3 rfl) ?_
            refine gi_add (z := ((f 23 z_3) + a2)) hx hb dX7_endOverdue_45 rfl ?_
            refine lv_iconst (v := iI 3) hx hb dX7_endOverdue_46 rfl ?_
            refine g_cv (As := [.int (iI z_3), .int (iI ((f 23 z_3) + a2)), .int (iI 3)]) (rest := []) (n := 3) C hml (c_X7_finish l D k A ad hD v (va_up (va_up (va_up f 24 c24_1) 26 c26_1) 27 c27_1) g z_3 ((f 23 z_3) + a2) 3 (by omega) (by omega) (by decide) (show 0 ≤ z_3 ∧ z_3 ≤ 299 from by omega) (show (-1) ≤ ((f 23 z_3) + a2) ∧ ((f 23 z_3) + a2) ≤ 1000999 from by omega) (show 0 ≤ (3 : Int) ∧ (3 : Int) ≤ 4 from by omega)) mM_X7_50 mI_X7_finish mE_X7_finish mN_X7 mC_X7_finish (by decide +kernel) 30 (ci := 7) rfl rfl hP hS (fun _ h => h) ⟨Nat.le_of_ble_eq_true rfl, Nat.le_of_ble_eq_true rfl⟩ ⟨Nat.zero_le _, Nat.zero_le _⟩ hl.1 rfl rfl (Nat.le_of_ble_eq_true rfl) dX7_endOverdue_47 (fun r_7 v_7 f_7 g_7 H locs hq_7 hP _ hS => ?_)
            obtain ⟨rfl, rfl, rfl, rfl⟩ := hq_7
            show W p l e (gRm 1 23) s m args below meth c _ _ 0 0 Q (F0 m 50 ls [])
            have hP : gWd D (rwT k ad) v (va_up (va_up (va_up f 24 (u1 c24_1 z_3 ((f 23 z_3) + a2))) 26 (u1 c26_1 z_3 (3 : Int))) 27 (u1 c27_1 ((f 20) z_3) 0)) g H := ⟨hP.1, (gF_up (V := rwV) (F := rwF) (gF_up (V := rwV) (F := rwF) (gF_up (V := rwV) (F := rwF) ⟨hok.1, hok.2⟩ 24 (hP.2.2 24)) 26 (hP.2.2 26)) 27 (hP.2.2 27))⟩
            refine lv_iinc (v := iI (x3 + 1)) (lv' := [(3, .int (iI (x3 + 1))), (4, .int (iI z_3)), (0, .ref (ad 30)), (1, .int (iI a1)), (2, .int (iI a2))]) hx hb dX7_endOverdue_50 hl (k := 4) rfl (by show iI _ + iI 1 = _; rw [iI_add]) (by decide) rfl (fun ls hl => ?_)
            refine lv_goto (tgt := 2) hx hb dX7_endOverdue_53 (by decide) ?_
            exact ih_2 (x3 + 1) (u1 c24_1 z_3 ((f 23 z_3) + a2)) (u1 c26_1 z_3 (3 : Int)) (u1 c27_1 ((f 20) z_3) 0) _ _ _ (by omega) (by omega) (by first | (rw [hI1]; exact oxE_hit hO (by omega) hz1 ⟨by omega, by show _ + a2 ≤ a1; omega⟩ rfl) | (rw [hI1]; exact (oxE_skip (ox_no hO (fun h => by have h1 := h.1; have h2 : (f 23) ((f 27) x3 - 1) + a2 ≤ a1 := h.2; omega))).symm)) (by first | (rw [hI2]; exact oxH_hit hO (by omega) hz1 ⟨by omega, by show _ + a2 ≤ a1; omega⟩) | (rw [hI2]; exact (oxH_skip (ox_no hO (fun h => by have h1 := h.1; have h2 : (f 23) ((f 27) x3 - 1) + a2 ≤ a1 := h.2; omega))).symm)) (by first | (rw [hI3, hwh (by omega)]; exact oxO_hit (by omega) ⟨by omega, by show _ + a2 ≤ a1; omega⟩) | (rw [hI3]; exact (oxO_skip (fun h => by have h1 := h.1; have h2 : (f 23) ((f 27) x3 - 1) + a2 ≤ a1 := h.2; omega)).symm)) hP hS (lv_sub hl [2, 3, 4, 0] rfl)
  exact L_1 17 0 (f 24) (f 26) (f 27) _ _ _ (by omega) (by omega) (oxE_0 hwr).symm (oxH_0 hwr).symm oxO_0.symm hP hS (lv_sub hl [1, 2, 3, 0] rfl)

set_option maxHeartbeats 4000000 in
set_option maxRecDepth 100000 in
theorem x_Tr_mayNotTry (l : Launch) (D : va_G) (k : Nat → ClassId) (A : Nat → Prop) (ad : Nat → Nat) (hD : rwD A k ad) (v : gV) (f g : gF) (a1 : Int) (a2 : Int) (a3 : Int) (a4 : Int) (h_a1 : inR a1) (h_a2 : inR a2) (h_a3 : inR a3) (h_a4 : inR a4) : GM l D k A (rwT k ad) yX7_mayNotTry cX7_mayNotTry 7 (some .boolean) 1 24 [.ref (ad 30), .int (iI a1), .int (iI a2), .int (iI a3), .int (iI a4)] v f g (fun r v1 f1 g1 => ∃ (z : Int), r = some (.int (iI z)) ∧ v = v1 ∧ f = f1 ∧ g = g1 ∧ (z = (if 1 ≤ cn (pTo (f 20) (f 21) (f 22) (f 26) a1 a2 a3) (v 23).toNat ∨ a4 ≤ cn (pDo (f 20) (f 21) (f 22) (f 26) a1 a2 a3) (v 23).toNat then 1 else 0))) := by
  refine GM.of (by decide) (Nat.le_of_ble_eq_true rfl) ?_
  intro p e s m args below meth c Q ls hQ C hml hr hlocks hP hl
  have hx := C.1
  have hb := C.2.1
  have hok := hP.2
  have hS : va_S A s.heap s.heap [] := va_S.rf
  have hl : lv_has ls 7 [(0, .ref (ad 30)), (1, .int (iI a1)), (2, .int (iI a2)), (3, .int (iI a3)), (4, .int (iI a4))] := hl
  have r_1 : 0 ≤ (v 23) ∧ (v 23) ≤ 300 := hok.1 23
  refine lv_iconst (v := iI 0) hx hb dX7_mayNotTry_0 rfl ?_
  refine lv_istore (lv' := [(5, .int (iI 0)), (0, .ref (ad 30)), (1, .int (iI a1)), (2, .int (iI a2)), (3, .int (iI a3)), (4, .int (iI a4))]) hx hb dX7_mayNotTry_1 hl (by decide) rfl (fun ls hl => ?_)
  refine lv_iconst (v := iI 0) hx hb dX7_mayNotTry_3 rfl ?_
  refine lv_istore (lv' := [(6, .int (iI 0)), (5, .int (iI 0)), (0, .ref (ad 30)), (1, .int (iI a1)), (2, .int (iI a2)), (3, .int (iI a3)), (4, .int (iI a4))]) hx hb dX7_mayNotTry_4 hl (by decide) rfl (fun ls hl => ?_)
  have L_2 : ∀ (n : Nat) (x5 : Int) (x6 : Int) (H : Heap) (locs : List Loc) (ls : Array Slot), 300 - x6 < (n : Int) → (0 ≤ x6 ∧ x6 ≤ (v 23)) → (0 ≤ x5 ∧ x5 ≤ x6) → (x5 = cn (pDo (f 20) (f 21) (f 22) (f 26) a1 a2 a3) x6.toNat) → (cn (pTo (f 20) (f 21) (f 22) (f 26) a1 a2 a3) x6.toNat = 0) → gWd D (rwT k ad) v f g H → va_S A s.heap H locs → lv_has ls 7 [(0, .ref (ad 30)), (1, .int (iI a1)), (2, .int (iI a2)), (3, .int (iI a3)), (4, .int (iI a4)), (5, .int (iI x5)), (6, .int (iI x6))] → W p l e (gRm 1 24) s m args below meth c H locs 0 0 Q (F0 m 6 ls []) := by
    intro n
    induction n with
    | zero =>
      intro x5 x6 H locs ls hn_2 i2_0 i2_1 i2_2 i2_3 hP hS hl
      exfalso; omega
    | succ n ih_6 =>
      intro x5 x6 H locs ls hn_2 i2_0 i2_1 i2_2 i2_3 hP hS hl
      have hI2 := i2_2
      have hI3 := i2_3
      refine lv_iload hx hb dX7_mayNotTry_6 (lv_at hl 6 rfl) ?_
      refine lv_aload_n hx hb dX7_mayNotTry_8 rfl (lv_at hl 0 rfl) ?_
      refine rwG_tries_many C hP mF_X7_36 dX7_mayNotTry_9 ?_
      refine gi_cge (tgt := 60) hx hb dX7_mayNotTry_12 (by decide) (by omega) (by omega) (fun c_3 => ?_) (fun c_3 => ?_)
      · refine lv_iload hx hb dX7_mayNotTry_60 (lv_at hl 5 rfl) ?_
        refine lv_iload hx hb dX7_mayNotTry_62 (lv_at hl 4 rfl) ?_
        refine gi_clt (tgt := 71) hx hb dX7_mayNotTry_64 (by decide) (by omega) (by omega) (fun c_4 => ?_) (fun c_4 => ?_)
        · refine lv_iconst (v := iI 0) hx hb dX7_mayNotTry_71 rfl ?_
          exact g_zret hQ C hr hlocks (by decide) hP hS dX7_mayNotTry_72 ⟨0, rfl, rfl, rfl, rfl, (by first | (rw [if_pos (Or.inl (cn_hi (x := x6) (by omega) (by omega) (decide_eq_true (by omega))))]) | (rw [show (v 23) = x6 by omega]; first | rw [if_pos (by omega)] | rw [if_neg (by omega)]))⟩
        · refine lv_iconst (v := iI 1) hx hb dX7_mayNotTry_67 rfl ?_
          refine lv_goto (tgt := 72) hx hb dX7_mayNotTry_68 (by decide) ?_
          exact g_zret hQ C hr hlocks (by decide) hP hS dX7_mayNotTry_72 ⟨1, rfl, rfl, rfl, rfl, (by first | (rw [if_pos (Or.inl (cn_hi (x := x6) (by omega) (by omega) (decide_eq_true (by omega))))]) | (rw [show (v 23) = x6 by omega]; first | rw [if_pos (by omega)] | rw [if_neg (by omega)]))⟩
      · refine lv_aload_n hx hb dX7_mayNotTry_15 rfl (lv_at hl 0 rfl) ?_
        refine lv_iload hx hb dX7_mayNotTry_16 (lv_at hl 6 rfl) ?_
        refine lv_iload_n hx hb dX7_mayNotTry_18 rfl (lv_at hl 1 rfl) ?_
        refine lv_iload_n hx hb dX7_mayNotTry_19 rfl (lv_at hl 2 rfl) ?_
        refine lv_iload_n hx hb dX7_mayNotTry_20 rfl (lv_at hl 3 rfl) ?_
        refine g_cv (As := [.int (iI x6), .int (iI a1), .int (iI a2), .int (iI a3)]) (rest := []) (n := 4) C hml (c_X7_isOf l D k A ad hD v f g x6 a1 a2 a3 (by omega) (by omega) (by omega) (by omega) (show 0 ≤ x6 ∧ x6 ≤ 299 from by omega)) mM_X7_54 mI_X7_isOf mE_X7_isOf mN_X7 mC_X7_isOf (by decide +kernel) 30 (ci := 7) rfl rfl hP hS (fun _ h => h) ⟨Nat.le_of_ble_eq_true rfl, Nat.le_of_ble_eq_true rfl⟩ ⟨Nat.zero_le _, Nat.zero_le _⟩ hl.1 rfl rfl (Nat.le_of_ble_eq_true rfl) dX7_mayNotTry_21 (fun r_5 v_5 f_5 g_5 H locs hq_5 hP _ hS => ?_)
        obtain ⟨z_5, rfl, rfl, rfl, rfl, p0_5⟩ := hq_5
        show W p l e (gRm 1 24) s m args below meth c _ _ 0 0 Q (F0 m 24 ls [.int (iI z_5)])
        replace p0_5 : z_5 = (if (f 20) x6 = a1 ∧ (f 21) x6 = a2 ∧ (f 22) x6 = a3 then 1 else 0) := p0_5
        have w_5 := gif (P := (f 20) x6 = a1 ∧ (f 21) x6 = a2 ∧ (f 22) x6 = a3) p0_5
        clear p0_5
        have hz_5 : inR z_5 := (by first | omega | (rw [p0_5]; split <;> omega))
        refine gi_zeq (tgt := 54) hx hb dX7_mayNotTry_24 (by decide) (by omega) (fun c_6 => ?_) (fun c_6 => ?_)
        · have vz_5 := gif0 w_5 c_6
          clear w_5
          refine lv_iinc (v := iI (x6 + 1)) (lv' := [(6, .int (iI (x6 + 1))), (0, .ref (ad 30)), (1, .int (iI a1)), (2, .int (iI a2)), (3, .int (iI a3)), (4, .int (iI a4)), (5, .int (iI x5))]) hx hb dX7_mayNotTry_54 hl (k := 6) rfl (by show iI _ + iI 1 = _; rw [iI_add]) (by decide) rfl (fun ls hl => ?_)
          refine lv_goto (tgt := 6) hx hb dX7_mayNotTry_57 (by decide) ?_
          exact ih_6 x5 (x6 + 1) _ _ _ (by omega) (by omega) (by omega) (by first | (rw [cn_y (p := (pDo (f 20) (f 21) (f 22) (f 26) a1 a2 a3)) (by omega) (decide_eq_true (by omega))]; omega) | (rw [cn_n (p := (pDo (f 20) (f 21) (f 22) (f 26) a1 a2 a3)) (by omega) (decide_eq_false (by omega))]; omega)) (by first | (rw [cn_y (p := (pTo (f 20) (f 21) (f 22) (f 26) a1 a2 a3)) (by omega) (decide_eq_true (by omega))]; omega) | (rw [cn_n (p := (pTo (f 20) (f 21) (f 22) (f 26) a1 a2 a3)) (by omega) (decide_eq_false (by omega))]; omega)) hP hS (lv_sub hl [1, 2, 3, 4, 5, 6, 0] rfl)
        · have vz_5 := gif1 w_5 c_6
          clear w_5
          refine lv_aload_n hx hb dX7_mayNotTry_27 rfl (lv_at hl 0 rfl) ?_
          refine rwG_tries_how C hP mF_X7_30 dX7_mayNotTry_28 ?_
          refine lv_iload hx hb dX7_mayNotTry_31 (lv_at hl 6 rfl) ?_
          refine rwL_tries_how C hP (by omega) (by omega) dX7_mayNotTry_33 ?_
          have r_7 : 0 ≤ (f 26 x6) ∧ (f 26 x6) ≤ 4 := hP.2.2 26 x6
          refine lv_iconst (v := iI 4) hx hb dX7_mayNotTry_34 rfl ?_
          refine gi_ceq (tgt := 54) hx hb dX7_mayNotTry_35 (by decide) (by omega) (by decide) (fun c_8 => ?_) (fun c_8 => ?_)
          · refine lv_iinc (v := iI (x6 + 1)) (lv' := [(6, .int (iI (x6 + 1))), (0, .ref (ad 30)), (1, .int (iI a1)), (2, .int (iI a2)), (3, .int (iI a3)), (4, .int (iI a4)), (5, .int (iI x5))]) hx hb dX7_mayNotTry_54 hl (k := 6) rfl (by show iI _ + iI 1 = _; rw [iI_add]) (by decide) rfl (fun ls hl => ?_)
            refine lv_goto (tgt := 6) hx hb dX7_mayNotTry_57 (by decide) ?_
            exact ih_6 x5 (x6 + 1) _ _ _ (by omega) (by omega) (by omega) (by first | (rw [cn_y (p := (pDo (f 20) (f 21) (f 22) (f 26) a1 a2 a3)) (by omega) (decide_eq_true (by omega))]; omega) | (rw [cn_n (p := (pDo (f 20) (f 21) (f 22) (f 26) a1 a2 a3)) (by omega) (decide_eq_false (by omega))]; omega)) (by first | (rw [cn_y (p := (pTo (f 20) (f 21) (f 22) (f 26) a1 a2 a3)) (by omega) (decide_eq_true (by omega))]; omega) | (rw [cn_n (p := (pTo (f 20) (f 21) (f 22) (f 26) a1 a2 a3)) (by omega) (decide_eq_false (by omega))]; omega)) hP hS (lv_sub hl [1, 2, 3, 4, 5, 6, 0] rfl)
          · refine lv_aload_n hx hb dX7_mayNotTry_38 rfl (lv_at hl 0 rfl) ?_
            refine rwG_tries_how C hP mF_X7_30 dX7_mayNotTry_39 ?_
            refine lv_iload hx hb dX7_mayNotTry_42 (lv_at hl 6 rfl) ?_
            refine rwL_tries_how C hP (by omega) (by omega) dX7_mayNotTry_44 ?_
            refine lv_iconst (v := iI 1) hx hb dX7_mayNotTry_45 rfl ?_
            refine gi_cne (tgt := 51) hx hb dX7_mayNotTry_46 (by decide) (by omega) (by decide) (fun c_9 => ?_) (fun c_9 => ?_)
            · refine lv_iinc (v := iI (x5 + 1)) (lv' := [(5, .int (iI (x5 + 1))), (0, .ref (ad 30)), (1, .int (iI a1)), (2, .int (iI a2)), (3, .int (iI a3)), (4, .int (iI a4)), (6, .int (iI x6))]) hx hb dX7_mayNotTry_51 hl (k := 5) rfl (by show iI _ + iI 1 = _; rw [iI_add]) (by decide) rfl (fun ls hl => ?_)
              refine lv_iinc (v := iI (x6 + 1)) (lv' := [(6, .int (iI (x6 + 1))), (5, .int (iI (x5 + 1))), (0, .ref (ad 30)), (1, .int (iI a1)), (2, .int (iI a2)), (3, .int (iI a3)), (4, .int (iI a4))]) hx hb dX7_mayNotTry_54 hl (k := 6) rfl (by show iI _ + iI 1 = _; rw [iI_add]) (by decide) rfl (fun ls hl => ?_)
              refine lv_goto (tgt := 6) hx hb dX7_mayNotTry_57 (by decide) ?_
              exact ih_6 (x5 + 1) (x6 + 1) _ _ _ (by omega) (by omega) (by omega) (by first | (rw [cn_y (p := (pDo (f 20) (f 21) (f 22) (f 26) a1 a2 a3)) (by omega) (decide_eq_true (by omega))]; omega) | (rw [cn_n (p := (pDo (f 20) (f 21) (f 22) (f 26) a1 a2 a3)) (by omega) (decide_eq_false (by omega))]; omega)) (by first | (rw [cn_y (p := (pTo (f 20) (f 21) (f 22) (f 26) a1 a2 a3)) (by omega) (decide_eq_true (by omega))]; omega) | (rw [cn_n (p := (pTo (f 20) (f 21) (f 22) (f 26) a1 a2 a3)) (by omega) (decide_eq_false (by omega))]; omega)) hP hS (lv_sub hl [2, 3, 4, 5, 6, 1, 0] rfl)
            · refine lv_iconst (v := iI 1) hx hb dX7_mayNotTry_49 rfl ?_
              exact g_zret hQ C hr hlocks (by decide) hP hS dX7_mayNotTry_50 ⟨1, rfl, rfl, rfl, rfl, (by first | (rw [if_pos (Or.inl (cn_hi (x := x6) (by omega) (by omega) (decide_eq_true (by omega))))]) | (rw [show (v 23) = x6 by omega]; first | rw [if_pos (by omega)] | rw [if_neg (by omega)]))⟩
  exact L_2 301 0 0 _ _ _ (by omega) (by omega) (by omega) rfl rfl hP hS (lv_sub hl [2, 3, 4, 5, 6, 1, 0] rfl)

set_option maxHeartbeats 4000000 in
set_option maxRecDepth 100000 in
theorem x_Tr_lastEnd (l : Launch) (D : va_G) (k : Nat → ClassId) (A : Nat → Prop) (ad : Nat → Nat) (hD : rwD A k ad) (v : gV) (f g : gF) (a1 : Int) (a2 : Int) (h_a1 : inR a1) (h_a2 : inR a2) : GM l D k A (rwT k ad) yX7_lastEnd cX7_lastEnd 5 (some .int) 1 30 [.ref (ad 30), .int (iI a1), .int (iI a2)] v f g (fun r v1 f1 g1 => ∃ (z : Int), r = some (.int (iI z)) ∧ v = v1 ∧ f = f1 ∧ g = g1 ∧ (z = (mxE (f 20) (f 21) (f 24) a1 a2 (v 23).toNat)) ∧ ((-1) ≤ z ∧ z ≤ 1000999)) := by
  refine GM.of (by decide) (Nat.le_of_ble_eq_true rfl) ?_
  intro p e s m args below meth c Q ls hQ C hml hr hlocks hP hl
  have hx := C.1
  have hb := C.2.1
  have hok := hP.2
  have hS : va_S A s.heap s.heap [] := va_S.rf
  have hl : lv_has ls 5 [(0, .ref (ad 30)), (1, .int (iI a1)), (2, .int (iI a2))] := hl
  have r_1 : 0 ≤ (v 23) ∧ (v 23) ≤ 300 := hok.1 23
  refine lv_iconst (v := iI (-1)) hx hb dX7_lastEnd_0 rfl ?_
  refine lv_istore_n (lv' := [(3, .int (iI (-1))), (0, .ref (ad 30)), (1, .int (iI a1)), (2, .int (iI a2))]) hx hb dX7_lastEnd_1 rfl hl (by decide) rfl (fun ls hl => ?_)
  refine lv_iconst (v := iI 0) hx hb dX7_lastEnd_2 rfl ?_
  refine lv_istore (lv' := [(4, .int (iI 0)), (3, .int (iI (-1))), (0, .ref (ad 30)), (1, .int (iI a1)), (2, .int (iI a2))]) hx hb dX7_lastEnd_3 hl (by decide) rfl (fun ls hl => ?_)
  have L_2 : ∀ (n : Nat) (x3 : Int) (x4 : Int) (H : Heap) (locs : List Loc) (ls : Array Slot), 300 - x4 < (n : Int) → (0 ≤ x4 ∧ x4 ≤ (v 23)) → ((-1) ≤ x3 ∧ x3 ≤ 1000999) → (x3 = mxE (f 20) (f 21) (f 24) a1 a2 x4.toNat) → gWd D (rwT k ad) v f g H → va_S A s.heap H locs → lv_has ls 5 [(0, .ref (ad 30)), (1, .int (iI a1)), (2, .int (iI a2)), (3, .int (iI x3)), (4, .int (iI x4))] → W p l e (gRm 1 30) s m args below meth c H locs 0 0 Q (F0 m 5 ls []) := by
    intro n
    induction n with
    | zero =>
      intro x3 x4 H locs ls hn_2 i2_0 i2_1 i2_2 hP hS hl
      exfalso; omega
    | succ n ih_5 =>
      intro x3 x4 H locs ls hn_2 i2_0 i2_1 i2_2 hP hS hl
      refine lv_iload hx hb dX7_lastEnd_5 (lv_at hl 4 rfl) ?_
      refine lv_aload_n hx hb dX7_lastEnd_7 rfl (lv_at hl 0 rfl) ?_
      refine rwG_tries_many C hP mF_X7_36 dX7_lastEnd_8 ?_
      refine gi_cge (tgt := 54) hx hb dX7_lastEnd_11 (by decide) (by omega) (by omega) (fun c_3 => ?_) (fun c_3 => ?_)
      · refine lv_iload_n hx hb dX7_lastEnd_54 rfl (lv_at hl 3 rfl) ?_
        exact g_iret hQ C hr hlocks hP hS dX7_lastEnd_55 ⟨x3, rfl, rfl, rfl, rfl, (by rw [show (v 23) = x4 by omega]; assumption), (by first | omega | ((repeat' split) <;> omega))⟩
      · refine lv_aload_n hx hb dX7_lastEnd_14 rfl (lv_at hl 0 rfl) ?_
        refine rwG_tries_climber C hP mF_X7_9 dX7_lastEnd_15 ?_
        refine lv_iload hx hb dX7_lastEnd_18 (lv_at hl 4 rfl) ?_
        refine rwL_tries_climber C hP (by omega) (by omega) dX7_lastEnd_20 ?_
        have r_4 : 0 ≤ (f 20 x4) ∧ (f 20 x4) ≤ 15 := hP.2.2 20 x4
        refine lv_iload_n hx hb dX7_lastEnd_21 rfl (lv_at hl 1 rfl) ?_
        refine gi_cne (tgt := 48) hx hb dX7_lastEnd_22 (by decide) (by omega) (by omega) (fun c_5 => ?_) (fun c_5 => ?_)
        · refine lv_iinc (v := iI (x4 + 1)) (lv' := [(4, .int (iI (x4 + 1))), (0, .ref (ad 30)), (1, .int (iI a1)), (2, .int (iI a2)), (3, .int (iI x3))]) hx hb dX7_lastEnd_48 hl (k := 4) rfl (by show iI _ + iI 1 = _; rw [iI_add]) (by decide) rfl (fun ls hl => ?_)
          refine lv_goto (tgt := 5) hx hb dX7_lastEnd_51 (by decide) ?_
          exact ih_5 x3 (x4 + 1) _ _ _ (by omega) (by omega) (by omega) (by rw [mxE_s (by omega)]; (repeat' split) <;> omega) hP hS (lv_sub hl [1, 2, 3, 4, 0] rfl)
        · refine lv_aload_n hx hb dX7_lastEnd_25 rfl (lv_at hl 0 rfl) ?_
          refine rwG_tries_round C hP mF_X7_15 dX7_lastEnd_26 ?_
          refine lv_iload hx hb dX7_lastEnd_29 (lv_at hl 4 rfl) ?_
          refine rwL_tries_round C hP (by omega) (by omega) dX7_lastEnd_31 ?_
          have r_6 : 0 ≤ (f 21 x4) ∧ (f 21 x4) ≤ 3 := hP.2.2 21 x4
          refine lv_iload_n hx hb dX7_lastEnd_32 rfl (lv_at hl 2 rfl) ?_
          refine gi_cne (tgt := 48) hx hb dX7_lastEnd_33 (by decide) (by omega) (by omega) (fun c_7 => ?_) (fun c_7 => ?_)
          · refine lv_iinc (v := iI (x4 + 1)) (lv' := [(4, .int (iI (x4 + 1))), (0, .ref (ad 30)), (1, .int (iI a1)), (2, .int (iI a2)), (3, .int (iI x3))]) hx hb dX7_lastEnd_48 hl (k := 4) rfl (by show iI _ + iI 1 = _; rw [iI_add]) (by decide) rfl (fun ls hl => ?_)
            refine lv_goto (tgt := 5) hx hb dX7_lastEnd_51 (by decide) ?_
            exact ih_5 x3 (x4 + 1) _ _ _ (by omega) (by omega) (by omega) (by rw [mxE_s (by omega)]; (repeat' split) <;> omega) hP hS (lv_sub hl [1, 2, 3, 4, 0] rfl)
          · refine lv_iload_n hx hb dX7_lastEnd_36 rfl (lv_at hl 3 rfl) ?_
            refine lv_aload_n hx hb dX7_lastEnd_37 rfl (lv_at hl 0 rfl) ?_
            refine rwG_tries_ended C hP mF_X7_24 dX7_lastEnd_38 ?_
            refine lv_iload hx hb dX7_lastEnd_41 (lv_at hl 4 rfl) ?_
            refine rwL_tries_ended C hP (by omega) (by omega) dX7_lastEnd_43 ?_
            have r_8 : (-1) ≤ (f 24 x4) ∧ (f 24 x4) ≤ 1000999 := hP.2.2 24 x4
            refine gi_max C hml hl.1 mM_X7_58 (by omega) (by omega) (Nat.le_of_ble_eq_true rfl) (Nat.le_of_ble_eq_true rfl) dX7_lastEnd_44 (fun x_9 hx_9 => ?_)
            refine lv_istore_n (lv' := [(3, .int (iI x_9)), (0, .ref (ad 30)), (1, .int (iI a1)), (2, .int (iI a2)), (4, .int (iI x4))]) hx hb dX7_lastEnd_47 rfl hl (by decide) rfl (fun ls hl => ?_)
            refine lv_iinc (v := iI (x4 + 1)) (lv' := [(4, .int (iI (x4 + 1))), (3, .int (iI x_9)), (0, .ref (ad 30)), (1, .int (iI a1)), (2, .int (iI a2))]) hx hb dX7_lastEnd_48 hl (k := 4) rfl (by show iI _ + iI 1 = _; rw [iI_add]) (by decide) rfl (fun ls hl => ?_)
            refine lv_goto (tgt := 5) hx hb dX7_lastEnd_51 (by decide) ?_
            exact ih_5 x_9 (x4 + 1) _ _ _ (by omega) (by omega) (by omega) (by rw [mxE_s (by omega)]; (repeat' split) <;> omega) hP hS (lv_sub hl [2, 3, 4, 1, 0] rfl)
  exact L_2 301 (-1) 0 _ _ _ (by omega) (by omega) (by omega) rfl hP hS (lv_sub hl [2, 3, 4, 1, 0] rfl)

set_option maxHeartbeats 4000000 in
set_option maxRecDepth 100000 in
theorem x_Wa_isOut (l : Launch) (D : va_G) (k : Nat → ClassId) (A : Nat → Prop) (ad : Nat → Nat) (hD : rwD A k ad) (v : gV) (f g : gF) (a1 : Int) (h_a1 : inR a1) (hc : 0 ≤ a1 ∧ a1 ≤ 15) : GM l D k A (rwT k ad) yX9_isOut cX9_isOut 2 (some .boolean) 1 21 [.ref (ad 43), .int (iI a1)] v f g (fun r v1 f1 g1 => ∃ (z : Int), r = some (.int (iI z)) ∧ v = v1 ∧ f = f1 ∧ g = g1 ∧ (z = (if 0 < (f 31) a1 ∧ (f 33) (a1 * 20 + (f 31) a1 - 1) = (-1) then 1 else 0))) := by
  refine GM.of (by decide) (Nat.le_of_ble_eq_true rfl) ?_
  intro p e s m args below meth c Q ls hQ C hml hr hlocks hP hl
  have hx := C.1
  have hb := C.2.1
  have hok := hP.2
  have hS : va_S A s.heap s.heap [] := va_S.rf
  have hl : lv_has ls 2 [(0, .ref (ad 43)), (1, .int (iI a1))] := hl
  refine lv_aload_n hx hb dX9_isOut_0 rfl (lv_at hl 0 rfl) ?_
  refine rwG_watch_times C hP mF_X9_9 dX9_isOut_1 ?_
  refine lv_iload_n hx hb dX9_isOut_4 rfl (lv_at hl 1 rfl) ?_
  refine rwL_watch_times C hP (by omega) (by omega) dX9_isOut_5 ?_
  have r_1 : 0 ≤ (f 31 a1) ∧ (f 31 a1) ≤ 20 := hP.2.2 31 a1
  refine gi_zle (tgt := 27) hx hb dX9_isOut_6 (by decide) (by omega) (fun c_2 => ?_) (fun c_2 => ?_)
  · refine lv_iconst (v := iI 0) hx hb dX9_isOut_27 rfl ?_
    exact g_zret hQ C hr hlocks (by decide) hP hS dX9_isOut_28 ⟨0, rfl, rfl, rfl, rfl, (by first | omega | ((repeat' split) <;> omega))⟩
  · refine lv_aload_n hx hb dX9_isOut_9 rfl (lv_at hl 0 rfl) ?_
    refine rwG_watch_cameIn C hP mF_X9_18 dX9_isOut_10 ?_
    refine lv_aload_n hx hb dX9_isOut_13 rfl (lv_at hl 0 rfl) ?_
    refine lv_iload_n hx hb dX9_isOut_14 rfl (lv_at hl 1 rfl) ?_
    refine g_cv (As := [.int (iI a1)]) (rest := [.ref (ad 46)]) (n := 1) C hml (c_X9_latest l D k A ad hD v f g a1 (by omega) (show 0 ≤ a1 ∧ a1 ≤ 15 from by omega)) mM_X9_27 mI_X9_latest mE_X9_latest mN_X9 mC_X9_latest (by decide +kernel) 43 (ci := 9) rfl rfl hP hS (fun _ h => h) ⟨Nat.le_of_ble_eq_true rfl, Nat.le_of_ble_eq_true rfl⟩ ⟨Nat.zero_le _, Nat.zero_le _⟩ hl.1 rfl rfl (Nat.le_of_ble_eq_true rfl) dX9_isOut_15 (fun r_3 v_3 f_3 g_3 H locs hq_3 hP _ hS => ?_)
    obtain ⟨z_3, rfl, rfl, rfl, rfl, p0_3, p1_3⟩ := hq_3
    show W p l e (gRm 1 21) s m args below meth c _ _ 0 0 Q (F0 m 18 ls [.int (iI z_3), .ref (ad 46)])
    replace p0_3 : z_3 = (a1 * 20 + (f 31) a1 - 1) := p0_3
    replace p1_3 : z_3 = a1 * 20 + (f 31) a1 - 1 ∧ 0 ≤ (f 31) a1 ∧ (f 31) a1 ≤ 20 := p1_3
    have hz_3 : inR z_3 := (by first | omega | (rw [p0_3]; split <;> omega))
    have hcz : (f 33) z_3 = (f 33) (a1 * 20 + (f 31) a1 - 1) := by rw [p0_3]
    refine rwL_watch_cameIn C hP (by omega) (by omega) dX9_isOut_18 ?_
    have r_4 : (-1) ≤ (f 33 z_3) ∧ (f 33 z_3) ≤ 1000000 := hP.2.2 33 z_3
    refine lv_iconst (v := iI (-1)) hx hb dX9_isOut_19 rfl ?_
    refine gi_cne (tgt := 27) hx hb dX9_isOut_20 (by decide) (by omega) (by decide) (fun c_5 => ?_) (fun c_5 => ?_)
    · refine lv_iconst (v := iI 0) hx hb dX9_isOut_27 rfl ?_
      exact g_zret hQ C hr hlocks (by decide) hP hS dX9_isOut_28 ⟨0, rfl, rfl, rfl, rfl, (by first | omega | ((repeat' split) <;> omega))⟩
    · refine lv_iconst (v := iI 1) hx hb dX9_isOut_23 rfl ?_
      refine lv_goto (tgt := 28) hx hb dX9_isOut_24 (by decide) ?_
      exact g_zret hQ C hr hlocks (by decide) hP hS dX9_isOut_28 ⟨1, rfl, rfl, rfl, rfl, (by first | omega | ((repeat' split) <;> omega))⟩

set_option maxHeartbeats 4000000 in
set_option maxRecDepth 100000 in
theorem x_Wa_goOut (l : Launch) (D : va_G) (k : Nat → ClassId) (A : Nat → Prop) (ad : Nat → Nat) (hD : rwD A k ad) (v : gV) (f g : gF) (a1 : Int) (a2 : Int) (h_a1 : inR a1) (h_a2 : inR a2) (hc : 0 ≤ a1 ∧ a1 ≤ 15) (h1 : (f 31) a1 < 20) (h2 : 0 ≤ a2 ∧ a2 ≤ 1000000) : GM l D k A (rwT k ad) yX9_goOut cX9_goOut 3 none 1 21 [.ref (ad 43), .int (iI a1), .int (iI a2)] v f g (fun r v1 f1 g1 => r = none ∧ v = v1 ∧ (va_up (va_up (va_up f 31 (u1 (f 31) a1 ((f 31) a1 + 1))) 32 (u1 (f 32) (a1 * 20 + (f 31) a1) a2)) 33 (u1 (f 33) (a1 * 20 + (f 31) a1) (-1))) = f1 ∧ g = g1) := by
  refine GM.of (by decide) (Nat.le_of_ble_eq_true rfl) ?_
  intro p e s m args below meth c Q ls hQ C hml hr hlocks hP hl
  have hx := C.1
  have hb := C.2.1
  have hok := hP.2
  have hS : va_S A s.heap s.heap [] := va_S.rf
  have hl : lv_has ls 3 [(0, .ref (ad 43)), (1, .int (iI a1)), (2, .int (iI a2))] := hl
  have hP : gWd D (rwT k ad) v (va_up (va_up (va_up f 31 (f 31)) 32 (f 32)) 33 (f 33)) g s.heap := by rw [va_id, va_id, va_id]; exact hP
  refine lv_aload_n hx hb dX9_goOut_0 rfl (lv_at hl 0 rfl) ?_
  refine rwG_watch_times C hP mF_X9_9 dX9_goOut_1 ?_
  refine lv_iload_n hx hb dX9_goOut_4 rfl (lv_at hl 1 rfl) ?_
  refine lv_dup2_11 hx hb dX9_goOut_5 rfl rfl ?_
  refine rwL_watch_times C hP (by omega) (by omega) dX9_goOut_6 ?_
  show W p l e (gRm 1 21) s m args below meth c _ _ 0 0 Q (F0 m 7 ls [.int (iI (f 31 a1)), .int (iI a1), .ref (ad 44)])
  have r_1 : 0 ≤ (f 31 a1) ∧ (f 31 a1) ≤ 20 := hP.2.2 31 a1
  refine lv_iconst (v := iI 1) hx hb dX9_goOut_7 rfl ?_
  refine gi_add (z := ((f 31 a1) + 1)) hx hb dX9_goOut_8 rfl ?_
  refine rwS_watch_times (f1 := (va_up (va_up (va_up f 31 (u1 (f 31) a1 ((f 31 a1) + 1))) 32 (f 32)) 33 (f 33))) C hP hD hS (by omega) (by omega) (by omega) rfl (Or.inr (gF_up (V := rwV) (F := rwF) (gF_up (V := rwV) (F := rwF) (gF_up (V := rwV) (F := rwF) ⟨hok.1, hok.2⟩ 31 (u1_rng (hP.2.2 31) (show 0 ≤ ((f 31 a1) + 1) ∧ ((f 31 a1) + 1) ≤ 20 from (by omega)))) 32 (hP.2.2 32)) 33 (hP.2.2 33))) dX9_goOut_9 (fun H locs hP hS => ?_)
  refine lv_aload_n hx hb dX9_goOut_10 rfl (lv_at hl 0 rfl) ?_
  refine rwG_watch_wentOut C hP mF_X9_15 dX9_goOut_11 ?_
  refine lv_aload_n hx hb dX9_goOut_14 rfl (lv_at hl 0 rfl) ?_
  refine lv_iload_n hx hb dX9_goOut_15 rfl (lv_at hl 1 rfl) ?_
  refine g_cv (As := [.int (iI a1)]) (rest := [.ref (ad 45)]) (n := 1) C hml (c_X9_latest l D k A ad hD v (va_up (va_up (va_up f 31 (u1 (f 31) a1 ((f 31 a1) + 1))) 32 (f 32)) 33 (f 33)) g a1 (by omega) (show 0 ≤ a1 ∧ a1 ≤ 15 from by omega)) mM_X9_27 mI_X9_latest mE_X9_latest mN_X9 mC_X9_latest (by decide +kernel) 43 (ci := 9) rfl rfl hP hS (fun _ h => h) ⟨Nat.le_of_ble_eq_true rfl, Nat.le_of_ble_eq_true rfl⟩ ⟨Nat.zero_le _, Nat.zero_le _⟩ hl.1 rfl rfl (Nat.le_of_ble_eq_true rfl) dX9_goOut_16 (fun r_2 v_2 f_2 g_2 H locs hq_2 hP _ hS => ?_)
  obtain ⟨z_2, rfl, rfl, rfl, rfl, p0_2, p1_2⟩ := hq_2
  show W p l e (gRm 1 21) s m args below meth c _ _ 0 0 Q (F0 m 19 ls [.int (iI z_2), .ref (ad 45)])
  replace p0_2 : z_2 = (a1 * 20 + (u1 (f 31) a1 ((f 31 a1) + 1)) a1 - 1) := p0_2
  replace p1_2 : z_2 = a1 * 20 + (u1 (f 31) a1 ((f 31 a1) + 1)) a1 - 1 ∧ 0 ≤ (u1 (f 31) a1 ((f 31 a1) + 1)) a1 ∧ (u1 (f 31) a1 ((f 31 a1) + 1)) a1 ≤ 20 := p1_2
  have hz_2 : inR z_2 := (by first | omega | (rw [p0_2]; split <;> omega))
  have q_2 : u1 (f 31) a1 ((f 31) a1 + 1) a1 = (f 31) a1 + 1 := u1_s
  refine lv_iload_n hx hb dX9_goOut_19 rfl (lv_at hl 2 rfl) ?_
  refine rwS_watch_wentOut (f1 := (va_up (va_up (va_up f 31 (u1 (f 31) a1 ((f 31 a1) + 1))) 32 (u1 (f 32) z_2 a2)) 33 (f 33))) C hP hD hS (by omega) (by omega) (by omega) rfl (Or.inr (gF_up (V := rwV) (F := rwF) (gF_up (V := rwV) (F := rwF) (gF_up (V := rwV) (F := rwF) ⟨hok.1, hok.2⟩ 31 (hP.2.2 31)) 32 (u1_rng (hP.2.2 32) (show 0 ≤ a2 ∧ a2 ≤ 1000000 from (by omega)))) 33 (hP.2.2 33))) dX9_goOut_20 (fun H locs hP hS => ?_)
  refine lv_aload_n hx hb dX9_goOut_21 rfl (lv_at hl 0 rfl) ?_
  refine rwG_watch_cameIn C hP mF_X9_18 dX9_goOut_22 ?_
  refine lv_aload_n hx hb dX9_goOut_25 rfl (lv_at hl 0 rfl) ?_
  refine lv_iload_n hx hb dX9_goOut_26 rfl (lv_at hl 1 rfl) ?_
  refine g_cv (As := [.int (iI a1)]) (rest := [.ref (ad 46)]) (n := 1) C hml (c_X9_latest l D k A ad hD v (va_up (va_up (va_up f 31 (u1 (f 31) a1 ((f 31 a1) + 1))) 32 (u1 (f 32) z_2 a2)) 33 (f 33)) g a1 (by omega) (show 0 ≤ a1 ∧ a1 ≤ 15 from by omega)) mM_X9_27 mI_X9_latest mE_X9_latest mN_X9 mC_X9_latest (by decide +kernel) 43 (ci := 9) rfl rfl hP hS (fun _ h => h) ⟨Nat.le_of_ble_eq_true rfl, Nat.le_of_ble_eq_true rfl⟩ ⟨Nat.zero_le _, Nat.zero_le _⟩ hl.1 rfl rfl (Nat.le_of_ble_eq_true rfl) dX9_goOut_27 (fun r_3 v_3 f_3 g_3 H locs hq_3 hP _ hS => ?_)
  obtain ⟨z_3, rfl, rfl, rfl, rfl, p0_3, p1_3⟩ := hq_3
  show W p l e (gRm 1 21) s m args below meth c _ _ 0 0 Q (F0 m 30 ls [.int (iI z_3), .ref (ad 46)])
  replace p0_3 : z_3 = (a1 * 20 + (u1 (f 31) a1 ((f 31 a1) + 1)) a1 - 1) := p0_3
  replace p1_3 : z_3 = a1 * 20 + (u1 (f 31) a1 ((f 31 a1) + 1)) a1 - 1 ∧ 0 ≤ (u1 (f 31) a1 ((f 31 a1) + 1)) a1 ∧ (u1 (f 31) a1 ((f 31 a1) + 1)) a1 ≤ 20 := p1_3
  have hz_3 : inR z_3 := (by first | omega | (rw [p0_3]; split <;> omega))
  have q_3 : u1 (f 31) a1 ((f 31) a1 + 1) a1 = (f 31) a1 + 1 := u1_s
  refine lv_iconst (v := iI (-1)) hx hb dX9_goOut_30 rfl ?_
  refine rwS_watch_cameIn (f1 := (va_up (va_up (va_up f 31 (u1 (f 31) a1 ((f 31 a1) + 1))) 32 (u1 (f 32) z_2 a2)) 33 (u1 (f 33) z_3 (-1)))) C hP hD hS (by omega) (by omega) (by decide) rfl (Or.inr (gF_up (V := rwV) (F := rwF) (gF_up (V := rwV) (F := rwF) (gF_up (V := rwV) (F := rwF) ⟨hok.1, hok.2⟩ 31 (hP.2.2 31)) 32 (hP.2.2 32)) 33 (u1_rng (hP.2.2 33) (show (-1) ≤ (-1) ∧ (-1) ≤ 1000000 from (by decide))))) dX9_goOut_31 (fun H locs hP hS => ?_)
  exact g_vret hQ C hr hlocks hP hS dX9_goOut_32 ⟨rfl, rfl, (by rw [show ((u1 (f 31) a1 ((f 31) a1 + 1)) : Int → Int) = (u1 (f 31) a1 ((f 31 a1) + 1)) from by first | rfl | rw [if_pos (by omega)] | rw [if_neg (by omega)], show ((u1 (f 32) (a1 * 20 + (f 31) a1) a2) : Int → Int) = (u1 (f 32) z_2 a2) from by congr 1; omega, show ((u1 (f 33) (a1 * 20 + (f 31) a1) (-1)) : Int → Int) = (u1 (f 33) z_3 (-1)) from by congr 1; omega]), rfl⟩

set_option maxHeartbeats 4000000 in
set_option maxRecDepth 100000 in
theorem x_Wa_comeIn (l : Launch) (D : va_G) (k : Nat → ClassId) (A : Nat → Prop) (ad : Nat → Nat) (hD : rwD A k ad) (v : gV) (f g : gF) (a1 : Int) (a2 : Int) (h_a1 : inR a1) (h_a2 : inR a2) (hc : 0 ≤ a1 ∧ a1 ≤ 15) (h1 : 0 < (f 31) a1) (h2 : 0 ≤ a2 ∧ a2 ≤ 1000000) : GM l D k A (rwT k ad) yX9_comeIn cX9_comeIn 3 none 1 21 [.ref (ad 43), .int (iI a1), .int (iI a2)] v f g (fun r v1 f1 g1 => r = none ∧ v = v1 ∧ (va_up f 33 (u1 (f 33) (a1 * 20 + (f 31) a1 - 1) a2)) = f1 ∧ g = g1) := by
  refine GM.of (by decide) (Nat.le_of_ble_eq_true rfl) ?_
  intro p e s m args below meth c Q ls hQ C hml hr hlocks hP hl
  have hx := C.1
  have hb := C.2.1
  have hok := hP.2
  have hS : va_S A s.heap s.heap [] := va_S.rf
  have hl : lv_has ls 3 [(0, .ref (ad 43)), (1, .int (iI a1)), (2, .int (iI a2))] := hl
  have hP : gWd D (rwT k ad) v (va_up f 33 (f 33)) g s.heap := by rw [va_id]; exact hP
  refine lv_aload_n hx hb dX9_comeIn_0 rfl (lv_at hl 0 rfl) ?_
  refine rwG_watch_cameIn C hP mF_X9_18 dX9_comeIn_1 ?_
  refine lv_aload_n hx hb dX9_comeIn_4 rfl (lv_at hl 0 rfl) ?_
  refine lv_iload_n hx hb dX9_comeIn_5 rfl (lv_at hl 1 rfl) ?_
  refine g_cv (As := [.int (iI a1)]) (rest := [.ref (ad 46)]) (n := 1) C hml (c_X9_latest l D k A ad hD v (va_up f 33 (f 33)) g a1 (by omega) (show 0 ≤ a1 ∧ a1 ≤ 15 from by omega)) mM_X9_27 mI_X9_latest mE_X9_latest mN_X9 mC_X9_latest (by decide +kernel) 43 (ci := 9) rfl rfl hP hS (fun _ h => h) ⟨Nat.le_of_ble_eq_true rfl, Nat.le_of_ble_eq_true rfl⟩ ⟨Nat.zero_le _, Nat.zero_le _⟩ hl.1 rfl rfl (Nat.le_of_ble_eq_true rfl) dX9_comeIn_6 (fun r_1 v_1 f_1 g_1 H locs hq_1 hP _ hS => ?_)
  obtain ⟨z_1, rfl, rfl, rfl, rfl, p0_1, p1_1⟩ := hq_1
  show W p l e (gRm 1 21) s m args below meth c _ _ 0 0 Q (F0 m 9 ls [.int (iI z_1), .ref (ad 46)])
  replace p0_1 : z_1 = (a1 * 20 + (f 31) a1 - 1) := p0_1
  replace p1_1 : z_1 = a1 * 20 + (f 31) a1 - 1 ∧ 0 ≤ (f 31) a1 ∧ (f 31) a1 ≤ 20 := p1_1
  have hz_1 : inR z_1 := (by first | omega | (rw [p0_1]; split <;> omega))
  refine lv_iload_n hx hb dX9_comeIn_9 rfl (lv_at hl 2 rfl) ?_
  refine rwS_watch_cameIn (f1 := (va_up f 33 (u1 (f 33) z_1 a2))) C hP hD hS (by omega) (by omega) (by omega) rfl (Or.inr (gF_up (V := rwV) (F := rwF) ⟨hok.1, hok.2⟩ 33 (u1_rng (hP.2.2 33) (show (-1) ≤ a2 ∧ a2 ≤ 1000000 from (by omega))))) dX9_comeIn_10 (fun H locs hP hS => ?_)
  exact g_vret hQ C hr hlocks hP hS dX9_comeIn_11 ⟨rfl, rfl, (by rw [show ((u1 (f 33) (a1 * 20 + (f 31) a1 - 1) a2) : Int → Int) = (u1 (f 33) z_1 a2) from by congr 1; omega]), rfl⟩
