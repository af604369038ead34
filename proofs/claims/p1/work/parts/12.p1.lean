set_option maxHeartbeats 4000000 in
set_option maxRecDepth 100000 in
theorem c_X10_refuse (l : Launch) (D : va_G) (k : Nat → ClassId) (A : Nat → Prop) (ad : Nat → Nat) (hD : rwD A k ad) (v : gV) (f g : gF) (a : Int) (h_a : inR a) : GM l D k A (rwW k ad) yX10_refuse cX10_refuse 2 (some .int) 0 0 [.ref (ad 0), .int (iI a)] v f g (fun r v1 f1 g1 => r = some (.int (iI (-1))) ∧ (va_up v 25 a) = v1 ∧ f = f1 ∧ g = g1) := by
  refine GM.of (by decide) (Nat.le_of_ble_eq_true rfl) ?_
  intro p e s m args below meth c Q ls hQ C hml hr hlocks hP hl
  have hx := C.1
  have hb := C.2.1
  have hok := hP.2
  have hS : va_S A s.heap s.heap [] := va_S.rf
  have hl : lv_has ls 2 [(0, .ref (ad 0)), (1, .int (iI a))] := hl
  refine lv_aload_n hx hb dX10_refuse_0 rfl (lv_at hl 0 rfl) ?_
  refine lv_iload_n hx hb dX10_refuse_1 rfl (lv_at hl 1 rfl) ?_
  refine rwP_state (v1 := (va_up v 25 a)) C hP hD hS mF_X10_71 (by omega) rfl (Or.inl rfl) dX10_refuse_2 (fun H locs hP hS => ?_)
  refine lv_iconst (v := iI (-1)) hx hb dX10_refuse_5 rfl ?_
  exact g_iret hQ C hr hlocks hP hS dX10_refuse_6 ⟨rfl, rfl, rfl, rfl⟩

set_option maxHeartbeats 4000000 in
set_option maxRecDepth 100000 in
theorem c_X10_answer (l : Launch) (D : va_G) (k : Nat → ClassId) (A : Nat → Prop) (ad : Nat → Nat) (hD : rwD A k ad) (v : gV) (f g : gF) (a : Int) (h_a : inR a) : GM l D k A (rwW k ad) yX10_answer cX10_answer 2 (some .int) 0 0 [.ref (ad 0), .int (iI a)] v f g (fun r v1 f1 g1 => r = some (.int (iI a)) ∧ (va_up v 25 0) = v1 ∧ f = f1 ∧ g = g1) := by
  refine GM.of (by decide) (Nat.le_of_ble_eq_true rfl) ?_
  intro p e s m args below meth c Q ls hQ C hml hr hlocks hP hl
  have hx := C.1
  have hb := C.2.1
  have hok := hP.2
  have hS : va_S A s.heap s.heap [] := va_S.rf
  have hl : lv_has ls 2 [(0, .ref (ad 0)), (1, .int (iI a))] := hl
  refine lv_aload_n hx hb dX10_answer_0 rfl (lv_at hl 0 rfl) ?_
  refine lv_iconst (v := iI 0) hx hb dX10_answer_1 rfl ?_
  refine rwP_state (v1 := (va_up v 25 0)) C hP hD hS mF_X10_71 (by decide) rfl (Or.inl rfl) dX10_answer_2 (fun H locs hP hS => ?_)
  refine lv_iload_n hx hb dX10_answer_5 rfl (lv_at hl 1 rfl) ?_
  exact g_iret hQ C hr hlocks hP hS dX10_answer_6 ⟨rfl, rfl, rfl, rfl⟩

set_option maxHeartbeats 4000000 in
set_option maxRecDepth 100000 in
theorem c_X10_deny (l : Launch) (D : va_G) (k : Nat → ClassId) (A : Nat → Prop) (ad : Nat → Nat) (hD : rwD A k ad) (v : gV) (f g : gF) (a : Int) (h_a : inR a) : GM l D k A (rwW k ad) yX10_deny cX10_deny 2 (some .boolean) 0 0 [.ref (ad 0), .int (iI a)] v f g (fun r v1 f1 g1 => r = some (.int (iI 0)) ∧ (va_up v 25 a) = v1 ∧ f = f1 ∧ g = g1) := by
  refine GM.of (by decide) (Nat.le_of_ble_eq_true rfl) ?_
  intro p e s m args below meth c Q ls hQ C hml hr hlocks hP hl
  have hx := C.1
  have hb := C.2.1
  have hok := hP.2
  have hS : va_S A s.heap s.heap [] := va_S.rf
  have hl : lv_has ls 2 [(0, .ref (ad 0)), (1, .int (iI a))] := hl
  refine lv_aload_n hx hb dX10_deny_0 rfl (lv_at hl 0 rfl) ?_
  refine lv_iload_n hx hb dX10_deny_1 rfl (lv_at hl 1 rfl) ?_
  refine rwP_state (v1 := (va_up v 25 a)) C hP hD hS mF_X10_71 (by omega) rfl (Or.inl rfl) dX10_deny_2 (fun H locs hP hS => ?_)
  refine lv_iconst (v := iI 0) hx hb dX10_deny_5 rfl ?_
  exact g_zret hQ C hr hlocks (by decide) hP hS dX10_deny_6 ⟨rfl, rfl, rfl, rfl⟩

set_option maxHeartbeats 4000000 in
set_option maxRecDepth 100000 in
theorem c_X10_grant (l : Launch) (D : va_G) (k : Nat → ClassId) (A : Nat → Prop) (ad : Nat → Nat) (hD : rwD A k ad) (v : gV) (f g : gF) : GM l D k A (rwW k ad) yX10_grant cX10_grant 1 (some .boolean) 0 0 [.ref (ad 0)] v f g (fun r v1 f1 g1 => r = some (.int (iI 1)) ∧ (va_up v 25 0) = v1 ∧ f = f1 ∧ g = g1) := by
  refine GM.of (by decide) (Nat.le_of_ble_eq_true rfl) ?_
  intro p e s m args below meth c Q ls hQ C hml hr hlocks hP hl
  have hx := C.1
  have hb := C.2.1
  have hok := hP.2
  have hS : va_S A s.heap s.heap [] := va_S.rf
  have hl : lv_has ls 1 [(0, .ref (ad 0))] := hl
  refine lv_aload_n hx hb dX10_grant_0 rfl (lv_at hl 0 rfl) ?_
  refine lv_iconst (v := iI 0) hx hb dX10_grant_1 rfl ?_
  refine rwP_state (v1 := (va_up v 25 0)) C hP hD hS mF_X10_71 (by decide) rfl (Or.inl rfl) dX10_grant_2 (fun H locs hP hS => ?_)
  refine lv_iconst (v := iI 1) hx hb dX10_grant_5 rfl ?_
  exact g_zret hQ C hr hlocks (by decide) hP hS dX10_grant_6 ⟨rfl, rfl, rfl, rfl⟩

set_option maxHeartbeats 4000000 in
set_option maxRecDepth 100000 in
theorem c_X10_isDay (l : Launch) (D : va_G) (k : Nat → ClassId) (A : Nat → Prop) (ad : Nat → Nat) (hD : rwD A k ad) (v : gV) (f g : gF) (a : Int) (h_a : inR a) : GM l D k A (rwW k ad) yX10_isDay cX10_isDay 1 (some .boolean) 0 0 [.int (iI a)] v f g (fun r v1 f1 g1 => (∃ z : Int, r = some (.int (iI z)) ∧ z = (if 0 ≤ a ∧ a ≤ 999 then 1 else 0)) ∧ v = v1 ∧ f = f1 ∧ g = g1) := by
  refine GM.of (by decide) (Nat.le_of_ble_eq_true rfl) ?_
  intro p e s m args below meth c Q ls hQ C hml hr hlocks hP hl
  have hx := C.1
  have hb := C.2.1
  have hok := hP.2
  have hS : va_S A s.heap s.heap [] := va_S.rf
  have hl : lv_has ls 1 [(0, .int (iI a))] := hl
  refine lv_iload_n hx hb dX10_isDay_0 rfl (lv_at hl 0 rfl) ?_
  refine gi_zlt (tgt := 15) hx hb dX10_isDay_1 (by decide) (by omega) (fun c_1 => ?_) (fun c_1 => ?_)
  · refine lv_iconst (v := iI 0) hx hb dX10_isDay_15 rfl ?_
    exact g_zret hQ C hr hlocks (by decide) hP hS dX10_isDay_16 ⟨⟨_, rfl, (by first | omega | (split <;> omega))⟩, rfl, rfl, rfl⟩
  · refine lv_iload_n hx hb dX10_isDay_4 rfl (lv_at hl 0 rfl) ?_
    refine lv_sipush (v := iI 999) hx hb dX10_isDay_5 (by decide) ?_
    refine gi_cgt (tgt := 15) hx hb dX10_isDay_8 (by decide) (by omega) (by decide) (fun c_2 => ?_) (fun c_2 => ?_)
    · refine lv_iconst (v := iI 0) hx hb dX10_isDay_15 rfl ?_
      exact g_zret hQ C hr hlocks (by decide) hP hS dX10_isDay_16 ⟨⟨_, rfl, (by first | omega | (split <;> omega))⟩, rfl, rfl, rfl⟩
    · refine lv_iconst (v := iI 1) hx hb dX10_isDay_11 rfl ?_
      refine lv_goto (tgt := 16) hx hb dX10_isDay_12 (by decide) ?_
      exact g_zret hQ C hr hlocks (by decide) hP hS dX10_isDay_16 ⟨⟨_, rfl, (by first | omega | (split <;> omega))⟩, rfl, rfl, rfl⟩

set_option maxHeartbeats 4000000 in
set_option maxRecDepth 100000 in
theorem c_X2_knows (l : Launch) (D : va_G) (k : Nat → ClassId) (A : Nat → Prop) (ad : Nat → Nat) (hD : rwD A k ad) (v : gV) (f g : gF) (a : Int) (h_a : inR a) : GM l D k A (rwW k ad) yX2_knows cX2_knows 2 (some .boolean) 0 0 [.ref (ad 27), .int (iI a)] v f g (fun r v1 f1 g1 => (∃ z : Int, r = some (.int (iI z)) ∧ z = (if 0 ≤ a ∧ a < v 21 then 1 else 0)) ∧ v = v1 ∧ f = f1 ∧ g = g1) := by
  refine GM.of (by decide) (Nat.le_of_ble_eq_true rfl) ?_
  intro p e s m args below meth c Q ls hQ C hml hr hlocks hP hl
  have hx := C.1
  have hb := C.2.1
  have hok := hP.2
  have hS : va_S A s.heap s.heap [] := va_S.rf
  have hl : lv_has ls 2 [(0, .ref (ad 27)), (1, .int (iI a))] := hl
  refine lv_iload_n hx hb dX2_knows_0 rfl (lv_at hl 1 rfl) ?_
  refine gi_zlt (tgt := 16) hx hb dX2_knows_1 (by decide) (by omega) (fun c_1 => ?_) (fun c_1 => ?_)
  · refine lv_iconst (v := iI 0) hx hb dX2_knows_16 rfl ?_
    exact g_zret hQ C hr hlocks (by decide) hP hS dX2_knows_17 ⟨⟨_, rfl, (by first | omega | (split <;> omega))⟩, rfl, rfl, rfl⟩
  · refine lv_iload_n hx hb dX2_knows_4 rfl (lv_at hl 1 rfl) ?_
    refine lv_aload_n hx hb dX2_knows_5 rfl (lv_at hl 0 rfl) ?_
    refine rwG_field_climbers C hP mF_X2_18 dX2_knows_6 ?_
    have r_2 := hok.1 21
    refine gi_cge (tgt := 16) hx hb dX2_knows_9 (by decide) (by omega) (by omega) (fun c_3 => ?_) (fun c_3 => ?_)
    · refine lv_iconst (v := iI 0) hx hb dX2_knows_16 rfl ?_
      exact g_zret hQ C hr hlocks (by decide) hP hS dX2_knows_17 ⟨⟨_, rfl, (by first | omega | (split <;> omega))⟩, rfl, rfl, rfl⟩
    · refine lv_iconst (v := iI 1) hx hb dX2_knows_12 rfl ?_
      refine lv_goto (tgt := 17) hx hb dX2_knows_13 (by decide) ?_
      exact g_zret hQ C hr hlocks (by decide) hP hS dX2_knows_17 ⟨⟨_, rfl, (by first | omega | (split <;> omega))⟩, rfl, rfl, rfl⟩

set_option maxHeartbeats 4000000 in
set_option maxRecDepth 100000 in
theorem c_X7_knows (l : Launch) (D : va_G) (k : Nat → ClassId) (A : Nat → Prop) (ad : Nat → Nat) (hD : rwD A k ad) (v : gV) (f g : gF) (a : Int) (h_a : inR a) : GM l D k A (rwW k ad) yX7_knows cX7_knows 2 (some .boolean) 0 0 [.ref (ad 30), .int (iI a)] v f g (fun r v1 f1 g1 => (∃ z : Int, r = some (.int (iI z)) ∧ z = (if 0 ≤ a ∧ a < v 23 then 1 else 0)) ∧ v = v1 ∧ f = f1 ∧ g = g1) := by
  refine GM.of (by decide) (Nat.le_of_ble_eq_true rfl) ?_
  intro p e s m args below meth c Q ls hQ C hml hr hlocks hP hl
  have hx := C.1
  have hb := C.2.1
  have hok := hP.2
  have hS : va_S A s.heap s.heap [] := va_S.rf
  have hl : lv_has ls 2 [(0, .ref (ad 30)), (1, .int (iI a))] := hl
  refine lv_iload_n hx hb dX7_knows_0 rfl (lv_at hl 1 rfl) ?_
  refine gi_zlt (tgt := 16) hx hb dX7_knows_1 (by decide) (by omega) (fun c_1 => ?_) (fun c_1 => ?_)
  · refine lv_iconst (v := iI 0) hx hb dX7_knows_16 rfl ?_
    exact g_zret hQ C hr hlocks (by decide) hP hS dX7_knows_17 ⟨⟨_, rfl, (by first | omega | (split <;> omega))⟩, rfl, rfl, rfl⟩
  · refine lv_iload_n hx hb dX7_knows_4 rfl (lv_at hl 1 rfl) ?_
    refine lv_aload_n hx hb dX7_knows_5 rfl (lv_at hl 0 rfl) ?_
    refine rwG_tries_many C hP mF_X7_36 dX7_knows_6 ?_
    have r_2 := hok.1 23
    refine gi_cge (tgt := 16) hx hb dX7_knows_9 (by decide) (by omega) (by omega) (fun c_3 => ?_) (fun c_3 => ?_)
    · refine lv_iconst (v := iI 0) hx hb dX7_knows_16 rfl ?_
      exact g_zret hQ C hr hlocks (by decide) hP hS dX7_knows_17 ⟨⟨_, rfl, (by first | omega | (split <;> omega))⟩, rfl, rfl, rfl⟩
    · refine lv_iconst (v := iI 1) hx hb dX7_knows_12 rfl ?_
      refine lv_goto (tgt := 17) hx hb dX7_knows_13 (by decide) ?_
      exact g_zret hQ C hr hlocks (by decide) hP hS dX7_knows_17 ⟨⟨_, rfl, (by first | omega | (split <;> omega))⟩, rfl, rfl, rfl⟩

set_option maxHeartbeats 4000000 in
set_option maxRecDepth 100000 in
theorem c_X4_hasRound (l : Launch) (D : va_G) (k : Nat → ClassId) (A : Nat → Prop) (ad : Nat → Nat) (hD : rwD A k ad) (v : gV) (f g : gF) (a : Int) (h_a : inR a) : GM l D k A (rwW k ad) yX4_hasRound cX4_hasRound 2 (some .boolean) 0 0 [.ref (ad 2), .int (iI a)] v f g (fun r v1 f1 g1 => (∃ z : Int, r = some (.int (iI z)) ∧ z = (if 0 ≤ a ∧ a < v 1 then 1 else 0)) ∧ v = v1 ∧ f = f1 ∧ g = g1) := by
  refine GM.of (by decide) (Nat.le_of_ble_eq_true rfl) ?_
  intro p e s m args below meth c Q ls hQ C hml hr hlocks hP hl
  have hx := C.1
  have hb := C.2.1
  have hok := hP.2
  have hS : va_S A s.heap s.heap [] := va_S.rf
  have hl : lv_has ls 2 [(0, .ref (ad 2)), (1, .int (iI a))] := hl
  refine lv_iload_n hx hb dX4_hasRound_0 rfl (lv_at hl 1 rfl) ?_
  refine gi_zlt (tgt := 16) hx hb dX4_hasRound_1 (by decide) (by omega) (fun c_1 => ?_) (fun c_1 => ?_)
  · refine lv_iconst (v := iI 0) hx hb dX4_hasRound_16 rfl ?_
    exact g_zret hQ C hr hlocks (by decide) hP hS dX4_hasRound_17 ⟨⟨_, rfl, (by first | omega | (split <;> omega))⟩, rfl, rfl, rfl⟩
  · refine lv_iload_n hx hb dX4_hasRound_4 rfl (lv_at hl 1 rfl) ?_
    refine lv_aload_n hx hb dX4_hasRound_5 rfl (lv_at hl 0 rfl) ?_
    refine rwG_laws_rounds C hP mF_X4_31 dX4_hasRound_6 ?_
    have r_2 := hok.1 1
    refine gi_cge (tgt := 16) hx hb dX4_hasRound_9 (by decide) (by omega) (by omega) (fun c_3 => ?_) (fun c_3 => ?_)
    · refine lv_iconst (v := iI 0) hx hb dX4_hasRound_16 rfl ?_
      exact g_zret hQ C hr hlocks (by decide) hP hS dX4_hasRound_17 ⟨⟨_, rfl, (by first | omega | (split <;> omega))⟩, rfl, rfl, rfl⟩
    · refine lv_iconst (v := iI 1) hx hb dX4_hasRound_12 rfl ?_
      refine lv_goto (tgt := 17) hx hb dX4_hasRound_13 (by decide) ?_
      exact g_zret hQ C hr hlocks (by decide) hP hS dX4_hasRound_17 ⟨⟨_, rfl, (by first | omega | (split <;> omega))⟩, rfl, rfl, rfl⟩

set_option maxHeartbeats 4000000 in
set_option maxRecDepth 100000 in
theorem c_X4_hasRoute (l : Launch) (D : va_G) (k : Nat → ClassId) (A : Nat → Prop) (ad : Nat → Nat) (hD : rwD A k ad) (v : gV) (f g : gF) (a : Int) (b : Int) (h_a : inR a) (h_b : inR b) (h1 : v 1 ≤ 4) : GM l D k A (rwW k ad) yX4_hasRoute cX4_hasRoute 3 (some .boolean) 1 21 [.ref (ad 2), .int (iI a), .int (iI b)] v f g (fun r v1 f1 g1 => (∃ z : Int, r = some (.int (iI z)) ∧ z = (if (0 ≤ a ∧ a < v 1) ∧ 0 ≤ b ∧ b < f 1 (a * 4) then 1 else 0)) ∧ v = v1 ∧ f = f1 ∧ g = g1) := by
  refine GM.of (by decide) (Nat.le_of_ble_eq_true rfl) ?_
  intro p e s m args below meth c Q ls hQ C hml hr hlocks hP hl
  have hx := C.1
  have hb := C.2.1
  have hok := hP.2
  have hS : va_S A s.heap s.heap [] := va_S.rf
  have hl : lv_has ls 3 [(0, .ref (ad 2)), (1, .int (iI a)), (2, .int (iI b))] := hl
  refine lv_aload_n hx hb dX4_hasRoute_0 rfl (lv_at hl 0 rfl) ?_
  refine lv_iload_n hx hb dX4_hasRoute_1 rfl (lv_at hl 1 rfl) ?_
  refine g_cv (As := [.int (iI a)]) (rest := []) (n := 1) C hml (c_X4_hasRound l D k A ad hD v f g a (by omega)) mM_X4_59 mI_X4_hasRound mE_X4_hasRound mN_X4 mC_X4_hasRound (by decide +kernel) 2 (ci := 4) rfl rfl hP hS (fun _ h => h) ⟨Nat.le_of_ble_eq_true rfl, Nat.le_of_ble_eq_true rfl⟩ ⟨Nat.zero_le _, Nat.zero_le _⟩ hl.1 rfl rfl (Nat.le_of_ble_eq_true rfl) dX4_hasRoute_2 (fun r_1 v_1 f_1 g_1 H locs hq_1 hP _ hS => ?_)
  obtain ⟨⟨z_1, rfl, ez0_1⟩, rfl, rfl, rfl⟩ := hq_1
  have ez_1 : z_1 = (if 0 ≤ a ∧ a < v 1 then 1 else 0) := ez0_1
  have w_1 := gif (P := 0 ≤ a ∧ a < v 1) ez_1
  have hz_1 : inR z_1 := (by omega)
  show W p l e (gRm 1 21) s m args below meth c _ _ 0 0 Q (F0 m 5 ls [.int (iI z_1)])
  refine gi_zeq (tgt := 30) hx hb dX4_hasRoute_5 (by decide) (by omega) (fun c_2 => ?_) (fun c_2 => ?_)
  · refine lv_iconst (v := iI 0) hx hb dX4_hasRoute_30 rfl ?_
    exact g_zret hQ C hr hlocks (by decide) hP hS dX4_hasRoute_31 ⟨⟨_, rfl, (by first | omega | (split <;> omega))⟩, rfl, rfl, rfl⟩
  · refine lv_iload_n hx hb dX4_hasRoute_8 rfl (lv_at hl 2 rfl) ?_
    refine gi_zlt (tgt := 30) hx hb dX4_hasRoute_9 (by decide) (by omega) (fun c_3 => ?_) (fun c_3 => ?_)
    · refine lv_iconst (v := iI 0) hx hb dX4_hasRoute_30 rfl ?_
      exact g_zret hQ C hr hlocks (by decide) hP hS dX4_hasRoute_31 ⟨⟨_, rfl, (by first | omega | (split <;> omega))⟩, rfl, rfl, rfl⟩
    · refine lv_iload_n hx hb dX4_hasRoute_12 rfl (lv_at hl 2 rfl) ?_
      refine lv_aload_n hx hb dX4_hasRoute_13 rfl (lv_at hl 0 rfl) ?_
      refine rwG_laws_shape C hP mF_X4_9 dX4_hasRoute_14 ?_
      refine lv_iload_n hx hb dX4_hasRoute_17 rfl (lv_at hl 1 rfl) ?_
      refine lv_iconst (v := iI 4) hx hb dX4_hasRoute_18 rfl ?_
      refine gi_mul (z := (a * 4)) hx hb dX4_hasRoute_19 rfl ?_
      refine lv_iconst (v := iI 0) hx hb dX4_hasRoute_20 rfl ?_
      refine gi_add (z := (a * 4)) hx hb dX4_hasRoute_21 (by omega) ?_
      refine rwL_laws_shape C hP (by omega) (by omega) dX4_hasRoute_22 ?_
      have r_4 := hok.2 1 (a * 4)
      refine gi_cge (tgt := 30) hx hb dX4_hasRoute_23 (by decide) (by omega) (by omega) (fun c_5 => ?_) (fun c_5 => ?_)
      · refine lv_iconst (v := iI 0) hx hb dX4_hasRoute_30 rfl ?_
        exact g_zret hQ C hr hlocks (by decide) hP hS dX4_hasRoute_31 ⟨⟨_, rfl, (by first | omega | (split <;> omega))⟩, rfl, rfl, rfl⟩
      · refine lv_iconst (v := iI 1) hx hb dX4_hasRoute_26 rfl ?_
        refine lv_goto (tgt := 31) hx hb dX4_hasRoute_27 (by decide) ?_
        exact g_zret hQ C hr hlocks (by decide) hP hS dX4_hasRoute_31 ⟨⟨_, rfl, (by first | omega | (split <;> omega))⟩, rfl, rfl, rfl⟩

set_option maxHeartbeats 4000000 in
set_option maxRecDepth 100000 in
theorem c_X4_shapeOf (l : Launch) (D : va_G) (k : Nat → ClassId) (A : Nat → Prop) (ad : Nat → Nat) (hD : rwD A k ad) (v : gV) (f g : gF) (a : Int) (b : Int) (h_a : inR a) (h_b : inR b) (h1 : v 1 ≤ 4) : GM l D k A (rwW k ad) yX4_shapeOf cX4_shapeOf 3 (some .int) 1 21 [.ref (ad 2), .int (iI a), .int (iI b)] v f g (fun r v1 f1 g1 => (∃ z : Int, r = some (.int (iI z)) ∧ z = (if (0 ≤ a ∧ a < v 1) ∧ 0 ≤ b ∧ b < 4 then f 1 (a * 4 + b) else 0)) ∧ v = v1 ∧ f = f1 ∧ g = g1) := by
  refine GM.of (by decide) (Nat.le_of_ble_eq_true rfl) ?_
  intro p e s m args below meth c Q ls hQ C hml hr hlocks hP hl
  have hx := C.1
  have hb := C.2.1
  have hok := hP.2
  have hS : va_S A s.heap s.heap [] := va_S.rf
  have hl : lv_has ls 3 [(0, .ref (ad 2)), (1, .int (iI a)), (2, .int (iI b))] := hl
  refine lv_aload_n hx hb dX4_shapeOf_0 rfl (lv_at hl 0 rfl) ?_
  refine lv_iload_n hx hb dX4_shapeOf_1 rfl (lv_at hl 1 rfl) ?_
  refine g_cv (As := [.int (iI a)]) (rest := []) (n := 1) C hml (c_X4_hasRound l D k A ad hD v f g a (by omega)) mM_X4_59 mI_X4_hasRound mE_X4_hasRound mN_X4 mC_X4_hasRound (by decide +kernel) 2 (ci := 4) rfl rfl hP hS (fun _ h => h) ⟨Nat.le_of_ble_eq_true rfl, Nat.le_of_ble_eq_true rfl⟩ ⟨Nat.zero_le _, Nat.zero_le _⟩ hl.1 rfl rfl (Nat.le_of_ble_eq_true rfl) dX4_shapeOf_2 (fun r_1 v_1 f_1 g_1 H locs hq_1 hP _ hS => ?_)
  obtain ⟨⟨z_1, rfl, ez0_1⟩, rfl, rfl, rfl⟩ := hq_1
  have ez_1 : z_1 = (if 0 ≤ a ∧ a < v 1 then 1 else 0) := ez0_1
  have w_1 := gif (P := 0 ≤ a ∧ a < v 1) ez_1
  have hz_1 : inR z_1 := (by omega)
  show W p l e (gRm 1 21) s m args below meth c _ _ 0 0 Q (F0 m 5 ls [.int (iI z_1)])
  refine gi_zeq (tgt := 30) hx hb dX4_shapeOf_5 (by decide) (by omega) (fun c_2 => ?_) (fun c_2 => ?_)
  · refine lv_iconst (v := iI 0) hx hb dX4_shapeOf_30 rfl ?_
    exact g_iret hQ C hr hlocks hP hS dX4_shapeOf_31 ⟨⟨_, rfl, (by first | omega | (split <;> omega))⟩, rfl, rfl, rfl⟩
  · refine lv_iload_n hx hb dX4_shapeOf_8 rfl (lv_at hl 2 rfl) ?_
    refine gi_zlt (tgt := 30) hx hb dX4_shapeOf_9 (by decide) (by omega) (fun c_3 => ?_) (fun c_3 => ?_)
    · refine lv_iconst (v := iI 0) hx hb dX4_shapeOf_30 rfl ?_
      exact g_iret hQ C hr hlocks hP hS dX4_shapeOf_31 ⟨⟨_, rfl, (by first | omega | (split <;> omega))⟩, rfl, rfl, rfl⟩
    · refine lv_iload_n hx hb dX4_shapeOf_12 rfl (lv_at hl 2 rfl) ?_
      refine lv_iconst (v := iI 4) hx hb dX4_shapeOf_13 rfl ?_
      refine gi_cge (tgt := 30) hx hb dX4_shapeOf_14 (by decide) (by omega) (by decide) (fun c_4 => ?_) (fun c_4 => ?_)
      · refine lv_iconst (v := iI 0) hx hb dX4_shapeOf_30 rfl ?_
        exact g_iret hQ C hr hlocks hP hS dX4_shapeOf_31 ⟨⟨_, rfl, (by first | omega | (split <;> omega))⟩, rfl, rfl, rfl⟩
      · refine lv_aload_n hx hb dX4_shapeOf_17 rfl (lv_at hl 0 rfl) ?_
        refine rwG_laws_shape C hP mF_X4_9 dX4_shapeOf_18 ?_
        refine lv_iload_n hx hb dX4_shapeOf_21 rfl (lv_at hl 1 rfl) ?_
        refine lv_iconst (v := iI 4) hx hb dX4_shapeOf_22 rfl ?_
        refine gi_mul (z := (a * 4)) hx hb dX4_shapeOf_23 rfl ?_
        refine lv_iload_n hx hb dX4_shapeOf_24 rfl (lv_at hl 2 rfl) ?_
        refine gi_add (z := ((a * 4) + b)) hx hb dX4_shapeOf_25 rfl ?_
        refine rwL_laws_shape C hP (by omega) (by omega) dX4_shapeOf_26 ?_
        have r_5 := hok.2 1 ((a * 4) + b)
        refine lv_goto (tgt := 31) hx hb dX4_shapeOf_27 (by decide) ?_
        exact g_iret hQ C hr hlocks hP hS dX4_shapeOf_31 ⟨⟨_, rfl, (by first | omega | (split <;> omega))⟩, rfl, rfl, rfl⟩

set_option maxHeartbeats 4000000 in
set_option maxRecDepth 100000 in
theorem c_X7_openOf (l : Launch) (D : va_G) (k : Nat → ClassId) (A : Nat → Prop) (ad : Nat → Nat) (hD : rwD A k ad) (v : gV) (f g : gF) (a : Int) (h_a : inR a) (h1 : 0 ≤ a ∧ a < 16) (h2 : 0 ≤ f 27 a ∧ f 27 a ≤ 300) : GM l D k A (rwW k ad) yX7_openOf cX7_openOf 2 (some .int) 0 0 [.ref (ad 30), .int (iI a)] v f g (fun r v1 f1 g1 => (∃ z : Int, r = some (.int (iI z)) ∧ z = (f 27 a - 1)) ∧ v = v1 ∧ f = f1 ∧ g = g1) := by
  refine GM.of (by decide) (Nat.le_of_ble_eq_true rfl) ?_
  intro p e s m args below meth c Q ls hQ C hml hr hlocks hP hl
  have hx := C.1
  have hb := C.2.1
  have hok := hP.2
  have hS : va_S A s.heap s.heap [] := va_S.rf
  have hl : lv_has ls 2 [(0, .ref (ad 30)), (1, .int (iI a))] := hl
  refine lv_aload_n hx hb dX7_openOf_0 rfl (lv_at hl 0 rfl) ?_
  refine rwG_tries_openNext C hP mF_X7_33 dX7_openOf_1 ?_
  refine lv_iload_n hx hb dX7_openOf_4 rfl (lv_at hl 1 rfl) ?_
  refine rwL_tries_openNext C hP (by omega) (by omega) dX7_openOf_5 ?_
  have r_1 := hok.2 27 a
  refine lv_iconst (v := iI 1) hx hb dX7_openOf_6 rfl ?_
  refine gi_sub (z := ((f 27 a) - 1)) hx hb dX7_openOf_7 rfl ?_
  exact g_iret hQ C hr hlocks hP hS dX7_openOf_8 ⟨⟨_, rfl, (by first | omega | (split <;> omega))⟩, rfl, rfl, rfl⟩

set_option maxHeartbeats 4000000 in
set_option maxRecDepth 100000 in
theorem c_X10_putOnTape (l : Launch) (D : va_G) (k : Nat → ClassId) (A : Nat → Prop) (ad : Nat → Nat) (hD : rwD A k ad) (v : gV) (f g : gF) (a : Int) (h_a : inR a) (h1 : 0 ≤ v 0 ∧ v 0 ≤ 696) : GM l D k A (rwW k ad) yX10_putOnTape cX10_putOnTape 3 none 0 0 [.ref (ad 0), .int (iI a)] v f g (fun r v1 f1 g1 => r = none ∧ (va_up v 0 ((v 0) + 4)) = v1 ∧ True ∧ g = g1) := by
  refine GM.of (by decide) (Nat.le_of_ble_eq_true rfl) ?_
  intro p e s m args below meth c Q ls hQ C hml hr hlocks hP hl
  have hx := C.1
  have hb := C.2.1
  have hok := hP.2
  have hS : va_S A s.heap s.heap [] := va_S.rf
  have hl : lv_has ls 3 [(0, .ref (ad 0)), (1, .int (iI a))] := hl
  refine lv_bipush (v := iI 24) hx hb dX10_putOnTape_0 (by decide) ?_
  refine lv_istore_n (lv' := [(2, .int (iI 24)), (0, .ref (ad 0)), (1, .int (iI a))]) hx hb dX10_putOnTape_2 rfl hl (by decide) rfl (fun ls hl => ?_)
  refine lv_iload_n hx hb dX10_putOnTape_3 rfl (lv_at hl 0 rfl) ?_
  refine gi_zlt (tgt := 49) hx hb dX10_putOnTape_4 (by decide) (by decide) (fun c_1 => ?_) (fun c_1 => ?_)
  · exfalso; omega
  · refine lv_aload_n hx hb dX10_putOnTape_7 rfl (lv_at hl 1 rfl) ?_
    refine rwG_taped C hP mF_X10_81 dX10_putOnTape_8 ?_
    have r_2 := hok.1 0
    refine lv_sipush (v := iI 700) hx hb dX10_putOnTape_11 (by decide) ?_
    refine gi_cge (tgt := 43) hx hb dX10_putOnTape_14 (by decide) (by omega) (by decide) (fun c_3 => ?_) (fun c_3 => ?_)
    · exfalso; omega
    · refine lv_aload_n hx hb dX10_putOnTape_17 rfl (lv_at hl 1 rfl) ?_
      refine rwG_tape C hP mF_X10_9 dX10_putOnTape_18 ?_
      refine lv_aload_n hx hb dX10_putOnTape_21 rfl (lv_at hl 1 rfl) ?_
      refine rwG_taped C hP mF_X10_81 dX10_putOnTape_22 ?_
      refine lv_iload_n hx hb dX10_putOnTape_25 rfl (lv_at hl 2 rfl) ?_
      refine lv_iload_n hx hb dX10_putOnTape_26 rfl (lv_at hl 0 rfl) ?_
      obtain ⟨x_4, ex_4, hx_4⟩ : ∃ z : Int, ((iI a).toUInt32 >>> ((iI 24).toUInt32 &&& Int32.toUInt32 31)).toInt32 = iI z ∧ inR z := ⟨(((iI a).toUInt32 >>> ((iI 24).toUInt32 &&& Int32.toUInt32 31)).toInt32).toInt, (iI_of _).symm, iI_rng _⟩
      refine gi_ushr (z := x_4) hx hb dX10_putOnTape_27 ex_4 ?_
      refine lv_sipush (v := iI 255) hx hb dX10_putOnTape_28 (by decide) ?_
      obtain ⟨x_5, ex_5, hx_5⟩ : ∃ z : Int, iI x_4 &&& iI 255 = iI z ∧ inR z := ⟨(iI x_4 &&& iI 255).toInt, (iI_of _).symm, iI_rng _⟩
      refine gi_and (z := x_5) hx hb dX10_putOnTape_31 ex_5 ?_
      refine rwS_tape (f1 := (va_up f 0 (u1 (f 0) (v 0) x_5))) C hP hD hS (by omega) (by omega) (by omega) rfl (Or.inl rfl) dX10_putOnTape_32 (fun H locs hP hS => ?_)
      refine lv_aload_n hx hb dX10_putOnTape_33 rfl (lv_at hl 1 rfl) ?_
      refine lv_dup hx hb dX10_putOnTape_34 rfl ?_
      refine rwG_taped C hP mF_X10_81 dX10_putOnTape_35 ?_
      refine lv_iconst (v := iI 1) hx hb dX10_putOnTape_38 rfl ?_
      refine gi_add (z := ((v 0) + 1)) hx hb dX10_putOnTape_39 rfl ?_
      refine rwP_taped (v1 := (va_up v 0 ((v 0) + 1))) C hP hD hS mF_X10_81 (by omega) rfl (Or.inl rfl) dX10_putOnTape_40 (fun H locs hP hS => ?_)
      refine lv_iinc (v := iI 16) (lv' := [(2, .int (iI 16)), (0, .ref (ad 0)), (1, .int (iI a))]) hx hb dX10_putOnTape_43 hl (k := 0) rfl (by show iI _ + iI (-8) = _; rw [iI_add]; congr 1) (by decide) rfl (fun ls hl => ?_)
      refine lv_goto (tgt := 3) hx hb dX10_putOnTape_46 (by decide) ?_
      refine lv_iload_n hx hb dX10_putOnTape_3 rfl (lv_at hl 0 rfl) ?_
      refine gi_zlt (tgt := 49) hx hb dX10_putOnTape_4 (by decide) (by decide) (fun c_6 => ?_) (fun c_6 => ?_)
      · exfalso; omega
      · refine lv_aload_n hx hb dX10_putOnTape_7 rfl (lv_at hl 1 rfl) ?_
        refine rwG_taped C hP mF_X10_81 dX10_putOnTape_8 ?_
        show W p l e (gRm 0 0) s m args below meth c _ _ 0 0 Q (F0 m 11 ls [.int (iI ((v 0) + 1))])
        refine lv_sipush (v := iI 700) hx hb dX10_putOnTape_11 (by decide) ?_
        refine gi_cge (tgt := 43) hx hb dX10_putOnTape_14 (by decide) (by omega) (by decide) (fun c_7 => ?_) (fun c_7 => ?_)
        · exfalso; omega
        · refine lv_aload_n hx hb dX10_putOnTape_17 rfl (lv_at hl 1 rfl) ?_
          refine rwG_tape C hP mF_X10_9 dX10_putOnTape_18 ?_
          refine lv_aload_n hx hb dX10_putOnTape_21 rfl (lv_at hl 1 rfl) ?_
          refine rwG_taped C hP mF_X10_81 dX10_putOnTape_22 ?_
          show W p l e (gRm 0 0) s m args below meth c _ _ 0 0 Q (F0 m 25 ls [.int (iI ((v 0) + 1)), .ref (ad 1)])
          refine lv_iload_n hx hb dX10_putOnTape_25 rfl (lv_at hl 2 rfl) ?_
          refine lv_iload_n hx hb dX10_putOnTape_26 rfl (lv_at hl 0 rfl) ?_
          obtain ⟨x_8, ex_8, hx_8⟩ : ∃ z : Int, ((iI a).toUInt32 >>> ((iI 16).toUInt32 &&& Int32.toUInt32 31)).toInt32 = iI z ∧ inR z := ⟨(((iI a).toUInt32 >>> ((iI 16).toUInt32 &&& Int32.toUInt32 31)).toInt32).toInt, (iI_of _).symm, iI_rng _⟩
          refine gi_ushr (z := x_8) hx hb dX10_putOnTape_27 ex_8 ?_
          refine lv_sipush (v := iI 255) hx hb dX10_putOnTape_28 (by decide) ?_
          obtain ⟨x_9, ex_9, hx_9⟩ : ∃ z : Int, iI x_8 &&& iI 255 = iI z ∧ inR z := ⟨(iI x_8 &&& iI 255).toInt, (iI_of _).symm, iI_rng _⟩
          refine gi_and (z := x_9) hx hb dX10_putOnTape_31 ex_9 ?_
          refine rwS_tape (f1 := (va_up f 0 (u1 (u1 (f 0) (v 0) x_5) ((v 0) + 1) x_9))) C hP hD hS (by omega) (by omega) (by omega) rfl (Or.inr (gF_up (gR_up ⟨hok.1, hok.2⟩ 0 (by omega)) 0 (u1_rng (u1_rng (hok.2 0) (by omega)) (by omega)))) dX10_putOnTape_32 (fun H locs hP hS => ?_)
          refine lv_aload_n hx hb dX10_putOnTape_33 rfl (lv_at hl 1 rfl) ?_
          refine lv_dup hx hb dX10_putOnTape_34 rfl ?_
          refine rwG_taped C hP mF_X10_81 dX10_putOnTape_35 ?_
          show W p l e (gRm 0 0) s m args below meth c _ _ 0 0 Q (F0 m 38 ls [.int (iI ((v 0) + 1)), .ref (ad 0)])
          refine lv_iconst (v := iI 1) hx hb dX10_putOnTape_38 rfl ?_
          refine gi_add (z := ((v 0) + 2)) hx hb dX10_putOnTape_39 (by omega) ?_
          refine rwP_taped (v1 := (va_up v 0 ((v 0) + 2))) C hP hD hS mF_X10_81 (by omega) rfl (Or.inr (gF_up (gR_up ⟨hok.1, hok.2⟩ 0 (by omega)) 0 (u1_rng (u1_rng (hok.2 0) (by omega)) (by omega)))) dX10_putOnTape_40 (fun H locs hP hS => ?_)
          refine lv_iinc (v := iI 8) (lv' := [(2, .int (iI 8)), (0, .ref (ad 0)), (1, .int (iI a))]) hx hb dX10_putOnTape_43 hl (k := 0) rfl (by show iI _ + iI (-8) = _; rw [iI_add]; congr 1) (by decide) rfl (fun ls hl => ?_)
          refine lv_goto (tgt := 3) hx hb dX10_putOnTape_46 (by decide) ?_
          refine lv_iload_n hx hb dX10_putOnTape_3 rfl (lv_at hl 0 rfl) ?_
          refine gi_zlt (tgt := 49) hx hb dX10_putOnTape_4 (by decide) (by decide) (fun c_10 => ?_) (fun c_10 => ?_)
          · exfalso; omega
          · refine lv_aload_n hx hb dX10_putOnTape_7 rfl (lv_at hl 1 rfl) ?_
            refine rwG_taped C hP mF_X10_81 dX10_putOnTape_8 ?_
            show W p l e (gRm 0 0) s m args below meth c _ _ 0 0 Q (F0 m 11 ls [.int (iI ((v 0) + 2))])
            refine lv_sipush (v := iI 700) hx hb dX10_putOnTape_11 (by decide) ?_
            refine gi_cge (tgt := 43) hx hb dX10_putOnTape_14 (by decide) (by omega) (by decide) (fun c_11 => ?_) (fun c_11 => ?_)
            · exfalso; omega
            · refine lv_aload_n hx hb dX10_putOnTape_17 rfl (lv_at hl 1 rfl) ?_
              refine rwG_tape C hP mF_X10_9 dX10_putOnTape_18 ?_
              refine lv_aload_n hx hb dX10_putOnTape_21 rfl (lv_at hl 1 rfl) ?_
              refine rwG_taped C hP mF_X10_81 dX10_putOnTape_22 ?_
              show W p l e (gRm 0 0) s m args below meth c _ _ 0 0 Q (F0 m 25 ls [.int (iI ((v 0) + 2)), .ref (ad 1)])
              refine lv_iload_n hx hb dX10_putOnTape_25 rfl (lv_at hl 2 rfl) ?_
              refine lv_iload_n hx hb dX10_putOnTape_26 rfl (lv_at hl 0 rfl) ?_
              obtain ⟨x_12, ex_12, hx_12⟩ : ∃ z : Int, ((iI a).toUInt32 >>> ((iI 8).toUInt32 &&& Int32.toUInt32 31)).toInt32 = iI z ∧ inR z := ⟨(((iI a).toUInt32 >>> ((iI 8).toUInt32 &&& Int32.toUInt32 31)).toInt32).toInt, (iI_of _).symm, iI_rng _⟩
              refine gi_ushr (z := x_12) hx hb dX10_putOnTape_27 ex_12 ?_
              refine lv_sipush (v := iI 255) hx hb dX10_putOnTape_28 (by decide) ?_
              obtain ⟨x_13, ex_13, hx_13⟩ : ∃ z : Int, iI x_12 &&& iI 255 = iI z ∧ inR z := ⟨(iI x_12 &&& iI 255).toInt, (iI_of _).symm, iI_rng _⟩
              refine gi_and (z := x_13) hx hb dX10_putOnTape_31 ex_13 ?_
              refine rwS_tape (f1 := (va_up f 0 (u1 (u1 (u1 (f 0) (v 0) x_5) ((v 0) + 1) x_9) ((v 0) + 2) x_13))) C hP hD hS (by omega) (by omega) (by omega) rfl (Or.inr (gF_up (gR_up ⟨hok.1, hok.2⟩ 0 (by omega)) 0 (u1_rng (u1_rng (u1_rng (hok.2 0) (by omega)) (by omega)) (by omega)))) dX10_putOnTape_32 (fun H locs hP hS => ?_)
              refine lv_aload_n hx hb dX10_putOnTape_33 rfl (lv_at hl 1 rfl) ?_
              refine lv_dup hx hb dX10_putOnTape_34 rfl ?_
              refine rwG_taped C hP mF_X10_81 dX10_putOnTape_35 ?_
              show W p l e (gRm 0 0) s m args below meth c _ _ 0 0 Q (F0 m 38 ls [.int (iI ((v 0) + 2)), .ref (ad 0)])
              refine lv_iconst (v := iI 1) hx hb dX10_putOnTape_38 rfl ?_
              refine gi_add (z := ((v 0) + 3)) hx hb dX10_putOnTape_39 (by omega) ?_
              refine rwP_taped (v1 := (va_up v 0 ((v 0) + 3))) C hP hD hS mF_X10_81 (by omega) rfl (Or.inr (gF_up (gR_up ⟨hok.1, hok.2⟩ 0 (by omega)) 0 (u1_rng (u1_rng (u1_rng (hok.2 0) (by omega)) (by omega)) (by omega)))) dX10_putOnTape_40 (fun H locs hP hS => ?_)
              refine lv_iinc (v := iI 0) (lv' := [(2, .int (iI 0)), (0, .ref (ad 0)), (1, .int (iI a))]) hx hb dX10_putOnTape_43 hl (k := 0) rfl (by show iI _ + iI (-8) = _; rw [iI_add]; congr 1) (by decide) rfl (fun ls hl => ?_)
              refine lv_goto (tgt := 3) hx hb dX10_putOnTape_46 (by decide) ?_
              refine lv_iload_n hx hb dX10_putOnTape_3 rfl (lv_at hl 0 rfl) ?_
              refine gi_zlt (tgt := 49) hx hb dX10_putOnTape_4 (by decide) (by decide) (fun c_14 => ?_) (fun c_14 => ?_)
              · exfalso; omega
              · refine lv_aload_n hx hb dX10_putOnTape_7 rfl (lv_at hl 1 rfl) ?_
                refine rwG_taped C hP mF_X10_81 dX10_putOnTape_8 ?_
                show W p l e (gRm 0 0) s m args below meth c _ _ 0 0 Q (F0 m 11 ls [.int (iI ((v 0) + 3))])
                refine lv_sipush (v := iI 700) hx hb dX10_putOnTape_11 (by decide) ?_
                refine gi_cge (tgt := 43) hx hb dX10_putOnTape_14 (by decide) (by omega) (by decide) (fun c_15 => ?_) (fun c_15 => ?_)
                · exfalso; omega
                · refine lv_aload_n hx hb dX10_putOnTape_17 rfl (lv_at hl 1 rfl) ?_
                  refine rwG_tape C hP mF_X10_9 dX10_putOnTape_18 ?_
                  refine lv_aload_n hx hb dX10_putOnTape_21 rfl (lv_at hl 1 rfl) ?_
                  refine rwG_taped C hP mF_X10_81 dX10_putOnTape_22 ?_
                  show W p l e (gRm 0 0) s m args below meth c _ _ 0 0 Q (F0 m 25 ls [.int (iI ((v 0) + 3)), .ref (ad 1)])
                  refine lv_iload_n hx hb dX10_putOnTape_25 rfl (lv_at hl 2 rfl) ?_
                  refine lv_iload_n hx hb dX10_putOnTape_26 rfl (lv_at hl 0 rfl) ?_
                  obtain ⟨x_16, ex_16, hx_16⟩ : ∃ z : Int, ((iI a).toUInt32 >>> ((iI 0).toUInt32 &&& Int32.toUInt32 31)).toInt32 = iI z ∧ inR z := ⟨(((iI a).toUInt32 >>> ((iI 0).toUInt32 &&& Int32.toUInt32 31)).toInt32).toInt, (iI_of _).symm, iI_rng _⟩
                  refine gi_ushr (z := x_16) hx hb dX10_putOnTape_27 ex_16 ?_
                  refine lv_sipush (v := iI 255) hx hb dX10_putOnTape_28 (by decide) ?_
                  obtain ⟨x_17, ex_17, hx_17⟩ : ∃ z : Int, iI x_16 &&& iI 255 = iI z ∧ inR z := ⟨(iI x_16 &&& iI 255).toInt, (iI_of _).symm, iI_rng _⟩
                  refine gi_and (z := x_17) hx hb dX10_putOnTape_31 ex_17 ?_
                  refine rwS_tape (f1 := (va_up f 0 (u1 (u1 (u1 (u1 (f 0) (v 0) x_5) ((v 0) + 1) x_9) ((v 0) + 2) x_13) ((v 0) + 3) x_17))) C hP hD hS (by omega) (by omega) (by omega) rfl (Or.inr (gF_up (gR_up ⟨hok.1, hok.2⟩ 0 (by omega)) 0 (u1_rng (u1_rng (u1_rng (u1_rng (hok.2 0) (by omega)) (by omega)) (by omega)) (by omega)))) dX10_putOnTape_32 (fun H locs hP hS => ?_)
                  refine lv_aload_n hx hb dX10_putOnTape_33 rfl (lv_at hl 1 rfl) ?_
                  refine lv_dup hx hb dX10_putOnTape_34 rfl ?_
                  refine rwG_taped C hP mF_X10_81 dX10_putOnTape_35 ?_
                  show W p l e (gRm 0 0) s m args below meth c _ _ 0 0 Q (F0 m 38 ls [.int (iI ((v 0) + 3)), .ref (ad 0)])
                  refine lv_iconst (v := iI 1) hx hb dX10_putOnTape_38 rfl ?_
                  refine gi_add (z := ((v 0) + 4)) hx hb dX10_putOnTape_39 (by omega) ?_
                  refine rwP_taped (v1 := (va_up v 0 ((v 0) + 4))) C hP hD hS mF_X10_81 (by omega) rfl (Or.inr (gF_up (gR_up ⟨hok.1, hok.2⟩ 0 (by omega)) 0 (u1_rng (u1_rng (u1_rng (u1_rng (hok.2 0) (by omega)) (by omega)) (by omega)) (by omega)))) dX10_putOnTape_40 (fun H locs hP hS => ?_)
                  refine lv_iinc (v := iI (-8)) (lv' := [(2, .int (iI (-8))), (0, .ref (ad 0)), (1, .int (iI a))]) hx hb dX10_putOnTape_43 hl (k := 0) rfl (by show iI _ + iI (-8) = _; rw [iI_add]; congr 1) (by decide) rfl (fun ls hl => ?_)
                  refine lv_goto (tgt := 3) hx hb dX10_putOnTape_46 (by decide) ?_
                  refine lv_iload_n hx hb dX10_putOnTape_3 rfl (lv_at hl 0 rfl) ?_
                  refine gi_zlt (tgt := 49) hx hb dX10_putOnTape_4 (by decide) (by decide) (fun c_18 => ?_) (fun c_18 => ?_)
                  · exact g_vret hQ C hr hlocks hP hS dX10_putOnTape_49 ⟨rfl, rfl, trivial, rfl⟩
                  · exfalso; omega

set_option maxHeartbeats 4000000 in
set_option maxRecDepth 100000 in
theorem c_X7_anyOpen (l : Launch) (D : va_G) (k : Nat → ClassId) (A : Nat → Prop) (ad : Nat → Nat) (hD : rwD A k ad) (v : gV) (f g : gF) (qf : ∀ k, f 27 k = 0) : GM l D k A (rwW k ad) yX7_anyOpen cX7_anyOpen 2 (some .boolean) 0 0 [.ref (ad 30)] v f g (fun r v1 f1 g1 => r = some (.int (iI 0)) ∧ v = v1 ∧ f = f1 ∧ g = g1) := by
  refine GM.of (by decide) (Nat.le_of_ble_eq_true rfl) ?_
  intro p e s m args below meth c Q ls hQ C hml hr hlocks hP hl
  have hx := C.1
  have hb := C.2.1
  have hok := hP.2
  have hS : va_S A s.heap s.heap [] := va_S.rf
  have hl : lv_has ls 2 [(0, .ref (ad 30))] := hl
  refine lv_iconst (v := iI 0) hx hb dX7_anyOpen_0 rfl ?_
  refine lv_istore_n (lv' := [(1, .int (iI 0)), (0, .ref (ad 30))]) hx hb dX7_anyOpen_1 rfl hl (by decide) rfl (fun ls hl => ?_)
  have L_1 : ∀ (n : Nat) (x1 : Int) (H : Heap) (locs : List Loc) (ls : Array Slot), 16 - x1 < (n : Int) → 0 ≤ x1 → x1 ≤ 16 → gWd D (rwW k ad) v f g H → va_S A s.heap H locs → lv_has ls 2 [(0, .ref (ad 30)), (1, .int (iI x1))] → W p l e (gRm 0 0) s m args below meth c H locs 0 0 Q (F0 m 2 ls []) := by
    intro n
    induction n with
    | zero =>
      intro x1 H locs ls hn_1 i_1_0 i_1_1 hP hS hl
      exfalso; omega
    | succ n ih_2 =>
      intro x1 H locs ls hn_1 i_1_0 i_1_1 hP hS hl
      refine lv_iload_n hx hb dX7_anyOpen_2 rfl (lv_at hl 1 rfl) ?_
      refine lv_bipush (v := iI 16) hx hb dX7_anyOpen_3 (by decide) ?_
      refine gi_cge (tgt := 25) hx hb dX7_anyOpen_5 (by decide) (by omega) (by decide) (fun c_2 => ?_) (fun c_2 => ?_)
      · refine lv_iconst (v := iI 0) hx hb dX7_anyOpen_25 rfl ?_
        exact g_zret hQ C hr hlocks (by decide) hP hS dX7_anyOpen_26 ⟨rfl, rfl, rfl, rfl⟩
      · refine lv_aload_n hx hb dX7_anyOpen_8 rfl (lv_at hl 0 rfl) ?_
        refine rwG_tries_openNext C hP mF_X7_33 dX7_anyOpen_9 ?_
        refine lv_iload_n hx hb dX7_anyOpen_12 rfl (lv_at hl 1 rfl) ?_
        refine rwL_tries_openNext C hP (by omega) (by omega) dX7_anyOpen_13 ?_
        have r_3 := hok.2 27 x1
        have r_4 := qf (x1)
        refine gi_zle (tgt := 19) hx hb dX7_anyOpen_14 (by decide) (by omega) (fun c_5 => ?_) (fun c_5 => ?_)
        · refine lv_iinc (v := iI (x1 + 1)) (lv' := [(1, .int (iI (x1 + 1))), (0, .ref (ad 30))]) hx hb dX7_anyOpen_19 hl (k := 1) rfl (by show iI _ + iI 1 = _; rw [iI_add]) (by decide) rfl (fun ls hl => ?_)
          refine lv_goto (tgt := 2) hx hb dX7_anyOpen_22 (by decide) ?_
          exact ih_2 (x1 + 1) _ _ _ (by omega) (by omega) (by omega) hP hS (lv_sub hl [1, 0] rfl)
        · exfalso; omega
  exact L_1 17 0 _ _ _ (by omega) (by omega) (by omega) hP hS (lv_sub hl [1, 0] rfl)

set_option maxHeartbeats 4000000 in
set_option maxRecDepth 100000 in
theorem c_X7_endOverdue (l : Launch) (D : va_G) (k : Nat → ClassId) (A : Nat → Prop) (ad : Nat → Nat) (hD : rwD A k ad) (v : gV) (f g : gF) (a : Int) (b : Int) (h_a : inR a) (h_b : inR b) (qf : ∀ k, f 27 k = 0) : GM l D k A (rwW k ad) yX7_endOverdue cX7_endOverdue 5 none 1 21 [.ref (ad 30), .int (iI a), .int (iI b)] v f g (fun r v1 f1 g1 => r = none ∧ v = v1 ∧ f = f1 ∧ g = g1) := by
  refine GM.of (by decide) (Nat.le_of_ble_eq_true rfl) ?_
  intro p e s m args below meth c Q ls hQ C hml hr hlocks hP hl
  have hx := C.1
  have hb := C.2.1
  have hok := hP.2
  have hS : va_S A s.heap s.heap [] := va_S.rf
  have hl : lv_has ls 5 [(0, .ref (ad 30)), (1, .int (iI a)), (2, .int (iI b))] := hl
  refine lv_iconst (v := iI 0) hx hb dX7_endOverdue_0 rfl ?_
  refine lv_istore_n (lv' := [(3, .int (iI 0)), (0, .ref (ad 30)), (1, .int (iI a)), (2, .int (iI b))]) hx hb dX7_endOverdue_1 rfl hl (by decide) rfl (fun ls hl => ?_)
  have L_1 : ∀ (n : Nat) (x3 : Int) (H : Heap) (locs : List Loc) (ls : Array Slot), 16 - x3 < (n : Int) → 0 ≤ x3 → x3 ≤ 16 → gWd D (rwW k ad) v f g H → va_S A s.heap H locs → lv_has ls 5 [(0, .ref (ad 30)), (1, .int (iI a)), (2, .int (iI b)), (3, .int (iI x3))] → W p l e (gRm 1 21) s m args below meth c H locs 0 0 Q (F0 m 2 ls []) := by
    intro n
    induction n with
    | zero =>
      intro x3 H locs ls hn_1 i_1_0 i_1_1 hP hS hl
      exfalso; omega
    | succ n ih_2 =>
      intro x3 H locs ls hn_1 i_1_0 i_1_1 hP hS hl
      refine lv_iload_n hx hb dX7_endOverdue_2 rfl (lv_at hl 3 rfl) ?_
      refine lv_bipush (v := iI 16) hx hb dX7_endOverdue_3 (by decide) ?_
      refine gi_cge (tgt := 56) hx hb dX7_endOverdue_5 (by decide) (by omega) (by decide) (fun c_2 => ?_) (fun c_2 => ?_)
      · exact g_vret hQ C hr hlocks hP hS dX7_endOverdue_56 ⟨rfl, rfl, rfl, rfl⟩
      · refine lv_aload_n hx hb dX7_endOverdue_8 rfl (lv_at hl 0 rfl) ?_
        refine lv_iload_n hx hb dX7_endOverdue_9 rfl (lv_at hl 3 rfl) ?_
        refine g_cv (As := [.int (iI x3)]) (rest := []) (n := 1) C hml (c_X7_openOf l D k A ad hD v f g x3 (by omega) (show 0 ≤ x3 ∧ x3 < 16 from by omega) (by rw [qf]; decide)) mM_X7_46 mI_X7_openOf mE_X7_openOf mN_X7 mC_X7_openOf (by decide +kernel) 30 (ci := 7) rfl rfl hP hS (fun _ h => h) ⟨Nat.le_of_ble_eq_true rfl, Nat.le_of_ble_eq_true rfl⟩ ⟨Nat.zero_le _, Nat.zero_le _⟩ hl.1 rfl rfl (Nat.le_of_ble_eq_true rfl) dX7_endOverdue_10 (fun r_3 v_3 f_3 g_3 H locs hq_3 hP _ hS => ?_)
        obtain ⟨⟨z_3, rfl, ez0_3⟩, rfl, rfl, rfl⟩ := hq_3
        have ez_3 : z_3 = (f 27 x3 - 1) := ez0_3
        have hz_3 : inR z_3 := (by rw [ez_3, qf]; decide)
        show W p l e (gRm 1 21) s m args below meth c _ _ 0 0 Q (F0 m 13 ls [.int (iI z_3)])
        have k_3 : z_3 = (-1) := by rw [ez_3]; rw [qf]; decide
        refine lv_istore (lv' := [(4, .int (iI z_3)), (0, .ref (ad 30)), (1, .int (iI a)), (2, .int (iI b)), (3, .int (iI x3))]) hx hb dX7_endOverdue_13 hl (by decide) rfl (fun ls hl => ?_)
        refine lv_iload hx hb dX7_endOverdue_15 (lv_at hl 0 rfl) ?_
        refine lv_iconst (v := iI (-1)) hx hb dX7_endOverdue_17 rfl ?_
        refine gi_ceq (tgt := 50) hx hb dX7_endOverdue_18 (by decide) (by omega) (by decide) (fun c_4 => ?_) (fun c_4 => ?_)
        · refine lv_iinc (v := iI (x3 + 1)) (lv' := [(3, .int (iI (x3 + 1))), (4, .int (iI z_3)), (0, .ref (ad 30)), (1, .int (iI a)), (2, .int (iI b))]) hx hb dX7_endOverdue_50 hl (k := 4) rfl (by show iI _ + iI 1 = _; rw [iI_add]) (by decide) rfl (fun ls hl => ?_)
          refine lv_goto (tgt := 2) hx hb dX7_endOverdue_53 (by decide) ?_
          exact ih_2 (x3 + 1) _ _ _ (by omega) (by omega) (by omega) hP hS (lv_sub hl [2, 3, 4, 0] rfl)
        · exfalso; omega
  exact L_1 17 0 _ _ _ (by omega) (by omega) (by omega) hP hS (lv_sub hl [1, 2, 3, 0] rfl)

set_option maxHeartbeats 4000000 in
set_option maxRecDepth 100000 in
theorem c_X10_status (l : Launch) (D : va_G) (k : Nat → ClassId) (A : Nat → Prop) (ad : Nat → Nat) (hD : rwD A k ad) (v : gV) (f g : gF) (q0 : v 0 = 0) (q1 : v 1 = 0) (q21 : v 21 = 0) (q22 : v 22 = 0) (q23 : v 23 = 0) (q25 : v 25 = 0) (q26 : v 26 = 0) (q27 : v 27 = (-1)) (q28 : v 28 = (-1)) (qf : ∀ k, f 27 k = 0) : GM l D k A (rwW k ad) yX10_status cX10_status 1 (some .int) 0 0 [.ref (ad 0)] v f g (fun r v1 f1 g1 => r = some (.int (iI 0)) ∧ True ∧ True ∧ True) := by
  refine GM.of (by decide) (Nat.le_of_ble_eq_true rfl) ?_
  intro p e s m args below meth c Q ls hQ C hml hr hlocks hP hl
  have hx := C.1
  have hb := C.2.1
  have hok := hP.2
  have hS : va_S A s.heap s.heap [] := va_S.rf
  have hl : lv_has ls 1 [(0, .ref (ad 0))] := hl
  refine lv_aload_n hx hb dX10_status_0 rfl (lv_at hl 0 rfl) ?_
  refine rwG_state C hP mF_X10_71 dX10_status_1 ?_
  have r_1 := hok.1 25
  exact g_iret hQ C hr hlocks hP hS dX10_status_4 ⟨(congrArg (fun z => some (Value.int (iI z))) (by first | omega | (split <;> omega))), trivial, trivial, trivial⟩

set_option maxHeartbeats 4000000 in
set_option maxRecDepth 100000 in
theorem c_X10_feed (l : Launch) (D : va_G) (k : Nat → ClassId) (A : Nat → Prop) (ad : Nat → Nat) (hD : rwD A k ad) (v : gV) (f g : gF) (a1 : Int) (a2 : Int) (a3 : Int) (a4 : Int) (a5 : Int) (h_a1 : inR a1) (h_a2 : inR a2) (h_a3 : inR a3) (h_a4 : inR a4) (h_a5 : inR a5) (q0 : v 0 = 0) (q1 : v 1 = 0) (q21 : v 21 = 0) (q22 : v 22 = 0) (q23 : v 23 = 0) (q25 : v 25 = 0) (q26 : v 26 = 0) (q27 : v 27 = (-1)) (q28 : v 28 = (-1)) (qf : ∀ k, f 27 k = 0) : GM l D k A (rwW k ad) yX10_feed cX10_feed 6 (some .int) 1 22 [.ref (ad 0), .int (iI a1), .int (iI a2), .int (iI a3), .int (iI a4), .int (iI a5)] v f g (fun r v1 f1 g1 => r = some (.int (iI 20)) ∧ True ∧ True ∧ True) := by
  refine GM.of (by decide) (Nat.le_of_ble_eq_true rfl) ?_
  intro p e s m args below meth c Q ls hQ C hml hr hlocks hP hl
  have hx := C.1
  have hb := C.2.1
  have hok := hP.2
  have hS : va_S A s.heap s.heap [] := va_S.rf
  have hl : lv_has ls 6 [(0, .ref (ad 0)), (1, .int (iI a1)), (2, .int (iI a2)), (3, .int (iI a3)), (4, .int (iI a4)), (5, .int (iI a5))] := hl
  refine lv_aload_n hx hb dX10_feed_0 rfl (lv_at hl 0 rfl) ?_
  refine rwG_taped C hP mF_X10_81 dX10_feed_1 ?_
  have r_1 := hok.1 0
  refine lv_bipush (v := iI 20) hx hb dX10_feed_4 (by decide) ?_
  refine gi_add (z := ((v 0) + 20)) hx hb dX10_feed_6 rfl ?_
  refine lv_sipush (v := iI 700) hx hb dX10_feed_7 (by decide) ?_
  refine gi_cle (tgt := 15) hx hb dX10_feed_10 (by decide) (by omega) (by decide) (fun c_2 => ?_) (fun c_2 => ?_)
  · refine lv_aload_n hx hb dX10_feed_15 rfl (lv_at hl 0 rfl) ?_
    refine lv_iload_n hx hb dX10_feed_16 rfl (lv_at hl 1 rfl) ?_
    refine g_cv (As := [.int (iI a1)]) (rest := []) (n := 1) C hml (c_X10_putOnTape l D k A ad hD v f g a1 (by omega) (show 0 ≤ v 0 ∧ v 0 ≤ 696 from by omega)) mM_X10_84 mI_X10_putOnTape mE_X10_putOnTape mN_X10 mC_X10_putOnTape (by decide +kernel) 0 (ci := 10) rfl rfl hP hS (fun _ h => h) ⟨Nat.le_of_ble_eq_true rfl, Nat.le_of_ble_eq_true rfl⟩ ⟨Nat.zero_le _, Nat.zero_le _⟩ hl.1 rfl rfl (Nat.le_of_ble_eq_true rfl) dX10_feed_17 (fun r_3 v_3 f_3 g_3 H locs hq_3 hP _ hS => ?_)
    obtain ⟨rfl, rfl, -, rfl⟩ := hq_3
    show W p l e (gRm 1 22) s m args below meth c _ _ 0 0 Q (F0 m 20 ls [])
    have hf_3 := hP.2.2
    refine lv_aload_n hx hb dX10_feed_20 rfl (lv_at hl 0 rfl) ?_
    refine lv_iload_n hx hb dX10_feed_21 rfl (lv_at hl 2 rfl) ?_
    refine g_cv (As := [.int (iI a2)]) (rest := []) (n := 1) C hml (c_X10_putOnTape l D k A ad hD (va_up v 0 ((v 0) + 4)) f_3 g a2 (by omega) (show 0 ≤ ((v 0) + 4) ∧ ((v 0) + 4) ≤ 696 from by omega)) mM_X10_84 mI_X10_putOnTape mE_X10_putOnTape mN_X10 mC_X10_putOnTape (by decide +kernel) 0 (ci := 10) rfl rfl hP hS (fun _ h => h) ⟨Nat.le_of_ble_eq_true rfl, Nat.le_of_ble_eq_true rfl⟩ ⟨Nat.zero_le _, Nat.zero_le _⟩ hl.1 rfl rfl (Nat.le_of_ble_eq_true rfl) dX10_feed_22 (fun r_4 v_4 f_4 g_4 H locs hq_4 hP _ hS => ?_)
    obtain ⟨rfl, rfl, -, rfl⟩ := hq_4
    show W p l e (gRm 1 22) s m args below meth c _ _ 0 0 Q (F0 m 25 ls [])
    have hf_4 := hP.2.2
    have hP : gWd D (rwW k ad) (va_up v 0 (((v 0) + 4) + 4)) f_4 g H := ⟨hP.1, (gR_up ⟨hok.1, hf_4⟩ 0 (by omega))⟩
    refine lv_aload_n hx hb dX10_feed_25 rfl (lv_at hl 0 rfl) ?_
    refine lv_iload_n hx hb dX10_feed_26 rfl (lv_at hl 3 rfl) ?_
    refine g_cv (As := [.int (iI a3)]) (rest := []) (n := 1) C hml (c_X10_putOnTape l D k A ad hD (va_up v 0 (((v 0) + 4) + 4)) f_4 g a3 (by omega) (show 0 ≤ (((v 0) + 4) + 4) ∧ (((v 0) + 4) + 4) ≤ 696 from by omega)) mM_X10_84 mI_X10_putOnTape mE_X10_putOnTape mN_X10 mC_X10_putOnTape (by decide +kernel) 0 (ci := 10) rfl rfl hP hS (fun _ h => h) ⟨Nat.le_of_ble_eq_true rfl, Nat.le_of_ble_eq_true rfl⟩ ⟨Nat.zero_le _, Nat.zero_le _⟩ hl.1 rfl rfl (Nat.le_of_ble_eq_true rfl) dX10_feed_27 (fun r_5 v_5 f_5 g_5 H locs hq_5 hP _ hS => ?_)
    obtain ⟨rfl, rfl, -, rfl⟩ := hq_5
    show W p l e (gRm 1 22) s m args below meth c _ _ 0 0 Q (F0 m 30 ls [])
    have hf_5 := hP.2.2
    have hP : gWd D (rwW k ad) (va_up v 0 ((((v 0) + 4) + 4) + 4)) f_5 g H := ⟨hP.1, (gR_up ⟨hok.1, hf_5⟩ 0 (by omega))⟩
    refine lv_aload_n hx hb dX10_feed_30 rfl (lv_at hl 0 rfl) ?_
    refine lv_iload hx hb dX10_feed_31 (lv_at hl 4 rfl) ?_
    refine g_cv (As := [.int (iI a4)]) (rest := []) (n := 1) C hml (c_X10_putOnTape l D k A ad hD (va_up v 0 ((((v 0) + 4) + 4) + 4)) f_5 g a4 (by omega) (show 0 ≤ ((((v 0) + 4) + 4) + 4) ∧ ((((v 0) + 4) + 4) + 4) ≤ 696 from by omega)) mM_X10_84 mI_X10_putOnTape mE_X10_putOnTape mN_X10 mC_X10_putOnTape (by decide +kernel) 0 (ci := 10) rfl rfl hP hS (fun _ h => h) ⟨Nat.le_of_ble_eq_true rfl, Nat.le_of_ble_eq_true rfl⟩ ⟨Nat.zero_le _, Nat.zero_le _⟩ hl.1 rfl rfl (Nat.le_of_ble_eq_true rfl) dX10_feed_33 (fun r_6 v_6 f_6 g_6 H locs hq_6 hP _ hS => ?_)
    obtain ⟨rfl, rfl, -, rfl⟩ := hq_6
    show W p l e (gRm 1 22) s m args below meth c _ _ 0 0 Q (F0 m 36 ls [])
    have hf_6 := hP.2.2
    have hP : gWd D (rwW k ad) (va_up v 0 (((((v 0) + 4) + 4) + 4) + 4)) f_6 g H := ⟨hP.1, (gR_up ⟨hok.1, hf_6⟩ 0 (by omega))⟩
    refine lv_aload_n hx hb dX10_feed_36 rfl (lv_at hl 0 rfl) ?_
    refine lv_iload hx hb dX10_feed_37 (lv_at hl 5 rfl) ?_
    refine g_cv (As := [.int (iI a5)]) (rest := []) (n := 1) C hml (c_X10_putOnTape l D k A ad hD (va_up v 0 (((((v 0) + 4) + 4) + 4) + 4)) f_6 g a5 (by omega) (show 0 ≤ (((((v 0) + 4) + 4) + 4) + 4) ∧ (((((v 0) + 4) + 4) + 4) + 4) ≤ 696 from by omega)) mM_X10_84 mI_X10_putOnTape mE_X10_putOnTape mN_X10 mC_X10_putOnTape (by decide +kernel) 0 (ci := 10) rfl rfl hP hS (fun _ h => h) ⟨Nat.le_of_ble_eq_true rfl, Nat.le_of_ble_eq_true rfl⟩ ⟨Nat.zero_le _, Nat.zero_le _⟩ hl.1 rfl rfl (Nat.le_of_ble_eq_true rfl) dX10_feed_39 (fun r_7 v_7 f_7 g_7 H locs hq_7 hP _ hS => ?_)
    obtain ⟨rfl, rfl, -, rfl⟩ := hq_7
    show W p l e (gRm 1 22) s m args below meth c _ _ 0 0 Q (F0 m 42 ls [])
    have hf_7 := hP.2.2
    have hP : gWd D (rwW k ad) (va_up v 0 ((((((v 0) + 4) + 4) + 4) + 4) + 4)) f_7 g H := ⟨hP.1, (gR_up ⟨hok.1, hf_7⟩ 0 (by omega))⟩
    refine lv_aload_n hx hb dX10_feed_42 rfl (lv_at hl 0 rfl) ?_
    refine rwG_taped C hP mF_X10_81 dX10_feed_43 ?_
    show W p l e (gRm 1 22) s m args below meth c _ _ 0 0 Q (F0 m 46 ls [.int (iI ((((((v 0) + 4) + 4) + 4) + 4) + 4))])
    exact g_iret hQ C hr hlocks hP hS dX10_feed_46 ⟨(congrArg (fun z => some (Value.int (iI z))) (by first | omega | (split <;> omega))), trivial, trivial, trivial⟩
  · exfalso; omega

set_option maxHeartbeats 4000000 in
set_option maxRecDepth 100000 in
theorem c_X10_fault (l : Launch) (D : va_G) (k : Nat → ClassId) (A : Nat → Prop) (ad : Nat → Nat) (hD : rwD A k ad) (v : gV) (f g : gF) (a1 : Int) (h_a1 : inR a1) (q0 : v 0 = 0) (q1 : v 1 = 0) (q21 : v 21 = 0) (q22 : v 22 = 0) (q23 : v 23 = 0) (q25 : v 25 = 0) (q26 : v 26 = 0) (q27 : v 27 = (-1)) (q28 : v 28 = (-1)) (qf : ∀ k, f 27 k = 0) : GM l D k A (rwW k ad) yX10_fault cX10_fault 2 (some .int) 0 0 [.ref (ad 0), .int (iI a1)] v f g (fun r v1 f1 g1 => r = some (.int (iI (-1))) ∧ True ∧ True ∧ True) := by
  refine GM.of (by decide) (Nat.le_of_ble_eq_true rfl) ?_
  intro p e s m args below meth c Q ls hQ C hml hr hlocks hP hl
  have hx := C.1
  have hb := C.2.1
  have hok := hP.2
  have hS : va_S A s.heap s.heap [] := va_S.rf
  have hl : lv_has ls 2 [(0, .ref (ad 0)), (1, .int (iI a1))] := hl
  refine lv_iload_n hx hb dX10_fault_0 rfl (lv_at hl 1 rfl) ?_
  refine gi_zne (tgt := 9) hx hb dX10_fault_1 (by decide) (by omega) (fun c_1 => ?_) (fun c_1 => ?_)
  · refine lv_iload_n hx hb dX10_fault_9 rfl (lv_at hl 1 rfl) ?_
    refine lv_iconst (v := iI 1) hx hb dX10_fault_10 rfl ?_
    refine gi_cne (tgt := 21) hx hb dX10_fault_11 (by decide) (by omega) (by decide) (fun c_2 => ?_) (fun c_2 => ?_)
    · refine lv_iconst (v := iI (-1)) hx hb dX10_fault_21 rfl ?_
      exact g_iret hQ C hr hlocks hP hS dX10_fault_22 ⟨rfl, trivial, trivial, trivial⟩
    · refine lv_aload_n hx hb dX10_fault_14 rfl (lv_at hl 0 rfl) ?_
      refine rwG_faultPlace C hP mF_X10_78 dX10_fault_15 ?_
      have r_3 := hok.1 28
      refine lv_goto (tgt := 22) hx hb dX10_fault_18 (by decide) ?_
      exact g_iret hQ C hr hlocks hP hS dX10_fault_22 ⟨(congrArg (fun z => some (Value.int (iI z))) (by first | omega | (split <;> omega))), trivial, trivial, trivial⟩
  · refine lv_aload_n hx hb dX10_fault_4 rfl (lv_at hl 0 rfl) ?_
    refine rwG_faultKind C hP mF_X10_75 dX10_fault_5 ?_
    have r_4 := hok.1 27
    exact g_iret hQ C hr hlocks hP hS dX10_fault_8 ⟨(congrArg (fun z => some (Value.int (iI z))) (by first | omega | (split <;> omega))), trivial, trivial, trivial⟩

set_option maxHeartbeats 4000000 in
set_option maxRecDepth 100000 in
theorem c_X10_climber (l : Launch) (D : va_G) (k : Nat → ClassId) (A : Nat → Prop) (ad : Nat → Nat) (hD : rwD A k ad) (v : gV) (f g : gF) (q0 : v 0 = 0) (q1 : v 1 = 0) (q21 : v 21 = 0) (q22 : v 22 = 0) (q23 : v 23 = 0) (q25 : v 25 = 0) (q26 : v 26 = 0) (q27 : v 27 = (-1)) (q28 : v 28 = (-1)) (qf : ∀ k, f 27 k = 0) : GM l D k A (rwW k ad) yX10_climber cX10_climber 1 (some .int) 1 21 [.ref (ad 0)] v f g (fun r v1 f1 g1 => r = some (.int (iI (-1))) ∧ True ∧ True ∧ True) := by
  refine GM.of (by decide) (Nat.le_of_ble_eq_true rfl) ?_
  intro p e s m args below meth c Q ls hQ C hml hr hlocks hP hl
  have hx := C.1
  have hb := C.2.1
  have hok := hP.2
  have hS : va_S A s.heap s.heap [] := va_S.rf
  have hl : lv_has ls 1 [(0, .ref (ad 0))] := hl
  refine lv_aload_n hx hb dX10_climber_0 rfl (lv_at hl 0 rfl) ?_
  refine rwG_laws C hP mF_X10_16 dX10_climber_1 ?_
  refine rwG_laws_rounds C hP mF_X10_117 dX10_climber_4 ?_
  have r_1 := hok.1 1
  refine gi_zne (tgt := 16) hx hb dX10_climber_7 (by decide) (by omega) (fun c_2 => ?_) (fun c_2 => ?_)
  · exfalso; omega
  · refine lv_aload_n hx hb dX10_climber_10 rfl (lv_at hl 0 rfl) ?_
    refine lv_iconst (v := iI 1) hx hb dX10_climber_11 rfl ?_
    refine g_cv (As := [.int (iI 1)]) (rest := []) (n := 1) C hml (c_X10_refuse l D k A ad hD v f g 1 (by decide)) mM_X10_88 mI_X10_refuse mE_X10_refuse mN_X10 mC_X10_refuse (by decide +kernel) 0 (ci := 10) rfl rfl hP hS (fun _ h => h) ⟨Nat.le_of_ble_eq_true rfl, Nat.le_of_ble_eq_true rfl⟩ ⟨Nat.zero_le _, Nat.zero_le _⟩ hl.1 rfl rfl (Nat.le_of_ble_eq_true rfl) dX10_climber_12 (fun r_3 v_3 f_3 g_3 H locs hq_3 hP _ hS => ?_)
    obtain ⟨rfl, rfl, rfl, rfl⟩ := hq_3
    show W p l e (gRm 1 21) s m args below meth c _ _ 0 0 Q (F0 m 15 ls [.int (iI (-1))])
    exact g_iret hQ C hr hlocks hP hS dX10_climber_15 ⟨rfl, trivial, trivial, trivial⟩

set_option maxHeartbeats 4000000 in
set_option maxRecDepth 100000 in
theorem c_X10_route (l : Launch) (D : va_G) (k : Nat → ClassId) (A : Nat → Prop) (ad : Nat → Nat) (hD : rwD A k ad) (v : gV) (f g : gF) (a1 : Int) (a2 : Int) (a3 : Int) (a4 : Int) (a5 : Int) (a6 : Int) (h_a1 : inR a1) (h_a2 : inR a2) (h_a3 : inR a3) (h_a4 : inR a4) (h_a5 : inR a5) (h_a6 : inR a6) (q0 : v 0 = 0) (q1 : v 1 = 0) (q21 : v 21 = 0) (q22 : v 22 = 0) (q23 : v 23 = 0) (q25 : v 25 = 0) (q26 : v 26 = 0) (q27 : v 27 = (-1)) (q28 : v 28 = (-1)) (qf : ∀ k, f 27 k = 0) : GM l D k A (rwW k ad) yX10_route cX10_route 7 (some .boolean) 2 43 [.ref (ad 0), .int (iI a1), .int (iI a2), .int (iI a3), .int (iI a4), .int (iI a5), .int (iI a6)] v f g (fun r v1 f1 g1 => r = some (.int (iI 0)) ∧ True ∧ True ∧ True) := by
  refine GM.of (by decide) (Nat.le_of_ble_eq_true rfl) ?_
  intro p e s m args below meth c Q ls hQ C hml hr hlocks hP hl
  have hx := C.1
  have hb := C.2.1
  have hok := hP.2
  have hS : va_S A s.heap s.heap [] := va_S.rf
  have hl : lv_has ls 7 [(0, .ref (ad 0)), (1, .int (iI a1)), (2, .int (iI a2)), (3, .int (iI a3)), (4, .int (iI a4)), (5, .int (iI a5)), (6, .int (iI a6))] := hl
  refine lv_aload_n hx hb dX10_route_0 rfl (lv_at hl 0 rfl) ?_
  refine rwG_laws C hP mF_X10_16 dX10_route_1 ?_
  refine lv_iload_n hx hb dX10_route_4 rfl (lv_at hl 1 rfl) ?_
  refine lv_iload_n hx hb dX10_route_5 rfl (lv_at hl 2 rfl) ?_
  refine g_cv (As := [.int (iI a1), .int (iI a2)]) (rest := []) (n := 2) C hml (c_X4_hasRoute l D k A ad hD v f g a1 a2 (by omega) (by omega) (show v 1 ≤ 4 from by omega)) mM_X10_136 mI_X4_hasRoute mE_X4_hasRoute mN_X4 mC_X4_hasRoute (by decide +kernel) 2 (ci := 4) rfl rfl hP hS (fun _ h => h) ⟨Nat.le_of_ble_eq_true rfl, Nat.le_of_ble_eq_true rfl⟩ ⟨Nat.zero_le _, Nat.zero_le _⟩ hl.1 rfl rfl (Nat.le_of_ble_eq_true rfl) dX10_route_6 (fun r_1 v_1 f_1 g_1 H locs hq_1 hP _ hS => ?_)
  obtain ⟨⟨z_1, rfl, ez0_1⟩, rfl, rfl, rfl⟩ := hq_1
  have ez_1 : z_1 = (if (0 ≤ a1 ∧ a1 < v 1) ∧ 0 ≤ a2 ∧ a2 < f 1 (a1 * 4) then 1 else 0) := ez0_1
  have w_1 := gif (P := (0 ≤ a1 ∧ a1 < v 1) ∧ 0 ≤ a2 ∧ a2 < f 1 (a1 * 4)) ez_1
  have hz_1 : inR z_1 := (by omega)
  show W p l e (gRm 2 43) s m args below meth c _ _ 0 0 Q (F0 m 9 ls [.int (iI z_1)])
  have k_1 : z_1 = 0 := by omega
  refine gi_zne (tgt := 18) hx hb dX10_route_9 (by decide) (by omega) (fun c_2 => ?_) (fun c_2 => ?_)
  · exfalso; omega
  · refine lv_aload_n hx hb dX10_route_12 rfl (lv_at hl 0 rfl) ?_
    refine lv_iconst (v := iI 1) hx hb dX10_route_13 rfl ?_
    refine g_cv (As := [.int (iI 1)]) (rest := []) (n := 1) C hml (c_X10_deny l D k A ad hD v f g 1 (by decide)) mM_X10_140 mI_X10_deny mE_X10_deny mN_X10 mC_X10_deny (by decide +kernel) 0 (ci := 10) rfl rfl hP hS (fun _ h => h) ⟨Nat.le_of_ble_eq_true rfl, Nat.le_of_ble_eq_true rfl⟩ ⟨Nat.zero_le _, Nat.zero_le _⟩ hl.1 rfl rfl (Nat.le_of_ble_eq_true rfl) dX10_route_14 (fun r_3 v_3 f_3 g_3 H locs hq_3 hP _ hS => ?_)
    obtain ⟨rfl, rfl, rfl, rfl⟩ := hq_3
    show W p l e (gRm 2 43) s m args below meth c _ _ 0 0 Q (F0 m 17 ls [.int (iI 0)])
    exact g_zret hQ C hr hlocks (by decide) hP hS dX10_route_17 ⟨rfl, trivial, trivial, trivial⟩

set_option maxHeartbeats 4000000 in
set_option maxRecDepth 100000 in
theorem c_X10_told (l : Launch) (D : va_G) (k : Nat → ClassId) (A : Nat → Prop) (ad : Nat → Nat) (hD : rwD A k ad) (v : gV) (f g : gF) (a1 : Int) (a2 : Int) (a3 : Int) (h_a1 : inR a1) (h_a2 : inR a2) (h_a3 : inR a3) (q0 : v 0 = 0) (q1 : v 1 = 0) (q21 : v 21 = 0) (q22 : v 22 = 0) (q23 : v 23 = 0) (q25 : v 25 = 0) (q26 : v 26 = 0) (q27 : v 27 = (-1)) (q28 : v 28 = (-1)) (qf : ∀ k, f 27 k = 0) : GM l D k A (rwW k ad) yX10_told cX10_told 5 (some .int) 2 43 [.ref (ad 0), .int (iI a1), .int (iI a2), .int (iI a3)] v f g (fun r v1 f1 g1 => r = some (.int (iI (-1))) ∧ True ∧ True ∧ True) := by
  refine GM.of (by decide) (Nat.le_of_ble_eq_true rfl) ?_
  intro p e s m args below meth c Q ls hQ C hml hr hlocks hP hl
  have hx := C.1
  have hb := C.2.1
  have hok := hP.2
  have hS : va_S A s.heap s.heap [] := va_S.rf
  have hl : lv_has ls 5 [(0, .ref (ad 0)), (1, .int (iI a1)), (2, .int (iI a2)), (3, .int (iI a3))] := hl
  refine lv_iload_n hx hb dX10_told_0 rfl (lv_at hl 2 rfl) ?_
  refine lv_iconst (v := iI (-1)) hx hb dX10_told_1 rfl ?_
  refine gi_cne (tgt := 9) hx hb dX10_told_2 (by decide) (by omega) (by decide) (fun c_1 => ?_) (fun c_1 => ?_)
  · refine lv_iconst (v := iI 0) hx hb dX10_told_9 rfl ?_
    refine lv_istore (lv' := [(4, .int (iI 0)), (0, .ref (ad 0)), (1, .int (iI a1)), (2, .int (iI a2)), (3, .int (iI a3))]) hx hb dX10_told_10 hl (by decide) rfl (fun ls hl => ?_)
    refine lv_iload hx hb dX10_told_12 (lv_at hl 0 rfl) ?_
    refine gi_zeq (tgt := 31) hx hb dX10_told_14 (by decide) (by decide) (fun c_2 => ?_) (fun c_2 => ?_)
    · refine lv_aload_n hx hb dX10_told_31 rfl (lv_at hl 1 rfl) ?_
      refine rwG_laws C hP mF_X10_16 dX10_told_32 ?_
      refine lv_iload_n hx hb dX10_told_35 rfl (lv_at hl 2 rfl) ?_
      refine lv_iload_n hx hb dX10_told_36 rfl (lv_at hl 3 rfl) ?_
      refine g_cv (As := [.int (iI a1), .int (iI a2)]) (rest := []) (n := 2) C hml (c_X4_hasRoute l D k A ad hD v f g a1 a2 (by omega) (by omega) (show v 1 ≤ 4 from by omega)) mM_X10_136 mI_X4_hasRoute mE_X4_hasRoute mN_X4 mC_X4_hasRoute (by decide +kernel) 2 (ci := 4) rfl rfl hP hS (fun _ h => h) ⟨Nat.le_of_ble_eq_true rfl, Nat.le_of_ble_eq_true rfl⟩ ⟨Nat.zero_le _, Nat.zero_le _⟩ hl.1 rfl rfl (Nat.le_of_ble_eq_true rfl) dX10_told_37 (fun r_3 v_3 f_3 g_3 H locs hq_3 hP _ hS => ?_)
      obtain ⟨⟨z_3, rfl, ez0_3⟩, rfl, rfl, rfl⟩ := hq_3
      have ez_3 : z_3 = (if (0 ≤ a1 ∧ a1 < v 1) ∧ 0 ≤ a2 ∧ a2 < f 1 (a1 * 4) then 1 else 0) := ez0_3
      have w_3 := gif (P := (0 ≤ a1 ∧ a1 < v 1) ∧ 0 ≤ a2 ∧ a2 < f 1 (a1 * 4)) ez_3
      have hz_3 : inR z_3 := (by omega)
      show W p l e (gRm 2 43) s m args below meth c _ _ 0 0 Q (F0 m 40 ls [.int (iI z_3)])
      have k_3 : z_3 = 0 := by omega
      refine gi_zne (tgt := 49) hx hb dX10_told_40 (by decide) (by omega) (fun c_4 => ?_) (fun c_4 => ?_)
      · exfalso; omega
      · refine lv_aload_n hx hb dX10_told_43 rfl (lv_at hl 1 rfl) ?_
        refine lv_iconst (v := iI 1) hx hb dX10_told_44 rfl ?_
        refine g_cv (As := [.int (iI 1)]) (rest := []) (n := 1) C hml (c_X10_refuse l D k A ad hD v f g 1 (by decide)) mM_X10_88 mI_X10_refuse mE_X10_refuse mN_X10 mC_X10_refuse (by decide +kernel) 0 (ci := 10) rfl rfl hP hS (fun _ h => h) ⟨Nat.le_of_ble_eq_true rfl, Nat.le_of_ble_eq_true rfl⟩ ⟨Nat.zero_le _, Nat.zero_le _⟩ hl.1 rfl rfl (Nat.le_of_ble_eq_true rfl) dX10_told_45 (fun r_5 v_5 f_5 g_5 H locs hq_5 hP _ hS => ?_)
        obtain ⟨rfl, rfl, rfl, rfl⟩ := hq_5
        show W p l e (gRm 2 43) s m args below meth c _ _ 0 0 Q (F0 m 48 ls [.int (iI (-1))])
        exact g_iret hQ C hr hlocks hP hS dX10_told_48 ⟨rfl, trivial, trivial, trivial⟩
    · exfalso; omega
  · refine lv_iconst (v := iI 1) hx hb dX10_told_5 rfl ?_
    refine lv_goto (tgt := 10) hx hb dX10_told_6 (by decide) ?_
    refine lv_istore (lv' := [(4, .int (iI 1)), (0, .ref (ad 0)), (1, .int (iI a1)), (2, .int (iI a2)), (3, .int (iI a3))]) hx hb dX10_told_10 hl (by decide) rfl (fun ls hl => ?_)
    refine lv_iload hx hb dX10_told_12 (lv_at hl 0 rfl) ?_
    refine gi_zeq (tgt := 31) hx hb dX10_told_14 (by decide) (by decide) (fun c_6 => ?_) (fun c_6 => ?_)
    · exfalso; omega
    · refine lv_aload_n hx hb dX10_told_17 rfl (lv_at hl 1 rfl) ?_
      refine rwG_laws C hP mF_X10_16 dX10_told_18 ?_
      refine lv_iload_n hx hb dX10_told_21 rfl (lv_at hl 2 rfl) ?_
      refine g_cv (As := [.int (iI a1)]) (rest := []) (n := 1) C hml (c_X4_hasRound l D k A ad hD v f g a1 (by omega)) mM_X10_164 mI_X4_hasRound mE_X4_hasRound mN_X4 mC_X4_hasRound (by decide +kernel) 2 (ci := 4) rfl rfl hP hS (fun _ h => h) ⟨Nat.le_of_ble_eq_true rfl, Nat.le_of_ble_eq_true rfl⟩ ⟨Nat.zero_le _, Nat.zero_le _⟩ hl.1 rfl rfl (Nat.le_of_ble_eq_true rfl) dX10_told_22 (fun r_7 v_7 f_7 g_7 H locs hq_7 hP _ hS => ?_)
      obtain ⟨⟨z_7, rfl, ez0_7⟩, rfl, rfl, rfl⟩ := hq_7
      have ez_7 : z_7 = (if 0 ≤ a1 ∧ a1 < v 1 then 1 else 0) := ez0_7
      have w_7 := gif (P := 0 ≤ a1 ∧ a1 < v 1) ez_7
      have hz_7 : inR z_7 := (by omega)
      show W p l e (gRm 2 43) s m args below meth c _ _ 0 0 Q (F0 m 25 ls [.int (iI z_7)])
      have k_7 : z_7 = 0 := by omega
      refine gi_zne (tgt := 49) hx hb dX10_told_25 (by decide) (by omega) (fun c_8 => ?_) (fun c_8 => ?_)
      · exfalso; omega
      · refine lv_goto (tgt := 43) hx hb dX10_told_28 (by decide) ?_
        refine lv_aload_n hx hb dX10_told_43 rfl (lv_at hl 1 rfl) ?_
        refine lv_iconst (v := iI 1) hx hb dX10_told_44 rfl ?_
        refine g_cv (As := [.int (iI 1)]) (rest := []) (n := 1) C hml (c_X10_refuse l D k A ad hD v f g 1 (by decide)) mM_X10_88 mI_X10_refuse mE_X10_refuse mN_X10 mC_X10_refuse (by decide +kernel) 0 (ci := 10) rfl rfl hP hS (fun _ h => h) ⟨Nat.le_of_ble_eq_true rfl, Nat.le_of_ble_eq_true rfl⟩ ⟨Nat.zero_le _, Nat.zero_le _⟩ hl.1 rfl rfl (Nat.le_of_ble_eq_true rfl) dX10_told_45 (fun r_9 v_9 f_9 g_9 H locs hq_9 hP _ hS => ?_)
        obtain ⟨rfl, rfl, rfl, rfl⟩ := hq_9
        show W p l e (gRm 2 43) s m args below meth c _ _ 0 0 Q (F0 m 48 ls [.int (iI (-1))])
        exact g_iret hQ C hr hlocks hP hS dX10_told_48 ⟨rfl, trivial, trivial, trivial⟩

set_option maxHeartbeats 4000000 in
set_option maxRecDepth 100000 in
theorem c_X10_begin (l : Launch) (D : va_G) (k : Nat → ClassId) (A : Nat → Prop) (ad : Nat → Nat) (hD : rwD A k ad) (v : gV) (f g : gF) (a1 : Int) (a2 : Int) (a3 : Int) (h_a1 : inR a1) (h_a2 : inR a2) (h_a3 : inR a3) (q0 : v 0 = 0) (q1 : v 1 = 0) (q21 : v 21 = 0) (q22 : v 22 = 0) (q23 : v 23 = 0) (q25 : v 25 = 0) (q26 : v 26 = 0) (q27 : v 27 = (-1)) (q28 : v 28 = (-1)) (qf : ∀ k, f 27 k = 0) : GM l D k A (rwW k ad) yX10_begin cX10_begin 5 (some .int) 1 21 [.ref (ad 0), .int (iI a1), .int (iI a2), .int (iI a3)] v f g (fun r v1 f1 g1 => r = some (.int (iI (-1))) ∧ True ∧ True ∧ True) := by
  refine GM.of (by decide) (Nat.le_of_ble_eq_true rfl) ?_
  intro p e s m args below meth c Q ls hQ C hml hr hlocks hP hl
  have hx := C.1
  have hb := C.2.1
  have hok := hP.2
  have hS : va_S A s.heap s.heap [] := va_S.rf
  have hl : lv_has ls 5 [(0, .ref (ad 0)), (1, .int (iI a1)), (2, .int (iI a2)), (3, .int (iI a3))] := hl
  refine lv_iconst (v := iI 1) hx hb dX10_begin_0 rfl ?_
  refine lv_istore (lv' := [(4, .int (iI 1)), (0, .ref (ad 0)), (1, .int (iI a1)), (2, .int (iI a2)), (3, .int (iI a3))]) hx hb dX10_begin_1 hl (by decide) rfl (fun ls hl => ?_)
  refine lv_aload_n hx hb dX10_begin_3 rfl (lv_at hl 1 rfl) ?_
  refine rwG_field C hP mF_X10_37 dX10_begin_4 ?_
  refine lv_iload_n hx hb dX10_begin_7 rfl (lv_at hl 2 rfl) ?_
  refine g_cv (As := [.int (iI a1)]) (rest := []) (n := 1) C hml (c_X2_knows l D k A ad hD v f g a1 (by omega)) mM_X10_180 mI_X2_knows mE_X2_knows mN_X2 mC_X2_knows (by decide +kernel) 27 (ci := 2) rfl rfl hP hS (fun _ h => h) ⟨Nat.le_of_ble_eq_true rfl, Nat.le_of_ble_eq_true rfl⟩ ⟨Nat.zero_le _, Nat.zero_le _⟩ hl.1 rfl rfl (Nat.le_of_ble_eq_true rfl) dX10_begin_8 (fun r_1 v_1 f_1 g_1 H locs hq_1 hP _ hS => ?_)
  obtain ⟨⟨z_1, rfl, ez0_1⟩, rfl, rfl, rfl⟩ := hq_1
  have ez_1 : z_1 = (if 0 ≤ a1 ∧ a1 < v 21 then 1 else 0) := ez0_1
  have w_1 := gif (P := 0 ≤ a1 ∧ a1 < v 21) ez_1
  have hz_1 : inR z_1 := (by omega)
  show W p l e (gRm 1 21) s m args below meth c _ _ 0 0 Q (F0 m 11 ls [.int (iI z_1)])
  have k_1 : z_1 = 0 := by omega
  refine gi_zeq (tgt := 39) hx hb dX10_begin_11 (by decide) (by omega) (fun c_2 => ?_) (fun c_2 => ?_)
  · refine lv_iload hx hb dX10_begin_39 (lv_at hl 0 rfl) ?_
    refine gi_zne (tgt := 52) hx hb dX10_begin_41 (by decide) (by decide) (fun c_3 => ?_) (fun c_3 => ?_)
    · refine lv_iload hx hb dX10_begin_52 (lv_at hl 0 rfl) ?_
      refine gi_zeq (tgt := 64) hx hb dX10_begin_54 (by decide) (by decide) (fun c_4 => ?_) (fun c_4 => ?_)
      · exfalso; omega
      · refine lv_aload_n hx hb dX10_begin_57 rfl (lv_at hl 1 rfl) ?_
        refine lv_iload hx hb dX10_begin_58 (lv_at hl 0 rfl) ?_
        refine g_cv (As := [.int (iI 1)]) (rest := []) (n := 1) C hml (c_X10_refuse l D k A ad hD v f g 1 (by decide)) mM_X10_88 mI_X10_refuse mE_X10_refuse mN_X10 mC_X10_refuse (by decide +kernel) 0 (ci := 10) rfl rfl hP hS (fun _ h => h) ⟨Nat.le_of_ble_eq_true rfl, Nat.le_of_ble_eq_true rfl⟩ ⟨Nat.zero_le _, Nat.zero_le _⟩ hl.1 rfl rfl (Nat.le_of_ble_eq_true rfl) dX10_begin_60 (fun r_5 v_5 f_5 g_5 H locs hq_5 hP _ hS => ?_)
        obtain ⟨rfl, rfl, rfl, rfl⟩ := hq_5
        show W p l e (gRm 1 21) s m args below meth c _ _ 0 0 Q (F0 m 63 ls [.int (iI (-1))])
        exact g_iret hQ C hr hlocks hP hS dX10_begin_63 ⟨rfl, trivial, trivial, trivial⟩
    · exfalso; omega
  · exfalso; omega

set_option maxHeartbeats 4000000 in
set_option maxRecDepth 100000 in
theorem c_X10_reach (l : Launch) (D : va_G) (k : Nat → ClassId) (A : Nat → Prop) (ad : Nat → Nat) (hD : rwD A k ad) (v : gV) (f g : gF) (a1 : Int) (a2 : Int) (a3 : Int) (h_a1 : inR a1) (h_a2 : inR a2) (h_a3 : inR a3) (q0 : v 0 = 0) (q1 : v 1 = 0) (q21 : v 21 = 0) (q22 : v 22 = 0) (q23 : v 23 = 0) (q25 : v 25 = 0) (q26 : v 26 = 0) (q27 : v 27 = (-1)) (q28 : v 28 = (-1)) (qf : ∀ k, f 27 k = 0) : GM l D k A (rwW k ad) yX10_reach cX10_reach 7 (some .int) 1 21 [.ref (ad 0), .int (iI a1), .int (iI a2), .int (iI a3)] v f g (fun r v1 f1 g1 => r = some (.int (iI (-1))) ∧ True ∧ True ∧ True) := by
  refine GM.of (by decide) (Nat.le_of_ble_eq_true rfl) ?_
  intro p e s m args below meth c Q ls hQ C hml hr hlocks hP hl
  have hx := C.1
  have hb := C.2.1
  have hok := hP.2
  have hS : va_S A s.heap s.heap [] := va_S.rf
  have hl : lv_has ls 7 [(0, .ref (ad 0)), (1, .int (iI a1)), (2, .int (iI a2)), (3, .int (iI a3))] := hl
  refine lv_iconst (v := iI 1) hx hb dX10_reach_0 rfl ?_
  refine lv_istore (lv' := [(4, .int (iI 1)), (0, .ref (ad 0)), (1, .int (iI a1)), (2, .int (iI a2)), (3, .int (iI a3))]) hx hb dX10_reach_1 hl (by decide) rfl (fun ls hl => ?_)
  refine lv_aload_n hx hb dX10_reach_3 rfl (lv_at hl 1 rfl) ?_
  refine rwG_field C hP mF_X10_37 dX10_reach_4 ?_
  refine lv_iload_n hx hb dX10_reach_7 rfl (lv_at hl 2 rfl) ?_
  refine g_cv (As := [.int (iI a1)]) (rest := []) (n := 1) C hml (c_X2_knows l D k A ad hD v f g a1 (by omega)) mM_X10_180 mI_X2_knows mE_X2_knows mN_X2 mC_X2_knows (by decide +kernel) 27 (ci := 2) rfl rfl hP hS (fun _ h => h) ⟨Nat.le_of_ble_eq_true rfl, Nat.le_of_ble_eq_true rfl⟩ ⟨Nat.zero_le _, Nat.zero_le _⟩ hl.1 rfl rfl (Nat.le_of_ble_eq_true rfl) dX10_reach_8 (fun r_1 v_1 f_1 g_1 H locs hq_1 hP _ hS => ?_)
  obtain ⟨⟨z_1, rfl, ez0_1⟩, rfl, rfl, rfl⟩ := hq_1
  have ez_1 : z_1 = (if 0 ≤ a1 ∧ a1 < v 21 then 1 else 0) := ez0_1
  have w_1 := gif (P := 0 ≤ a1 ∧ a1 < v 21) ez_1
  have hz_1 : inR z_1 := (by omega)
  show W p l e (gRm 1 21) s m args below meth c _ _ 0 0 Q (F0 m 11 ls [.int (iI z_1)])
  have k_1 : z_1 = 0 := by omega
  refine gi_zeq (tgt := 36) hx hb dX10_reach_11 (by decide) (by omega) (fun c_2 => ?_) (fun c_2 => ?_)
  · refine lv_iload hx hb dX10_reach_36 (lv_at hl 0 rfl) ?_
    refine gi_zeq (tgt := 48) hx hb dX10_reach_38 (by decide) (by decide) (fun c_3 => ?_) (fun c_3 => ?_)
    · exfalso; omega
    · refine lv_aload_n hx hb dX10_reach_41 rfl (lv_at hl 1 rfl) ?_
      refine lv_iload hx hb dX10_reach_42 (lv_at hl 0 rfl) ?_
      refine g_cv (As := [.int (iI 1)]) (rest := []) (n := 1) C hml (c_X10_refuse l D k A ad hD v f g 1 (by decide)) mM_X10_88 mI_X10_refuse mE_X10_refuse mN_X10 mC_X10_refuse (by decide +kernel) 0 (ci := 10) rfl rfl hP hS (fun _ h => h) ⟨Nat.le_of_ble_eq_true rfl, Nat.le_of_ble_eq_true rfl⟩ ⟨Nat.zero_le _, Nat.zero_le _⟩ hl.1 rfl rfl (Nat.le_of_ble_eq_true rfl) dX10_reach_44 (fun r_4 v_4 f_4 g_4 H locs hq_4 hP _ hS => ?_)
      obtain ⟨rfl, rfl, rfl, rfl⟩ := hq_4
      show W p l e (gRm 1 21) s m args below meth c _ _ 0 0 Q (F0 m 47 ls [.int (iI (-1))])
      exact g_iret hQ C hr hlocks hP hS dX10_reach_47 ⟨rfl, trivial, trivial, trivial⟩
  · exfalso; omega

set_option maxHeartbeats 4000000 in
set_option maxRecDepth 100000 in
theorem c_X10_fall (l : Launch) (D : va_G) (k : Nat → ClassId) (A : Nat → Prop) (ad : Nat → Nat) (hD : rwD A k ad) (v : gV) (f g : gF) (a1 : Int) (a2 : Int) (a3 : Int) (h_a1 : inR a1) (h_a2 : inR a2) (h_a3 : inR a3) (q0 : v 0 = 0) (q1 : v 1 = 0) (q21 : v 21 = 0) (q22 : v 22 = 0) (q23 : v 23 = 0) (q25 : v 25 = 0) (q26 : v 26 = 0) (q27 : v 27 = (-1)) (q28 : v 28 = (-1)) (qf : ∀ k, f 27 k = 0) : GM l D k A (rwW k ad) yX10_fall cX10_fall 6 (some .boolean) 1 21 [.ref (ad 0), .int (iI a1), .int (iI a2), .int (iI a3)] v f g (fun r v1 f1 g1 => r = some (.int (iI 0)) ∧ True ∧ True ∧ True) := by
  refine GM.of (by decide) (Nat.le_of_ble_eq_true rfl) ?_
  intro p e s m args below meth c Q ls hQ C hml hr hlocks hP hl
  have hx := C.1
  have hb := C.2.1
  have hok := hP.2
  have hS : va_S A s.heap s.heap [] := va_S.rf
  have hl : lv_has ls 6 [(0, .ref (ad 0)), (1, .int (iI a1)), (2, .int (iI a2)), (3, .int (iI a3))] := hl
  refine lv_aload_n hx hb dX10_fall_0 rfl (lv_at hl 0 rfl) ?_
  refine rwG_field C hP mF_X10_37 dX10_fall_1 ?_
  refine lv_iload_n hx hb dX10_fall_4 rfl (lv_at hl 1 rfl) ?_
  refine g_cv (As := [.int (iI a1)]) (rest := []) (n := 1) C hml (c_X2_knows l D k A ad hD v f g a1 (by omega)) mM_X10_180 mI_X2_knows mE_X2_knows mN_X2 mC_X2_knows (by decide +kernel) 27 (ci := 2) rfl rfl hP hS (fun _ h => h) ⟨Nat.le_of_ble_eq_true rfl, Nat.le_of_ble_eq_true rfl⟩ ⟨Nat.zero_le _, Nat.zero_le _⟩ hl.1 rfl rfl (Nat.le_of_ble_eq_true rfl) dX10_fall_5 (fun r_1 v_1 f_1 g_1 H locs hq_1 hP _ hS => ?_)
  obtain ⟨⟨z_1, rfl, ez0_1⟩, rfl, rfl, rfl⟩ := hq_1
  have ez_1 : z_1 = (if 0 ≤ a1 ∧ a1 < v 21 then 1 else 0) := ez0_1
  have w_1 := gif (P := 0 ≤ a1 ∧ a1 < v 21) ez_1
  have hz_1 : inR z_1 := (by omega)
  show W p l e (gRm 1 21) s m args below meth c _ _ 0 0 Q (F0 m 8 ls [.int (iI z_1)])
  have k_1 : z_1 = 0 := by omega
  refine gi_zeq (tgt := 19) hx hb dX10_fall_8 (by decide) (by omega) (fun c_2 => ?_) (fun c_2 => ?_)
  · refine lv_iconst (v := iI 1) hx hb dX10_fall_19 rfl ?_
    refine lv_istore (lv' := [(4, .int (iI 1)), (0, .ref (ad 0)), (1, .int (iI a1)), (2, .int (iI a2)), (3, .int (iI a3))]) hx hb dX10_fall_20 hl (by decide) rfl (fun ls hl => ?_)
    refine lv_iload hx hb dX10_fall_22 (lv_at hl 0 rfl) ?_
    refine gi_zeq (tgt := 34) hx hb dX10_fall_24 (by decide) (by decide) (fun c_3 => ?_) (fun c_3 => ?_)
    · exfalso; omega
    · refine lv_aload_n hx hb dX10_fall_27 rfl (lv_at hl 1 rfl) ?_
      refine lv_iload hx hb dX10_fall_28 (lv_at hl 0 rfl) ?_
      refine g_cv (As := [.int (iI 1)]) (rest := []) (n := 1) C hml (c_X10_deny l D k A ad hD v f g 1 (by decide)) mM_X10_140 mI_X10_deny mE_X10_deny mN_X10 mC_X10_deny (by decide +kernel) 0 (ci := 10) rfl rfl hP hS (fun _ h => h) ⟨Nat.le_of_ble_eq_true rfl, Nat.le_of_ble_eq_true rfl⟩ ⟨Nat.zero_le _, Nat.zero_le _⟩ hl.1 rfl rfl (Nat.le_of_ble_eq_true rfl) dX10_fall_30 (fun r_4 v_4 f_4 g_4 H locs hq_4 hP _ hS => ?_)
      obtain ⟨rfl, rfl, rfl, rfl⟩ := hq_4
      show W p l e (gRm 1 21) s m args below meth c _ _ 0 0 Q (F0 m 33 ls [.int (iI 0)])
      exact g_zret hQ C hr hlocks (by decide) hP hS dX10_fall_33 ⟨rfl, trivial, trivial, trivial⟩
  · exfalso; omega

set_option maxHeartbeats 4000000 in
set_option maxRecDepth 100000 in
theorem c_X10_out (l : Launch) (D : va_G) (k : Nat → ClassId) (A : Nat → Prop) (ad : Nat → Nat) (hD : rwD A k ad) (v : gV) (f g : gF) (a1 : Int) (a2 : Int) (a3 : Int) (h_a1 : inR a1) (h_a2 : inR a2) (h_a3 : inR a3) (q0 : v 0 = 0) (q1 : v 1 = 0) (q21 : v 21 = 0) (q22 : v 22 = 0) (q23 : v 23 = 0) (q25 : v 25 = 0) (q26 : v 26 = 0) (q27 : v 27 = (-1)) (q28 : v 28 = (-1)) (qf : ∀ k, f 27 k = 0) : GM l D k A (rwW k ad) yX10_out cX10_out 5 (some .boolean) 1 21 [.ref (ad 0), .int (iI a1), .int (iI a2), .int (iI a3)] v f g (fun r v1 f1 g1 => r = some (.int (iI 0)) ∧ True ∧ True ∧ True) := by
  refine GM.of (by decide) (Nat.le_of_ble_eq_true rfl) ?_
  intro p e s m args below meth c Q ls hQ C hml hr hlocks hP hl
  have hx := C.1
  have hb := C.2.1
  have hok := hP.2
  have hS : va_S A s.heap s.heap [] := va_S.rf
  have hl : lv_has ls 5 [(0, .ref (ad 0)), (1, .int (iI a1)), (2, .int (iI a2)), (3, .int (iI a3))] := hl
  refine lv_aload_n hx hb dX10_out_0 rfl (lv_at hl 0 rfl) ?_
  refine rwG_field C hP mF_X10_37 dX10_out_1 ?_
  refine lv_iload_n hx hb dX10_out_4 rfl (lv_at hl 1 rfl) ?_
  refine g_cv (As := [.int (iI a1)]) (rest := []) (n := 1) C hml (c_X2_knows l D k A ad hD v f g a1 (by omega)) mM_X10_180 mI_X2_knows mE_X2_knows mN_X2 mC_X2_knows (by decide +kernel) 27 (ci := 2) rfl rfl hP hS (fun _ h => h) ⟨Nat.le_of_ble_eq_true rfl, Nat.le_of_ble_eq_true rfl⟩ ⟨Nat.zero_le _, Nat.zero_le _⟩ hl.1 rfl rfl (Nat.le_of_ble_eq_true rfl) dX10_out_5 (fun r_1 v_1 f_1 g_1 H locs hq_1 hP _ hS => ?_)
  obtain ⟨⟨z_1, rfl, ez0_1⟩, rfl, rfl, rfl⟩ := hq_1
  have ez_1 : z_1 = (if 0 ≤ a1 ∧ a1 < v 21 then 1 else 0) := ez0_1
  have w_1 := gif (P := 0 ≤ a1 ∧ a1 < v 21) ez_1
  have hz_1 : inR z_1 := (by omega)
  show W p l e (gRm 1 21) s m args below meth c _ _ 0 0 Q (F0 m 8 ls [.int (iI z_1)])
  have k_1 : z_1 = 0 := by omega
  refine gi_zeq (tgt := 19) hx hb dX10_out_8 (by decide) (by omega) (fun c_2 => ?_) (fun c_2 => ?_)
  · refine lv_iconst (v := iI 1) hx hb dX10_out_19 rfl ?_
    refine lv_istore (lv' := [(4, .int (iI 1)), (0, .ref (ad 0)), (1, .int (iI a1)), (2, .int (iI a2)), (3, .int (iI a3))]) hx hb dX10_out_20 hl (by decide) rfl (fun ls hl => ?_)
    refine lv_iload hx hb dX10_out_22 (lv_at hl 0 rfl) ?_
    refine gi_zeq (tgt := 34) hx hb dX10_out_24 (by decide) (by decide) (fun c_3 => ?_) (fun c_3 => ?_)
    · exfalso; omega
    · refine lv_aload_n hx hb dX10_out_27 rfl (lv_at hl 1 rfl) ?_
      refine lv_iload hx hb dX10_out_28 (lv_at hl 0 rfl) ?_
      refine g_cv (As := [.int (iI 1)]) (rest := []) (n := 1) C hml (c_X10_deny l D k A ad hD v f g 1 (by decide)) mM_X10_140 mI_X10_deny mE_X10_deny mN_X10 mC_X10_deny (by decide +kernel) 0 (ci := 10) rfl rfl hP hS (fun _ h => h) ⟨Nat.le_of_ble_eq_true rfl, Nat.le_of_ble_eq_true rfl⟩ ⟨Nat.zero_le _, Nat.zero_le _⟩ hl.1 rfl rfl (Nat.le_of_ble_eq_true rfl) dX10_out_30 (fun r_4 v_4 f_4 g_4 H locs hq_4 hP _ hS => ?_)
      obtain ⟨rfl, rfl, rfl, rfl⟩ := hq_4
      show W p l e (gRm 1 21) s m args below meth c _ _ 0 0 Q (F0 m 33 ls [.int (iI 0)])
      exact g_zret hQ C hr hlocks (by decide) hP hS dX10_out_33 ⟨rfl, trivial, trivial, trivial⟩
  · exfalso; omega

set_option maxHeartbeats 4000000 in
set_option maxRecDepth 100000 in
theorem c_X10_passTo (l : Launch) (D : va_G) (k : Nat → ClassId) (A : Nat → Prop) (ad : Nat → Nat) (hD : rwD A k ad) (v : gV) (f g : gF) (a1 : Int) (h_a1 : inR a1) (q0 : v 0 = 0) (q1 : v 1 = 0) (q21 : v 21 = 0) (q22 : v 22 = 0) (q23 : v 23 = 0) (q25 : v 25 = 0) (q26 : v 26 = 0) (q27 : v 27 = (-1)) (q28 : v 28 = (-1)) (qf : ∀ k, f 27 k = 0) : GM l D k A (rwW k ad) yX10_passTo cX10_passTo 2 (some .int) 2 45 [.ref (ad 0), .int (iI a1)] v f g (fun r v1 f1 g1 => (∃ z : Int, r = some (.int (iI z)) ∧ z = (if 0 ≤ a1 ∧ a1 ≤ 1000000 then 0 else 2)) ∧ True ∧ True ∧ True) := by
  refine GM.of (by decide) (Nat.le_of_ble_eq_true rfl) ?_
  intro p e s m args below meth c Q ls hQ C hml hr hlocks hP hl
  have hx := C.1
  have hb := C.2.1
  have hok := hP.2
  have hS : va_S A s.heap s.heap [] := va_S.rf
  have hl : lv_has ls 2 [(0, .ref (ad 0)), (1, .int (iI a1))] := hl
  refine lv_iload_n hx hb dX10_passTo_0 rfl (lv_at hl 1 rfl) ?_
  refine gi_zlt (tgt := 11) hx hb dX10_passTo_1 (by decide) (by omega) (fun c_1 => ?_) (fun c_1 => ?_)
  · refine lv_iconst (v := iI 2) hx hb dX10_passTo_11 rfl ?_
    exact g_iret hQ C hr hlocks hP hS dX10_passTo_12 ⟨⟨_, rfl, (by first | omega | (split <;> omega))⟩, trivial, trivial, trivial⟩
  · refine lv_iload_n hx hb dX10_passTo_4 rfl (lv_at hl 1 rfl) ?_
    refine lv_ldcw (v := iI 1000000) hx hb C.2.2.2.1 (C.2.2.1 _ (show Cond.constant RX10 313 (iI 1000000) ∈ gWs from mD_X10_313)) dX10_passTo_5 ?_
    refine gi_cle (tgt := 13) hx hb dX10_passTo_8 (by decide) (by omega) (by decide) (fun c_2 => ?_) (fun c_2 => ?_)
    · refine lv_iload_n hx hb dX10_passTo_13 rfl (lv_at hl 1 rfl) ?_
      refine lv_aload_n hx hb dX10_passTo_14 rfl (lv_at hl 0 rfl) ?_
      refine rwG_time C hP mF_X10_114 dX10_passTo_15 ?_
      have r_3 := hok.1 26
      refine gi_cge (tgt := 24) hx hb dX10_passTo_18 (by decide) (by omega) (by omega) (fun c_4 => ?_) (fun c_4 => ?_)
      · refine lv_aload_n hx hb dX10_passTo_24 rfl (lv_at hl 0 rfl) ?_
        refine lv_iload_n hx hb dX10_passTo_25 rfl (lv_at hl 1 rfl) ?_
        refine rwP_time (v1 := (va_up v 26 a1)) C hP hD hS mF_X10_114 (by omega) rfl (Or.inl rfl) dX10_passTo_26 (fun H locs hP hS => ?_)
        refine lv_aload_n hx hb dX10_passTo_29 rfl (lv_at hl 0 rfl) ?_
        refine rwG_tries C hP mF_X10_44 dX10_passTo_30 ?_
        refine lv_iload_n hx hb dX10_passTo_33 rfl (lv_at hl 1 rfl) ?_
        refine lv_aload_n hx hb dX10_passTo_34 rfl (lv_at hl 0 rfl) ?_
        refine rwG_laws C hP mF_X10_16 dX10_passTo_35 ?_
        refine lv_aload_n hx hb dX10_passTo_38 rfl (lv_at hl 0 rfl) ?_
        refine rwG_field C hP mF_X10_37 dX10_passTo_39 ?_
        refine rwG_field_open C hP mF_X10_129 dX10_passTo_42 ?_
        show W p l e (gRm 2 45) s m args below meth c _ _ 0 0 Q (F0 m 45 ls [.int (iI (v 22)), .ref (ad 2), .int (iI a1), .ref (ad 30)])
        have r_5 := hok.1 22
        refine lv_iconst (v := iI 2) hx hb dX10_passTo_45 rfl ?_
        refine g_cv (As := [.int (iI (v 22)), .int (iI 2)]) (rest := [.int (iI a1), .ref (ad 30)]) (n := 2) C hml (c_X4_shapeOf l D k A ad hD (va_up v 26 a1) f g (v 22) 2 (by omega) (by decide) (show v 1 ≤ 4 from by omega)) mM_X10_170 mI_X4_shapeOf mE_X4_shapeOf mN_X4 mC_X4_shapeOf (by decide +kernel) 2 (ci := 4) rfl rfl hP hS (fun _ h => h) ⟨Nat.le_of_ble_eq_true rfl, Nat.le_of_ble_eq_true rfl⟩ ⟨Nat.zero_le _, Nat.zero_le _⟩ hl.1 rfl rfl (Nat.le_of_ble_eq_true rfl) dX10_passTo_46 (fun r_6 v_6 f_6 g_6 H locs hq_6 hP _ hS => ?_)
        obtain ⟨⟨z_6, rfl, ez0_6⟩, rfl, rfl, rfl⟩ := hq_6
        have ez_6 : z_6 = (if (0 ≤ (v 22) ∧ (v 22) < v 1) ∧ 0 ≤ (2 : Int) ∧ (2 : Int) < 4 then f 1 ((v 22) * 4 + (2 : Int)) else 0) := ez0_6
        have hz_6 : inR z_6 := (by rw [ez_6, if_neg (by omega)]; decide)
        show W p l e (gRm 2 45) s m args below meth c _ _ 0 0 Q (F0 m 49 ls [.int (iI z_6), .int (iI a1), .ref (ad 30)])
        have k_6 : z_6 = 0 := by rw [ez_6]; exact if_neg (by omega)
        refine g_cv (As := [.int (iI a1), .int (iI z_6)]) (rest := []) (n := 2) C hml (c_X7_endOverdue l D k A ad hD (va_up v 26 a1) f g a1 z_6 (by omega) (by omega) qf) mM_X10_314 mI_X7_endOverdue mE_X7_endOverdue mN_X7 mC_X7_endOverdue (by decide +kernel) 30 (ci := 7) rfl rfl hP hS (fun _ h => h) ⟨Nat.le_of_ble_eq_true rfl, Nat.le_of_ble_eq_true rfl⟩ ⟨Nat.zero_le _, Nat.zero_le _⟩ hl.1 rfl rfl (Nat.le_of_ble_eq_true rfl) dX10_passTo_49 (fun r_7 v_7 f_7 g_7 H locs hq_7 hP _ hS => ?_)
        obtain ⟨rfl, rfl, rfl, rfl⟩ := hq_7
        show W p l e (gRm 2 45) s m args below meth c _ _ 0 0 Q (F0 m 52 ls [])
        refine lv_iconst (v := iI 0) hx hb dX10_passTo_52 rfl ?_
        exact g_iret hQ C hr hlocks hP hS dX10_passTo_53 ⟨⟨_, rfl, (by first | omega | (split <;> omega))⟩, trivial, trivial, trivial⟩
      · refine lv_bipush (v := iI 9) hx hb dX10_passTo_21 (by decide) ?_
        exact g_iret hQ C hr hlocks hP hS dX10_passTo_23 ⟨⟨_, rfl, (by first | omega | (split <;> omega))⟩, trivial, trivial, trivial⟩
    · refine lv_iconst (v := iI 2) hx hb dX10_passTo_11 rfl ?_
      exact g_iret hQ C hr hlocks hP hS dX10_passTo_12 ⟨⟨_, rfl, (by first | omega | (split <;> omega))⟩, trivial, trivial, trivial⟩

set_option maxHeartbeats 4000000 in
set_option maxRecDepth 100000 in
theorem c_X10_clock (l : Launch) (D : va_G) (k : Nat → ClassId) (A : Nat → Prop) (ad : Nat → Nat) (hD : rwD A k ad) (v : gV) (f g : gF) (a1 : Int) (h_a1 : inR a1) (q0 : v 0 = 0) (q1 : v 1 = 0) (q21 : v 21 = 0) (q22 : v 22 = 0) (q23 : v 23 = 0) (q25 : v 25 = 0) (q26 : v 26 = 0) (q27 : v 27 = (-1)) (q28 : v 28 = (-1)) (qf : ∀ k, f 27 k = 0) : GM l D k A (rwW k ad) yX10_clock cX10_clock 3 (some .boolean) 3 66 [.ref (ad 0), .int (iI a1)] v f g (fun r v1 f1 g1 => (∃ z : Int, r = some (.int (iI z)) ∧ z = (if 0 ≤ a1 ∧ a1 ≤ 1000000 then 1 else 0)) ∧ True ∧ True ∧ True) := by
  refine GM.of (by decide) (Nat.le_of_ble_eq_true rfl) ?_
  intro p e s m args below meth c Q ls hQ C hml hr hlocks hP hl
  have hx := C.1
  have hb := C.2.1
  have hok := hP.2
  have hS : va_S A s.heap s.heap [] := va_S.rf
  have hl : lv_has ls 3 [(0, .ref (ad 0)), (1, .int (iI a1))] := hl
  refine lv_aload_n hx hb dX10_clock_0 rfl (lv_at hl 0 rfl) ?_
  refine lv_iload_n hx hb dX10_clock_1 rfl (lv_at hl 1 rfl) ?_
  refine g_cv (As := [.int (iI a1)]) (rest := []) (n := 1) C hml (c_X10_passTo l D k A ad hD v f g a1 (by omega) q0 q1 q21 q22 q23 q25 q26 q27 q28 qf) mM_X10_183 mI_X10_passTo mE_X10_passTo mN_X10 mC_X10_passTo (by decide +kernel) 0 (ci := 10) rfl rfl hP hS (fun _ h => h) ⟨Nat.le_of_ble_eq_true rfl, Nat.le_of_ble_eq_true rfl⟩ ⟨Nat.zero_le _, Nat.zero_le _⟩ hl.1 rfl rfl (Nat.le_of_ble_eq_true rfl) dX10_clock_2 (fun r_1 v_1 f_1 g_1 H locs hq_1 hP _ hS => ?_)
  obtain ⟨⟨z_1, rfl, ez0_1⟩, -, -, -⟩ := hq_1
  have ez_1 : z_1 = (if 0 ≤ a1 ∧ a1 ≤ 1000000 then 0 else 2) := ez0_1
  have hz_1 : inR z_1 := (by rw [ez_1]; first | omega | (split <;> omega))
  show W p l e (gRm 3 66) s m args below meth c _ _ 0 0 Q (F0 m 5 ls [.int (iI z_1)])
  have hv_1 := hP.2.1
  have hf_1 := hP.2.2
  refine lv_istore_n (lv' := [(2, .int (iI z_1)), (0, .ref (ad 0)), (1, .int (iI a1))]) hx hb dX10_clock_5 rfl hl (by decide) rfl (fun ls hl => ?_)
  refine lv_iload_n hx hb dX10_clock_6 rfl (lv_at hl 0 rfl) ?_
  refine gi_zne (tgt := 17) hx hb dX10_clock_7 (by decide) (by omega) (fun c_2 => ?_) (fun c_2 => ?_)
  · refine lv_aload_n hx hb dX10_clock_17 rfl (lv_at hl 1 rfl) ?_
    refine lv_iload_n hx hb dX10_clock_18 rfl (lv_at hl 0 rfl) ?_
    refine g_cv (As := [.int (iI z_1)]) (rest := []) (n := 1) C hml (c_X10_deny l D k A ad hD v_1 f_1 g_1 z_1 (by omega)) mM_X10_140 mI_X10_deny mE_X10_deny mN_X10 mC_X10_deny (by decide +kernel) 0 (ci := 10) rfl rfl hP hS (fun _ h => h) ⟨Nat.le_of_ble_eq_true rfl, Nat.le_of_ble_eq_true rfl⟩ ⟨Nat.zero_le _, Nat.zero_le _⟩ hl.1 rfl rfl (Nat.le_of_ble_eq_true rfl) dX10_clock_19 (fun r_3 v_3 f_3 g_3 H locs hq_3 hP _ hS => ?_)
    obtain ⟨rfl, rfl, rfl, rfl⟩ := hq_3
    show W p l e (gRm 3 66) s m args below meth c _ _ 0 0 Q (F0 m 22 ls [.int (iI 0)])
    exact g_zret hQ C hr hlocks (by decide) hP hS dX10_clock_22 ⟨⟨_, rfl, (by first | omega | (split <;> omega))⟩, trivial, trivial, trivial⟩
  · refine lv_aload_n hx hb dX10_clock_10 rfl (lv_at hl 1 rfl) ?_
    refine g_cv (As := []) (rest := []) (n := 0) C hml (c_X10_grant l D k A ad hD v_1 f_1 g_1) mM_X10_160 mI_X10_grant mE_X10_grant mN_X10 mC_X10_grant (by decide +kernel) 0 (ci := 10) rfl rfl hP hS (fun _ h => h) ⟨Nat.le_of_ble_eq_true rfl, Nat.le_of_ble_eq_true rfl⟩ ⟨Nat.zero_le _, Nat.zero_le _⟩ hl.1 rfl rfl (Nat.le_of_ble_eq_true rfl) dX10_clock_11 (fun r_4 v_4 f_4 g_4 H locs hq_4 hP _ hS => ?_)
    obtain ⟨rfl, rfl, rfl, rfl⟩ := hq_4
    show W p l e (gRm 3 66) s m args below meth c _ _ 0 0 Q (F0 m 14 ls [.int (iI 1)])
    refine lv_goto (tgt := 22) hx hb dX10_clock_14 (by decide) ?_
    exact g_zret hQ C hr hlocks (by decide) hP hS dX10_clock_22 ⟨⟨_, rfl, (by first | omega | (split <;> omega))⟩, trivial, trivial, trivial⟩

set_option maxHeartbeats 4000000 in
set_option maxRecDepth 100000 in
theorem c_X10_now (l : Launch) (D : va_G) (k : Nat → ClassId) (A : Nat → Prop) (ad : Nat → Nat) (hD : rwD A k ad) (v : gV) (f g : gF) (q0 : v 0 = 0) (q1 : v 1 = 0) (q21 : v 21 = 0) (q22 : v 22 = 0) (q23 : v 23 = 0) (q25 : v 25 = 0) (q26 : v 26 = 0) (q27 : v 27 = (-1)) (q28 : v 28 = (-1)) (qf : ∀ k, f 27 k = 0) : GM l D k A (rwW k ad) yX10_now cX10_now 1 (some .int) 1 21 [.ref (ad 0)] v f g (fun r v1 f1 g1 => r = some (.int (iI 0)) ∧ True ∧ True ∧ True) := by
  refine GM.of (by decide) (Nat.le_of_ble_eq_true rfl) ?_
  intro p e s m args below meth c Q ls hQ C hml hr hlocks hP hl
  have hx := C.1
  have hb := C.2.1
  have hok := hP.2
  have hS : va_S A s.heap s.heap [] := va_S.rf
  have hl : lv_has ls 1 [(0, .ref (ad 0))] := hl
  refine lv_aload_n hx hb dX10_now_0 rfl (lv_at hl 0 rfl) ?_
  refine lv_aload_n hx hb dX10_now_1 rfl (lv_at hl 0 rfl) ?_
  refine rwG_time C hP mF_X10_114 dX10_now_2 ?_
  have r_1 := hok.1 26
  refine g_cv (As := [.int (iI (v 26))]) (rest := []) (n := 1) C hml (c_X10_answer l D k A ad hD v f g (v 26) (by omega)) mM_X10_120 mI_X10_answer mE_X10_answer mN_X10 mC_X10_answer (by decide +kernel) 0 (ci := 10) rfl rfl hP hS (fun _ h => h) ⟨Nat.le_of_ble_eq_true rfl, Nat.le_of_ble_eq_true rfl⟩ ⟨Nat.zero_le _, Nat.zero_le _⟩ hl.1 rfl rfl (Nat.le_of_ble_eq_true rfl) dX10_now_5 (fun r_2 v_2 f_2 g_2 H locs hq_2 hP _ hS => ?_)
  obtain ⟨rfl, rfl, rfl, rfl⟩ := hq_2
  show W p l e (gRm 1 21) s m args below meth c _ _ 0 0 Q (F0 m 8 ls [.int (iI (v 26))])
  exact g_iret hQ C hr hlocks hP hS dX10_now_8 ⟨(congrArg (fun z => some (Value.int (iI z))) (by first | omega | (split <;> omega))), trivial, trivial, trivial⟩

set_option maxHeartbeats 4000000 in
set_option maxRecDepth 100000 in
theorem c_X10_tried (l : Launch) (D : va_G) (k : Nat → ClassId) (A : Nat → Prop) (ad : Nat → Nat) (hD : rwD A k ad) (v : gV) (f g : gF) (a1 : Int) (a2 : Int) (h_a1 : inR a1) (h_a2 : inR a2) (q0 : v 0 = 0) (q1 : v 1 = 0) (q21 : v 21 = 0) (q22 : v 22 = 0) (q23 : v 23 = 0) (q25 : v 25 = 0) (q26 : v 26 = 0) (q27 : v 27 = (-1)) (q28 : v 28 = (-1)) (qf : ∀ k, f 27 k = 0) : GM l D k A (rwW k ad) yX10_tried cX10_tried 3 (some .int) 1 21 [.ref (ad 0), .int (iI a1), .int (iI a2)] v f g (fun r v1 f1 g1 => r = some (.int (iI (-1))) ∧ True ∧ True ∧ True) := by
  refine GM.of (by decide) (Nat.le_of_ble_eq_true rfl) ?_
  intro p e s m args below meth c Q ls hQ C hml hr hlocks hP hl
  have hx := C.1
  have hb := C.2.1
  have hok := hP.2
  have hS : va_S A s.heap s.heap [] := va_S.rf
  have hl : lv_has ls 3 [(0, .ref (ad 0)), (1, .int (iI a1)), (2, .int (iI a2))] := hl
  refine lv_aload_n hx hb dX10_tried_0 rfl (lv_at hl 0 rfl) ?_
  refine rwG_tries C hP mF_X10_44 dX10_tried_1 ?_
  refine lv_iload_n hx hb dX10_tried_4 rfl (lv_at hl 1 rfl) ?_
  refine g_cv (As := [.int (iI a1)]) (rest := []) (n := 1) C hml (c_X7_knows l D k A ad hD v f g a1 (by omega)) mM_X10_224 mI_X7_knows mE_X7_knows mN_X7 mC_X7_knows (by decide +kernel) 30 (ci := 7) rfl rfl hP hS (fun _ h => h) ⟨Nat.le_of_ble_eq_true rfl, Nat.le_of_ble_eq_true rfl⟩ ⟨Nat.zero_le _, Nat.zero_le _⟩ hl.1 rfl rfl (Nat.le_of_ble_eq_true rfl) dX10_tried_5 (fun r_1 v_1 f_1 g_1 H locs hq_1 hP _ hS => ?_)
  obtain ⟨⟨z_1, rfl, ez0_1⟩, rfl, rfl, rfl⟩ := hq_1
  have ez_1 : z_1 = (if 0 ≤ a1 ∧ a1 < v 23 then 1 else 0) := ez0_1
  have w_1 := gif (P := 0 ≤ a1 ∧ a1 < v 23) ez_1
  have hz_1 : inR z_1 := (by omega)
  show W p l e (gRm 1 21) s m args below meth c _ _ 0 0 Q (F0 m 8 ls [.int (iI z_1)])
  have k_1 : z_1 = 0 := by omega
  refine gi_zne (tgt := 17) hx hb dX10_tried_8 (by decide) (by omega) (fun c_2 => ?_) (fun c_2 => ?_)
  · exfalso; omega
  · refine lv_aload_n hx hb dX10_tried_11 rfl (lv_at hl 0 rfl) ?_
    refine lv_iconst (v := iI 1) hx hb dX10_tried_12 rfl ?_
    refine g_cv (As := [.int (iI 1)]) (rest := []) (n := 1) C hml (c_X10_refuse l D k A ad hD v f g 1 (by decide)) mM_X10_88 mI_X10_refuse mE_X10_refuse mN_X10 mC_X10_refuse (by decide +kernel) 0 (ci := 10) rfl rfl hP hS (fun _ h => h) ⟨Nat.le_of_ble_eq_true rfl, Nat.le_of_ble_eq_true rfl⟩ ⟨Nat.zero_le _, Nat.zero_le _⟩ hl.1 rfl rfl (Nat.le_of_ble_eq_true rfl) dX10_tried_13 (fun r_3 v_3 f_3 g_3 H locs hq_3 hP _ hS => ?_)
    obtain ⟨rfl, rfl, rfl, rfl⟩ := hq_3
    show W p l e (gRm 1 21) s m args below meth c _ _ 0 0 Q (F0 m 16 ls [.int (iI (-1))])
    exact g_iret hQ C hr hlocks hP hS dX10_tried_16 ⟨rfl, trivial, trivial, trivial⟩

set_option maxHeartbeats 4000000 in
set_option maxRecDepth 100000 in
theorem c_X10_seen (l : Launch) (D : va_G) (k : Nat → ClassId) (A : Nat → Prop) (ad : Nat → Nat) (hD : rwD A k ad) (v : gV) (f g : gF) (a1 : Int) (a2 : Int) (h_a1 : inR a1) (h_a2 : inR a2) (q0 : v 0 = 0) (q1 : v 1 = 0) (q21 : v 21 = 0) (q22 : v 22 = 0) (q23 : v 23 = 0) (q25 : v 25 = 0) (q26 : v 26 = 0) (q27 : v 27 = (-1)) (q28 : v 28 = (-1)) (qf : ∀ k, f 27 k = 0) : GM l D k A (rwW k ad) yX10_seen cX10_seen 3 (some .int) 1 21 [.ref (ad 0), .int (iI a1), .int (iI a2)] v f g (fun r v1 f1 g1 => r = some (.int (iI (-1))) ∧ True ∧ True ∧ True) := by
  refine GM.of (by decide) (Nat.le_of_ble_eq_true rfl) ?_
  intro p e s m args below meth c Q ls hQ C hml hr hlocks hP hl
  have hx := C.1
  have hb := C.2.1
  have hok := hP.2
  have hS : va_S A s.heap s.heap [] := va_S.rf
  have hl : lv_has ls 3 [(0, .ref (ad 0)), (1, .int (iI a1)), (2, .int (iI a2))] := hl
  refine lv_aload_n hx hb dX10_seen_0 rfl (lv_at hl 0 rfl) ?_
  refine rwG_field C hP mF_X10_37 dX10_seen_1 ?_
  refine lv_iload_n hx hb dX10_seen_4 rfl (lv_at hl 1 rfl) ?_
  refine g_cv (As := [.int (iI a1)]) (rest := []) (n := 1) C hml (c_X2_knows l D k A ad hD v f g a1 (by omega)) mM_X10_180 mI_X2_knows mE_X2_knows mN_X2 mC_X2_knows (by decide +kernel) 27 (ci := 2) rfl rfl hP hS (fun _ h => h) ⟨Nat.le_of_ble_eq_true rfl, Nat.le_of_ble_eq_true rfl⟩ ⟨Nat.zero_le _, Nat.zero_le _⟩ hl.1 rfl rfl (Nat.le_of_ble_eq_true rfl) dX10_seen_5 (fun r_1 v_1 f_1 g_1 H locs hq_1 hP _ hS => ?_)
  obtain ⟨⟨z_1, rfl, ez0_1⟩, rfl, rfl, rfl⟩ := hq_1
  have ez_1 : z_1 = (if 0 ≤ a1 ∧ a1 < v 21 then 1 else 0) := ez0_1
  have w_1 := gif (P := 0 ≤ a1 ∧ a1 < v 21) ez_1
  have hz_1 : inR z_1 := (by omega)
  show W p l e (gRm 1 21) s m args below meth c _ _ 0 0 Q (F0 m 8 ls [.int (iI z_1)])
  have k_1 : z_1 = 0 := by omega
  refine gi_zeq (tgt := 29) hx hb dX10_seen_8 (by decide) (by omega) (fun c_2 => ?_) (fun c_2 => ?_)
  · refine lv_aload_n hx hb dX10_seen_29 rfl (lv_at hl 0 rfl) ?_
    refine lv_iconst (v := iI 1) hx hb dX10_seen_30 rfl ?_
    refine g_cv (As := [.int (iI 1)]) (rest := []) (n := 1) C hml (c_X10_refuse l D k A ad hD v f g 1 (by decide)) mM_X10_88 mI_X10_refuse mE_X10_refuse mN_X10 mC_X10_refuse (by decide +kernel) 0 (ci := 10) rfl rfl hP hS (fun _ h => h) ⟨Nat.le_of_ble_eq_true rfl, Nat.le_of_ble_eq_true rfl⟩ ⟨Nat.zero_le _, Nat.zero_le _⟩ hl.1 rfl rfl (Nat.le_of_ble_eq_true rfl) dX10_seen_31 (fun r_3 v_3 f_3 g_3 H locs hq_3 hP _ hS => ?_)
    obtain ⟨rfl, rfl, rfl, rfl⟩ := hq_3
    show W p l e (gRm 1 21) s m args below meth c _ _ 0 0 Q (F0 m 34 ls [.int (iI (-1))])
    exact g_iret hQ C hr hlocks hP hS dX10_seen_34 ⟨rfl, trivial, trivial, trivial⟩
  · exfalso; omega

set_option maxHeartbeats 4000000 in
set_option maxRecDepth 100000 in
theorem c_X10_ready (l : Launch) (D : va_G) (k : Nat → ClassId) (A : Nat → Prop) (ad : Nat → Nat) (hD : rwD A k ad) (v : gV) (f g : gF) (a1 : Int) (h_a1 : inR a1) (q0 : v 0 = 0) (q1 : v 1 = 0) (q21 : v 21 = 0) (q22 : v 22 = 0) (q23 : v 23 = 0) (q25 : v 25 = 0) (q26 : v 26 = 0) (q27 : v 27 = (-1)) (q28 : v 28 = (-1)) (qf : ∀ k, f 27 k = 0) : GM l D k A (rwW k ad) yX10_ready cX10_ready 2 (some .int) 1 21 [.ref (ad 0), .int (iI a1)] v f g (fun r v1 f1 g1 => r = some (.int (iI (-1))) ∧ True ∧ True ∧ True) := by
  refine GM.of (by decide) (Nat.le_of_ble_eq_true rfl) ?_
  intro p e s m args below meth c Q ls hQ C hml hr hlocks hP hl
  have hx := C.1
  have hb := C.2.1
  have hok := hP.2
  have hS : va_S A s.heap s.heap [] := va_S.rf
  have hl : lv_has ls 2 [(0, .ref (ad 0)), (1, .int (iI a1))] := hl
  refine lv_aload_n hx hb dX10_ready_0 rfl (lv_at hl 0 rfl) ?_
  refine rwG_field C hP mF_X10_37 dX10_ready_1 ?_
  refine lv_iload_n hx hb dX10_ready_4 rfl (lv_at hl 1 rfl) ?_
  refine g_cv (As := [.int (iI a1)]) (rest := []) (n := 1) C hml (c_X2_knows l D k A ad hD v f g a1 (by omega)) mM_X10_180 mI_X2_knows mE_X2_knows mN_X2 mC_X2_knows (by decide +kernel) 27 (ci := 2) rfl rfl hP hS (fun _ h => h) ⟨Nat.le_of_ble_eq_true rfl, Nat.le_of_ble_eq_true rfl⟩ ⟨Nat.zero_le _, Nat.zero_le _⟩ hl.1 rfl rfl (Nat.le_of_ble_eq_true rfl) dX10_ready_5 (fun r_1 v_1 f_1 g_1 H locs hq_1 hP _ hS => ?_)
  obtain ⟨⟨z_1, rfl, ez0_1⟩, rfl, rfl, rfl⟩ := hq_1
  have ez_1 : z_1 = (if 0 ≤ a1 ∧ a1 < v 21 then 1 else 0) := ez0_1
  have w_1 := gif (P := 0 ≤ a1 ∧ a1 < v 21) ez_1
  have hz_1 : inR z_1 := (by omega)
  show W p l e (gRm 1 21) s m args below meth c _ _ 0 0 Q (F0 m 8 ls [.int (iI z_1)])
  have k_1 : z_1 = 0 := by omega
  refine gi_zne (tgt := 17) hx hb dX10_ready_8 (by decide) (by omega) (fun c_2 => ?_) (fun c_2 => ?_)
  · exfalso; omega
  · refine lv_aload_n hx hb dX10_ready_11 rfl (lv_at hl 0 rfl) ?_
    refine lv_iconst (v := iI 1) hx hb dX10_ready_12 rfl ?_
    refine g_cv (As := [.int (iI 1)]) (rest := []) (n := 1) C hml (c_X10_refuse l D k A ad hD v f g 1 (by decide)) mM_X10_88 mI_X10_refuse mE_X10_refuse mN_X10 mC_X10_refuse (by decide +kernel) 0 (ci := 10) rfl rfl hP hS (fun _ h => h) ⟨Nat.le_of_ble_eq_true rfl, Nat.le_of_ble_eq_true rfl⟩ ⟨Nat.zero_le _, Nat.zero_le _⟩ hl.1 rfl rfl (Nat.le_of_ble_eq_true rfl) dX10_ready_13 (fun r_3 v_3 f_3 g_3 H locs hq_3 hP _ hS => ?_)
    obtain ⟨rfl, rfl, rfl, rfl⟩ := hq_3
    show W p l e (gRm 1 21) s m args below meth c _ _ 0 0 Q (F0 m 16 ls [.int (iI (-1))])
    exact g_iret hQ C hr hlocks hP hS dX10_ready_16 ⟨rfl, trivial, trivial, trivial⟩

set_option maxHeartbeats 4000000 in
set_option maxRecDepth 100000 in
theorem c_X10_appeal (l : Launch) (D : va_G) (k : Nat → ClassId) (A : Nat → Prop) (ad : Nat → Nat) (hD : rwD A k ad) (v : gV) (f g : gF) (a1 : Int) (a2 : Int) (a3 : Int) (h_a1 : inR a1) (h_a2 : inR a2) (h_a3 : inR a3) (q0 : v 0 = 0) (q1 : v 1 = 0) (q21 : v 21 = 0) (q22 : v 22 = 0) (q23 : v 23 = 0) (q25 : v 25 = 0) (q26 : v 26 = 0) (q27 : v 27 = (-1)) (q28 : v 28 = (-1)) (qf : ∀ k, f 27 k = 0) : GM l D k A (rwW k ad) yX10_appeal cX10_appeal 5 (some .boolean) 1 21 [.ref (ad 0), .int (iI a1), .int (iI a2), .int (iI a3)] v f g (fun r v1 f1 g1 => r = some (.int (iI 0)) ∧ True ∧ True ∧ True) := by
  refine GM.of (by decide) (Nat.le_of_ble_eq_true rfl) ?_
  intro p e s m args below meth c Q ls hQ C hml hr hlocks hP hl
  have hx := C.1
  have hb := C.2.1
  have hok := hP.2
  have hS : va_S A s.heap s.heap [] := va_S.rf
  have hl : lv_has ls 5 [(0, .ref (ad 0)), (1, .int (iI a1)), (2, .int (iI a2)), (3, .int (iI a3))] := hl
  refine lv_aload_n hx hb dX10_appeal_0 rfl (lv_at hl 0 rfl) ?_
  refine rwG_tries C hP mF_X10_44 dX10_appeal_1 ?_
  refine lv_iload_n hx hb dX10_appeal_4 rfl (lv_at hl 1 rfl) ?_
  refine g_cv (As := [.int (iI a1)]) (rest := []) (n := 1) C hml (c_X7_knows l D k A ad hD v f g a1 (by omega)) mM_X10_224 mI_X7_knows mE_X7_knows mN_X7 mC_X7_knows (by decide +kernel) 30 (ci := 7) rfl rfl hP hS (fun _ h => h) ⟨Nat.le_of_ble_eq_true rfl, Nat.le_of_ble_eq_true rfl⟩ ⟨Nat.zero_le _, Nat.zero_le _⟩ hl.1 rfl rfl (Nat.le_of_ble_eq_true rfl) dX10_appeal_5 (fun r_1 v_1 f_1 g_1 H locs hq_1 hP _ hS => ?_)
  obtain ⟨⟨z_1, rfl, ez0_1⟩, rfl, rfl, rfl⟩ := hq_1
  have ez_1 : z_1 = (if 0 ≤ a1 ∧ a1 < v 23 then 1 else 0) := ez0_1
  have w_1 := gif (P := 0 ≤ a1 ∧ a1 < v 23) ez_1
  have hz_1 : inR z_1 := (by omega)
  show W p l e (gRm 1 21) s m args below meth c _ _ 0 0 Q (F0 m 8 ls [.int (iI z_1)])
  have k_1 : z_1 = 0 := by omega
  refine gi_zne (tgt := 17) hx hb dX10_appeal_8 (by decide) (by omega) (fun c_2 => ?_) (fun c_2 => ?_)
  · exfalso; omega
  · refine lv_aload_n hx hb dX10_appeal_11 rfl (lv_at hl 0 rfl) ?_
    refine lv_iconst (v := iI 1) hx hb dX10_appeal_12 rfl ?_
    refine g_cv (As := [.int (iI 1)]) (rest := []) (n := 1) C hml (c_X10_deny l D k A ad hD v f g 1 (by decide)) mM_X10_140 mI_X10_deny mE_X10_deny mN_X10 mC_X10_deny (by decide +kernel) 0 (ci := 10) rfl rfl hP hS (fun _ h => h) ⟨Nat.le_of_ble_eq_true rfl, Nat.le_of_ble_eq_true rfl⟩ ⟨Nat.zero_le _, Nat.zero_le _⟩ hl.1 rfl rfl (Nat.le_of_ble_eq_true rfl) dX10_appeal_13 (fun r_3 v_3 f_3 g_3 H locs hq_3 hP _ hS => ?_)
    obtain ⟨rfl, rfl, rfl, rfl⟩ := hq_3
    show W p l e (gRm 1 21) s m args below meth c _ _ 0 0 Q (F0 m 16 ls [.int (iI 0)])
    exact g_zret hQ C hr hlocks (by decide) hP hS dX10_appeal_16 ⟨rfl, trivial, trivial, trivial⟩

set_option maxHeartbeats 4000000 in
set_option maxRecDepth 100000 in
theorem c_X10_of (l : Launch) (D : va_G) (k : Nat → ClassId) (A : Nat → Prop) (ad : Nat → Nat) (hD : rwD A k ad) (v : gV) (f g : gF) (a1 : Int) (a2 : Int) (a3 : Int) (a4 : Int) (a5 : Int) (h_a1 : inR a1) (h_a2 : inR a2) (h_a3 : inR a3) (h_a4 : inR a4) (h_a5 : inR a5) (q0 : v 0 = 0) (q1 : v 1 = 0) (q21 : v 21 = 0) (q22 : v 22 = 0) (q23 : v 23 = 0) (q25 : v 25 = 0) (q26 : v 26 = 0) (q27 : v 27 = (-1)) (q28 : v 28 = (-1)) (qf : ∀ k, f 27 k = 0) : GM l D k A (rwW k ad) yX10_of cX10_of 6 (some .int) 2 43 [.ref (ad 0), .int (iI a1), .int (iI a2), .int (iI a3), .int (iI a4), .int (iI a5)] v f g (fun r v1 f1 g1 => r = some (.int (iI (-1))) ∧ True ∧ True ∧ True) := by
  refine GM.of (by decide) (Nat.le_of_ble_eq_true rfl) ?_
  intro p e s m args below meth c Q ls hQ C hml hr hlocks hP hl
  have hx := C.1
  have hb := C.2.1
  have hok := hP.2
  have hS : va_S A s.heap s.heap [] := va_S.rf
  have hl : lv_has ls 6 [(0, .ref (ad 0)), (1, .int (iI a1)), (2, .int (iI a2)), (3, .int (iI a3)), (4, .int (iI a4)), (5, .int (iI a5))] := hl
  refine lv_aload_n hx hb dX10_of_0 rfl (lv_at hl 0 rfl) ?_
  refine rwG_laws C hP mF_X10_16 dX10_of_1 ?_
  refine lv_iload_n hx hb dX10_of_4 rfl (lv_at hl 1 rfl) ?_
  refine lv_iload_n hx hb dX10_of_5 rfl (lv_at hl 2 rfl) ?_
  refine g_cv (As := [.int (iI a1), .int (iI a2)]) (rest := []) (n := 2) C hml (c_X4_hasRoute l D k A ad hD v f g a1 a2 (by omega) (by omega) (show v 1 ≤ 4 from by omega)) mM_X10_136 mI_X4_hasRoute mE_X4_hasRoute mN_X4 mC_X4_hasRoute (by decide +kernel) 2 (ci := 4) rfl rfl hP hS (fun _ h => h) ⟨Nat.le_of_ble_eq_true rfl, Nat.le_of_ble_eq_true rfl⟩ ⟨Nat.zero_le _, Nat.zero_le _⟩ hl.1 rfl rfl (Nat.le_of_ble_eq_true rfl) dX10_of_6 (fun r_1 v_1 f_1 g_1 H locs hq_1 hP _ hS => ?_)
  obtain ⟨⟨z_1, rfl, ez0_1⟩, rfl, rfl, rfl⟩ := hq_1
  have ez_1 : z_1 = (if (0 ≤ a1 ∧ a1 < v 1) ∧ 0 ≤ a2 ∧ a2 < f 1 (a1 * 4) then 1 else 0) := ez0_1
  have w_1 := gif (P := (0 ≤ a1 ∧ a1 < v 1) ∧ 0 ≤ a2 ∧ a2 < f 1 (a1 * 4)) ez_1
  have hz_1 : inR z_1 := (by omega)
  show W p l e (gRm 2 43) s m args below meth c _ _ 0 0 Q (F0 m 9 ls [.int (iI z_1)])
  have k_1 : z_1 = 0 := by omega
  refine gi_zeq (tgt := 23) hx hb dX10_of_9 (by decide) (by omega) (fun c_2 => ?_) (fun c_2 => ?_)
  · refine lv_aload_n hx hb dX10_of_23 rfl (lv_at hl 0 rfl) ?_
    refine lv_iconst (v := iI 1) hx hb dX10_of_24 rfl ?_
    refine g_cv (As := [.int (iI 1)]) (rest := []) (n := 1) C hml (c_X10_refuse l D k A ad hD v f g 1 (by decide)) mM_X10_88 mI_X10_refuse mE_X10_refuse mN_X10 mC_X10_refuse (by decide +kernel) 0 (ci := 10) rfl rfl hP hS (fun _ h => h) ⟨Nat.le_of_ble_eq_true rfl, Nat.le_of_ble_eq_true rfl⟩ ⟨Nat.zero_le _, Nat.zero_le _⟩ hl.1 rfl rfl (Nat.le_of_ble_eq_true rfl) dX10_of_25 (fun r_3 v_3 f_3 g_3 H locs hq_3 hP _ hS => ?_)
    obtain ⟨rfl, rfl, rfl, rfl⟩ := hq_3
    show W p l e (gRm 2 43) s m args below meth c _ _ 0 0 Q (F0 m 28 ls [.int (iI (-1))])
    exact g_iret hQ C hr hlocks hP hS dX10_of_28 ⟨rfl, trivial, trivial, trivial⟩
  · exfalso; omega

set_option maxHeartbeats 4000000 in
set_option maxRecDepth 100000 in
theorem c_X10_key (l : Launch) (D : va_G) (k : Nat → ClassId) (A : Nat → Prop) (ad : Nat → Nat) (hD : rwD A k ad) (v : gV) (f g : gF) (a1 : Int) (a2 : Int) (a3 : Int) (a4 : Int) (h_a1 : inR a1) (h_a2 : inR a2) (h_a3 : inR a3) (h_a4 : inR a4) (q0 : v 0 = 0) (q1 : v 1 = 0) (q21 : v 21 = 0) (q22 : v 22 = 0) (q23 : v 23 = 0) (q25 : v 25 = 0) (q26 : v 26 = 0) (q27 : v 27 = (-1)) (q28 : v 28 = (-1)) (qf : ∀ k, f 27 k = 0) : GM l D k A (rwW k ad) yX10_key cX10_key 5 (some .long) 1 21 [.ref (ad 0), .int (iI a1), .int (iI a2), .int (iI a3), .int (iI a4)] v f g (fun r v1 f1 g1 => r = some (.long (iL (-1))) ∧ True ∧ True ∧ True) := by
  refine GM.of (by decide) (Nat.le_of_ble_eq_true rfl) ?_
  intro p e s m args below meth c Q ls hQ C hml hr hlocks hP hl
  have hx := C.1
  have hb := C.2.1
  have hok := hP.2
  have hS : va_S A s.heap s.heap [] := va_S.rf
  have hl : lv_has ls 5 [(0, .ref (ad 0)), (1, .int (iI a1)), (2, .int (iI a2)), (3, .int (iI a3)), (4, .int (iI a4))] := hl
  refine lv_aload_n hx hb dX10_key_0 rfl (lv_at hl 0 rfl) ?_
  refine rwG_laws C hP mF_X10_16 dX10_key_1 ?_
  refine lv_iload_n hx hb dX10_key_4 rfl (lv_at hl 1 rfl) ?_
  refine g_cv (As := [.int (iI a1)]) (rest := []) (n := 1) C hml (c_X4_hasRound l D k A ad hD v f g a1 (by omega)) mM_X10_164 mI_X4_hasRound mE_X4_hasRound mN_X4 mC_X4_hasRound (by decide +kernel) 2 (ci := 4) rfl rfl hP hS (fun _ h => h) ⟨Nat.le_of_ble_eq_true rfl, Nat.le_of_ble_eq_true rfl⟩ ⟨Nat.zero_le _, Nat.zero_le _⟩ hl.1 rfl rfl (Nat.le_of_ble_eq_true rfl) dX10_key_5 (fun r_1 v_1 f_1 g_1 H locs hq_1 hP _ hS => ?_)
  obtain ⟨⟨z_1, rfl, ez0_1⟩, rfl, rfl, rfl⟩ := hq_1
  have ez_1 : z_1 = (if 0 ≤ a1 ∧ a1 < v 1 then 1 else 0) := ez0_1
  have w_1 := gif (P := 0 ≤ a1 ∧ a1 < v 1) ez_1
  have hz_1 : inR z_1 := (by omega)
  show W p l e (gRm 1 21) s m args below meth c _ _ 0 0 Q (F0 m 8 ls [.int (iI z_1)])
  have k_1 : z_1 = 0 := by omega
  refine gi_zeq (tgt := 40) hx hb dX10_key_8 (by decide) (by omega) (fun c_2 => ?_) (fun c_2 => ?_)
  · refine lv_aload_n hx hb dX10_key_40 rfl (lv_at hl 0 rfl) ?_
    refine lv_iconst (v := iI 1) hx hb dX10_key_41 rfl ?_
    refine g_cv (As := [.int (iI 1)]) (rest := []) (n := 1) C hml (c_X10_refuse l D k A ad hD v f g 1 (by decide)) mM_X10_88 mI_X10_refuse mE_X10_refuse mN_X10 mC_X10_refuse (by decide +kernel) 0 (ci := 10) rfl rfl hP hS (fun _ h => h) ⟨Nat.le_of_ble_eq_true rfl, Nat.le_of_ble_eq_true rfl⟩ ⟨Nat.zero_le _, Nat.zero_le _⟩ hl.1 rfl rfl (Nat.le_of_ble_eq_true rfl) dX10_key_42 (fun r_3 v_3 f_3 g_3 H locs hq_3 hP _ hS => ?_)
    obtain ⟨rfl, rfl, rfl, rfl⟩ := hq_3
    show W p l e (gRm 1 21) s m args below meth c _ _ 0 0 Q (F0 m 45 ls [.int (iI (-1))])
    refine gi_i2l hx hb (by decide) dX10_key_45 ?_
    exact g_lret hQ C hr hlocks hP hS dX10_key_46 ⟨rfl, trivial, trivial, trivial⟩
  · exfalso; omega

set_option maxHeartbeats 4000000 in
set_option maxRecDepth 100000 in
theorem c_X10_rank (l : Launch) (D : va_G) (k : Nat → ClassId) (A : Nat → Prop) (ad : Nat → Nat) (hD : rwD A k ad) (v : gV) (f g : gF) (a1 : Int) (a2 : Int) (a3 : Int) (h_a1 : inR a1) (h_a2 : inR a2) (h_a3 : inR a3) (q0 : v 0 = 0) (q1 : v 1 = 0) (q21 : v 21 = 0) (q22 : v 22 = 0) (q23 : v 23 = 0) (q25 : v 25 = 0) (q26 : v 26 = 0) (q27 : v 27 = (-1)) (q28 : v 28 = (-1)) (qf : ∀ k, f 27 k = 0) : GM l D k A (rwW k ad) yX10_rank cX10_rank 4 (some .int) 1 21 [.ref (ad 0), .int (iI a1), .int (iI a2), .int (iI a3)] v f g (fun r v1 f1 g1 => r = some (.int (iI (-1))) ∧ True ∧ True ∧ True) := by
  refine GM.of (by decide) (Nat.le_of_ble_eq_true rfl) ?_
  intro p e s m args below meth c Q ls hQ C hml hr hlocks hP hl
  have hx := C.1
  have hb := C.2.1
  have hok := hP.2
  have hS : va_S A s.heap s.heap [] := va_S.rf
  have hl : lv_has ls 4 [(0, .ref (ad 0)), (1, .int (iI a1)), (2, .int (iI a2)), (3, .int (iI a3))] := hl
  refine lv_aload_n hx hb dX10_rank_0 rfl (lv_at hl 0 rfl) ?_
  refine rwG_laws C hP mF_X10_16 dX10_rank_1 ?_
  refine lv_iload_n hx hb dX10_rank_4 rfl (lv_at hl 1 rfl) ?_
  refine g_cv (As := [.int (iI a1)]) (rest := []) (n := 1) C hml (c_X4_hasRound l D k A ad hD v f g a1 (by omega)) mM_X10_164 mI_X4_hasRound mE_X4_hasRound mN_X4 mC_X4_hasRound (by decide +kernel) 2 (ci := 4) rfl rfl hP hS (fun _ h => h) ⟨Nat.le_of_ble_eq_true rfl, Nat.le_of_ble_eq_true rfl⟩ ⟨Nat.zero_le _, Nat.zero_le _⟩ hl.1 rfl rfl (Nat.le_of_ble_eq_true rfl) dX10_rank_5 (fun r_1 v_1 f_1 g_1 H locs hq_1 hP _ hS => ?_)
  obtain ⟨⟨z_1, rfl, ez0_1⟩, rfl, rfl, rfl⟩ := hq_1
  have ez_1 : z_1 = (if 0 ≤ a1 ∧ a1 < v 1 then 1 else 0) := ez0_1
  have w_1 := gif (P := 0 ≤ a1 ∧ a1 < v 1) ez_1
  have hz_1 : inR z_1 := (by omega)
  show W p l e (gRm 1 21) s m args below meth c _ _ 0 0 Q (F0 m 8 ls [.int (iI z_1)])
  have k_1 : z_1 = 0 := by omega
  refine gi_zeq (tgt := 23) hx hb dX10_rank_8 (by decide) (by omega) (fun c_2 => ?_) (fun c_2 => ?_)
  · refine lv_aload_n hx hb dX10_rank_23 rfl (lv_at hl 0 rfl) ?_
    refine lv_iconst (v := iI 1) hx hb dX10_rank_24 rfl ?_
    refine g_cv (As := [.int (iI 1)]) (rest := []) (n := 1) C hml (c_X10_refuse l D k A ad hD v f g 1 (by decide)) mM_X10_88 mI_X10_refuse mE_X10_refuse mN_X10 mC_X10_refuse (by decide +kernel) 0 (ci := 10) rfl rfl hP hS (fun _ h => h) ⟨Nat.le_of_ble_eq_true rfl, Nat.le_of_ble_eq_true rfl⟩ ⟨Nat.zero_le _, Nat.zero_le _⟩ hl.1 rfl rfl (Nat.le_of_ble_eq_true rfl) dX10_rank_25 (fun r_3 v_3 f_3 g_3 H locs hq_3 hP _ hS => ?_)
    obtain ⟨rfl, rfl, rfl, rfl⟩ := hq_3
    show W p l e (gRm 1 21) s m args below meth c _ _ 0 0 Q (F0 m 28 ls [.int (iI (-1))])
    exact g_iret hQ C hr hlocks hP hS dX10_rank_28 ⟨rfl, trivial, trivial, trivial⟩
  · exfalso; omega

set_option maxHeartbeats 4000000 in
set_option maxRecDepth 100000 in
theorem c_X10_advance (l : Launch) (D : va_G) (k : Nat → ClassId) (A : Nat → Prop) (ad : Nat → Nat) (hD : rwD A k ad) (v : gV) (f g : gF) (a1 : Int) (a2 : Int) (h_a1 : inR a1) (h_a2 : inR a2) (q0 : v 0 = 0) (q1 : v 1 = 0) (q21 : v 21 = 0) (q22 : v 22 = 0) (q23 : v 23 = 0) (q25 : v 25 = 0) (q26 : v 26 = 0) (q27 : v 27 = (-1)) (q28 : v 28 = (-1)) (qf : ∀ k, f 27 k = 0) : GM l D k A (rwW k ad) yX10_advance cX10_advance 4 (some .int) 1 21 [.ref (ad 0), .int (iI a1), .int (iI a2)] v f g (fun r v1 f1 g1 => r = some (.int (iI (-1))) ∧ True ∧ True ∧ True) := by
  refine GM.of (by decide) (Nat.le_of_ble_eq_true rfl) ?_
  intro p e s m args below meth c Q ls hQ C hml hr hlocks hP hl
  have hx := C.1
  have hb := C.2.1
  have hok := hP.2
  have hS : va_S A s.heap s.heap [] := va_S.rf
  have hl : lv_has ls 4 [(0, .ref (ad 0)), (1, .int (iI a1)), (2, .int (iI a2))] := hl
  refine lv_iload_n hx hb dX10_advance_0 rfl (lv_at hl 1 rfl) ?_
  refine lv_iconst (v := iI 1) hx hb dX10_advance_1 rfl ?_
  refine gi_clt (tgt := 18) hx hb dX10_advance_2 (by decide) (by omega) (by decide) (fun c_1 => ?_) (fun c_1 => ?_)
  · refine lv_aload_n hx hb dX10_advance_18 rfl (lv_at hl 0 rfl) ?_
    refine lv_iconst (v := iI 2) hx hb dX10_advance_19 rfl ?_
    refine g_cv (As := [.int (iI 2)]) (rest := []) (n := 1) C hml (c_X10_refuse l D k A ad hD v f g 2 (by decide)) mM_X10_88 mI_X10_refuse mE_X10_refuse mN_X10 mC_X10_refuse (by decide +kernel) 0 (ci := 10) rfl rfl hP hS (fun _ h => h) ⟨Nat.le_of_ble_eq_true rfl, Nat.le_of_ble_eq_true rfl⟩ ⟨Nat.zero_le _, Nat.zero_le _⟩ hl.1 rfl rfl (Nat.le_of_ble_eq_true rfl) dX10_advance_20 (fun r_2 v_2 f_2 g_2 H locs hq_2 hP _ hS => ?_)
    obtain ⟨rfl, rfl, rfl, rfl⟩ := hq_2
    show W p l e (gRm 1 21) s m args below meth c _ _ 0 0 Q (F0 m 23 ls [.int (iI (-1))])
    exact g_iret hQ C hr hlocks hP hS dX10_advance_23 ⟨rfl, trivial, trivial, trivial⟩
  · refine lv_iload_n hx hb dX10_advance_5 rfl (lv_at hl 1 rfl) ?_
    refine lv_bipush (v := iI 16) hx hb dX10_advance_6 (by decide) ?_
    refine gi_cgt (tgt := 18) hx hb dX10_advance_8 (by decide) (by omega) (by decide) (fun c_3 => ?_) (fun c_3 => ?_)
    · refine lv_aload_n hx hb dX10_advance_18 rfl (lv_at hl 0 rfl) ?_
      refine lv_iconst (v := iI 2) hx hb dX10_advance_19 rfl ?_
      refine g_cv (As := [.int (iI 2)]) (rest := []) (n := 1) C hml (c_X10_refuse l D k A ad hD v f g 2 (by decide)) mM_X10_88 mI_X10_refuse mE_X10_refuse mN_X10 mC_X10_refuse (by decide +kernel) 0 (ci := 10) rfl rfl hP hS (fun _ h => h) ⟨Nat.le_of_ble_eq_true rfl, Nat.le_of_ble_eq_true rfl⟩ ⟨Nat.zero_le _, Nat.zero_le _⟩ hl.1 rfl rfl (Nat.le_of_ble_eq_true rfl) dX10_advance_20 (fun r_4 v_4 f_4 g_4 H locs hq_4 hP _ hS => ?_)
      obtain ⟨rfl, rfl, rfl, rfl⟩ := hq_4
      show W p l e (gRm 1 21) s m args below meth c _ _ 0 0 Q (F0 m 23 ls [.int (iI (-1))])
      exact g_iret hQ C hr hlocks hP hS dX10_advance_23 ⟨rfl, trivial, trivial, trivial⟩
    · refine lv_iload_n hx hb dX10_advance_11 rfl (lv_at hl 2 rfl) ?_
      refine g_cs (As := [.int (iI a2)]) (rest := []) (n := 1) C hml (c_X10_isDay l D k A ad hD v f g a2 (by omega)) mM_X10_248 mS_X10_isDay mN_X10 mC_X10_isDay (by decide +kernel) hP hS (fun _ h => h) ⟨Nat.le_of_ble_eq_true rfl, Nat.le_of_ble_eq_true rfl⟩ ⟨Nat.zero_le _, Nat.zero_le _⟩ hl.1 rfl rfl (Nat.le_of_ble_eq_true rfl) dX10_advance_12 (fun r_5 v_5 f_5 g_5 H locs hq_5 hP _ hS => ?_)
      obtain ⟨⟨z_5, rfl, ez0_5⟩, rfl, rfl, rfl⟩ := hq_5
      have ez_5 : z_5 = (if 0 ≤ a2 ∧ a2 ≤ 999 then 1 else 0) := ez0_5
      have w_5 := gif (P := 0 ≤ a2 ∧ a2 ≤ 999) ez_5
      have hz_5 : inR z_5 := (by omega)
      show W p l e (gRm 1 21) s m args below meth c _ _ 0 0 Q (F0 m 15 ls [.int (iI z_5)])
      refine gi_zne (tgt := 24) hx hb dX10_advance_15 (by decide) (by omega) (fun c_6 => ?_) (fun c_6 => ?_)
      · refine lv_aload_n hx hb dX10_advance_24 rfl (lv_at hl 0 rfl) ?_
        refine rwG_tries C hP mF_X10_44 dX10_advance_25 ?_
        refine g_cv (As := []) (rest := []) (n := 0) C hml (c_X7_anyOpen l D k A ad hD v f g qf) mM_X10_287 mI_X7_anyOpen mE_X7_anyOpen mN_X7 mC_X7_anyOpen (by decide +kernel) 30 (ci := 7) rfl rfl hP hS (fun _ h => h) ⟨Nat.le_of_ble_eq_true rfl, Nat.le_of_ble_eq_true rfl⟩ ⟨Nat.zero_le _, Nat.zero_le _⟩ hl.1 rfl rfl (Nat.le_of_ble_eq_true rfl) dX10_advance_28 (fun r_7 v_7 f_7 g_7 H locs hq_7 hP _ hS => ?_)
        obtain ⟨rfl, rfl, rfl, rfl⟩ := hq_7
        show W p l e (gRm 1 21) s m args below meth c _ _ 0 0 Q (F0 m 31 ls [.int (iI 0)])
        refine gi_zeq (tgt := 40) hx hb dX10_advance_31 (by decide) (by decide) (fun c_8 => ?_) (fun c_8 => ?_)
        · refine lv_aload_n hx hb dX10_advance_40 rfl (lv_at hl 0 rfl) ?_
          refine rwG_field C hP mF_X10_37 dX10_advance_41 ?_
          refine rwG_field_climbers C hP mF_X10_123 dX10_advance_44 ?_
          have r_9 := hok.1 21
          refine gi_zeq (tgt := 69) hx hb dX10_advance_47 (by decide) (by omega) (fun c_10 => ?_) (fun c_10 => ?_)
          · refine lv_aload_n hx hb dX10_advance_69 rfl (lv_at hl 0 rfl) ?_
            refine lv_bipush (v := iI 10) hx hb dX10_advance_70 (by decide) ?_
            refine g_cv (As := [.int (iI 10)]) (rest := []) (n := 1) C hml (c_X10_refuse l D k A ad hD v f g 10 (by decide)) mM_X10_88 mI_X10_refuse mE_X10_refuse mN_X10 mC_X10_refuse (by decide +kernel) 0 (ci := 10) rfl rfl hP hS (fun _ h => h) ⟨Nat.le_of_ble_eq_true rfl, Nat.le_of_ble_eq_true rfl⟩ ⟨Nat.zero_le _, Nat.zero_le _⟩ hl.1 rfl rfl (Nat.le_of_ble_eq_true rfl) dX10_advance_72 (fun r_11 v_11 f_11 g_11 H locs hq_11 hP _ hS => ?_)
            obtain ⟨rfl, rfl, rfl, rfl⟩ := hq_11
            show W p l e (gRm 1 21) s m args below meth c _ _ 0 0 Q (F0 m 75 ls [.int (iI (-1))])
            exact g_iret hQ C hr hlocks hP hS dX10_advance_75 ⟨rfl, trivial, trivial, trivial⟩
          · exfalso; omega
        · exfalso; omega
      · refine lv_aload_n hx hb dX10_advance_18 rfl (lv_at hl 0 rfl) ?_
        refine lv_iconst (v := iI 2) hx hb dX10_advance_19 rfl ?_
        refine g_cv (As := [.int (iI 2)]) (rest := []) (n := 1) C hml (c_X10_refuse l D k A ad hD v f g 2 (by decide)) mM_X10_88 mI_X10_refuse mE_X10_refuse mN_X10 mC_X10_refuse (by decide +kernel) 0 (ci := 10) rfl rfl hP hS (fun _ h => h) ⟨Nat.le_of_ble_eq_true rfl, Nat.le_of_ble_eq_true rfl⟩ ⟨Nat.zero_le _, Nat.zero_le _⟩ hl.1 rfl rfl (Nat.le_of_ble_eq_true rfl) dX10_advance_20 (fun r_12 v_12 f_12 g_12 H locs hq_12 hP _ hS => ?_)
        obtain ⟨rfl, rfl, rfl, rfl⟩ := hq_12
        show W p l e (gRm 1 21) s m args below meth c _ _ 0 0 Q (F0 m 23 ls [.int (iI (-1))])
        exact g_iret hQ C hr hlocks hP hS dX10_advance_23 ⟨rfl, trivial, trivial, trivial⟩

set_option maxHeartbeats 4000000 in
set_option maxRecDepth 100000 in
theorem c_X10_order (l : Launch) (D : va_G) (k : Nat → ClassId) (A : Nat → Prop) (ad : Nat → Nat) (hD : rwD A k ad) (v : gV) (f g : gF) (a1 : Int) (a2 : Int) (h_a1 : inR a1) (h_a2 : inR a2) (q0 : v 0 = 0) (q1 : v 1 = 0) (q21 : v 21 = 0) (q22 : v 22 = 0) (q23 : v 23 = 0) (q25 : v 25 = 0) (q26 : v 26 = 0) (q27 : v 27 = (-1)) (q28 : v 28 = (-1)) (qf : ∀ k, f 27 k = 0) : GM l D k A (rwW k ad) yX10_order cX10_order 3 (some .int) 1 21 [.ref (ad 0), .int (iI a1), .int (iI a2)] v f g (fun r v1 f1 g1 => r = some (.int (iI (-1))) ∧ True ∧ True ∧ True) := by
  refine GM.of (by decide) (Nat.le_of_ble_eq_true rfl) ?_
  intro p e s m args below meth c Q ls hQ C hml hr hlocks hP hl
  have hx := C.1
  have hb := C.2.1
  have hok := hP.2
  have hS : va_S A s.heap s.heap [] := va_S.rf
  have hl : lv_has ls 3 [(0, .ref (ad 0)), (1, .int (iI a1)), (2, .int (iI a2))] := hl
  refine lv_aload_n hx hb dX10_order_0 rfl (lv_at hl 0 rfl) ?_
  refine rwG_laws C hP mF_X10_16 dX10_order_1 ?_
  refine lv_iload_n hx hb dX10_order_4 rfl (lv_at hl 1 rfl) ?_
  refine g_cv (As := [.int (iI a1)]) (rest := []) (n := 1) C hml (c_X4_hasRound l D k A ad hD v f g a1 (by omega)) mM_X10_164 mI_X4_hasRound mE_X4_hasRound mN_X4 mC_X4_hasRound (by decide +kernel) 2 (ci := 4) rfl rfl hP hS (fun _ h => h) ⟨Nat.le_of_ble_eq_true rfl, Nat.le_of_ble_eq_true rfl⟩ ⟨Nat.zero_le _, Nat.zero_le _⟩ hl.1 rfl rfl (Nat.le_of_ble_eq_true rfl) dX10_order_5 (fun r_1 v_1 f_1 g_1 H locs hq_1 hP _ hS => ?_)
  obtain ⟨⟨z_1, rfl, ez0_1⟩, rfl, rfl, rfl⟩ := hq_1
  have ez_1 : z_1 = (if 0 ≤ a1 ∧ a1 < v 1 then 1 else 0) := ez0_1
  have w_1 := gif (P := 0 ≤ a1 ∧ a1 < v 1) ez_1
  have hz_1 : inR z_1 := (by omega)
  show W p l e (gRm 1 21) s m args below meth c _ _ 0 0 Q (F0 m 8 ls [.int (iI z_1)])
  have k_1 : z_1 = 0 := by omega
  refine gi_zeq (tgt := 27) hx hb dX10_order_8 (by decide) (by omega) (fun c_2 => ?_) (fun c_2 => ?_)
  · refine lv_aload_n hx hb dX10_order_27 rfl (lv_at hl 0 rfl) ?_
    refine lv_iconst (v := iI 1) hx hb dX10_order_28 rfl ?_
    refine g_cv (As := [.int (iI 1)]) (rest := []) (n := 1) C hml (c_X10_refuse l D k A ad hD v f g 1 (by decide)) mM_X10_88 mI_X10_refuse mE_X10_refuse mN_X10 mC_X10_refuse (by decide +kernel) 0 (ci := 10) rfl rfl hP hS (fun _ h => h) ⟨Nat.le_of_ble_eq_true rfl, Nat.le_of_ble_eq_true rfl⟩ ⟨Nat.zero_le _, Nat.zero_le _⟩ hl.1 rfl rfl (Nat.le_of_ble_eq_true rfl) dX10_order_29 (fun r_3 v_3 f_3 g_3 H locs hq_3 hP _ hS => ?_)
    obtain ⟨rfl, rfl, rfl, rfl⟩ := hq_3
    show W p l e (gRm 1 21) s m args below meth c _ _ 0 0 Q (F0 m 32 ls [.int (iI (-1))])
    exact g_iret hQ C hr hlocks hP hS dX10_order_32 ⟨rfl, trivial, trivial, trivial⟩
  · exfalso; omega

set_option maxHeartbeats 4000000 in
set_option maxRecDepth 100000 in
theorem c_X10_parts (l : Launch) (D : va_G) (k : Nat → ClassId) (A : Nat → Prop) (ad : Nat → Nat) (hD : rwD A k ad) (v : gV) (f g : gF) (a1 : Int) (a2 : Int) (a3 : Int) (h_a1 : inR a1) (h_a2 : inR a2) (h_a3 : inR a3) (q0 : v 0 = 0) (q1 : v 1 = 0) (q21 : v 21 = 0) (q22 : v 22 = 0) (q23 : v 23 = 0) (q25 : v 25 = 0) (q26 : v 26 = 0) (q27 : v 27 = (-1)) (q28 : v 28 = (-1)) (qf : ∀ k, f 27 k = 0) : GM l D k A (rwW k ad) yX10_parts cX10_parts 4 (some .int) 1 21 [.ref (ad 0), .int (iI a1), .int (iI a2), .int (iI a3)] v f g (fun r v1 f1 g1 => r = some (.int (iI (-1))) ∧ True ∧ True ∧ True) := by
  refine GM.of (by decide) (Nat.le_of_ble_eq_true rfl) ?_
  intro p e s m args below meth c Q ls hQ C hml hr hlocks hP hl
  have hx := C.1
  have hb := C.2.1
  have hok := hP.2
  have hS : va_S A s.heap s.heap [] := va_S.rf
  have hl : lv_has ls 4 [(0, .ref (ad 0)), (1, .int (iI a1)), (2, .int (iI a2)), (3, .int (iI a3))] := hl
  refine lv_aload_n hx hb dX10_parts_0 rfl (lv_at hl 0 rfl) ?_
  refine rwG_laws C hP mF_X10_16 dX10_parts_1 ?_
  refine lv_iload_n hx hb dX10_parts_4 rfl (lv_at hl 1 rfl) ?_
  refine g_cv (As := [.int (iI a1)]) (rest := []) (n := 1) C hml (c_X4_hasRound l D k A ad hD v f g a1 (by omega)) mM_X10_164 mI_X4_hasRound mE_X4_hasRound mN_X4 mC_X4_hasRound (by decide +kernel) 2 (ci := 4) rfl rfl hP hS (fun _ h => h) ⟨Nat.le_of_ble_eq_true rfl, Nat.le_of_ble_eq_true rfl⟩ ⟨Nat.zero_le _, Nat.zero_le _⟩ hl.1 rfl rfl (Nat.le_of_ble_eq_true rfl) dX10_parts_5 (fun r_1 v_1 f_1 g_1 H locs hq_1 hP _ hS => ?_)
  obtain ⟨⟨z_1, rfl, ez0_1⟩, rfl, rfl, rfl⟩ := hq_1
  have ez_1 : z_1 = (if 0 ≤ a1 ∧ a1 < v 1 then 1 else 0) := ez0_1
  have w_1 := gif (P := 0 ≤ a1 ∧ a1 < v 1) ez_1
  have hz_1 : inR z_1 := (by omega)
  show W p l e (gRm 1 21) s m args below meth c _ _ 0 0 Q (F0 m 8 ls [.int (iI z_1)])
  have k_1 : z_1 = 0 := by omega
  refine gi_zne (tgt := 17) hx hb dX10_parts_8 (by decide) (by omega) (fun c_2 => ?_) (fun c_2 => ?_)
  · exfalso; omega
  · refine lv_aload_n hx hb dX10_parts_11 rfl (lv_at hl 0 rfl) ?_
    refine lv_iconst (v := iI 1) hx hb dX10_parts_12 rfl ?_
    refine g_cv (As := [.int (iI 1)]) (rest := []) (n := 1) C hml (c_X10_refuse l D k A ad hD v f g 1 (by decide)) mM_X10_88 mI_X10_refuse mE_X10_refuse mN_X10 mC_X10_refuse (by decide +kernel) 0 (ci := 10) rfl rfl hP hS (fun _ h => h) ⟨Nat.le_of_ble_eq_true rfl, Nat.le_of_ble_eq_true rfl⟩ ⟨Nat.zero_le _, Nat.zero_le _⟩ hl.1 rfl rfl (Nat.le_of_ble_eq_true rfl) dX10_parts_13 (fun r_3 v_3 f_3 g_3 H locs hq_3 hP _ hS => ?_)
    obtain ⟨rfl, rfl, rfl, rfl⟩ := hq_3
    show W p l e (gRm 1 21) s m args below meth c _ _ 0 0 Q (F0 m 16 ls [.int (iI (-1))])
    exact g_iret hQ C hr hlocks hP hS dX10_parts_16 ⟨rfl, trivial, trivial, trivial⟩

set_option maxHeartbeats 4000000 in
set_option maxRecDepth 100000 in
theorem c_X10_choose (l : Launch) (D : va_G) (k : Nat → ClassId) (A : Nat → Prop) (ad : Nat → Nat) (hD : rwD A k ad) (v : gV) (f g : gF) (a1 : Int) (a2 : Int) (a3 : Int) (h_a1 : inR a1) (h_a2 : inR a2) (h_a3 : inR a3) (q0 : v 0 = 0) (q1 : v 1 = 0) (q21 : v 21 = 0) (q22 : v 22 = 0) (q23 : v 23 = 0) (q25 : v 25 = 0) (q26 : v 26 = 0) (q27 : v 27 = (-1)) (q28 : v 28 = (-1)) (qf : ∀ k, f 27 k = 0) : GM l D k A (rwW k ad) yX10_choose cX10_choose 5 (some .int) 1 21 [.ref (ad 0), .int (iI a1), .int (iI a2), .int (iI a3)] v f g (fun r v1 f1 g1 => r = some (.int (iI (-1))) ∧ True ∧ True ∧ True) := by
  refine GM.of (by decide) (Nat.le_of_ble_eq_true rfl) ?_
  intro p e s m args below meth c Q ls hQ C hml hr hlocks hP hl
  have hx := C.1
  have hb := C.2.1
  have hok := hP.2
  have hS : va_S A s.heap s.heap [] := va_S.rf
  have hl : lv_has ls 5 [(0, .ref (ad 0)), (1, .int (iI a1)), (2, .int (iI a2)), (3, .int (iI a3))] := hl
  refine lv_aload_n hx hb dX10_choose_0 rfl (lv_at hl 0 rfl) ?_
  refine rwG_laws C hP mF_X10_16 dX10_choose_1 ?_
  refine lv_iload_n hx hb dX10_choose_4 rfl (lv_at hl 1 rfl) ?_
  refine g_cv (As := [.int (iI a1)]) (rest := []) (n := 1) C hml (c_X4_hasRound l D k A ad hD v f g a1 (by omega)) mM_X10_164 mI_X4_hasRound mE_X4_hasRound mN_X4 mC_X4_hasRound (by decide +kernel) 2 (ci := 4) rfl rfl hP hS (fun _ h => h) ⟨Nat.le_of_ble_eq_true rfl, Nat.le_of_ble_eq_true rfl⟩ ⟨Nat.zero_le _, Nat.zero_le _⟩ hl.1 rfl rfl (Nat.le_of_ble_eq_true rfl) dX10_choose_5 (fun r_1 v_1 f_1 g_1 H locs hq_1 hP _ hS => ?_)
  obtain ⟨⟨z_1, rfl, ez0_1⟩, rfl, rfl, rfl⟩ := hq_1
  have ez_1 : z_1 = (if 0 ≤ a1 ∧ a1 < v 1 then 1 else 0) := ez0_1
  have w_1 := gif (P := 0 ≤ a1 ∧ a1 < v 1) ez_1
  have hz_1 : inR z_1 := (by omega)
  show W p l e (gRm 1 21) s m args below meth c _ _ 0 0 Q (F0 m 8 ls [.int (iI z_1)])
  have k_1 : z_1 = 0 := by omega
  refine gi_zne (tgt := 17) hx hb dX10_choose_8 (by decide) (by omega) (fun c_2 => ?_) (fun c_2 => ?_)
  · exfalso; omega
  · refine lv_aload_n hx hb dX10_choose_11 rfl (lv_at hl 0 rfl) ?_
    refine lv_iconst (v := iI 1) hx hb dX10_choose_12 rfl ?_
    refine g_cv (As := [.int (iI 1)]) (rest := []) (n := 1) C hml (c_X10_refuse l D k A ad hD v f g 1 (by decide)) mM_X10_88 mI_X10_refuse mE_X10_refuse mN_X10 mC_X10_refuse (by decide +kernel) 0 (ci := 10) rfl rfl hP hS (fun _ h => h) ⟨Nat.le_of_ble_eq_true rfl, Nat.le_of_ble_eq_true rfl⟩ ⟨Nat.zero_le _, Nat.zero_le _⟩ hl.1 rfl rfl (Nat.le_of_ble_eq_true rfl) dX10_choose_13 (fun r_3 v_3 f_3 g_3 H locs hq_3 hP _ hS => ?_)
    obtain ⟨rfl, rfl, rfl, rfl⟩ := hq_3
    show W p l e (gRm 1 21) s m args below meth c _ _ 0 0 Q (F0 m 16 ls [.int (iI (-1))])
    exact g_iret hQ C hr hlocks hP hS dX10_choose_16 ⟨rfl, trivial, trivial, trivial⟩

set_option maxHeartbeats 4000000 in
set_option maxRecDepth 100000 in
theorem c_X4_addItem (l : Launch) (D : va_G) (k : Nat → ClassId) (A : Nat → Prop) (ad : Nat → Nat) (hD : rwD A k ad) (v : gV) (f g : gF) (a : Int) (b : Int) (h_a : inR a) (h_b : inR b) (h1 : 0 ≤ v 8 ∧ v 8 < 40) : GM l D k A (rwW k ad) yX4_addItem cX4_addItem 3 none 0 0 [.ref (ad 14), .int (iI a), .int (iI b)] v f g (fun r v1 f1 g1 => r = none ∧ (va_up v 8 ((v 8) + 1)) = v1 ∧ (va_up (va_up f 10 (u1 (f 10) (v 8) a)) 11 (u1 (f 11) (v 8) b)) = f1 ∧ g = g1) := by
  refine GM.of (by decide) (Nat.le_of_ble_eq_true rfl) ?_
  intro p e s m args below meth c Q ls hQ C hml hr hlocks hP hl
  have hx := C.1
  have hb := C.2.1
  have hok := hP.2
  have hS : va_S A s.heap s.heap [] := va_S.rf
  have hl : lv_has ls 3 [(0, .ref (ad 14)), (1, .int (iI a)), (2, .int (iI b))] := hl
  refine lv_aload_n hx hb dX4_addItem_0 rfl (lv_at hl 0 rfl) ?_
  refine rwG_reader_draft_items C hP mF_X4_35 dX4_addItem_1 ?_
  have r_1 := hok.1 8
  refine lv_bipush (v := iI 40) hx hb dX4_addItem_4 (by decide) ?_
  refine gi_cge (tgt := 39) hx hb dX4_addItem_6 (by decide) (by omega) (by decide) (fun c_2 => ?_) (fun c_2 => ?_)
  · exfalso; omega
  · refine lv_aload_n hx hb dX4_addItem_9 rfl (lv_at hl 0 rfl) ?_
    refine rwG_reader_draft_item C hP mF_X4_15 dX4_addItem_10 ?_
    refine lv_aload_n hx hb dX4_addItem_13 rfl (lv_at hl 0 rfl) ?_
    refine rwG_reader_draft_items C hP mF_X4_35 dX4_addItem_14 ?_
    refine lv_iload_n hx hb dX4_addItem_17 rfl (lv_at hl 1 rfl) ?_
    refine rwS_reader_draft_item (f1 := (va_up f 10 (u1 (f 10) (v 8) a))) C hP hD hS (by omega) (by omega) (by omega) rfl (Or.inl rfl) dX4_addItem_18 (fun H locs hP hS => ?_)
    refine lv_aload_n hx hb dX4_addItem_19 rfl (lv_at hl 0 rfl) ?_
    refine rwG_reader_draft_number C hP mF_X4_18 dX4_addItem_20 ?_
    refine lv_aload_n hx hb dX4_addItem_23 rfl (lv_at hl 0 rfl) ?_
    refine rwG_reader_draft_items C hP mF_X4_35 dX4_addItem_24 ?_
    refine lv_iload_n hx hb dX4_addItem_27 rfl (lv_at hl 2 rfl) ?_
    refine rwS_reader_draft_number (f1 := (va_up (va_up f 10 (u1 (f 10) (v 8) a)) 11 (u1 (f 11) (v 8) b))) C hP hD hS (by omega) (by omega) (by omega) rfl (Or.inl rfl) dX4_addItem_28 (fun H locs hP hS => ?_)
    refine lv_aload_n hx hb dX4_addItem_29 rfl (lv_at hl 0 rfl) ?_
    refine lv_dup hx hb dX4_addItem_30 rfl ?_
    refine rwG_reader_draft_items C hP mF_X4_35 dX4_addItem_31 ?_
    refine lv_iconst (v := iI 1) hx hb dX4_addItem_34 rfl ?_
    refine gi_add (z := ((v 8) + 1)) hx hb dX4_addItem_35 rfl ?_
    refine rwP_reader_draft_items (v1 := (va_up v 8 ((v 8) + 1))) C hP hD hS mF_X4_35 (by omega) rfl (Or.inl rfl) dX4_addItem_36 (fun H locs hP hS => ?_)
    exact g_vret hQ C hr hlocks hP hS dX4_addItem_39 ⟨rfl, rfl, rfl, rfl⟩

set_option maxHeartbeats 4000000 in
set_option maxRecDepth 100000 in
theorem c_X4_addKey (l : Launch) (D : va_G) (k : Nat → ClassId) (A : Nat → Prop) (ad : Nat → Nat) (hD : rwD A k ad) (v : gV) (f g : gF) (a : Int) (b : Int) (h_a : inR a) (h_b : inR b) (h1 : 0 ≤ v 9 ∧ v 9 < 4) : GM l D k A (rwW k ad) yX4_addKey cX4_addKey 3 none 0 0 [.ref (ad 14), .int (iI a), .int (iI b)] v f g (fun r v1 f1 g1 => r = none ∧ (va_up v 9 ((v 9) + 1)) = v1 ∧ True ∧ g = g1) := by
  refine GM.of (by decide) (Nat.le_of_ble_eq_true rfl) ?_
  intro p e s m args below meth c Q ls hQ C hml hr hlocks hP hl
  have hx := C.1
  have hb := C.2.1
  have hok := hP.2
  have hS : va_S A s.heap s.heap [] := va_S.rf
  have hl : lv_has ls 3 [(0, .ref (ad 14)), (1, .int (iI a)), (2, .int (iI b))] := hl
  refine lv_aload_n hx hb dX4_addKey_0 rfl (lv_at hl 0 rfl) ?_
  refine rwG_reader_draft_keys C hP mF_X4_42 dX4_addKey_1 ?_
  have r_1 := hok.1 9
  refine lv_iconst (v := iI 4) hx hb dX4_addKey_4 rfl ?_
  refine gi_cge (tgt := 46) hx hb dX4_addKey_5 (by decide) (by omega) (by decide) (fun c_2 => ?_) (fun c_2 => ?_)
  · exfalso; omega
  · refine lv_aload_n hx hb dX4_addKey_8 rfl (lv_at hl 0 rfl) ?_
    refine rwG_reader_draft_keyKind C hP mF_X4_21 dX4_addKey_9 ?_
    refine lv_aload_n hx hb dX4_addKey_12 rfl (lv_at hl 0 rfl) ?_
    refine rwG_reader_draft_keys C hP mF_X4_42 dX4_addKey_13 ?_
    refine lv_iload_n hx hb dX4_addKey_16 rfl (lv_at hl 1 rfl) ?_
    refine rwS_reader_draft_keyKind (f1 := (va_up f 12 (u1 (f 12) (v 9) a))) C hP hD hS (by omega) (by omega) (by omega) rfl (Or.inl rfl) dX4_addKey_17 (fun H locs hP hS => ?_)
    refine lv_aload_n hx hb dX4_addKey_18 rfl (lv_at hl 0 rfl) ?_
    refine rwG_reader_draft_keyDown C hP mF_X4_24 dX4_addKey_19 ?_
    refine lv_aload_n hx hb dX4_addKey_22 rfl (lv_at hl 0 rfl) ?_
    refine rwG_reader_draft_keys C hP mF_X4_42 dX4_addKey_23 ?_
    refine lv_iload_n hx hb dX4_addKey_26 rfl (lv_at hl 2 rfl) ?_
    refine gi_zeq (tgt := 34) hx hb dX4_addKey_27 (by decide) (by omega) (fun c_3 => ?_) (fun c_3 => ?_)
    · refine lv_iconst (v := iI 0) hx hb dX4_addKey_34 rfl ?_
      refine rwS_reader_draft_keyDown (f1 := (va_up (va_up f 12 (u1 (f 12) (v 9) a)) 13 (u1 (f 13) (v 9) 0))) C hP hD hS (by omega) (by omega) (by decide) rfl (Or.inl rfl) dX4_addKey_35 (fun H locs hP hS => ?_)
      refine lv_aload_n hx hb dX4_addKey_36 rfl (lv_at hl 0 rfl) ?_
      refine lv_dup hx hb dX4_addKey_37 rfl ?_
      refine rwG_reader_draft_keys C hP mF_X4_42 dX4_addKey_38 ?_
      refine lv_iconst (v := iI 1) hx hb dX4_addKey_41 rfl ?_
      refine gi_add (z := ((v 9) + 1)) hx hb dX4_addKey_42 rfl ?_
      refine rwP_reader_draft_keys (v1 := (va_up v 9 ((v 9) + 1))) C hP hD hS mF_X4_42 (by omega) rfl (Or.inl rfl) dX4_addKey_43 (fun H locs hP hS => ?_)
      exact g_vret hQ C hr hlocks hP hS dX4_addKey_46 ⟨rfl, rfl, trivial, rfl⟩
    · refine lv_iconst (v := iI 1) hx hb dX4_addKey_30 rfl ?_
      refine lv_goto (tgt := 35) hx hb dX4_addKey_31 (by decide) ?_
      refine rwS_reader_draft_keyDown (f1 := (va_up (va_up f 12 (u1 (f 12) (v 9) a)) 13 (u1 (f 13) (v 9) 1))) C hP hD hS (by omega) (by omega) (by decide) rfl (Or.inl rfl) dX4_addKey_35 (fun H locs hP hS => ?_)
      refine lv_aload_n hx hb dX4_addKey_36 rfl (lv_at hl 0 rfl) ?_
      refine lv_dup hx hb dX4_addKey_37 rfl ?_
      refine rwG_reader_draft_keys C hP mF_X4_42 dX4_addKey_38 ?_
      refine lv_iconst (v := iI 1) hx hb dX4_addKey_41 rfl ?_
      refine gi_add (z := ((v 9) + 1)) hx hb dX4_addKey_42 rfl ?_
      refine rwP_reader_draft_keys (v1 := (va_up v 9 ((v 9) + 1))) C hP hD hS mF_X4_42 (by omega) rfl (Or.inl rfl) dX4_addKey_43 (fun H locs hP hS => ?_)
      exact g_vret hQ C hr hlocks hP hS dX4_addKey_46 ⟨rfl, rfl, trivial, rfl⟩

set_option maxHeartbeats 4000000 in
set_option maxRecDepth 100000 in
theorem c_X4_setUntold (l : Launch) (D : va_G) (k : Nat → ClassId) (A : Nat → Prop) (ad : Nat → Nat) (hD : rwD A k ad) (v : gV) (f g : gF) : GM l D k A (rwW k ad) yX4_setUntold cX4_setUntold 1 none 1 22 [.ref (ad 14)] v f g (fun r v1 f1 g1 => r = none ∧ (va_up (va_up (va_up (va_up v 7 0) 8 5) 9 1) 10 0) = v1 ∧ True ∧ g = g1) := by
  refine GM.of (by decide) (Nat.le_of_ble_eq_true rfl) ?_
  intro p e s m args below meth c Q ls hQ C hml hr hlocks hP hl
  have hx := C.1
  have hb := C.2.1
  have hok := hP.2
  have hS : va_S A s.heap s.heap [] := va_S.rf
  have hl : lv_has ls 1 [(0, .ref (ad 14))] := hl
  refine lv_aload_n hx hb dX4_setUntold_0 rfl (lv_at hl 0 rfl) ?_
  refine lv_iconst (v := iI 0) hx hb dX4_setUntold_1 rfl ?_
  refine rwP_reader_draft_rounds (v1 := (va_up v 7 0)) C hP hD hS mF_X4_31 (by decide) rfl (Or.inl rfl) dX4_setUntold_2 (fun H locs hP hS => ?_)
  refine lv_aload_n hx hb dX4_setUntold_5 rfl (lv_at hl 0 rfl) ?_
  refine lv_iconst (v := iI 0) hx hb dX4_setUntold_6 rfl ?_
  refine rwP_reader_draft_items (v1 := (va_up (va_up v 7 0) 8 0)) C hP hD hS mF_X4_35 (by decide) rfl (Or.inl rfl) dX4_setUntold_7 (fun H locs hP hS => ?_)
  refine lv_aload_n hx hb dX4_setUntold_10 rfl (lv_at hl 0 rfl) ?_
  refine lv_bipush (v := iI 6) hx hb dX4_setUntold_11 (by decide) ?_
  refine lv_bipush (v := iI 100) hx hb dX4_setUntold_13 (by decide) ?_
  refine g_cv (As := [.int (iI 6), .int (iI 100)]) (rest := []) (n := 2) C hml (c_X4_addItem l D k A ad hD (va_up (va_up v 7 0) 8 0) f g 6 100 (by decide) (by decide) (show 0 ≤ 0 ∧ 0 < 40 from by omega)) mM_X4_38 mI_X4_addItem mE_X4_addItem mN_X4 mC_X4_addItem (by decide +kernel) 14 (ci := 4) rfl rfl hP hS (fun _ h => h) ⟨Nat.le_of_ble_eq_true rfl, Nat.le_of_ble_eq_true rfl⟩ ⟨Nat.zero_le _, Nat.zero_le _⟩ hl.1 rfl rfl (Nat.le_of_ble_eq_true rfl) dX4_setUntold_15 (fun r_1 v_1 f_1 g_1 H locs hq_1 hP _ hS => ?_)
  obtain ⟨rfl, rfl, rfl, rfl⟩ := hq_1
  show W p l e (gRm 1 22) s m args below meth c _ _ 0 0 Q (F0 m 18 ls [])
  have hP : gWd D (rwW k ad) (va_up (va_up v 7 0) 8 1) (va_up (va_up f 10 (u1 (f 10) 0 (6 : Int))) 11 (u1 (f 11) 0 (100 : Int))) g H := ⟨hP.1, (gF_up (gF_up (gR_up (gR_up ⟨hok.1, hok.2⟩ 7 (by decide)) 8 (by decide)) 10 (u1_rng (hok.2 10) (by decide))) 11 (u1_rng (hok.2 11) (by decide)))⟩
  refine lv_aload_n hx hb dX4_setUntold_18 rfl (lv_at hl 0 rfl) ?_
  refine lv_iconst (v := iI 0) hx hb dX4_setUntold_19 rfl ?_
  refine lv_iconst (v := iI 0) hx hb dX4_setUntold_20 rfl ?_
  refine g_cv (As := [.int (iI 0), .int (iI 0)]) (rest := []) (n := 2) C hml (c_X4_addItem l D k A ad hD (va_up (va_up v 7 0) 8 1) (va_up (va_up f 10 (u1 (f 10) 0 (6 : Int))) 11 (u1 (f 11) 0 (100 : Int))) g 0 0 (by decide) (by decide) (show 0 ≤ 1 ∧ 1 < 40 from by omega)) mM_X4_38 mI_X4_addItem mE_X4_addItem mN_X4 mC_X4_addItem (by decide +kernel) 14 (ci := 4) rfl rfl hP hS (fun _ h => h) ⟨Nat.le_of_ble_eq_true rfl, Nat.le_of_ble_eq_true rfl⟩ ⟨Nat.zero_le _, Nat.zero_le _⟩ hl.1 rfl rfl (Nat.le_of_ble_eq_true rfl) dX4_setUntold_21 (fun r_2 v_2 f_2 g_2 H locs hq_2 hP _ hS => ?_)
  obtain ⟨rfl, rfl, rfl, rfl⟩ := hq_2
  show W p l e (gRm 1 22) s m args below meth c _ _ 0 0 Q (F0 m 24 ls [])
  have hP : gWd D (rwW k ad) (va_up (va_up v 7 0) 8 2) (va_up (va_up f 10 (u1 (u1 (f 10) 0 (6 : Int)) 1 (0 : Int))) 11 (u1 (u1 (f 11) 0 (100 : Int)) 1 (0 : Int))) g H := ⟨hP.1, (gF_up (gF_up (gR_up (gR_up ⟨hok.1, hok.2⟩ 7 (by decide)) 8 (by decide)) 10 (u1_rng (u1_rng (hok.2 10) (by decide)) (by decide))) 11 (u1_rng (u1_rng (hok.2 11) (by decide)) (by decide)))⟩
  refine lv_aload_n hx hb dX4_setUntold_24 rfl (lv_at hl 0 rfl) ?_
  refine lv_bipush (v := iI 9) hx hb dX4_setUntold_25 (by decide) ?_
  refine lv_iconst (v := iI 0) hx hb dX4_setUntold_27 rfl ?_
  refine g_cv (As := [.int (iI 9), .int (iI 0)]) (rest := []) (n := 2) C hml (c_X4_addItem l D k A ad hD (va_up (va_up v 7 0) 8 2) (va_up (va_up f 10 (u1 (u1 (f 10) 0 (6 : Int)) 1 (0 : Int))) 11 (u1 (u1 (f 11) 0 (100 : Int)) 1 (0 : Int))) g 9 0 (by decide) (by decide) (show 0 ≤ 2 ∧ 2 < 40 from by omega)) mM_X4_38 mI_X4_addItem mE_X4_addItem mN_X4 mC_X4_addItem (by decide +kernel) 14 (ci := 4) rfl rfl hP hS (fun _ h => h) ⟨Nat.le_of_ble_eq_true rfl, Nat.le_of_ble_eq_true rfl⟩ ⟨Nat.zero_le _, Nat.zero_le _⟩ hl.1 rfl rfl (Nat.le_of_ble_eq_true rfl) dX4_setUntold_28 (fun r_3 v_3 f_3 g_3 H locs hq_3 hP _ hS => ?_)
  obtain ⟨rfl, rfl, rfl, rfl⟩ := hq_3
  show W p l e (gRm 1 22) s m args below meth c _ _ 0 0 Q (F0 m 31 ls [])
  have hP : gWd D (rwW k ad) (va_up (va_up v 7 0) 8 3) (va_up (va_up f 10 (u1 (u1 (u1 (f 10) 0 (6 : Int)) 1 (0 : Int)) 2 (9 : Int))) 11 (u1 (u1 (u1 (f 11) 0 (100 : Int)) 1 (0 : Int)) 2 (0 : Int))) g H := ⟨hP.1, (gF_up (gF_up (gR_up (gR_up ⟨hok.1, hok.2⟩ 7 (by decide)) 8 (by decide)) 10 (u1_rng (u1_rng (u1_rng (hok.2 10) (by decide)) (by decide)) (by decide))) 11 (u1_rng (u1_rng (u1_rng (hok.2 11) (by decide)) (by decide)) (by decide)))⟩
  refine lv_aload_n hx hb dX4_setUntold_31 rfl (lv_at hl 0 rfl) ?_
  refine lv_iconst (v := iI 1) hx hb dX4_setUntold_32 rfl ?_
  refine lv_iconst (v := iI 0) hx hb dX4_setUntold_33 rfl ?_
  refine g_cv (As := [.int (iI 1), .int (iI 0)]) (rest := []) (n := 2) C hml (c_X4_addItem l D k A ad hD (va_up (va_up v 7 0) 8 3) (va_up (va_up f 10 (u1 (u1 (u1 (f 10) 0 (6 : Int)) 1 (0 : Int)) 2 (9 : Int))) 11 (u1 (u1 (u1 (f 11) 0 (100 : Int)) 1 (0 : Int)) 2 (0 : Int))) g 1 0 (by decide) (by decide) (show 0 ≤ 3 ∧ 3 < 40 from by omega)) mM_X4_38 mI_X4_addItem mE_X4_addItem mN_X4 mC_X4_addItem (by decide +kernel) 14 (ci := 4) rfl rfl hP hS (fun _ h => h) ⟨Nat.le_of_ble_eq_true rfl, Nat.le_of_ble_eq_true rfl⟩ ⟨Nat.zero_le _, Nat.zero_le _⟩ hl.1 rfl rfl (Nat.le_of_ble_eq_true rfl) dX4_setUntold_34 (fun r_4 v_4 f_4 g_4 H locs hq_4 hP _ hS => ?_)
  obtain ⟨rfl, rfl, rfl, rfl⟩ := hq_4
  show W p l e (gRm 1 22) s m args below meth c _ _ 0 0 Q (F0 m 37 ls [])
  have hP : gWd D (rwW k ad) (va_up (va_up v 7 0) 8 4) (va_up (va_up f 10 (u1 (u1 (u1 (u1 (f 10) 0 (6 : Int)) 1 (0 : Int)) 2 (9 : Int)) 3 (1 : Int))) 11 (u1 (u1 (u1 (u1 (f 11) 0 (100 : Int)) 1 (0 : Int)) 2 (0 : Int)) 3 (0 : Int))) g H := ⟨hP.1, (gF_up (gF_up (gR_up (gR_up ⟨hok.1, hok.2⟩ 7 (by decide)) 8 (by decide)) 10 (u1_rng (u1_rng (u1_rng (u1_rng (hok.2 10) (by decide)) (by decide)) (by decide)) (by decide))) 11 (u1_rng (u1_rng (u1_rng (u1_rng (hok.2 11) (by decide)) (by decide)) (by decide)) (by decide)))⟩
  refine lv_aload_n hx hb dX4_setUntold_37 rfl (lv_at hl 0 rfl) ?_
  refine lv_bipush (v := iI 7) hx hb dX4_setUntold_38 (by decide) ?_
  refine lv_iconst (v := iI 0) hx hb dX4_setUntold_40 rfl ?_
  refine g_cv (As := [.int (iI 7), .int (iI 0)]) (rest := []) (n := 2) C hml (c_X4_addItem l D k A ad hD (va_up (va_up v 7 0) 8 4) (va_up (va_up f 10 (u1 (u1 (u1 (u1 (f 10) 0 (6 : Int)) 1 (0 : Int)) 2 (9 : Int)) 3 (1 : Int))) 11 (u1 (u1 (u1 (u1 (f 11) 0 (100 : Int)) 1 (0 : Int)) 2 (0 : Int)) 3 (0 : Int))) g 7 0 (by decide) (by decide) (show 0 ≤ 4 ∧ 4 < 40 from by omega)) mM_X4_38 mI_X4_addItem mE_X4_addItem mN_X4 mC_X4_addItem (by decide +kernel) 14 (ci := 4) rfl rfl hP hS (fun _ h => h) ⟨Nat.le_of_ble_eq_true rfl, Nat.le_of_ble_eq_true rfl⟩ ⟨Nat.zero_le _, Nat.zero_le _⟩ hl.1 rfl rfl (Nat.le_of_ble_eq_true rfl) dX4_setUntold_41 (fun r_5 v_5 f_5 g_5 H locs hq_5 hP _ hS => ?_)
  obtain ⟨rfl, rfl, rfl, rfl⟩ := hq_5
  show W p l e (gRm 1 22) s m args below meth c _ _ 0 0 Q (F0 m 44 ls [])
  have hP : gWd D (rwW k ad) (va_up (va_up v 7 0) 8 5) (va_up (va_up f 10 (u1 (u1 (u1 (u1 (u1 (f 10) 0 (6 : Int)) 1 (0 : Int)) 2 (9 : Int)) 3 (1 : Int)) 4 (7 : Int))) 11 (u1 (u1 (u1 (u1 (u1 (f 11) 0 (100 : Int)) 1 (0 : Int)) 2 (0 : Int)) 3 (0 : Int)) 4 (0 : Int))) g H := ⟨hP.1, (gF_up (gF_up (gR_up (gR_up ⟨hok.1, hok.2⟩ 7 (by decide)) 8 (by decide)) 10 (u1_rng (u1_rng (u1_rng (u1_rng (u1_rng (hok.2 10) (by decide)) (by decide)) (by decide)) (by decide)) (by decide))) 11 (u1_rng (u1_rng (u1_rng (u1_rng (u1_rng (hok.2 11) (by decide)) (by decide)) (by decide)) (by decide)) (by decide)))⟩
  refine lv_aload_n hx hb dX4_setUntold_44 rfl (lv_at hl 0 rfl) ?_
  refine lv_iconst (v := iI 0) hx hb dX4_setUntold_45 rfl ?_
  refine rwP_reader_draft_keys (v1 := (va_up (va_up (va_up v 7 0) 8 5) 9 0)) C hP hD hS mF_X4_42 (by decide) rfl (Or.inl rfl) dX4_setUntold_46 (fun H locs hP hS => ?_)
  refine lv_aload_n hx hb dX4_setUntold_49 rfl (lv_at hl 0 rfl) ?_
  refine lv_iconst (v := iI 0) hx hb dX4_setUntold_50 rfl ?_
  refine lv_iconst (v := iI 1) hx hb dX4_setUntold_51 rfl ?_
  refine g_cv (As := [.int (iI 0), .int (iI 1)]) (rest := []) (n := 2) C hml (c_X4_addKey l D k A ad hD (va_up (va_up (va_up v 7 0) 8 5) 9 0) (va_up (va_up f 10 (u1 (u1 (u1 (u1 (u1 (f 10) 0 (6 : Int)) 1 (0 : Int)) 2 (9 : Int)) 3 (1 : Int)) 4 (7 : Int))) 11 (u1 (u1 (u1 (u1 (u1 (f 11) 0 (100 : Int)) 1 (0 : Int)) 2 (0 : Int)) 3 (0 : Int)) 4 (0 : Int))) g 0 1 (by decide) (by decide) (show 0 ≤ 0 ∧ 0 < 4 from by omega)) mM_X4_45 mI_X4_addKey mE_X4_addKey mN_X4 mC_X4_addKey (by decide +kernel) 14 (ci := 4) rfl rfl hP hS (fun _ h => h) ⟨Nat.le_of_ble_eq_true rfl, Nat.le_of_ble_eq_true rfl⟩ ⟨Nat.zero_le _, Nat.zero_le _⟩ hl.1 rfl rfl (Nat.le_of_ble_eq_true rfl) dX4_setUntold_52 (fun r_6 v_6 f_6 g_6 H locs hq_6 hP _ hS => ?_)
  obtain ⟨rfl, rfl, -, rfl⟩ := hq_6
  show W p l e (gRm 1 22) s m args below meth c _ _ 0 0 Q (F0 m 55 ls [])
  have hf_6 := hP.2.2
  have hP : gWd D (rwW k ad) (va_up (va_up (va_up v 7 0) 8 5) 9 1) f_6 g H := ⟨hP.1, (gR_up (gR_up (gR_up ⟨hok.1, hf_6⟩ 7 (by decide)) 8 (by decide)) 9 (by decide))⟩
  refine lv_aload_n hx hb dX4_setUntold_55 rfl (lv_at hl 0 rfl) ?_
  refine lv_iconst (v := iI 0) hx hb dX4_setUntold_56 rfl ?_
  refine rwP_reader_draft_back (v1 := (va_up (va_up (va_up (va_up v 7 0) 8 5) 9 1) 10 0)) C hP hD hS mF_X4_49 (by decide) (by omega) rfl (Or.inl rfl) dX4_setUntold_57 (fun H locs hP hS => ?_)
  exact g_vret hQ C hr hlocks hP hS dX4_setUntold_60 ⟨rfl, rfl, trivial, rfl⟩

set_option maxHeartbeats 4000000 in
set_option maxRecDepth 100000 in
theorem c_X6_put (l : Launch) (D : va_G) (k : Nat → ClassId) (A : Nat → Prop) (ad : Nat → Nat) (hD : rwD A k ad) (v : gV) (f g : gF) (a : Int) (b : Int) (d : Int) (h_a : inR a) (h_b : inR b) (h_d : inR d) (h1 : 0 ≤ v 5 ∧ v 5 < 701) : GM l D k A (rwW k ad) yX6_put cX6_put 4 none 0 0 [.ref (ad 10), .int (iI a), .int (iI b), .int (iI d)] v f g (fun r v1 f1 g1 => r = none ∧ (va_up v 5 ((v 5) + 1)) = v1 ∧ (va_up (va_up (va_up f 6 (u1 (f 6) (v 5) a)) 7 (u1 (f 7) (v 5) b)) 8 (u1 (f 8) (v 5) d)) = f1 ∧ g = g1) := by
  refine GM.of (by decide) (Nat.le_of_ble_eq_true rfl) ?_
  intro p e s m args below meth c Q ls hQ C hml hr hlocks hP hl
  have hx := C.1
  have hb := C.2.1
  have hok := hP.2
  have hS : va_S A s.heap s.heap [] := va_S.rf
  have hl : lv_has ls 4 [(0, .ref (ad 10)), (1, .int (iI a)), (2, .int (iI b)), (3, .int (iI d))] := hl
  refine lv_aload_n hx hb dX6_put_0 rfl (lv_at hl 0 rfl) ?_
  refine rwG_reader_tokens_many C hP mF_X6_25 dX6_put_1 ?_
  have r_1 := hok.1 5
  refine lv_aload_n hx hb dX6_put_4 rfl (lv_at hl 0 rfl) ?_
  refine rwG_reader_tokens_kinds C hP mF_X6_9 dX6_put_5 ?_
  refine rwN_reader_tokens_kinds C hP dX6_put_8 ?_
  refine gi_cge (tgt := 52) hx hb dX6_put_9 (by decide) (by omega) (by decide) (fun c_2 => ?_) (fun c_2 => ?_)
  · exfalso; omega
  · refine lv_aload_n hx hb dX6_put_12 rfl (lv_at hl 0 rfl) ?_
    refine rwG_reader_tokens_kinds C hP mF_X6_9 dX6_put_13 ?_
    refine lv_aload_n hx hb dX6_put_16 rfl (lv_at hl 0 rfl) ?_
    refine rwG_reader_tokens_many C hP mF_X6_25 dX6_put_17 ?_
    refine lv_iload_n hx hb dX6_put_20 rfl (lv_at hl 1 rfl) ?_
    refine rwS_reader_tokens_kinds (f1 := (va_up f 6 (u1 (f 6) (v 5) a))) C hP hD hS (by omega) (by omega) (by omega) rfl (Or.inl rfl) dX6_put_21 (fun H locs hP hS => ?_)
    refine lv_aload_n hx hb dX6_put_22 rfl (lv_at hl 0 rfl) ?_
    refine rwG_reader_tokens_places C hP mF_X6_15 dX6_put_23 ?_
    refine lv_aload_n hx hb dX6_put_26 rfl (lv_at hl 0 rfl) ?_
    refine rwG_reader_tokens_many C hP mF_X6_25 dX6_put_27 ?_
    refine lv_iload_n hx hb dX6_put_30 rfl (lv_at hl 2 rfl) ?_
    refine rwS_reader_tokens_places (f1 := (va_up (va_up f 6 (u1 (f 6) (v 5) a)) 7 (u1 (f 7) (v 5) b))) C hP hD hS (by omega) (by omega) (by omega) rfl (Or.inl rfl) dX6_put_31 (fun H locs hP hS => ?_)
    refine lv_aload_n hx hb dX6_put_32 rfl (lv_at hl 0 rfl) ?_
    refine rwG_reader_tokens_values C hP mF_X6_18 dX6_put_33 ?_
    refine lv_aload_n hx hb dX6_put_36 rfl (lv_at hl 0 rfl) ?_
    refine rwG_reader_tokens_many C hP mF_X6_25 dX6_put_37 ?_
    refine lv_iload_n hx hb dX6_put_40 rfl (lv_at hl 3 rfl) ?_
    refine rwS_reader_tokens_values (f1 := (va_up (va_up (va_up f 6 (u1 (f 6) (v 5) a)) 7 (u1 (f 7) (v 5) b)) 8 (u1 (f 8) (v 5) d))) C hP hD hS (by omega) (by omega) (by omega) rfl (Or.inl rfl) dX6_put_41 (fun H locs hP hS => ?_)
    refine lv_aload_n hx hb dX6_put_42 rfl (lv_at hl 0 rfl) ?_
    refine lv_dup hx hb dX6_put_43 rfl ?_
    refine rwG_reader_tokens_many C hP mF_X6_25 dX6_put_44 ?_
    refine lv_iconst (v := iI 1) hx hb dX6_put_47 rfl ?_
    refine gi_add (z := ((v 5) + 1)) hx hb dX6_put_48 rfl ?_
    refine rwP_reader_tokens_many (v1 := (va_up v 5 ((v 5) + 1))) C hP hD hS mF_X6_25 (by omega) rfl (Or.inl rfl) dX6_put_49 (fun H locs hP hS => ?_)
    exact g_vret hQ C hr hlocks hP hS dX6_put_52 ⟨rfl, rfl, rfl, rfl⟩

set_option maxHeartbeats 4000000 in
set_option maxRecDepth 100000 in
theorem c_X6_kind (l : Launch) (D : va_G) (k : Nat → ClassId) (A : Nat → Prop) (ad : Nat → Nat) (hD : rwD A k ad) (v : gV) (f g : gF) (h1 : 0 ≤ v 6 ∧ v 6 < 701) : GM l D k A (rwW k ad) yX6_kind cX6_kind 1 (some .int) 0 0 [.ref (ad 10)] v f g (fun r v1 f1 g1 => (∃ z : Int, r = some (.int (iI z)) ∧ z = (f 6 (v 6))) ∧ v = v1 ∧ f = f1 ∧ g = g1) := by
  refine GM.of (by decide) (Nat.le_of_ble_eq_true rfl) ?_
  intro p e s m args below meth c Q ls hQ C hml hr hlocks hP hl
  have hx := C.1
  have hb := C.2.1
  have hok := hP.2
  have hS : va_S A s.heap s.heap [] := va_S.rf
  have hl : lv_has ls 1 [(0, .ref (ad 10))] := hl
  refine lv_aload_n hx hb dX6_kind_0 rfl (lv_at hl 0 rfl) ?_
  refine rwG_reader_tokens_kinds C hP mF_X6_9 dX6_kind_1 ?_
  refine lv_aload_n hx hb dX6_kind_4 rfl (lv_at hl 0 rfl) ?_
  refine rwG_reader_tokens_at C hP mF_X6_21 dX6_kind_5 ?_
  have r_1 := hok.1 6
  refine rwL_reader_tokens_kinds C hP (by omega) (by omega) dX6_kind_8 ?_
  have r_2 := hok.2 6 (v 6)
  exact g_iret hQ C hr hlocks hP hS dX6_kind_9 ⟨⟨_, rfl, rfl⟩, rfl, rfl, rfl⟩

set_option maxHeartbeats 4000000 in
set_option maxRecDepth 100000 in
theorem c_X6_split (l : Launch) (D : va_G) (k : Nat → ClassId) (A : Nat → Prop) (ad : Nat → Nat) (hD : rwD A k ad) (v : gV) (f g : gF) (a : Int) (h_a : inR a) (ha : a = 0) : GM l D k A (rwW k ad) yX6_split cX6_split 6 none 1 23 [.ref (ad 10), .ref (ad 1), .int (iI a)] v f g (fun r v1 f1 g1 => r = none ∧ (va_up (va_up v 6 0) 5 1) = v1 ∧ (va_up (va_up (va_up f 6 (u1 (f 6) 0 256)) 7 (u1 (f 7) 0 a)) 8 (u1 (f 8) 0 0)) = f1 ∧ g = g1) := by
  refine GM.of (by decide) (Nat.le_of_ble_eq_true rfl) ?_
  intro p e s m args below meth c Q ls hQ C hml hr hlocks hP hl
  have hx := C.1
  have hb := C.2.1
  have hok := hP.2
  have hS : va_S A s.heap s.heap [] := va_S.rf
  have hl : lv_has ls 6 [(0, .ref (ad 10)), (1, .ref (ad 1)), (2, .int (iI a))] := hl
  refine lv_aload_n hx hb dX6_split_0 rfl (lv_at hl 0 rfl) ?_
  refine lv_iconst (v := iI 0) hx hb dX6_split_1 rfl ?_
  refine rwP_reader_tokens_at (v1 := (va_up v 6 0)) C hP hD hS mF_X6_21 (by decide) rfl (Or.inl rfl) dX6_split_2 (fun H locs hP hS => ?_)
  refine lv_aload_n hx hb dX6_split_5 rfl (lv_at hl 0 rfl) ?_
  refine lv_iconst (v := iI 0) hx hb dX6_split_6 rfl ?_
  refine rwP_reader_tokens_many (v1 := (va_up (va_up v 6 0) 5 0)) C hP hD hS mF_X6_25 (by decide) rfl (Or.inl rfl) dX6_split_7 (fun H locs hP hS => ?_)
  refine lv_iconst (v := iI 0) hx hb dX6_split_10 rfl ?_
  refine lv_istore_n (lv' := [(3, .int (iI 0)), (0, .ref (ad 10)), (1, .ref (ad 1)), (2, .int (iI a))]) hx hb dX6_split_11 rfl hl (by decide) rfl (fun ls hl => ?_)
  refine lv_iconst (v := iI 0) hx hb dX6_split_12 rfl ?_
  refine lv_istore (lv' := [(4, .int (iI 0)), (3, .int (iI 0)), (0, .ref (ad 10)), (1, .ref (ad 1)), (2, .int (iI a))]) hx hb dX6_split_13 hl (by decide) rfl (fun ls hl => ?_)
  refine lv_iload hx hb dX6_split_15 (lv_at hl 0 rfl) ?_
  refine lv_iload_n hx hb dX6_split_17 rfl (lv_at hl 4 rfl) ?_
  refine gi_cge (tgt := 145) hx hb dX6_split_18 (by decide) (by decide) (by omega) (fun c_1 => ?_) (fun c_1 => ?_)
  · refine lv_aload_n hx hb dX6_split_145 rfl (lv_at hl 2 rfl) ?_
    refine lv_sipush (v := iI 256) hx hb dX6_split_146 (by decide) ?_
    refine lv_iload_n hx hb dX6_split_149 rfl (lv_at hl 4 rfl) ?_
    refine lv_iconst (v := iI 0) hx hb dX6_split_150 rfl ?_
    refine g_cv (As := [.int (iI 256), .int (iI a), .int (iI 0)]) (rest := []) (n := 3) C hml (c_X6_put l D k A ad hD (va_up (va_up v 6 0) 5 0) f g 256 a 0 (by decide) (by omega) (by decide) (show 0 ≤ 0 ∧ 0 < 701 from by omega)) mM_X6_45 mI_X6_put mE_X6_put mN_X6 mC_X6_put (by decide +kernel) 10 (ci := 6) rfl rfl hP hS (fun _ h => h) ⟨Nat.le_of_ble_eq_true rfl, Nat.le_of_ble_eq_true rfl⟩ ⟨Nat.zero_le _, Nat.zero_le _⟩ hl.1 rfl rfl (Nat.le_of_ble_eq_true rfl) dX6_split_151 (fun r_2 v_2 f_2 g_2 H locs hq_2 hP _ hS => ?_)
    obtain ⟨rfl, rfl, rfl, rfl⟩ := hq_2
    show W p l e (gRm 1 23) s m args below meth c _ _ 0 0 Q (F0 m 154 ls [])
    have hP : gWd D (rwW k ad) (va_up (va_up v 6 0) 5 1) (va_up (va_up (va_up f 6 (u1 (f 6) 0 (256 : Int))) 7 (u1 (f 7) 0 a)) 8 (u1 (f 8) 0 (0 : Int))) g H := ⟨hP.1, (gF_up (gF_up (gF_up (gR_up (gR_up ⟨hok.1, hok.2⟩ 6 (by decide)) 5 (by decide)) 6 (u1_rng (hok.2 6) (by decide))) 7 (u1_rng (hok.2 7) (by omega))) 8 (u1_rng (hok.2 8) (by decide)))⟩
    exact g_vret hQ C hr hlocks hP hS dX6_split_154 ⟨rfl, rfl, (by rfl), rfl⟩
  · exfalso; omega

set_option maxHeartbeats 4000000 in
set_option maxRecDepth 100000 in
theorem c_X3_read (l : Launch) (D : va_G) (k : Nat → ClassId) (A : Nat → Prop) (ad : Nat → Nat) (hD : rwD A k ad) (v : gV) (f g : gF) (a : Int) (h_a : inR a) (ha : a = 0) : GM l D k A (rwW k ad) yX3_read cX3_read 4 none 2 48 [.ref (ad 9), .ref (ad 1), .int (iI a)] v f g (fun r v1 f1 g1 => r = none ∧ True ∧ True ∧ True ∧ v1 7 = 0 ∧ v1 16 = 0 ∧ v1 10 = 0) := by
  refine GM.of (by decide) (Nat.le_of_ble_eq_true rfl) ?_
  intro p e s m args below meth c Q ls hQ C hml hr hlocks hP hl
  have hx := C.1
  have hb := C.2.1
  have hok := hP.2
  have hS : va_S A s.heap s.heap [] := va_S.rf
  have hl : lv_has ls 4 [(0, .ref (ad 9)), (1, .ref (ad 1)), (2, .int (iI a))] := hl
  refine lv_aload_n hx hb dX3_read_0 rfl (lv_at hl 0 rfl) ?_
  refine lv_iconst (v := iI 0) hx hb dX3_read_1 rfl ?_
  refine rwP_reader_fault (v1 := (va_up v 16 0)) C hP hD hS mF_X3_32 (by decide) rfl (Or.inl rfl) dX3_read_2 (fun H locs hP hS => ?_)
  refine lv_aload_n hx hb dX3_read_5 rfl (lv_at hl 0 rfl) ?_
  refine lv_iconst (v := iI (-1)) hx hb dX3_read_6 rfl ?_
  refine rwP_reader_faultPlace (v1 := (va_up (va_up v 16 0) 17 (-1))) C hP hD hS mF_X3_36 (by decide) rfl (Or.inl rfl) dX3_read_7 (fun H locs hP hS => ?_)
  refine lv_aload_n hx hb dX3_read_10 rfl (lv_at hl 0 rfl) ?_
  refine lv_iconst (v := iI 0) hx hb dX3_read_11 rfl ?_
  refine rwP_reader_pointsTold (v1 := (va_up (va_up (va_up v 16 0) 17 (-1)) 18 0)) C hP hD hS mF_X3_39 (by decide) (by omega) rfl (Or.inl rfl) dX3_read_12 (fun H locs hP hS => ?_)
  refine lv_aload_n hx hb dX3_read_15 rfl (lv_at hl 0 rfl) ?_
  refine lv_iconst (v := iI 0) hx hb dX3_read_16 rfl ?_
  refine rwP_reader_keysTold (v1 := (va_up (va_up (va_up (va_up v 16 0) 17 (-1)) 18 0) 19 0)) C hP hD hS mF_X3_43 (by decide) (by omega) rfl (Or.inl rfl) dX3_read_17 (fun H locs hP hS => ?_)
  refine lv_aload_n hx hb dX3_read_20 rfl (lv_at hl 0 rfl) ?_
  refine lv_iconst (v := iI 0) hx hb dX3_read_21 rfl ?_
  refine rwP_reader_tiesTold (v1 := (va_up (va_up (va_up (va_up (va_up v 16 0) 17 (-1)) 18 0) 19 0) 20 0)) C hP hD hS mF_X3_46 (by decide) (by omega) rfl (Or.inl rfl) dX3_read_22 (fun H locs hP hS => ?_)
  refine lv_aload_n hx hb dX3_read_25 rfl (lv_at hl 0 rfl) ?_
  refine rwG_reader_draft C hP mF_X3_21 dX3_read_26 ?_
  refine g_cv (As := []) (rest := []) (n := 0) C hml (c_X4_setUntold l D k A ad hD (va_up (va_up (va_up (va_up (va_up v 16 0) 17 (-1)) 18 0) 19 0) 20 0) f g) mM_X3_49 mI_X4_setUntold mE_X4_setUntold mN_X4 mC_X4_setUntold (by decide +kernel) 14 (ci := 4) rfl rfl hP hS (fun _ h => h) ⟨Nat.le_of_ble_eq_true rfl, Nat.le_of_ble_eq_true rfl⟩ ⟨Nat.zero_le _, Nat.zero_le _⟩ hl.1 rfl rfl (Nat.le_of_ble_eq_true rfl) dX3_read_29 (fun r_1 v_1 f_1 g_1 H locs hq_1 hP _ hS => ?_)
  obtain ⟨rfl, rfl, -, rfl⟩ := hq_1
  show W p l e (gRm 2 48) s m args below meth c _ _ 0 0 Q (F0 m 32 ls [])
  have hf_1 := hP.2.2
  refine lv_aload_n hx hb dX3_read_32 rfl (lv_at hl 0 rfl) ?_
  refine rwG_reader_tokens C hP mF_X3_12 dX3_read_33 ?_
  refine lv_aload_n hx hb dX3_read_36 rfl (lv_at hl 1 rfl) ?_
  refine lv_iload_n hx hb dX3_read_37 rfl (lv_at hl 2 rfl) ?_
  refine g_cv (As := [.ref (ad 1), .int (iI a)]) (rest := []) (n := 2) C hml (c_X6_split l D k A ad hD (va_up (va_up (va_up (va_up (va_up (va_up (va_up (va_up (va_up v 16 0) 17 (-1)) 18 0) 19 0) 20 0) 7 0) 8 5) 9 1) 10 0) f_1 g a (by omega) (show a = 0 from by omega)) mM_X3_52 mI_X6_split mE_X6_split mN_X6 mC_X6_split (by decide +kernel) 10 (ci := 6) rfl rfl hP hS (fun _ h => h) ⟨Nat.le_of_ble_eq_true rfl, Nat.le_of_ble_eq_true rfl⟩ ⟨Nat.zero_le _, Nat.zero_le _⟩ hl.1 rfl rfl (Nat.le_of_ble_eq_true rfl) dX3_read_38 (fun r_2 v_2 f_2 g_2 H locs hq_2 hP _ hS => ?_)
  obtain ⟨rfl, rfl, rfl, rfl⟩ := hq_2
  show W p l e (gRm 2 48) s m args below meth c _ _ 0 0 Q (F0 m 41 ls [])
  refine lv_iconst (v := iI 0) hx hb dX3_read_41 rfl ?_
  refine lv_istore_n (lv' := [(3, .int (iI 0)), (0, .ref (ad 9)), (1, .ref (ad 1)), (2, .int (iI a))]) hx hb dX3_read_42 rfl hl (by decide) rfl (fun ls hl => ?_)
  refine lv_iload_n hx hb dX3_read_43 rfl (lv_at hl 0 rfl) ?_
  refine lv_sipush (v := iI 700) hx hb dX3_read_44 (by decide) ?_
  refine gi_cgt (tgt := 80) hx hb dX3_read_47 (by decide) (by decide) (by decide) (fun c_3 => ?_) (fun c_3 => ?_)
  · exfalso; omega
  · refine lv_aload_n hx hb dX3_read_50 rfl (lv_at hl 1 rfl) ?_
    refine rwG_reader_fault C hP mF_X3_32 dX3_read_51 ?_
    show W p l e (gRm 2 48) s m args below meth c _ _ 0 0 Q (F0 m 54 ls [.int (iI 0)])
    refine gi_zne (tgt := 80) hx hb dX3_read_54 (by decide) (by decide) (fun c_4 => ?_) (fun c_4 => ?_)
    · exfalso; omega
    · refine lv_aload_n hx hb dX3_read_57 rfl (lv_at hl 1 rfl) ?_
      refine rwG_reader_tokens C hP mF_X3_12 dX3_read_58 ?_
      refine g_cv (As := []) (rest := []) (n := 0) C hml (c_X6_kind l D k A ad hD (va_up (va_up (va_up (va_up (va_up (va_up (va_up (va_up (va_up (va_up (va_up v 16 0) 17 (-1)) 18 0) 19 0) 20 0) 7 0) 8 5) 9 1) 10 0) 6 0) 5 1) (va_up (va_up (va_up f_1 6 (u1 (f_1 6) 0 256)) 7 (u1 (f_1 7) 0 a)) 8 (u1 (f_1 8) 0 0)) g (show 0 ≤ 0 ∧ 0 < 701 from by omega)) mM_X3_56 mI_X6_kind mE_X6_kind mN_X6 mC_X6_kind (by decide +kernel) 10 (ci := 6) rfl rfl hP hS (fun _ h => h) ⟨Nat.le_of_ble_eq_true rfl, Nat.le_of_ble_eq_true rfl⟩ ⟨Nat.zero_le _, Nat.zero_le _⟩ hl.1 rfl rfl (Nat.le_of_ble_eq_true rfl) dX3_read_61 (fun r_5 v_5 f_5 g_5 H locs hq_5 hP _ hS => ?_)
      obtain ⟨⟨z_5, rfl, ez0_5⟩, rfl, rfl, rfl⟩ := hq_5
      have ez_5 : z_5 = ((u1 (f_1 6) 0 256) 0) := ez0_5
      have hz_5 : inR z_5 := (by rw [ez_5]; show inR 256; decide)
      show W p l e (gRm 2 48) s m args below meth c _ _ 0 0 Q (F0 m 64 ls [.int (iI z_5)])
      have k_5 : z_5 = 256 := by rw [ez_5]; rfl
      refine lv_sipush (v := iI 256) hx hb dX3_read_64 (by decide) ?_
      refine gi_ceq (tgt := 80) hx hb dX3_read_67 (by decide) (by omega) (by decide) (fun c_6 => ?_) (fun c_6 => ?_)
      · exact g_vret hQ C hr hlocks hP hS dX3_read_80 ⟨rfl, trivial, trivial, trivial, ⟨rfl, rfl, rfl⟩⟩
      · exfalso; omega

set_option maxHeartbeats 4000000 in
set_option maxRecDepth 100000 in
theorem c_X4_take (l : Launch) (D : va_G) (k : Nat → ClassId) (A : Nat → Prop) (ad : Nat → Nat) (hD : rwD A k ad) (v : gV) (f g : gF) (hbk : v 10 = 0 ∨ v 10 = 1) : GM l D k A (rwW k ad) yX4_take cX4_take 2 none 1 64 [.ref (ad 2), .ref (ad 14)] v f g (fun r v1 f1 g1 => r = none ∧ (va_up (va_up (va_up (va_up v 1 (v 7)) 2 (v 8)) 3 (v 9)) 4 (v 10)) = v1 ∧ True ∧ g = g1) := by
  refine GM.of (by decide) (Nat.le_of_ble_eq_true rfl) ?_
  intro p e s m args below meth c Q ls hQ C hml hr hlocks hP hl
  have hx := C.1
  have hb := C.2.1
  have hok := hP.2
  have hS : va_S A s.heap s.heap [] := va_S.rf
  have hl : lv_has ls 2 [(0, .ref (ad 2)), (1, .ref (ad 14))] := hl
  refine lv_aload_n hx hb dX4_take_0 rfl (lv_at hl 0 rfl) ?_
  refine lv_aload_n hx hb dX4_take_1 rfl (lv_at hl 1 rfl) ?_
  refine rwG_reader_draft_rounds C hP mF_X4_31 dX4_take_2 ?_
  have r_1 := hok.1 7
  refine rwP_laws_rounds (v1 := (va_up v 1 (v 7))) C hP hD hS mF_X4_31 (by omega) rfl (Or.inl rfl) dX4_take_5 (fun H locs hP hS => ?_)
  refine lv_aload_n hx hb dX4_take_8 rfl (lv_at hl 1 rfl) ?_
  refine rwG_reader_draft_shape C hP mF_X4_9 dX4_take_9 ?_
  refine lv_iconst (v := iI 0) hx hb dX4_take_12 rfl ?_
  refine lv_aload_n hx hb dX4_take_13 rfl (lv_at hl 0 rfl) ?_
  refine rwG_laws_shape C hP mF_X4_9 dX4_take_14 ?_
  refine lv_iconst (v := iI 0) hx hb dX4_take_17 rfl ?_
  refine lv_aload_n hx hb dX4_take_18 rfl (lv_at hl 0 rfl) ?_
  refine rwG_laws_shape C hP mF_X4_9 dX4_take_19 ?_
  refine rwN_laws_shape C hP dX4_take_22 ?_
  refine g_copy (ws' := (rwW k ad) (va_up v 1 (v 7)) (va_up f 1 (gcpy 16 (f 9) (f 1))) g) C hml hl.1 hP.1 (hD _ _ _) hS 15 3 rfl rfl mM_X4_53 rfl (by decide) rfl (Nat.le_of_ble_eq_true rfl) (by decide) dX4_take_23 (fun H locs hP hS => ?_)
  have hP : gWd D (rwW k ad) (va_up v 1 (v 7)) (va_up f 1 (gcpy 16 (f 9) (f 1))) g H := ⟨hP, (gF_up (gR_up ⟨hok.1, hok.2⟩ 1 (by omega)) 1 (gcpy_rng (hok.2 9) (hok.2 1)))⟩
  refine lv_aload_n hx hb dX4_take_26 rfl (lv_at hl 1 rfl) ?_
  refine rwG_reader_draft_item C hP mF_X4_15 dX4_take_27 ?_
  refine lv_iconst (v := iI 0) hx hb dX4_take_30 rfl ?_
  refine lv_aload_n hx hb dX4_take_31 rfl (lv_at hl 0 rfl) ?_
  refine rwG_laws_item C hP mF_X4_15 dX4_take_32 ?_
  refine lv_iconst (v := iI 0) hx hb dX4_take_35 rfl ?_
  refine lv_aload_n hx hb dX4_take_36 rfl (lv_at hl 0 rfl) ?_
  refine rwG_laws_item C hP mF_X4_15 dX4_take_37 ?_
  refine rwN_laws_item C hP dX4_take_40 ?_
  refine g_copy (ws' := (rwW k ad) (va_up v 1 (v 7)) (va_up (va_up f 1 (gcpy 16 (f 9) (f 1))) 2 (gcpy 40 (f 10) (f 2))) g) C hml hl.1 hP.1 (hD _ _ _) hS 16 4 rfl rfl mM_X4_53 rfl (by decide) rfl (Nat.le_of_ble_eq_true rfl) (by decide) dX4_take_41 (fun H locs hP hS => ?_)
  have hP : gWd D (rwW k ad) (va_up v 1 (v 7)) (va_up (va_up f 1 (gcpy 16 (f 9) (f 1))) 2 (gcpy 40 (f 10) (f 2))) g H := ⟨hP, (gF_up (gF_up (gR_up ⟨hok.1, hok.2⟩ 1 (by omega)) 1 (gcpy_rng (hok.2 9) (hok.2 1))) 2 (gcpy_rng (hok.2 10) (hok.2 2)))⟩
  refine lv_aload_n hx hb dX4_take_44 rfl (lv_at hl 1 rfl) ?_
  refine rwG_reader_draft_number C hP mF_X4_18 dX4_take_45 ?_
  refine lv_iconst (v := iI 0) hx hb dX4_take_48 rfl ?_
  refine lv_aload_n hx hb dX4_take_49 rfl (lv_at hl 0 rfl) ?_
  refine rwG_laws_number C hP mF_X4_18 dX4_take_50 ?_
  refine lv_iconst (v := iI 0) hx hb dX4_take_53 rfl ?_
  refine lv_aload_n hx hb dX4_take_54 rfl (lv_at hl 0 rfl) ?_
  refine rwG_laws_number C hP mF_X4_18 dX4_take_55 ?_
  refine rwN_laws_number C hP dX4_take_58 ?_
  refine g_copy (ws' := (rwW k ad) (va_up v 1 (v 7)) (va_up (va_up (va_up f 1 (gcpy 16 (f 9) (f 1))) 2 (gcpy 40 (f 10) (f 2))) 3 (gcpy 40 (f 11) (f 3))) g) C hml hl.1 hP.1 (hD _ _ _) hS 17 5 rfl rfl mM_X4_53 rfl (by decide) rfl (Nat.le_of_ble_eq_true rfl) (by decide) dX4_take_59 (fun H locs hP hS => ?_)
  have hP : gWd D (rwW k ad) (va_up v 1 (v 7)) (va_up (va_up (va_up f 1 (gcpy 16 (f 9) (f 1))) 2 (gcpy 40 (f 10) (f 2))) 3 (gcpy 40 (f 11) (f 3))) g H := ⟨hP, (gF_up (gF_up (gF_up (gR_up ⟨hok.1, hok.2⟩ 1 (by omega)) 1 (gcpy_rng (hok.2 9) (hok.2 1))) 2 (gcpy_rng (hok.2 10) (hok.2 2))) 3 (gcpy_rng (hok.2 11) (hok.2 3)))⟩
  refine lv_aload_n hx hb dX4_take_62 rfl (lv_at hl 0 rfl) ?_
  refine lv_aload_n hx hb dX4_take_63 rfl (lv_at hl 1 rfl) ?_
  refine rwG_reader_draft_items C hP mF_X4_35 dX4_take_64 ?_
  show W p l e (gRm 1 64) s m args below meth c _ _ 0 0 Q (F0 m 67 ls [.int (iI (v 8)), .ref (ad 2)])
  have r_2 := hok.1 8
  refine rwP_laws_items (v1 := (va_up (va_up v 1 (v 7)) 2 (v 8))) C hP hD hS mF_X4_35 (by omega) rfl (Or.inl rfl) dX4_take_67 (fun H locs hP hS => ?_)
  refine lv_aload_n hx hb dX4_take_70 rfl (lv_at hl 1 rfl) ?_
  refine rwG_reader_draft_keyKind C hP mF_X4_21 dX4_take_71 ?_
  refine lv_iconst (v := iI 0) hx hb dX4_take_74 rfl ?_
  refine lv_aload_n hx hb dX4_take_75 rfl (lv_at hl 0 rfl) ?_
  refine rwG_laws_keyKind C hP mF_X4_21 dX4_take_76 ?_
  refine lv_iconst (v := iI 0) hx hb dX4_take_79 rfl ?_
  refine lv_aload_n hx hb dX4_take_80 rfl (lv_at hl 0 rfl) ?_
  refine rwG_laws_keyKind C hP mF_X4_21 dX4_take_81 ?_
  refine rwN_laws_keyKind C hP dX4_take_84 ?_
  refine g_copy (ws' := (rwW k ad) (va_up (va_up v 1 (v 7)) 2 (v 8)) (va_up (va_up (va_up (va_up f 1 (gcpy 16 (f 9) (f 1))) 2 (gcpy 40 (f 10) (f 2))) 3 (gcpy 40 (f 11) (f 3))) 4 (gcpy 4 (f 12) (f 4))) g) C hml hl.1 hP.1 (hD _ _ _) hS 18 6 rfl rfl mM_X4_53 rfl (by decide) rfl (Nat.le_of_ble_eq_true rfl) (by decide) dX4_take_85 (fun H locs hP hS => ?_)
  have hP : gWd D (rwW k ad) (va_up (va_up v 1 (v 7)) 2 (v 8)) (va_up (va_up (va_up (va_up f 1 (gcpy 16 (f 9) (f 1))) 2 (gcpy 40 (f 10) (f 2))) 3 (gcpy 40 (f 11) (f 3))) 4 (gcpy 4 (f 12) (f 4))) g H := ⟨hP, (gF_up (gF_up (gF_up (gF_up (gR_up (gR_up ⟨hok.1, hok.2⟩ 1 (by omega)) 2 (by omega)) 1 (gcpy_rng (hok.2 9) (hok.2 1))) 2 (gcpy_rng (hok.2 10) (hok.2 2))) 3 (gcpy_rng (hok.2 11) (hok.2 3))) 4 (gcpy_rng (hok.2 12) (hok.2 4)))⟩
  refine lv_aload_n hx hb dX4_take_88 rfl (lv_at hl 1 rfl) ?_
  refine rwG_reader_draft_keyDown C hP mF_X4_24 dX4_take_89 ?_
  refine lv_iconst (v := iI 0) hx hb dX4_take_92 rfl ?_
  refine lv_aload_n hx hb dX4_take_93 rfl (lv_at hl 0 rfl) ?_
  refine rwG_laws_keyDown C hP mF_X4_24 dX4_take_94 ?_
  refine lv_iconst (v := iI 0) hx hb dX4_take_97 rfl ?_
  refine lv_aload_n hx hb dX4_take_98 rfl (lv_at hl 0 rfl) ?_
  refine rwG_laws_keyDown C hP mF_X4_24 dX4_take_99 ?_
  refine rwN_laws_keyDown C hP dX4_take_102 ?_
  refine g_copy (ws' := (rwW k ad) (va_up (va_up v 1 (v 7)) 2 (v 8)) (va_up (va_up (va_up (va_up (va_up f 1 (gcpy 16 (f 9) (f 1))) 2 (gcpy 40 (f 10) (f 2))) 3 (gcpy 40 (f 11) (f 3))) 4 (gcpy 4 (f 12) (f 4))) 5 (gcpy 4 (f 13) (f 5))) g) C hml hl.1 hP.1 (hD _ _ _) hS 19 7 rfl rfl mM_X4_53 rfl (by decide) rfl (Nat.le_of_ble_eq_true rfl) (by decide) dX4_take_103 (fun H locs hP hS => ?_)
  have hP : gWd D (rwW k ad) (va_up (va_up v 1 (v 7)) 2 (v 8)) (va_up (va_up (va_up (va_up (va_up f 1 (gcpy 16 (f 9) (f 1))) 2 (gcpy 40 (f 10) (f 2))) 3 (gcpy 40 (f 11) (f 3))) 4 (gcpy 4 (f 12) (f 4))) 5 (gcpy 4 (f 13) (f 5))) g H := ⟨hP, (gF_up (gF_up (gF_up (gF_up (gF_up (gR_up (gR_up ⟨hok.1, hok.2⟩ 1 (by omega)) 2 (by omega)) 1 (gcpy_rng (hok.2 9) (hok.2 1))) 2 (gcpy_rng (hok.2 10) (hok.2 2))) 3 (gcpy_rng (hok.2 11) (hok.2 3))) 4 (gcpy_rng (hok.2 12) (hok.2 4))) 5 (gcpy_rng (hok.2 13) (hok.2 5)))⟩
  refine lv_aload_n hx hb dX4_take_106 rfl (lv_at hl 0 rfl) ?_
  refine lv_aload_n hx hb dX4_take_107 rfl (lv_at hl 1 rfl) ?_
  refine rwG_reader_draft_keys C hP mF_X4_42 dX4_take_108 ?_
  show W p l e (gRm 1 64) s m args below meth c _ _ 0 0 Q (F0 m 111 ls [.int (iI (v 9)), .ref (ad 2)])
  have r_3 := hok.1 9
  refine rwP_laws_keys (v1 := (va_up (va_up (va_up v 1 (v 7)) 2 (v 8)) 3 (v 9))) C hP hD hS mF_X4_42 (by omega) rfl (Or.inl rfl) dX4_take_111 (fun H locs hP hS => ?_)
  refine lv_aload_n hx hb dX4_take_114 rfl (lv_at hl 0 rfl) ?_
  refine lv_aload_n hx hb dX4_take_115 rfl (lv_at hl 1 rfl) ?_
  refine rwG_reader_draft_back C hP mF_X4_49 dX4_take_116 ?_
  show W p l e (gRm 1 64) s m args below meth c _ _ 0 0 Q (F0 m 119 ls [.int (iI (v 10)), .ref (ad 2)])
  have r_4 := hok.1 10
  refine rwP_laws_back (v1 := (va_up (va_up (va_up (va_up v 1 (v 7)) 2 (v 8)) 3 (v 9)) 4 (v 10))) C hP hD hS mF_X4_49 (by omega) (by omega) rfl (Or.inl rfl) dX4_take_119 (fun H locs hP hS => ?_)
  exact g_vret hQ C hr hlocks hP hS dX4_take_122 ⟨rfl, rfl, trivial, rfl⟩

set_option maxHeartbeats 4000000 in
set_option maxRecDepth 100000 in
theorem c_X8_clear (l : Launch) (D : va_G) (k : Nat → ClassId) (A : Nat → Prop) (ad : Nat → Nat) (hD : rwD A k ad) (v : gV) (f g : gF) : GM l D k A (rwW k ad) yX8_clear cX8_clear 1 none 1 23 [.ref (ad 23)] v f g (fun r v1 f1 g1 => r = none ∧ v = v1 ∧ (va_up (va_up (va_up f 15 (gfill (f 15) 20 10)) 16 (gfill (f 16) 20 0)) 17 (gfill (f 17) 60 0)) = f1 ∧ g = g1) := by
  refine GM.of (by decide) (Nat.le_of_ble_eq_true rfl) ?_
  intro p e s m args below meth c Q ls hQ C hml hr hlocks hP hl
  have hx := C.1
  have hb := C.2.1
  have hok := hP.2
  have hS : va_S A s.heap s.heap [] := va_S.rf
  have hl : lv_has ls 1 [(0, .ref (ad 23))] := hl
  refine lv_aload_n hx hb dX8_clear_0 rfl (lv_at hl 0 rfl) ?_
  refine rwG_wall_holds C hP mF_X8_9 dX8_clear_1 ?_
  refine lv_bipush (v := iI 10) hx hb dX8_clear_4 (by decide) ?_
  refine g_cs (As := [.ref (ad 24), .int (iI 10)]) (rest := []) (n := 2) C hml (c_fillI l D k A (rwW k ad) (ad 24) 24 15 20 (fun _ _ _ => rfl) (fun _ _ _ _ => rfl) hD (by decide) v f g 10 (by decide)) mM_X8_21 mS_J7_fill_53178 mN_J7 mC_J7_fill_53178 (by decide +kernel) hP hS (fun _ h => h) ⟨Nat.le_of_ble_eq_true rfl, Nat.le_of_ble_eq_true rfl⟩ ⟨Nat.zero_le _, Nat.zero_le _⟩ hl.1 rfl rfl (Nat.le_of_ble_eq_true rfl) dX8_clear_6 (fun r v1 f1 g1 H locs hq hP _ hS => ?_)
  obtain ⟨rfl, rfl, rfl, rfl⟩ := hq
  show W p l e (gRm 1 23) s m args below meth c _ _ 0 0 Q (F0 m 9 ls [])
  have hP : gWd D (rwW k ad) v (va_up f 15 (gfill (f 15) 20 10)) g H := hP
  refine lv_aload_n hx hb dX8_clear_9 rfl (lv_at hl 0 rfl) ?_
  refine rwG_wall_begun C hP mF_X8_15 dX8_clear_10 ?_
  refine lv_iconst (v := iI 0) hx hb dX8_clear_13 rfl ?_
  refine g_cs (As := [.ref (ad 25), .int (iI 0)]) (rest := []) (n := 2) C hml (c_fillI l D k A (rwW k ad) (ad 25) 25 16 20 (fun _ _ _ => rfl) (fun _ _ _ _ => rfl) hD (by decide) v (va_up f 15 (gfill (f 15) 20 10)) g 0 (by decide)) mM_X8_21 mS_J7_fill_53178 mN_J7 mC_J7_fill_53178 (by decide +kernel) hP hS (fun _ h => h) ⟨Nat.le_of_ble_eq_true rfl, Nat.le_of_ble_eq_true rfl⟩ ⟨Nat.zero_le _, Nat.zero_le _⟩ hl.1 rfl rfl (Nat.le_of_ble_eq_true rfl) dX8_clear_14 (fun r v1 f1 g1 H locs hq hP _ hS => ?_)
  obtain ⟨rfl, rfl, rfl, rfl⟩ := hq
  show W p l e (gRm 1 23) s m args below meth c _ _ 0 0 Q (F0 m 17 ls [])
  have hP : gWd D (rwW k ad) v (va_up (va_up f 15 (gfill (f 15) 20 10)) 16 (gfill (f 16) 20 0)) g H := hP
  refine lv_aload_n hx hb dX8_clear_17 rfl (lv_at hl 0 rfl) ?_
  refine rwG_wall_zones C hP mF_X8_18 dX8_clear_18 ?_
  refine lv_iconst (v := iI 0) hx hb dX8_clear_21 rfl ?_
  refine g_cs (As := [.ref (ad 26), .int (iI 0)]) (rest := []) (n := 2) C hml (c_fillI l D k A (rwW k ad) (ad 26) 26 17 60 (fun _ _ _ => rfl) (fun _ _ _ _ => rfl) hD (by decide) v (va_up (va_up f 15 (gfill (f 15) 20 10)) 16 (gfill (f 16) 20 0)) g 0 (by decide)) mM_X8_21 mS_J7_fill_53178 mN_J7 mC_J7_fill_53178 (by decide +kernel) hP hS (fun _ h => h) ⟨Nat.le_of_ble_eq_true rfl, Nat.le_of_ble_eq_true rfl⟩ ⟨Nat.zero_le _, Nat.zero_le _⟩ hl.1 rfl rfl (Nat.le_of_ble_eq_true rfl) dX8_clear_22 (fun r v1 f1 g1 H locs hq hP _ hS => ?_)
  obtain ⟨rfl, rfl, rfl, rfl⟩ := hq
  show W p l e (gRm 1 23) s m args below meth c _ _ 0 0 Q (F0 m 25 ls [])
  have hP : gWd D (rwW k ad) v (va_up (va_up (va_up f 15 (gfill (f 15) 20 10)) 16 (gfill (f 16) 20 0)) 17 (gfill (f 17) 60 0)) g H := hP
  exact g_vret hQ C hr hlocks hP hS dX8_clear_25 ⟨rfl, rfl, rfl, rfl⟩

set_option maxHeartbeats 4000000 in
set_option maxRecDepth 100000 in
theorem c_X2_clear (l : Launch) (D : va_G) (k : Nat → ClassId) (A : Nat → Prop) (ad : Nat → Nat) (hD : rwD A k ad) (v : gV) (f g : gF) : GM l D k A (rwW k ad) yX2_clear cX2_clear 1 none 0 0 [.ref (ad 27)] v f g (fun r v1 f1 g1 => r = none ∧ (va_up (va_up v 21 0) 22 0) = v1 ∧ f = f1 ∧ g = g1) := by
  refine GM.of (by decide) (Nat.le_of_ble_eq_true rfl) ?_
  intro p e s m args below meth c Q ls hQ C hml hr hlocks hP hl
  have hx := C.1
  have hb := C.2.1
  have hok := hP.2
  have hS : va_S A s.heap s.heap [] := va_S.rf
  have hl : lv_has ls 1 [(0, .ref (ad 27))] := hl
  refine lv_aload_n hx hb dX2_clear_0 rfl (lv_at hl 0 rfl) ?_
  refine lv_iconst (v := iI 0) hx hb dX2_clear_1 rfl ?_
  refine rwP_field_climbers (v1 := (va_up v 21 0)) C hP hD hS mF_X2_18 (by decide) rfl (Or.inl rfl) dX2_clear_2 (fun H locs hP hS => ?_)
  refine lv_aload_n hx hb dX2_clear_5 rfl (lv_at hl 0 rfl) ?_
  refine lv_iconst (v := iI 0) hx hb dX2_clear_6 rfl ?_
  refine rwP_field_open (v1 := (va_up (va_up v 21 0) 22 0)) C hP hD hS mF_X2_22 (by decide) rfl (Or.inl rfl) dX2_clear_7 (fun H locs hP hS => ?_)
  exact g_vret hQ C hr hlocks hP hS dX2_clear_10 ⟨rfl, rfl, rfl, rfl⟩

set_option maxHeartbeats 4000000 in
set_option maxRecDepth 100000 in
theorem c_X7_clear (l : Launch) (D : va_G) (k : Nat → ClassId) (A : Nat → Prop) (ad : Nat → Nat) (hD : rwD A k ad) (v : gV) (f g : gF) : GM l D k A (rwW k ad) yX7_clear cX7_clear 1 none 1 23 [.ref (ad 30)] v f g (fun r v1 f1 g1 => r = none ∧ (va_up v 23 0) = v1 ∧ (va_up f 27 (gfill (f 27) 16 0)) = f1 ∧ g = g1) := by
  refine GM.of (by decide) (Nat.le_of_ble_eq_true rfl) ?_
  intro p e s m args below meth c Q ls hQ C hml hr hlocks hP hl
  have hx := C.1
  have hb := C.2.1
  have hok := hP.2
  have hS : va_S A s.heap s.heap [] := va_S.rf
  have hl : lv_has ls 1 [(0, .ref (ad 30))] := hl
  refine lv_aload_n hx hb dX7_clear_0 rfl (lv_at hl 0 rfl) ?_
  refine lv_iconst (v := iI 0) hx hb dX7_clear_1 rfl ?_
  refine rwP_tries_many (v1 := (va_up v 23 0)) C hP hD hS mF_X7_36 (by decide) rfl (Or.inl rfl) dX7_clear_2 (fun H locs hP hS => ?_)
  refine lv_aload_n hx hb dX7_clear_5 rfl (lv_at hl 0 rfl) ?_
  refine rwG_tries_openNext C hP mF_X7_33 dX7_clear_6 ?_
  refine lv_iconst (v := iI 0) hx hb dX7_clear_9 rfl ?_
  refine g_cs (As := [.ref (ad 38), .int (iI 0)]) (rest := []) (n := 2) C hml (c_fillI l D k A (rwW k ad) (ad 38) 38 27 16 (fun _ _ _ => rfl) (fun _ _ _ _ => rfl) hD (by decide) (va_up v 23 0) f g 0 (by decide)) mM_X7_40 mS_J7_fill_53178 mN_J7 mC_J7_fill_53178 (by decide +kernel) hP hS (fun _ h => h) ⟨Nat.le_of_ble_eq_true rfl, Nat.le_of_ble_eq_true rfl⟩ ⟨Nat.zero_le _, Nat.zero_le _⟩ hl.1 rfl rfl (Nat.le_of_ble_eq_true rfl) dX7_clear_10 (fun r v1 f1 g1 H locs hq hP _ hS => ?_)
  obtain ⟨rfl, rfl, rfl, rfl⟩ := hq
  show W p l e (gRm 1 23) s m args below meth c _ _ 0 0 Q (F0 m 13 ls [])
  have hP : gWd D (rwW k ad) (va_up v 23 0) (va_up f 27 (gfill (f 27) 16 0)) g H := hP
  exact g_vret hQ C hr hlocks hP hS dX7_clear_13 ⟨rfl, rfl, rfl, rfl⟩

set_option maxHeartbeats 4000000 in
set_option maxRecDepth 100000 in
theorem c_X0_clear (l : Launch) (D : va_G) (k : Nat → ClassId) (A : Nat → Prop) (ad : Nat → Nat) (hD : rwD A k ad) (v : gV) (f g : gF) : GM l D k A (rwW k ad) yX0_clear cX0_clear 1 none 0 0 [.ref (ad 39)] v f g (fun r v1 f1 g1 => r = none ∧ (va_up v 24 0) = v1 ∧ f = f1 ∧ g = g1) := by
  refine GM.of (by decide) (Nat.le_of_ble_eq_true rfl) ?_
  intro p e s m args below meth c Q ls hQ C hml hr hlocks hP hl
  have hx := C.1
  have hb := C.2.1
  have hok := hP.2
  have hS : va_S A s.heap s.heap [] := va_S.rf
  have hl : lv_has ls 1 [(0, .ref (ad 39))] := hl
  refine lv_aload_n hx hb dX0_clear_0 rfl (lv_at hl 0 rfl) ?_
  refine lv_iconst (v := iI 0) hx hb dX0_clear_1 rfl ?_
  refine rwP_appeals_many (v1 := (va_up v 24 0)) C hP hD hS mF_X0_21 (by decide) rfl (Or.inl rfl) dX0_clear_2 (fun H locs hP hS => ?_)
  exact g_vret hQ C hr hlocks hP hS dX0_clear_5 ⟨rfl, rfl, rfl, rfl⟩

set_option maxHeartbeats 4000000 in
set_option maxRecDepth 100000 in
theorem c_X9_clear (l : Launch) (D : va_G) (k : Nat → ClassId) (A : Nat → Prop) (ad : Nat → Nat) (hD : rwD A k ad) (v : gV) (f g : gF) : GM l D k A (rwW k ad) yX9_clear cX9_clear 1 none 1 23 [.ref (ad 43)] v f g (fun r v1 f1 g1 => r = none ∧ v = v1 ∧ (va_up f 31 (gfill (f 31) 16 0)) = f1 ∧ g = g1) := by
  refine GM.of (by decide) (Nat.le_of_ble_eq_true rfl) ?_
  intro p e s m args below meth c Q ls hQ C hml hr hlocks hP hl
  have hx := C.1
  have hb := C.2.1
  have hok := hP.2
  have hS : va_S A s.heap s.heap [] := va_S.rf
  have hl : lv_has ls 1 [(0, .ref (ad 43))] := hl
  refine lv_aload_n hx hb dX9_clear_0 rfl (lv_at hl 0 rfl) ?_
  refine rwG_watch_times C hP mF_X9_9 dX9_clear_1 ?_
  refine lv_iconst (v := iI 0) hx hb dX9_clear_4 rfl ?_
  refine g_cs (As := [.ref (ad 44), .int (iI 0)]) (rest := []) (n := 2) C hml (c_fillI l D k A (rwW k ad) (ad 44) 44 31 16 (fun _ _ _ => rfl) (fun _ _ _ _ => rfl) hD (by decide) v f g 0 (by decide)) mM_X9_21 mS_J7_fill_53178 mN_J7 mC_J7_fill_53178 (by decide +kernel) hP hS (fun _ h => h) ⟨Nat.le_of_ble_eq_true rfl, Nat.le_of_ble_eq_true rfl⟩ ⟨Nat.zero_le _, Nat.zero_le _⟩ hl.1 rfl rfl (Nat.le_of_ble_eq_true rfl) dX9_clear_5 (fun r v1 f1 g1 H locs hq hP _ hS => ?_)
  obtain ⟨rfl, rfl, rfl, rfl⟩ := hq
  show W p l e (gRm 1 23) s m args below meth c _ _ 0 0 Q (F0 m 8 ls [])
  have hP : gWd D (rwW k ad) v (va_up f 31 (gfill (f 31) 16 0)) g H := hP
  exact g_vret hQ C hr hlocks hP hS dX9_clear_8 ⟨rfl, rfl, rfl, rfl⟩

set_option maxHeartbeats 4000000 in
set_option maxRecDepth 100000 in
theorem c_X10_load (l : Launch) (D : va_G) (k : Nat → ClassId) (A : Nat → Prop) (ad : Nat → Nat) (hD : rwD A k ad) (v : gV) (f g : gF) (a1 : Int) (h_a1 : inR a1) (q0 : v 0 = 0) (q1 : v 1 = 0) (q21 : v 21 = 0) (q22 : v 22 = 0) (q23 : v 23 = 0) (q25 : v 25 = 0) (q26 : v 26 = 0) (q27 : v 27 = (-1)) (q28 : v 28 = (-1)) (qf : ∀ k, f 27 k = 0) : GM l D k A (rwW k ad) yX10_load cX10_load 2 (some .int) 3 85 [.ref (ad 0), .int (iI a1)] v f g (fun r v1 f1 g1 => (∃ z : Int, r = some (.int (iI z)) ∧ z = (if a1 = 0 then 0 else (-1))) ∧ True ∧ True ∧ True) := by
  refine GM.of (by decide) (Nat.le_of_ble_eq_true rfl) ?_
  intro p e s m args below meth c Q ls hQ C hml hr hlocks hP hl
  have hx := C.1
  have hb := C.2.1
  have hok := hP.2
  have hS : va_S A s.heap s.heap [] := va_S.rf
  have hl : lv_has ls 2 [(0, .ref (ad 0)), (1, .int (iI a1))] := hl
  refine lv_iload_n hx hb dX10_load_0 rfl (lv_at hl 1 rfl) ?_
  refine gi_zlt (tgt := 12) hx hb dX10_load_1 (by decide) (by omega) (fun c_1 => ?_) (fun c_1 => ?_)
  · refine lv_aload_n hx hb dX10_load_12 rfl (lv_at hl 0 rfl) ?_
    refine lv_iconst (v := iI 2) hx hb dX10_load_13 rfl ?_
    refine g_cv (As := [.int (iI 2)]) (rest := []) (n := 1) C hml (c_X10_refuse l D k A ad hD v f g 2 (by decide)) mM_X10_88 mI_X10_refuse mE_X10_refuse mN_X10 mC_X10_refuse (by decide +kernel) 0 (ci := 10) rfl rfl hP hS (fun _ h => h) ⟨Nat.le_of_ble_eq_true rfl, Nat.le_of_ble_eq_true rfl⟩ ⟨Nat.zero_le _, Nat.zero_le _⟩ hl.1 rfl rfl (Nat.le_of_ble_eq_true rfl) dX10_load_14 (fun r_2 v_2 f_2 g_2 H locs hq_2 hP _ hS => ?_)
    obtain ⟨rfl, rfl, rfl, rfl⟩ := hq_2
    show W p l e (gRm 3 85) s m args below meth c _ _ 0 0 Q (F0 m 17 ls [.int (iI (-1))])
    exact g_iret hQ C hr hlocks hP hS dX10_load_17 ⟨⟨_, rfl, (by first | omega | (split <;> omega))⟩, trivial, trivial, trivial⟩
  · refine lv_iload_n hx hb dX10_load_4 rfl (lv_at hl 1 rfl) ?_
    refine lv_aload_n hx hb dX10_load_5 rfl (lv_at hl 0 rfl) ?_
    refine rwG_taped C hP mF_X10_81 dX10_load_6 ?_
    have r_3 := hok.1 0
    refine gi_cle (tgt := 18) hx hb dX10_load_9 (by decide) (by omega) (by omega) (fun c_4 => ?_) (fun c_4 => ?_)
    · refine lv_aload_n hx hb dX10_load_18 rfl (lv_at hl 0 rfl) ?_
      refine rwG_reader C hP mF_X10_23 dX10_load_19 ?_
      refine lv_aload_n hx hb dX10_load_22 rfl (lv_at hl 0 rfl) ?_
      refine rwG_tape C hP mF_X10_9 dX10_load_23 ?_
      refine lv_iload_n hx hb dX10_load_26 rfl (lv_at hl 1 rfl) ?_
      refine g_cv (As := [.ref (ad 1), .int (iI a1)]) (rest := []) (n := 2) C hml (c_X3_read l D k A ad hD v f g a1 (by omega) (show a1 = 0 from by omega)) mM_X10_92 mI_X3_read mE_X3_read mN_X3 mC_X3_read (by decide +kernel) 9 (ci := 3) rfl rfl hP hS (fun _ h => h) ⟨Nat.le_of_ble_eq_true rfl, Nat.le_of_ble_eq_true rfl⟩ ⟨Nat.zero_le _, Nat.zero_le _⟩ hl.1 rfl rfl (Nat.le_of_ble_eq_true rfl) dX10_load_27 (fun r_5 v_5 f_5 g_5 H locs hq_5 hP _ hS => ?_)
      obtain ⟨rfl, -, -, -, hx_5⟩ := hq_5
      show W p l e (gRm 3 85) s m args below meth c _ _ 0 0 Q (F0 m 30 ls [])
      have hv_5 := hP.2.1
      have hf_5 := hP.2.2
      refine lv_aload_n hx hb dX10_load_30 rfl (lv_at hl 0 rfl) ?_
      refine lv_iconst (v := iI 0) hx hb dX10_load_31 rfl ?_
      refine rwP_taped (v1 := (va_up v_5 0 0)) C hP hD hS mF_X10_81 (by decide) rfl (Or.inl rfl) dX10_load_32 (fun H locs hP hS => ?_)
      refine lv_aload_n hx hb dX10_load_35 rfl (lv_at hl 0 rfl) ?_
      refine lv_aload_n hx hb dX10_load_36 rfl (lv_at hl 0 rfl) ?_
      refine rwG_reader C hP mF_X10_23 dX10_load_37 ?_
      refine rwG_reader_fault C hP mF_X10_96 dX10_load_40 ?_
      show W p l e (gRm 3 85) s m args below meth c _ _ 0 0 Q (F0 m 43 ls [.int (iI (v_5 16)), .ref (ad 0)])
      have r_6 := hv_5 16
      refine rwP_faultKind (v1 := (va_up (va_up v_5 0 0) 27 (v_5 16))) C hP hD hS mF_X10_75 (by omega) rfl (Or.inl rfl) dX10_load_43 (fun H locs hP hS => ?_)
      refine lv_aload_n hx hb dX10_load_46 rfl (lv_at hl 0 rfl) ?_
      refine lv_aload_n hx hb dX10_load_47 rfl (lv_at hl 0 rfl) ?_
      refine rwG_reader C hP mF_X10_23 dX10_load_48 ?_
      refine rwG_reader_faultPlace C hP mF_X10_99 dX10_load_51 ?_
      show W p l e (gRm 3 85) s m args below meth c _ _ 0 0 Q (F0 m 54 ls [.int (iI (v_5 17)), .ref (ad 0)])
      have r_7 := hv_5 17
      refine rwP_faultPlace (v1 := (va_up (va_up (va_up v_5 0 0) 27 (v_5 16)) 28 (v_5 17))) C hP hD hS mF_X10_78 (by omega) rfl (Or.inl rfl) dX10_load_54 (fun H locs hP hS => ?_)
      refine lv_aload_n hx hb dX10_load_57 rfl (lv_at hl 0 rfl) ?_
      refine rwG_faultKind C hP mF_X10_75 dX10_load_58 ?_
      show W p l e (gRm 3 85) s m args below meth c _ _ 0 0 Q (F0 m 61 ls [.int (iI (v_5 16))])
      refine gi_zeq (tgt := 71) hx hb dX10_load_61 (by decide) (by omega) (fun c_8 => ?_) (fun c_8 => ?_)
      · refine lv_aload_n hx hb dX10_load_71 rfl (lv_at hl 0 rfl) ?_
        refine rwG_laws C hP mF_X10_16 dX10_load_72 ?_
        refine lv_aload_n hx hb dX10_load_75 rfl (lv_at hl 0 rfl) ?_
        refine rwG_reader C hP mF_X10_23 dX10_load_76 ?_
        refine rwG_reader_draft C hP mF_X10_100 dX10_load_79 ?_
        refine g_cv (As := [.ref (ad 14)]) (rest := []) (n := 1) C hml (c_X4_take l D k A ad hD (va_up (va_up (va_up v_5 0 0) 27 (v_5 16)) 28 (v_5 17)) f_5 g_5 (show v_5 10 = 0 ∨ v_5 10 = 1 from by omega)) mM_X10_103 mI_X4_take mE_X4_take mN_X4 mC_X4_take (by decide +kernel) 2 (ci := 4) rfl rfl hP hS (fun _ h => h) ⟨Nat.le_of_ble_eq_true rfl, Nat.le_of_ble_eq_true rfl⟩ ⟨Nat.zero_le _, Nat.zero_le _⟩ hl.1 rfl rfl (Nat.le_of_ble_eq_true rfl) dX10_load_82 (fun r_9 v_9 f_9 g_9 H locs hq_9 hP _ hS => ?_)
        obtain ⟨rfl, rfl, -, rfl⟩ := hq_9
        show W p l e (gRm 3 85) s m args below meth c _ _ 0 0 Q (F0 m 85 ls [])
        have hf_9 := hP.2.2
        refine lv_aload_n hx hb dX10_load_85 rfl (lv_at hl 0 rfl) ?_
        refine rwG_wall C hP mF_X10_30 dX10_load_86 ?_
        refine g_cv (As := []) (rest := []) (n := 0) C hml (c_X8_clear l D k A ad hD (va_up (va_up (va_up (va_up (va_up (va_up (va_up v_5 0 0) 27 (v_5 16)) 28 (v_5 17)) 1 (v_5 7)) 2 (v_5 8)) 3 (v_5 9)) 4 (v_5 10)) f_9 g_5) mM_X10_107 mI_X8_clear mE_X8_clear mN_X8 mC_X8_clear (by decide +kernel) 23 (ci := 8) rfl rfl hP hS (fun _ h => h) ⟨Nat.le_of_ble_eq_true rfl, Nat.le_of_ble_eq_true rfl⟩ ⟨Nat.zero_le _, Nat.zero_le _⟩ hl.1 rfl rfl (Nat.le_of_ble_eq_true rfl) dX10_load_89 (fun r_10 v_10 f_10 g_10 H locs hq_10 hP _ hS => ?_)
        obtain ⟨rfl, rfl, rfl, rfl⟩ := hq_10
        show W p l e (gRm 3 85) s m args below meth c _ _ 0 0 Q (F0 m 92 ls [])
        refine lv_aload_n hx hb dX10_load_92 rfl (lv_at hl 0 rfl) ?_
        refine rwG_field C hP mF_X10_37 dX10_load_93 ?_
        refine g_cv (As := []) (rest := []) (n := 0) C hml (c_X2_clear l D k A ad hD (va_up (va_up (va_up (va_up (va_up (va_up (va_up v_5 0 0) 27 (v_5 16)) 28 (v_5 17)) 1 (v_5 7)) 2 (v_5 8)) 3 (v_5 9)) 4 (v_5 10)) (va_up (va_up (va_up f_9 15 (gfill (f_9 15) 20 10)) 16 (gfill (f_9 16) 20 0)) 17 (gfill (f_9 17) 60 0)) g_5) mM_X10_110 mI_X2_clear mE_X2_clear mN_X2 mC_X2_clear (by decide +kernel) 27 (ci := 2) rfl rfl hP hS (fun _ h => h) ⟨Nat.le_of_ble_eq_true rfl, Nat.le_of_ble_eq_true rfl⟩ ⟨Nat.zero_le _, Nat.zero_le _⟩ hl.1 rfl rfl (Nat.le_of_ble_eq_true rfl) dX10_load_96 (fun r_11 v_11 f_11 g_11 H locs hq_11 hP _ hS => ?_)
        obtain ⟨rfl, rfl, rfl, rfl⟩ := hq_11
        show W p l e (gRm 3 85) s m args below meth c _ _ 0 0 Q (F0 m 99 ls [])
        refine lv_aload_n hx hb dX10_load_99 rfl (lv_at hl 0 rfl) ?_
        refine rwG_tries C hP mF_X10_44 dX10_load_100 ?_
        refine g_cv (As := []) (rest := []) (n := 0) C hml (c_X7_clear l D k A ad hD (va_up (va_up (va_up (va_up (va_up (va_up (va_up (va_up (va_up v_5 0 0) 27 (v_5 16)) 28 (v_5 17)) 1 (v_5 7)) 2 (v_5 8)) 3 (v_5 9)) 4 (v_5 10)) 21 0) 22 0) (va_up (va_up (va_up f_9 15 (gfill (f_9 15) 20 10)) 16 (gfill (f_9 16) 20 0)) 17 (gfill (f_9 17) 60 0)) g_5) mM_X10_111 mI_X7_clear mE_X7_clear mN_X7 mC_X7_clear (by decide +kernel) 30 (ci := 7) rfl rfl hP hS (fun _ h => h) ⟨Nat.le_of_ble_eq_true rfl, Nat.le_of_ble_eq_true rfl⟩ ⟨Nat.zero_le _, Nat.zero_le _⟩ hl.1 rfl rfl (Nat.le_of_ble_eq_true rfl) dX10_load_103 (fun r_12 v_12 f_12 g_12 H locs hq_12 hP _ hS => ?_)
        obtain ⟨rfl, rfl, rfl, rfl⟩ := hq_12
        show W p l e (gRm 3 85) s m args below meth c _ _ 0 0 Q (F0 m 106 ls [])
        refine lv_aload_n hx hb dX10_load_106 rfl (lv_at hl 0 rfl) ?_
        refine rwG_appeals C hP mF_X10_51 dX10_load_107 ?_
        refine g_cv (As := []) (rest := []) (n := 0) C hml (c_X0_clear l D k A ad hD (va_up (va_up (va_up (va_up (va_up (va_up (va_up (va_up (va_up (va_up v_5 0 0) 27 (v_5 16)) 28 (v_5 17)) 1 (v_5 7)) 2 (v_5 8)) 3 (v_5 9)) 4 (v_5 10)) 21 0) 22 0) 23 0) (va_up (va_up (va_up (va_up f_9 15 (gfill (f_9 15) 20 10)) 16 (gfill (f_9 16) 20 0)) 17 (gfill (f_9 17) 60 0)) 27 (gfill (f_9 27) 16 0)) g_5) mM_X10_112 mI_X0_clear mE_X0_clear mN_X0 mC_X0_clear (by decide +kernel) 39 (ci := 0) rfl rfl hP hS (fun _ h => h) ⟨Nat.le_of_ble_eq_true rfl, Nat.le_of_ble_eq_true rfl⟩ ⟨Nat.zero_le _, Nat.zero_le _⟩ hl.1 rfl rfl (Nat.le_of_ble_eq_true rfl) dX10_load_110 (fun r_13 v_13 f_13 g_13 H locs hq_13 hP _ hS => ?_)
        obtain ⟨rfl, rfl, rfl, rfl⟩ := hq_13
        show W p l e (gRm 3 85) s m args below meth c _ _ 0 0 Q (F0 m 113 ls [])
        refine lv_aload_n hx hb dX10_load_113 rfl (lv_at hl 0 rfl) ?_
        refine rwG_watch C hP mF_X10_58 dX10_load_114 ?_
        refine g_cv (As := []) (rest := []) (n := 0) C hml (c_X9_clear l D k A ad hD (va_up (va_up (va_up (va_up (va_up (va_up (va_up (va_up (va_up (va_up (va_up v_5 0 0) 27 (v_5 16)) 28 (v_5 17)) 1 (v_5 7)) 2 (v_5 8)) 3 (v_5 9)) 4 (v_5 10)) 21 0) 22 0) 23 0) 24 0) (va_up (va_up (va_up (va_up f_9 15 (gfill (f_9 15) 20 10)) 16 (gfill (f_9 16) 20 0)) 17 (gfill (f_9 17) 60 0)) 27 (gfill (f_9 27) 16 0)) g_5) mM_X10_113 mI_X9_clear mE_X9_clear mN_X9 mC_X9_clear (by decide +kernel) 43 (ci := 9) rfl rfl hP hS (fun _ h => h) ⟨Nat.le_of_ble_eq_true rfl, Nat.le_of_ble_eq_true rfl⟩ ⟨Nat.zero_le _, Nat.zero_le _⟩ hl.1 rfl rfl (Nat.le_of_ble_eq_true rfl) dX10_load_117 (fun r_14 v_14 f_14 g_14 H locs hq_14 hP _ hS => ?_)
        obtain ⟨rfl, rfl, rfl, rfl⟩ := hq_14
        show W p l e (gRm 3 85) s m args below meth c _ _ 0 0 Q (F0 m 120 ls [])
        refine lv_aload_n hx hb dX10_load_120 rfl (lv_at hl 0 rfl) ?_
        refine lv_iconst (v := iI 0) hx hb dX10_load_121 rfl ?_
        refine rwP_time (v1 := (va_up (va_up (va_up (va_up (va_up (va_up (va_up (va_up (va_up (va_up (va_up (va_up v_5 0 0) 27 (v_5 16)) 28 (v_5 17)) 1 (v_5 7)) 2 (v_5 8)) 3 (v_5 9)) 4 (v_5 10)) 21 0) 22 0) 23 0) 24 0) 26 0)) C hP hD hS mF_X10_114 (by decide) rfl (Or.inl rfl) dX10_load_122 (fun H locs hP hS => ?_)
        refine lv_aload_n hx hb dX10_load_125 rfl (lv_at hl 0 rfl) ?_
        refine lv_aload_n hx hb dX10_load_126 rfl (lv_at hl 0 rfl) ?_
        refine rwG_laws C hP mF_X10_16 dX10_load_127 ?_
        refine rwG_laws_rounds C hP mF_X10_117 dX10_load_130 ?_
        show W p l e (gRm 3 85) s m args below meth c _ _ 0 0 Q (F0 m 133 ls [.int (iI (v_5 7)), .ref (ad 0)])
        refine g_cv (As := [.int (iI (v_5 7))]) (rest := []) (n := 1) C hml (c_X10_answer l D k A ad hD (va_up (va_up (va_up (va_up (va_up (va_up (va_up (va_up (va_up (va_up (va_up (va_up v_5 0 0) 27 (v_5 16)) 28 (v_5 17)) 1 (v_5 7)) 2 (v_5 8)) 3 (v_5 9)) 4 (v_5 10)) 21 0) 22 0) 23 0) 24 0) 26 0) (va_up (va_up (va_up (va_up (va_up f_9 15 (gfill (f_9 15) 20 10)) 16 (gfill (f_9 16) 20 0)) 17 (gfill (f_9 17) 60 0)) 27 (gfill (f_9 27) 16 0)) 31 (gfill (f_9 31) 16 0)) g_5 (v_5 7) (by omega)) mM_X10_120 mI_X10_answer mE_X10_answer mN_X10 mC_X10_answer (by decide +kernel) 0 (ci := 10) rfl rfl hP hS (fun _ h => h) ⟨Nat.le_of_ble_eq_true rfl, Nat.le_of_ble_eq_true rfl⟩ ⟨Nat.zero_le _, Nat.zero_le _⟩ hl.1 rfl rfl (Nat.le_of_ble_eq_true rfl) dX10_load_133 (fun r_15 v_15 f_15 g_15 H locs hq_15 hP _ hS => ?_)
        obtain ⟨rfl, rfl, rfl, rfl⟩ := hq_15
        show W p l e (gRm 3 85) s m args below meth c _ _ 0 0 Q (F0 m 136 ls [.int (iI (v_5 7))])
        exact g_iret hQ C hr hlocks hP hS dX10_load_136 ⟨⟨_, rfl, (by first | omega | (split <;> omega))⟩, trivial, trivial, trivial⟩
      · exfalso; omega
    · refine lv_aload_n hx hb dX10_load_12 rfl (lv_at hl 0 rfl) ?_
      refine lv_iconst (v := iI 2) hx hb dX10_load_13 rfl ?_
      refine g_cv (As := [.int (iI 2)]) (rest := []) (n := 1) C hml (c_X10_refuse l D k A ad hD v f g 2 (by decide)) mM_X10_88 mI_X10_refuse mE_X10_refuse mN_X10 mC_X10_refuse (by decide +kernel) 0 (ci := 10) rfl rfl hP hS (fun _ h => h) ⟨Nat.le_of_ble_eq_true rfl, Nat.le_of_ble_eq_true rfl⟩ ⟨Nat.zero_le _, Nat.zero_le _⟩ hl.1 rfl rfl (Nat.le_of_ble_eq_true rfl) dX10_load_14 (fun r_16 v_16 f_16 g_16 H locs hq_16 hP _ hS => ?_)
      obtain ⟨rfl, rfl, rfl, rfl⟩ := hq_16
      show W p l e (gRm 3 85) s m args below meth c _ _ 0 0 Q (F0 m 17 ls [.int (iI (-1))])
      exact g_iret hQ C hr hlocks hP hS dX10_load_17 ⟨⟨_, rfl, (by first | omega | (split <;> omega))⟩, trivial, trivial, trivial⟩
