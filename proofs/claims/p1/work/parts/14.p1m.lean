set_option maxHeartbeats 4000000 in
set_option maxRecDepth 100000 in
theorem m_refuse (l : Launch) (D : va_G) (k : Nat → ClassId) (A : Nat → Prop) (ad : Nat → Nat) (hD : mdD A k ad) (v : gV) (f g : gF) (a : Int) (h_a : inR a) : GM l D k A (mdW k ad) yX11_refuse cX11_refuse 2 (some .int) 0 0 [.ref (ad 0), .int (iI a)] v f g (fun r v1 f1 g1 => r = some (.int (iI (-1))) ∧ (va_up v 0 a) = v1 ∧ f = f1 ∧ g = g1) := by
  refine GM.of (by decide) (Nat.le_of_ble_eq_true rfl) ?_
  intro p e s m args below meth c Q ls hQ C hml hr hlocks hP hl
  have hx := C.1
  have hb := C.2.1
  have hok := hP.2
  have hS : va_S A s.heap s.heap [] := va_S.rf
  have hl : lv_has ls 2 [(0, .ref (ad 0)), (1, .int (iI a))] := hl
  refine lv_aload_n hx hb dX11_refuse_0 rfl (lv_at hl 0 rfl) ?_
  refine lv_iload_n hx hb dX11_refuse_1 rfl (lv_at hl 1 rfl) ?_
  refine mdP_status (v1 := (va_up v 0 a)) C hP hD hS mF_X11_149 (by omega) rfl (Or.inl rfl) dX11_refuse_2 (fun H locs hP hS => ?_)
  refine lv_iconst (v := iI (-1)) hx hb dX11_refuse_5 rfl ?_
  exact g_iret hQ C hr hlocks hP hS dX11_refuse_6 ⟨rfl, rfl, rfl, rfl⟩

set_option maxHeartbeats 4000000 in
set_option maxRecDepth 100000 in
theorem m_no (l : Launch) (D : va_G) (k : Nat → ClassId) (A : Nat → Prop) (ad : Nat → Nat) (hD : mdD A k ad) (v : gV) (f g : gF) (a : Int) (h_a : inR a) : GM l D k A (mdW k ad) yX11_no cX11_no 2 (some .boolean) 0 0 [.ref (ad 0), .int (iI a)] v f g (fun r v1 f1 g1 => r = some (.int (iI 0)) ∧ (va_up v 0 a) = v1 ∧ f = f1 ∧ g = g1) := by
  refine GM.of (by decide) (Nat.le_of_ble_eq_true rfl) ?_
  intro p e s m args below meth c Q ls hQ C hml hr hlocks hP hl
  have hx := C.1
  have hb := C.2.1
  have hok := hP.2
  have hS : va_S A s.heap s.heap [] := va_S.rf
  have hl : lv_has ls 2 [(0, .ref (ad 0)), (1, .int (iI a))] := hl
  refine lv_aload_n hx hb dX11_no_0 rfl (lv_at hl 0 rfl) ?_
  refine lv_iload_n hx hb dX11_no_1 rfl (lv_at hl 1 rfl) ?_
  refine mdP_status (v1 := (va_up v 0 a)) C hP hD hS mF_X11_149 (by omega) rfl (Or.inl rfl) dX11_no_2 (fun H locs hP hS => ?_)
  refine lv_iconst (v := iI 0) hx hb dX11_no_5 rfl ?_
  exact g_zret hQ C hr hlocks (by decide) hP hS dX11_no_6 ⟨rfl, rfl, rfl, rfl⟩

set_option maxHeartbeats 4000000 in
set_option maxRecDepth 100000 in
theorem m_isDay (l : Launch) (D : va_G) (k : Nat → ClassId) (A : Nat → Prop) (ad : Nat → Nat) (hD : mdD A k ad) (v : gV) (f g : gF) (a : Int) (h_a : inR a) : GM l D k A (mdW k ad) yX11_isDay cX11_isDay 1 (some .boolean) 0 0 [.int (iI a)] v f g (fun r v1 f1 g1 => (∃ z : Int, r = some (.int (iI z)) ∧ z = (if 0 ≤ a ∧ a ≤ 999 then 1 else 0)) ∧ v = v1 ∧ f = f1 ∧ g = g1) := by
  refine GM.of (by decide) (Nat.le_of_ble_eq_true rfl) ?_
  intro p e s m args below meth c Q ls hQ C hml hr hlocks hP hl
  have hx := C.1
  have hb := C.2.1
  have hok := hP.2
  have hS : va_S A s.heap s.heap [] := va_S.rf
  have hl : lv_has ls 1 [(0, .int (iI a))] := hl
  refine lv_iload_n hx hb dX11_isDay_0 rfl (lv_at hl 0 rfl) ?_
  refine gi_zlt (tgt := 15) hx hb dX11_isDay_1 (by decide) (by omega) (fun c_1 => ?_) (fun c_1 => ?_)
  · refine lv_iconst (v := iI 0) hx hb dX11_isDay_15 rfl ?_
    exact g_zret hQ C hr hlocks (by decide) hP hS dX11_isDay_16 ⟨⟨_, rfl, (by first | omega | (split <;> omega))⟩, rfl, rfl, rfl⟩
  · refine lv_iload_n hx hb dX11_isDay_4 rfl (lv_at hl 0 rfl) ?_
    refine lv_sipush (v := iI 999) hx hb dX11_isDay_5 (by decide) ?_
    refine gi_cgt (tgt := 15) hx hb dX11_isDay_8 (by decide) (by omega) (by decide) (fun c_2 => ?_) (fun c_2 => ?_)
    · refine lv_iconst (v := iI 0) hx hb dX11_isDay_15 rfl ?_
      exact g_zret hQ C hr hlocks (by decide) hP hS dX11_isDay_16 ⟨⟨_, rfl, (by first | omega | (split <;> omega))⟩, rfl, rfl, rfl⟩
    · refine lv_iconst (v := iI 1) hx hb dX11_isDay_11 rfl ?_
      refine lv_goto (tgt := 16) hx hb dX11_isDay_12 (by decide) ?_
      exact g_zret hQ C hr hlocks (by decide) hP hS dX11_isDay_16 ⟨⟨_, rfl, (by first | omega | (split <;> omega))⟩, rfl, rfl, rfl⟩

set_option maxHeartbeats 4000000 in
set_option maxRecDepth 100000 in
theorem m_isRound (l : Launch) (D : va_G) (k : Nat → ClassId) (A : Nat → Prop) (ad : Nat → Nat) (hD : mdD A k ad) (v : gV) (f g : gF) (a : Int) (h_a : inR a) : GM l D k A (mdW k ad) yX11_isRound cX11_isRound 2 (some .boolean) 0 0 [.ref (ad 0), .int (iI a)] v f g (fun r v1 f1 g1 => (∃ z : Int, r = some (.int (iI z)) ∧ z = (if 0 ≤ a ∧ a < v 12 then 1 else 0)) ∧ v = v1 ∧ f = f1 ∧ g = g1) := by
  refine GM.of (by decide) (Nat.le_of_ble_eq_true rfl) ?_
  intro p e s m args below meth c Q ls hQ C hml hr hlocks hP hl
  have hx := C.1
  have hb := C.2.1
  have hok := hP.2
  have hS : va_S A s.heap s.heap [] := va_S.rf
  have hl : lv_has ls 2 [(0, .ref (ad 0)), (1, .int (iI a))] := hl
  refine lv_iload_n hx hb dX11_isRound_0 rfl (lv_at hl 1 rfl) ?_
  refine gi_zlt (tgt := 16) hx hb dX11_isRound_1 (by decide) (by omega) (fun c_1 => ?_) (fun c_1 => ?_)
  · refine lv_iconst (v := iI 0) hx hb dX11_isRound_16 rfl ?_
    exact g_zret hQ C hr hlocks (by decide) hP hS dX11_isRound_17 ⟨⟨_, rfl, (by first | omega | (split <;> omega))⟩, rfl, rfl, rfl⟩
  · refine lv_iload_n hx hb dX11_isRound_4 rfl (lv_at hl 1 rfl) ?_
    refine lv_aload_n hx hb dX11_isRound_5 rfl (lv_at hl 0 rfl) ?_
    refine mdG_rounds C hP mF_X11_301 dX11_isRound_6 ?_
    have r_2 := hok.1 12
    refine gi_cge (tgt := 16) hx hb dX11_isRound_9 (by decide) (by omega) (by omega) (fun c_3 => ?_) (fun c_3 => ?_)
    · refine lv_iconst (v := iI 0) hx hb dX11_isRound_16 rfl ?_
      exact g_zret hQ C hr hlocks (by decide) hP hS dX11_isRound_17 ⟨⟨_, rfl, (by first | omega | (split <;> omega))⟩, rfl, rfl, rfl⟩
    · refine lv_iconst (v := iI 1) hx hb dX11_isRound_12 rfl ?_
      refine lv_goto (tgt := 17) hx hb dX11_isRound_13 (by decide) ?_
      exact g_zret hQ C hr hlocks (by decide) hP hS dX11_isRound_17 ⟨⟨_, rfl, (by first | omega | (split <;> omega))⟩, rfl, rfl, rfl⟩

set_option maxHeartbeats 4000000 in
set_option maxRecDepth 100000 in
theorem m_isRoute (l : Launch) (D : va_G) (k : Nat → ClassId) (A : Nat → Prop) (ad : Nat → Nat) (hD : mdD A k ad) (v : gV) (f g : gF) (a : Int) (b : Int) (h_a : inR a) (h_b : inR b) (h1 : v 12 ≤ 4) : GM l D k A (mdW k ad) yX11_isRoute cX11_isRoute 3 (some .boolean) 1 21 [.ref (ad 0), .int (iI a), .int (iI b)] v f g (fun r v1 f1 g1 => (∃ z : Int, r = some (.int (iI z)) ∧ z = (if (0 ≤ a ∧ a < v 12) ∧ 0 ≤ b ∧ b < f 1 a then 1 else 0)) ∧ v = v1 ∧ f = f1 ∧ g = g1) := by
  refine GM.of (by decide) (Nat.le_of_ble_eq_true rfl) ?_
  intro p e s m args below meth c Q ls hQ C hml hr hlocks hP hl
  have hx := C.1
  have hb := C.2.1
  have hok := hP.2
  have hS : va_S A s.heap s.heap [] := va_S.rf
  have hl : lv_has ls 3 [(0, .ref (ad 0)), (1, .int (iI a)), (2, .int (iI b))] := hl
  refine lv_aload_n hx hb dX11_isRoute_0 rfl (lv_at hl 0 rfl) ?_
  refine lv_iload_n hx hb dX11_isRoute_1 rfl (lv_at hl 1 rfl) ?_
  refine g_cv (As := [.int (iI a)]) (rest := []) (n := 1) C hml (m_isRound l D k A ad hD v f g a (by omega)) mM_X11_325 mI_X11_isRound mE_X11_isRound mN_X11 mC_X11_isRound (by decide +kernel) 0 (ci := 11) rfl rfl hP hS (fun _ h => h) ⟨Nat.le_of_ble_eq_true rfl, Nat.le_of_ble_eq_true rfl⟩ ⟨Nat.zero_le _, Nat.zero_le _⟩ hl.1 rfl rfl (Nat.le_of_ble_eq_true rfl) dX11_isRoute_2 (fun r_1 v_1 f_1 g_1 H locs hq_1 hP _ hS => ?_)
  obtain ⟨⟨z_1, rfl, ez0_1⟩, rfl, rfl, rfl⟩ := hq_1
  have ez_1 : z_1 = (if 0 ≤ a ∧ a < v 12 then 1 else 0) := ez0_1
  have w_1 := gif (P := 0 ≤ a ∧ a < v 12) ez_1
  have hz_1 : inR z_1 := (by omega)
  show W p l e (gRm 1 21) s m args below meth c _ _ 0 0 Q (F0 m 5 ls [.int (iI z_1)])
  refine gi_zeq (tgt := 26) hx hb dX11_isRoute_5 (by decide) (by omega) (fun c_2 => ?_) (fun c_2 => ?_)
  · refine lv_iconst (v := iI 0) hx hb dX11_isRoute_26 rfl ?_
    exact g_zret hQ C hr hlocks (by decide) hP hS dX11_isRoute_27 ⟨⟨_, rfl, (by first | omega | (split <;> omega))⟩, rfl, rfl, rfl⟩
  · refine lv_iload_n hx hb dX11_isRoute_8 rfl (lv_at hl 2 rfl) ?_
    refine gi_zlt (tgt := 26) hx hb dX11_isRoute_9 (by decide) (by omega) (fun c_3 => ?_) (fun c_3 => ?_)
    · refine lv_iconst (v := iI 0) hx hb dX11_isRoute_26 rfl ?_
      exact g_zret hQ C hr hlocks (by decide) hP hS dX11_isRoute_27 ⟨⟨_, rfl, (by first | omega | (split <;> omega))⟩, rfl, rfl, rfl⟩
    · refine lv_iload_n hx hb dX11_isRoute_12 rfl (lv_at hl 2 rfl) ?_
      refine lv_aload_n hx hb dX11_isRoute_13 rfl (lv_at hl 0 rfl) ?_
      refine mdG_routes C hP mF_X11_20 dX11_isRoute_14 ?_
      refine lv_iload_n hx hb dX11_isRoute_17 rfl (lv_at hl 1 rfl) ?_
      refine mdL_routes C hP (by omega) (by omega) dX11_isRoute_18 ?_
      have r_4 := hok.2 1 a
      refine gi_cge (tgt := 26) hx hb dX11_isRoute_19 (by decide) (by omega) (by omega) (fun c_5 => ?_) (fun c_5 => ?_)
      · refine lv_iconst (v := iI 0) hx hb dX11_isRoute_26 rfl ?_
        exact g_zret hQ C hr hlocks (by decide) hP hS dX11_isRoute_27 ⟨⟨_, rfl, (by first | omega | (split <;> omega))⟩, rfl, rfl, rfl⟩
      · refine lv_iconst (v := iI 1) hx hb dX11_isRoute_22 rfl ?_
        refine lv_goto (tgt := 27) hx hb dX11_isRoute_23 (by decide) ?_
        exact g_zret hQ C hr hlocks (by decide) hP hS dX11_isRoute_27 ⟨⟨_, rfl, (by first | omega | (split <;> omega))⟩, rfl, rfl, rfl⟩

set_option maxHeartbeats 4000000 in
set_option maxRecDepth 100000 in
theorem m_isClimber (l : Launch) (D : va_G) (k : Nat → ClassId) (A : Nat → Prop) (ad : Nat → Nat) (hD : mdD A k ad) (v : gV) (f g : gF) (a : Int) (h_a : inR a) : GM l D k A (mdW k ad) yX11_isClimber cX11_isClimber 2 (some .boolean) 0 0 [.ref (ad 0), .int (iI a)] v f g (fun r v1 f1 g1 => (∃ z : Int, r = some (.int (iI z)) ∧ z = (if 0 ≤ a ∧ a < v 22 then 1 else 0)) ∧ v = v1 ∧ f = f1 ∧ g = g1) := by
  refine GM.of (by decide) (Nat.le_of_ble_eq_true rfl) ?_
  intro p e s m args below meth c Q ls hQ C hml hr hlocks hP hl
  have hx := C.1
  have hb := C.2.1
  have hok := hP.2
  have hS : va_S A s.heap s.heap [] := va_S.rf
  have hl : lv_has ls 2 [(0, .ref (ad 0)), (1, .int (iI a))] := hl
  refine lv_iload_n hx hb dX11_isClimber_0 rfl (lv_at hl 1 rfl) ?_
  refine gi_zlt (tgt := 16) hx hb dX11_isClimber_1 (by decide) (by omega) (fun c_1 => ?_) (fun c_1 => ?_)
  · refine lv_iconst (v := iI 0) hx hb dX11_isClimber_16 rfl ?_
    exact g_zret hQ C hr hlocks (by decide) hP hS dX11_isClimber_17 ⟨⟨_, rfl, (by first | omega | (split <;> omega))⟩, rfl, rfl, rfl⟩
  · refine lv_iload_n hx hb dX11_isClimber_4 rfl (lv_at hl 1 rfl) ?_
    refine lv_aload_n hx hb dX11_isClimber_5 rfl (lv_at hl 0 rfl) ?_
    refine mdG_climbers C hP mF_X11_313 dX11_isClimber_6 ?_
    have r_2 := hok.1 22
    refine gi_cge (tgt := 16) hx hb dX11_isClimber_9 (by decide) (by omega) (by omega) (fun c_3 => ?_) (fun c_3 => ?_)
    · refine lv_iconst (v := iI 0) hx hb dX11_isClimber_16 rfl ?_
      exact g_zret hQ C hr hlocks (by decide) hP hS dX11_isClimber_17 ⟨⟨_, rfl, (by first | omega | (split <;> omega))⟩, rfl, rfl, rfl⟩
    · refine lv_iconst (v := iI 1) hx hb dX11_isClimber_12 rfl ?_
      refine lv_goto (tgt := 17) hx hb dX11_isClimber_13 (by decide) ?_
      exact g_zret hQ C hr hlocks (by decide) hP hS dX11_isClimber_17 ⟨⟨_, rfl, (by first | omega | (split <;> omega))⟩, rfl, rfl, rfl⟩

set_option maxHeartbeats 4000000 in
set_option maxRecDepth 100000 in
theorem m_isIn (l : Launch) (D : va_G) (k : Nat → ClassId) (A : Nat → Prop) (ad : Nat → Nat) (hD : mdD A k ad) (v : gV) (f g : gF) (a : Int) (b : Int) (h_a : inR a) (h_b : inR b) (h1 : v 12 ≤ 4) (h2 : v 22 ≤ 16) : GM l D k A (mdW k ad) yX11_isIn cX11_isIn 3 (some .boolean) 1 21 [.ref (ad 0), .int (iI a), .int (iI b)] v f g (fun r v1 f1 g1 => (∃ z : Int, r = some (.int (iI z)) ∧ z = (if (0 ≤ a ∧ a < v 12) ∧ (0 ≤ b ∧ b < v 22) ∧ f 21 (16 * a + b) ≠ 0 then 1 else 0)) ∧ v = v1 ∧ f = f1 ∧ g = g1) := by
  refine GM.of (by decide) (Nat.le_of_ble_eq_true rfl) ?_
  intro p e s m args below meth c Q ls hQ C hml hr hlocks hP hl
  have hx := C.1
  have hb := C.2.1
  have hok := hP.2
  have hS : va_S A s.heap s.heap [] := va_S.rf
  have hl : lv_has ls 3 [(0, .ref (ad 0)), (1, .int (iI a)), (2, .int (iI b))] := hl
  refine lv_aload_n hx hb dX11_isIn_0 rfl (lv_at hl 0 rfl) ?_
  refine lv_iload_n hx hb dX11_isIn_1 rfl (lv_at hl 1 rfl) ?_
  refine g_cv (As := [.int (iI a)]) (rest := []) (n := 1) C hml (m_isRound l D k A ad hD v f g a (by omega)) mM_X11_325 mI_X11_isRound mE_X11_isRound mN_X11 mC_X11_isRound (by decide +kernel) 0 (ci := 11) rfl rfl hP hS (fun _ h => h) ⟨Nat.le_of_ble_eq_true rfl, Nat.le_of_ble_eq_true rfl⟩ ⟨Nat.zero_le _, Nat.zero_le _⟩ hl.1 rfl rfl (Nat.le_of_ble_eq_true rfl) dX11_isIn_2 (fun r_1 v_1 f_1 g_1 H locs hq_1 hP _ hS => ?_)
  obtain ⟨⟨z_1, rfl, ez0_1⟩, rfl, rfl, rfl⟩ := hq_1
  have ez_1 : z_1 = (if 0 ≤ a ∧ a < v 12 then 1 else 0) := ez0_1
  have w_1 := gif (P := 0 ≤ a ∧ a < v 12) ez_1
  have hz_1 : inR z_1 := (by omega)
  show W p l e (gRm 1 21) s m args below meth c _ _ 0 0 Q (F0 m 5 ls [.int (iI z_1)])
  refine gi_zeq (tgt := 34) hx hb dX11_isIn_5 (by decide) (by omega) (fun c_2 => ?_) (fun c_2 => ?_)
  · refine lv_iconst (v := iI 0) hx hb dX11_isIn_34 rfl ?_
    exact g_zret hQ C hr hlocks (by decide) hP hS dX11_isIn_35 ⟨⟨_, rfl, (by first | omega | (split <;> omega))⟩, rfl, rfl, rfl⟩
  · refine lv_aload_n hx hb dX11_isIn_8 rfl (lv_at hl 0 rfl) ?_
    refine lv_iload_n hx hb dX11_isIn_9 rfl (lv_at hl 2 rfl) ?_
    refine g_cv (As := [.int (iI b)]) (rest := []) (n := 1) C hml (m_isClimber l D k A ad hD v f g b (by omega)) mM_X11_349 mI_X11_isClimber mE_X11_isClimber mN_X11 mC_X11_isClimber (by decide +kernel) 0 (ci := 11) rfl rfl hP hS (fun _ h => h) ⟨Nat.le_of_ble_eq_true rfl, Nat.le_of_ble_eq_true rfl⟩ ⟨Nat.zero_le _, Nat.zero_le _⟩ hl.1 rfl rfl (Nat.le_of_ble_eq_true rfl) dX11_isIn_10 (fun r_3 v_3 f_3 g_3 H locs hq_3 hP _ hS => ?_)
    obtain ⟨⟨z_3, rfl, ez0_3⟩, rfl, rfl, rfl⟩ := hq_3
    have ez_3 : z_3 = (if 0 ≤ b ∧ b < v 22 then 1 else 0) := ez0_3
    have w_3 := gif (P := 0 ≤ b ∧ b < v 22) ez_3
    have hz_3 : inR z_3 := (by omega)
    show W p l e (gRm 1 21) s m args below meth c _ _ 0 0 Q (F0 m 13 ls [.int (iI z_3)])
    refine gi_zeq (tgt := 34) hx hb dX11_isIn_13 (by decide) (by omega) (fun c_4 => ?_) (fun c_4 => ?_)
    · refine lv_iconst (v := iI 0) hx hb dX11_isIn_34 rfl ?_
      exact g_zret hQ C hr hlocks (by decide) hP hS dX11_isIn_35 ⟨⟨_, rfl, (by first | omega | (split <;> omega))⟩, rfl, rfl, rfl⟩
    · refine lv_aload_n hx hb dX11_isIn_16 rfl (lv_at hl 0 rfl) ?_
      refine mdG_isIn C hP mF_X11_85 dX11_isIn_17 ?_
      refine lv_bipush (v := iI 16) hx hb dX11_isIn_20 (by decide) ?_
      refine lv_iload_n hx hb dX11_isIn_22 rfl (lv_at hl 1 rfl) ?_
      refine gi_mul (z := (16 * a)) hx hb dX11_isIn_23 rfl ?_
      refine lv_iload_n hx hb dX11_isIn_24 rfl (lv_at hl 2 rfl) ?_
      refine gi_add (z := ((16 * a) + b)) hx hb dX11_isIn_25 rfl ?_
      refine mdL_isIn C hP (by omega) (by omega) dX11_isIn_26 ?_
      have r_5 := hok.2 21 ((16 * a) + b)
      refine gi_zeq (tgt := 34) hx hb dX11_isIn_27 (by decide) (by omega) (fun c_6 => ?_) (fun c_6 => ?_)
      · refine lv_iconst (v := iI 0) hx hb dX11_isIn_34 rfl ?_
        exact g_zret hQ C hr hlocks (by decide) hP hS dX11_isIn_35 ⟨⟨_, rfl, (by first | omega | (split <;> omega))⟩, rfl, rfl, rfl⟩
      · refine lv_iconst (v := iI 1) hx hb dX11_isIn_30 rfl ?_
        refine lv_goto (tgt := 35) hx hb dX11_isIn_31 (by decide) ?_
        exact g_zret hQ C hr hlocks (by decide) hP hS dX11_isIn_35 ⟨⟨_, rfl, (by first | omega | (split <;> omega))⟩, rfl, rfl, rfl⟩

set_option maxHeartbeats 4000000 in
set_option maxRecDepth 100000 in
theorem m_lay (l : Launch) (D : va_G) (k : Nat → ClassId) (A : Nat → Prop) (ad : Nat → Nat) (hD : mdD A k ad) (v : gV) (f g : gF) (a : Int) (h_a : inR a) (h1 : 0 ≤ v 2 ∧ v 2 ≤ 696) : GM l D k A (mdW k ad) yX11_lay cX11_lay 3 none 0 0 [.ref (ad 0), .int (iI a)] v f g (fun r v1 f1 g1 => r = none ∧ (va_up v 2 ((v 2) + 4)) = v1 ∧ True ∧ g = g1) := by
  refine GM.of (by decide) (Nat.le_of_ble_eq_true rfl) ?_
  intro p e s m args below meth c Q ls hQ C hml hr hlocks hP hl
  have hx := C.1
  have hb := C.2.1
  have hok := hP.2
  have hS : va_S A s.heap s.heap [] := va_S.rf
  have hl : lv_has ls 3 [(0, .ref (ad 0)), (1, .int (iI a))] := hl
  refine lv_iconst (v := iI 3) hx hb dX11_lay_0 rfl ?_
  refine lv_istore_n (lv' := [(2, .int (iI 3)), (0, .ref (ad 0)), (1, .int (iI a))]) hx hb dX11_lay_1 rfl hl (by decide) rfl (fun ls hl => ?_)
  refine lv_iload_n hx hb dX11_lay_2 rfl (lv_at hl 0 rfl) ?_
  refine gi_zlt (tgt := 38) hx hb dX11_lay_3 (by decide) (by decide) (fun c_1 => ?_) (fun c_1 => ?_)
  · exfalso; omega
  · refine lv_aload_n hx hb dX11_lay_6 rfl (lv_at hl 1 rfl) ?_
    refine mdG_tape C hP mF_X11_7 dX11_lay_7 ?_
    refine lv_aload_n hx hb dX11_lay_10 rfl (lv_at hl 1 rfl) ?_
    refine mdG_taped C hP mF_X11_289 dX11_lay_11 ?_
    have r_2 := hok.1 2
    refine lv_iload_n hx hb dX11_lay_14 rfl (lv_at hl 2 rfl) ?_
    refine lv_bipush (v := iI 8) hx hb dX11_lay_15 (by decide) ?_
    refine lv_iload_n hx hb dX11_lay_17 rfl (lv_at hl 0 rfl) ?_
    refine gi_mul (z := 24) hx hb dX11_lay_18 (by decide) ?_
    obtain ⟨x_3, ex_3, hx_3⟩ : ∃ z : Int, iI a >>> (iI 24 &&& 31) = iI z ∧ inR z := ⟨(iI a >>> (iI 24 &&& 31)).toInt, (iI_of _).symm, iI_rng _⟩
    refine gi_shr (z := x_3) hx hb dX11_lay_19 ex_3 ?_
    obtain ⟨x_4, ex_4, hx_4⟩ : ∃ z : Int, (iI x_3).toInt8.toInt32 = iI z ∧ inR z := ⟨((iI x_3).toInt8.toInt32).toInt, (iI_of _).symm, iI_rng _⟩
    refine gi_i2b (z := x_4) hx hb dX11_lay_20 ex_4 ?_
    refine mdS_tape (f1 := (va_up f 0 (u1 (f 0) (v 2) x_4))) C hP hD hS (by omega) (by omega) (by omega) (gB8 ex_4) rfl (Or.inl rfl) dX11_lay_21 (fun H locs hP hS => ?_)
    refine lv_aload_n hx hb dX11_lay_22 rfl (lv_at hl 1 rfl) ?_
    refine lv_dup hx hb dX11_lay_23 rfl ?_
    refine mdG_taped C hP mF_X11_289 dX11_lay_24 ?_
    refine lv_iconst (v := iI 1) hx hb dX11_lay_27 rfl ?_
    refine gi_add (z := ((v 2) + 1)) hx hb dX11_lay_28 rfl ?_
    refine mdP_taped (v1 := (va_up v 2 ((v 2) + 1))) C hP hD hS mF_X11_289 (by omega) rfl (Or.inl rfl) dX11_lay_29 (fun H locs hP hS => ?_)
    refine lv_iinc (v := iI 2) (lv' := [(2, .int (iI 2)), (0, .ref (ad 0)), (1, .int (iI a))]) hx hb dX11_lay_32 hl (k := 0) rfl (by show iI _ + iI (-1) = _; rw [iI_add]; congr 1) (by decide) rfl (fun ls hl => ?_)
    refine lv_goto (tgt := 2) hx hb dX11_lay_35 (by decide) ?_
    refine lv_iload_n hx hb dX11_lay_2 rfl (lv_at hl 0 rfl) ?_
    refine gi_zlt (tgt := 38) hx hb dX11_lay_3 (by decide) (by decide) (fun c_5 => ?_) (fun c_5 => ?_)
    · exfalso; omega
    · refine lv_aload_n hx hb dX11_lay_6 rfl (lv_at hl 1 rfl) ?_
      refine mdG_tape C hP mF_X11_7 dX11_lay_7 ?_
      refine lv_aload_n hx hb dX11_lay_10 rfl (lv_at hl 1 rfl) ?_
      refine mdG_taped C hP mF_X11_289 dX11_lay_11 ?_
      show W p l e (gRm 0 0) s m args below meth c _ _ 0 0 Q (F0 m 14 ls [.int (iI ((v 2) + 1)), .ref (ad 1)])
      refine lv_iload_n hx hb dX11_lay_14 rfl (lv_at hl 2 rfl) ?_
      refine lv_bipush (v := iI 8) hx hb dX11_lay_15 (by decide) ?_
      refine lv_iload_n hx hb dX11_lay_17 rfl (lv_at hl 0 rfl) ?_
      refine gi_mul (z := 16) hx hb dX11_lay_18 (by decide) ?_
      obtain ⟨x_6, ex_6, hx_6⟩ : ∃ z : Int, iI a >>> (iI 16 &&& 31) = iI z ∧ inR z := ⟨(iI a >>> (iI 16 &&& 31)).toInt, (iI_of _).symm, iI_rng _⟩
      refine gi_shr (z := x_6) hx hb dX11_lay_19 ex_6 ?_
      obtain ⟨x_7, ex_7, hx_7⟩ : ∃ z : Int, (iI x_6).toInt8.toInt32 = iI z ∧ inR z := ⟨((iI x_6).toInt8.toInt32).toInt, (iI_of _).symm, iI_rng _⟩
      refine gi_i2b (z := x_7) hx hb dX11_lay_20 ex_7 ?_
      refine mdS_tape (f1 := (va_up f 0 (u1 (u1 (f 0) (v 2) x_4) ((v 2) + 1) x_7))) C hP hD hS (by omega) (by omega) (by omega) (gB8 ex_7) rfl (Or.inr (gF_up (gR_up ⟨hok.1, hok.2⟩ 2 (by omega)) 0 (u1_rng (u1_rng (hok.2 0) (by omega)) (by omega)))) dX11_lay_21 (fun H locs hP hS => ?_)
      refine lv_aload_n hx hb dX11_lay_22 rfl (lv_at hl 1 rfl) ?_
      refine lv_dup hx hb dX11_lay_23 rfl ?_
      refine mdG_taped C hP mF_X11_289 dX11_lay_24 ?_
      show W p l e (gRm 0 0) s m args below meth c _ _ 0 0 Q (F0 m 27 ls [.int (iI ((v 2) + 1)), .ref (ad 0)])
      refine lv_iconst (v := iI 1) hx hb dX11_lay_27 rfl ?_
      refine gi_add (z := ((v 2) + 2)) hx hb dX11_lay_28 (by omega) ?_
      refine mdP_taped (v1 := (va_up v 2 ((v 2) + 2))) C hP hD hS mF_X11_289 (by omega) rfl (Or.inr (gF_up (gR_up ⟨hok.1, hok.2⟩ 2 (by omega)) 0 (u1_rng (u1_rng (hok.2 0) (by omega)) (by omega)))) dX11_lay_29 (fun H locs hP hS => ?_)
      refine lv_iinc (v := iI 1) (lv' := [(2, .int (iI 1)), (0, .ref (ad 0)), (1, .int (iI a))]) hx hb dX11_lay_32 hl (k := 0) rfl (by show iI _ + iI (-1) = _; rw [iI_add]; congr 1) (by decide) rfl (fun ls hl => ?_)
      refine lv_goto (tgt := 2) hx hb dX11_lay_35 (by decide) ?_
      refine lv_iload_n hx hb dX11_lay_2 rfl (lv_at hl 0 rfl) ?_
      refine gi_zlt (tgt := 38) hx hb dX11_lay_3 (by decide) (by decide) (fun c_8 => ?_) (fun c_8 => ?_)
      · exfalso; omega
      · refine lv_aload_n hx hb dX11_lay_6 rfl (lv_at hl 1 rfl) ?_
        refine mdG_tape C hP mF_X11_7 dX11_lay_7 ?_
        refine lv_aload_n hx hb dX11_lay_10 rfl (lv_at hl 1 rfl) ?_
        refine mdG_taped C hP mF_X11_289 dX11_lay_11 ?_
        show W p l e (gRm 0 0) s m args below meth c _ _ 0 0 Q (F0 m 14 ls [.int (iI ((v 2) + 2)), .ref (ad 1)])
        refine lv_iload_n hx hb dX11_lay_14 rfl (lv_at hl 2 rfl) ?_
        refine lv_bipush (v := iI 8) hx hb dX11_lay_15 (by decide) ?_
        refine lv_iload_n hx hb dX11_lay_17 rfl (lv_at hl 0 rfl) ?_
        refine gi_mul (z := 8) hx hb dX11_lay_18 (by decide) ?_
        obtain ⟨x_9, ex_9, hx_9⟩ : ∃ z : Int, iI a >>> (iI 8 &&& 31) = iI z ∧ inR z := ⟨(iI a >>> (iI 8 &&& 31)).toInt, (iI_of _).symm, iI_rng _⟩
        refine gi_shr (z := x_9) hx hb dX11_lay_19 ex_9 ?_
        obtain ⟨x_10, ex_10, hx_10⟩ : ∃ z : Int, (iI x_9).toInt8.toInt32 = iI z ∧ inR z := ⟨((iI x_9).toInt8.toInt32).toInt, (iI_of _).symm, iI_rng _⟩
        refine gi_i2b (z := x_10) hx hb dX11_lay_20 ex_10 ?_
        refine mdS_tape (f1 := (va_up f 0 (u1 (u1 (u1 (f 0) (v 2) x_4) ((v 2) + 1) x_7) ((v 2) + 2) x_10))) C hP hD hS (by omega) (by omega) (by omega) (gB8 ex_10) rfl (Or.inr (gF_up (gR_up ⟨hok.1, hok.2⟩ 2 (by omega)) 0 (u1_rng (u1_rng (u1_rng (hok.2 0) (by omega)) (by omega)) (by omega)))) dX11_lay_21 (fun H locs hP hS => ?_)
        refine lv_aload_n hx hb dX11_lay_22 rfl (lv_at hl 1 rfl) ?_
        refine lv_dup hx hb dX11_lay_23 rfl ?_
        refine mdG_taped C hP mF_X11_289 dX11_lay_24 ?_
        show W p l e (gRm 0 0) s m args below meth c _ _ 0 0 Q (F0 m 27 ls [.int (iI ((v 2) + 2)), .ref (ad 0)])
        refine lv_iconst (v := iI 1) hx hb dX11_lay_27 rfl ?_
        refine gi_add (z := ((v 2) + 3)) hx hb dX11_lay_28 (by omega) ?_
        refine mdP_taped (v1 := (va_up v 2 ((v 2) + 3))) C hP hD hS mF_X11_289 (by omega) rfl (Or.inr (gF_up (gR_up ⟨hok.1, hok.2⟩ 2 (by omega)) 0 (u1_rng (u1_rng (u1_rng (hok.2 0) (by omega)) (by omega)) (by omega)))) dX11_lay_29 (fun H locs hP hS => ?_)
        refine lv_iinc (v := iI 0) (lv' := [(2, .int (iI 0)), (0, .ref (ad 0)), (1, .int (iI a))]) hx hb dX11_lay_32 hl (k := 0) rfl (by show iI _ + iI (-1) = _; rw [iI_add]; congr 1) (by decide) rfl (fun ls hl => ?_)
        refine lv_goto (tgt := 2) hx hb dX11_lay_35 (by decide) ?_
        refine lv_iload_n hx hb dX11_lay_2 rfl (lv_at hl 0 rfl) ?_
        refine gi_zlt (tgt := 38) hx hb dX11_lay_3 (by decide) (by decide) (fun c_11 => ?_) (fun c_11 => ?_)
        · exfalso; omega
        · refine lv_aload_n hx hb dX11_lay_6 rfl (lv_at hl 1 rfl) ?_
          refine mdG_tape C hP mF_X11_7 dX11_lay_7 ?_
          refine lv_aload_n hx hb dX11_lay_10 rfl (lv_at hl 1 rfl) ?_
          refine mdG_taped C hP mF_X11_289 dX11_lay_11 ?_
          show W p l e (gRm 0 0) s m args below meth c _ _ 0 0 Q (F0 m 14 ls [.int (iI ((v 2) + 3)), .ref (ad 1)])
          refine lv_iload_n hx hb dX11_lay_14 rfl (lv_at hl 2 rfl) ?_
          refine lv_bipush (v := iI 8) hx hb dX11_lay_15 (by decide) ?_
          refine lv_iload_n hx hb dX11_lay_17 rfl (lv_at hl 0 rfl) ?_
          refine gi_mul (z := 0) hx hb dX11_lay_18 (by decide) ?_
          obtain ⟨x_12, ex_12, hx_12⟩ : ∃ z : Int, iI a >>> (iI 0 &&& 31) = iI z ∧ inR z := ⟨(iI a >>> (iI 0 &&& 31)).toInt, (iI_of _).symm, iI_rng _⟩
          refine gi_shr (z := x_12) hx hb dX11_lay_19 ex_12 ?_
          obtain ⟨x_13, ex_13, hx_13⟩ : ∃ z : Int, (iI x_12).toInt8.toInt32 = iI z ∧ inR z := ⟨((iI x_12).toInt8.toInt32).toInt, (iI_of _).symm, iI_rng _⟩
          refine gi_i2b (z := x_13) hx hb dX11_lay_20 ex_13 ?_
          refine mdS_tape (f1 := (va_up f 0 (u1 (u1 (u1 (u1 (f 0) (v 2) x_4) ((v 2) + 1) x_7) ((v 2) + 2) x_10) ((v 2) + 3) x_13))) C hP hD hS (by omega) (by omega) (by omega) (gB8 ex_13) rfl (Or.inr (gF_up (gR_up ⟨hok.1, hok.2⟩ 2 (by omega)) 0 (u1_rng (u1_rng (u1_rng (u1_rng (hok.2 0) (by omega)) (by omega)) (by omega)) (by omega)))) dX11_lay_21 (fun H locs hP hS => ?_)
          refine lv_aload_n hx hb dX11_lay_22 rfl (lv_at hl 1 rfl) ?_
          refine lv_dup hx hb dX11_lay_23 rfl ?_
          refine mdG_taped C hP mF_X11_289 dX11_lay_24 ?_
          show W p l e (gRm 0 0) s m args below meth c _ _ 0 0 Q (F0 m 27 ls [.int (iI ((v 2) + 3)), .ref (ad 0)])
          refine lv_iconst (v := iI 1) hx hb dX11_lay_27 rfl ?_
          refine gi_add (z := ((v 2) + 4)) hx hb dX11_lay_28 (by omega) ?_
          refine mdP_taped (v1 := (va_up v 2 ((v 2) + 4))) C hP hD hS mF_X11_289 (by omega) rfl (Or.inr (gF_up (gR_up ⟨hok.1, hok.2⟩ 2 (by omega)) 0 (u1_rng (u1_rng (u1_rng (u1_rng (hok.2 0) (by omega)) (by omega)) (by omega)) (by omega)))) dX11_lay_29 (fun H locs hP hS => ?_)
          refine lv_iinc (v := iI (-1)) (lv' := [(2, .int (iI (-1))), (0, .ref (ad 0)), (1, .int (iI a))]) hx hb dX11_lay_32 hl (k := 0) rfl (by show iI _ + iI (-1) = _; rw [iI_add]; congr 1) (by decide) rfl (fun ls hl => ?_)
          refine lv_goto (tgt := 2) hx hb dX11_lay_35 (by decide) ?_
          refine lv_iload_n hx hb dX11_lay_2 rfl (lv_at hl 0 rfl) ?_
          refine gi_zlt (tgt := 38) hx hb dX11_lay_3 (by decide) (by decide) (fun c_14 => ?_) (fun c_14 => ?_)
          · exact g_vret hQ C hr hlocks hP hS dX11_lay_38 ⟨rfl, rfl, trivial, rfl⟩
          · exfalso; omega

set_option maxHeartbeats 4000000 in
set_option maxRecDepth 100000 in
theorem m_goesTo (l : Launch) (D : va_G) (k : Nat → ClassId) (A : Nat → Prop) (ad : Nat → Nat) (hD : mdD A k ad) (v : gV) (f g : gF) (a : Int) (h_a : inR a) (q25 : v 25 = 0) : GM l D k A (mdW k ad) yX11_goesTo cX11_goesTo 3 none 0 0 [.ref (ad 0), .int (iI a)] v f g (fun r v1 f1 g1 => r = none ∧ (va_up v 24 a) = v1 ∧ f = f1 ∧ g = g1) := by
  refine GM.of (by decide) (Nat.le_of_ble_eq_true rfl) ?_
  intro p e s m args below meth c Q ls hQ C hml hr hlocks hP hl
  have hx := C.1
  have hb := C.2.1
  have hok := hP.2
  have hS : va_S A s.heap s.heap [] := va_S.rf
  have hl : lv_has ls 3 [(0, .ref (ad 0)), (1, .int (iI a))] := hl
  refine lv_aload_n hx hb dX11_goesTo_0 rfl (lv_at hl 0 rfl) ?_
  refine lv_iload_n hx hb dX11_goesTo_1 rfl (lv_at hl 1 rfl) ?_
  refine mdP_now (v1 := (va_up v 24 a)) C hP hD hS mF_X11_316 (by omega) rfl (Or.inl rfl) dX11_goesTo_2 (fun H locs hP hS => ?_)
  refine lv_iconst (v := iI 0) hx hb dX11_goesTo_5 rfl ?_
  refine lv_istore_n (lv' := [(2, .int (iI 0)), (0, .ref (ad 0)), (1, .int (iI a))]) hx hb dX11_goesTo_6 rfl hl (by decide) rfl (fun ls hl => ?_)
  refine lv_iload_n hx hb dX11_goesTo_7 rfl (lv_at hl 0 rfl) ?_
  refine lv_aload_n hx hb dX11_goesTo_8 rfl (lv_at hl 1 rfl) ?_
  refine mdG_tried C hP mF_X11_319 dX11_goesTo_9 ?_
  show W p l e (gRm 0 0) s m args below meth c _ _ 0 0 Q (F0 m 12 ls [.int (iI (v 25)), .int (iI 0)])
  have r_1 := hok.1 25
  refine gi_cge (tgt := 86) hx hb dX11_goesTo_12 (by decide) (by decide) (by omega) (fun c_2 => ?_) (fun c_2 => ?_)
  · exact g_vret hQ C hr hlocks hP hS dX11_goesTo_86 ⟨rfl, rfl, rfl, rfl⟩
  · exfalso; omega

set_option maxHeartbeats 4000000 in
set_option maxRecDepth 100000 in
theorem m_openTry (l : Launch) (D : va_G) (k : Nat → ClassId) (A : Nat → Prop) (ad : Nat → Nat) (hD : mdD A k ad) (v : gV) (f g : gF) (a : Int) (h_a : inR a) (q25 : v 25 = 0) : GM l D k A (mdW k ad) yX11_openTry cX11_openTry 3 (some .int) 0 0 [.ref (ad 0), .int (iI a)] v f g (fun r v1 f1 g1 => r = some (.int (iI (-1))) ∧ v = v1 ∧ f = f1 ∧ g = g1) := by
  refine GM.of (by decide) (Nat.le_of_ble_eq_true rfl) ?_
  intro p e s m args below meth c Q ls hQ C hml hr hlocks hP hl
  have hx := C.1
  have hb := C.2.1
  have hok := hP.2
  have hS : va_S A s.heap s.heap [] := va_S.rf
  have hl : lv_has ls 3 [(0, .ref (ad 0)), (1, .int (iI a))] := hl
  refine lv_iconst (v := iI 0) hx hb dX11_openTry_0 rfl ?_
  refine lv_istore_n (lv' := [(2, .int (iI 0)), (0, .ref (ad 0)), (1, .int (iI a))]) hx hb dX11_openTry_1 rfl hl (by decide) rfl (fun ls hl => ?_)
  refine lv_iload_n hx hb dX11_openTry_2 rfl (lv_at hl 0 rfl) ?_
  refine lv_aload_n hx hb dX11_openTry_3 rfl (lv_at hl 1 rfl) ?_
  refine mdG_tried C hP mF_X11_319 dX11_openTry_4 ?_
  have r_1 := hok.1 25
  refine gi_cge (tgt := 37) hx hb dX11_openTry_7 (by decide) (by decide) (by omega) (fun c_2 => ?_) (fun c_2 => ?_)
  · refine lv_iconst (v := iI (-1)) hx hb dX11_openTry_37 rfl ?_
    exact g_iret hQ C hr hlocks hP hS dX11_openTry_38 ⟨rfl, rfl, rfl, rfl⟩
  · exfalso; omega

set_option maxHeartbeats 4000000 in
set_option maxRecDepth 100000 in
theorem m_clocked (l : Launch) (D : va_G) (k : Nat → ClassId) (A : Nat → Prop) (ad : Nat → Nat) (hD : mdD A k ad) (v : gV) (f g : gF) (a1 : Int) (h_a1 : inR a1) (q0 : v 0 = 0) (q2 : v 2 = 0) (q4 : v 4 = (-1)) (q5 : v 5 = (-1)) (q12 : v 12 = 0) (q22 : v 22 = 0) (q23 : v 23 = (-1)) (q24 : v 24 = 0) (q25 : v 25 = 0) : GM l D k A (mdW k ad) yX11_clocked cX11_clocked 2 (some .int) 1 22 [.ref (ad 0), .int (iI a1)] v f g (fun r v1 f1 g1 => (∃ z : Int, r = some (.int (iI z)) ∧ z = (if 0 ≤ a1 ∧ a1 ≤ 1000000 then 0 else 2)) ∧ True ∧ True ∧ True) := by
  refine GM.of (by decide) (Nat.le_of_ble_eq_true rfl) ?_
  intro p e s m args below meth c Q ls hQ C hml hr hlocks hP hl
  have hx := C.1
  have hb := C.2.1
  have hok := hP.2
  have hS : va_S A s.heap s.heap [] := va_S.rf
  have hl : lv_has ls 2 [(0, .ref (ad 0)), (1, .int (iI a1))] := hl
  refine lv_iload_n hx hb dX11_clocked_0 rfl (lv_at hl 1 rfl) ?_
  refine gi_zlt (tgt := 11) hx hb dX11_clocked_1 (by decide) (by omega) (fun c_1 => ?_) (fun c_1 => ?_)
  · refine lv_iconst (v := iI 2) hx hb dX11_clocked_11 rfl ?_
    exact g_iret hQ C hr hlocks hP hS dX11_clocked_12 ⟨⟨_, rfl, (by first | omega | (split <;> omega))⟩, trivial, trivial, trivial⟩
  · refine lv_iload_n hx hb dX11_clocked_4 rfl (lv_at hl 1 rfl) ?_
    refine lv_ldcw (v := iI 1000000) hx hb C.2.2.2.1 (C.2.2.1 _ (show Cond.constant RX11 337 (iI 1000000) ∈ gWs from mD_X11_337)) dX11_clocked_5 ?_
    refine gi_cle (tgt := 13) hx hb dX11_clocked_8 (by decide) (by omega) (by decide) (fun c_2 => ?_) (fun c_2 => ?_)
    · refine lv_iload_n hx hb dX11_clocked_13 rfl (lv_at hl 1 rfl) ?_
      refine lv_aload_n hx hb dX11_clocked_14 rfl (lv_at hl 0 rfl) ?_
      refine mdG_now C hP mF_X11_316 dX11_clocked_15 ?_
      have r_3 := hok.1 24
      refine gi_cge (tgt := 24) hx hb dX11_clocked_18 (by decide) (by omega) (by omega) (fun c_4 => ?_) (fun c_4 => ?_)
      · refine lv_aload_n hx hb dX11_clocked_24 rfl (lv_at hl 0 rfl) ?_
        refine lv_iload_n hx hb dX11_clocked_25 rfl (lv_at hl 1 rfl) ?_
        refine g_cv (As := [.int (iI a1)]) (rest := []) (n := 1) C hml (m_goesTo l D k A ad hD v f g a1 (by omega) (show v 25 = 0 from by omega)) mM_X11_338 mI_X11_goesTo mE_X11_goesTo mN_X11 mC_X11_goesTo (by decide +kernel) 0 (ci := 11) rfl rfl hP hS (fun _ h => h) ⟨Nat.le_of_ble_eq_true rfl, Nat.le_of_ble_eq_true rfl⟩ ⟨Nat.zero_le _, Nat.zero_le _⟩ hl.1 rfl rfl (Nat.le_of_ble_eq_true rfl) dX11_clocked_26 (fun r_5 v_5 f_5 g_5 H locs hq_5 hP _ hS => ?_)
        obtain ⟨rfl, rfl, rfl, rfl⟩ := hq_5
        show W p l e (gRm 1 22) s m args below meth c _ _ 0 0 Q (F0 m 29 ls [])
        refine lv_iconst (v := iI 0) hx hb dX11_clocked_29 rfl ?_
        exact g_iret hQ C hr hlocks hP hS dX11_clocked_30 ⟨⟨_, rfl, (by first | omega | (split <;> omega))⟩, trivial, trivial, trivial⟩
      · refine lv_bipush (v := iI 9) hx hb dX11_clocked_21 (by decide) ?_
        exact g_iret hQ C hr hlocks hP hS dX11_clocked_23 ⟨⟨_, rfl, (by first | omega | (split <;> omega))⟩, trivial, trivial, trivial⟩
    · refine lv_iconst (v := iI 2) hx hb dX11_clocked_11 rfl ?_
      exact g_iret hQ C hr hlocks hP hS dX11_clocked_12 ⟨⟨_, rfl, (by first | omega | (split <;> omega))⟩, trivial, trivial, trivial⟩

set_option maxHeartbeats 4000000 in
set_option maxRecDepth 100000 in
theorem m_status (l : Launch) (D : va_G) (k : Nat → ClassId) (A : Nat → Prop) (ad : Nat → Nat) (hD : mdD A k ad) (v : gV) (f g : gF) (q0 : v 0 = 0) (q2 : v 2 = 0) (q4 : v 4 = (-1)) (q5 : v 5 = (-1)) (q12 : v 12 = 0) (q22 : v 22 = 0) (q23 : v 23 = (-1)) (q24 : v 24 = 0) (q25 : v 25 = 0) : GM l D k A (mdW k ad) yX11_status cX11_status 1 (some .int) 0 0 [.ref (ad 0)] v f g (fun r v1 f1 g1 => r = some (.int (iI 0)) ∧ True ∧ True ∧ True) := by
  refine GM.of (by decide) (Nat.le_of_ble_eq_true rfl) ?_
  intro p e s m args below meth c Q ls hQ C hml hr hlocks hP hl
  have hx := C.1
  have hb := C.2.1
  have hok := hP.2
  have hS : va_S A s.heap s.heap [] := va_S.rf
  have hl : lv_has ls 1 [(0, .ref (ad 0))] := hl
  refine lv_aload_n hx hb dX11_status_0 rfl (lv_at hl 0 rfl) ?_
  refine lv_iconst (v := iI 0) hx hb dX11_status_1 rfl ?_
  refine mdP_thrown (v1 := (va_up v 1 0)) C hP hD hS mF_X11_146 (by decide) rfl (Or.inl rfl) dX11_status_2 (fun H locs hP hS => ?_)
  refine lv_aload_n hx hb dX11_status_5 rfl (lv_at hl 0 rfl) ?_
  refine mdG_status C hP mF_X11_149 dX11_status_6 ?_
  show W p l e (gRm 0 0) s m args below meth c _ _ 0 0 Q (F0 m 9 ls [.int (iI (v 0))])
  have r_1 := hok.1 0
  exact g_iret hQ C hr hlocks hP hS dX11_status_9 ⟨(congrArg (fun z => some (Value.int (iI z))) (by first | omega | (split <;> omega))), trivial, trivial, trivial⟩

set_option maxHeartbeats 4000000 in
set_option maxRecDepth 100000 in
theorem m_feed (l : Launch) (D : va_G) (k : Nat → ClassId) (A : Nat → Prop) (ad : Nat → Nat) (hD : mdD A k ad) (v : gV) (f g : gF) (a1 : Int) (a2 : Int) (a3 : Int) (a4 : Int) (a5 : Int) (h_a1 : inR a1) (h_a2 : inR a2) (h_a3 : inR a3) (h_a4 : inR a4) (h_a5 : inR a5) (q0 : v 0 = 0) (q2 : v 2 = 0) (q4 : v 4 = (-1)) (q5 : v 5 = (-1)) (q12 : v 12 = 0) (q22 : v 22 = 0) (q23 : v 23 = (-1)) (q24 : v 24 = 0) (q25 : v 25 = 0) : GM l D k A (mdW k ad) yX11_feed cX11_feed 6 (some .int) 1 22 [.ref (ad 0), .int (iI a1), .int (iI a2), .int (iI a3), .int (iI a4), .int (iI a5)] v f g (fun r v1 f1 g1 => r = some (.int (iI 20)) ∧ True ∧ True ∧ True) := by
  refine GM.of (by decide) (Nat.le_of_ble_eq_true rfl) ?_
  intro p e s m args below meth c Q ls hQ C hml hr hlocks hP hl
  have hx := C.1
  have hb := C.2.1
  have hok := hP.2
  have hS : va_S A s.heap s.heap [] := va_S.rf
  have hl : lv_has ls 6 [(0, .ref (ad 0)), (1, .int (iI a1)), (2, .int (iI a2)), (3, .int (iI a3)), (4, .int (iI a4)), (5, .int (iI a5))] := hl
  refine lv_aload_n hx hb dX11_feed_0 rfl (lv_at hl 0 rfl) ?_
  refine lv_iconst (v := iI 0) hx hb dX11_feed_1 rfl ?_
  refine mdP_thrown (v1 := (va_up v 1 0)) C hP hD hS mF_X11_146 (by decide) rfl (Or.inl rfl) dX11_feed_2 (fun H locs hP hS => ?_)
  refine lv_aload_n hx hb dX11_feed_5 rfl (lv_at hl 0 rfl) ?_
  refine mdG_taped C hP mF_X11_289 dX11_feed_6 ?_
  show W p l e (gRm 1 22) s m args below meth c _ _ 0 0 Q (F0 m 9 ls [.int (iI (v 2))])
  have r_1 := hok.1 2
  refine lv_bipush (v := iI 20) hx hb dX11_feed_9 (by decide) ?_
  refine gi_add (z := ((v 2) + 20)) hx hb dX11_feed_11 rfl ?_
  refine lv_sipush (v := iI 700) hx hb dX11_feed_12 (by decide) ?_
  refine gi_cle (tgt := 20) hx hb dX11_feed_15 (by decide) (by omega) (by decide) (fun c_2 => ?_) (fun c_2 => ?_)
  · refine lv_aload_n hx hb dX11_feed_20 rfl (lv_at hl 0 rfl) ?_
    refine lv_iload_n hx hb dX11_feed_21 rfl (lv_at hl 1 rfl) ?_
    refine g_cv (As := [.int (iI a1)]) (rest := []) (n := 1) C hml (m_lay l D k A ad hD (va_up v 1 0) f g a1 (by omega) (show 0 ≤ v 2 ∧ v 2 ≤ 696 from by omega)) mM_X11_292 mI_X11_lay mE_X11_lay mN_X11 mC_X11_lay (by decide +kernel) 0 (ci := 11) rfl rfl hP hS (fun _ h => h) ⟨Nat.le_of_ble_eq_true rfl, Nat.le_of_ble_eq_true rfl⟩ ⟨Nat.zero_le _, Nat.zero_le _⟩ hl.1 rfl rfl (Nat.le_of_ble_eq_true rfl) dX11_feed_22 (fun r_3 v_3 f_3 g_3 H locs hq_3 hP _ hS => ?_)
    obtain ⟨rfl, rfl, -, rfl⟩ := hq_3
    show W p l e (gRm 1 22) s m args below meth c _ _ 0 0 Q (F0 m 25 ls [])
    have hf_3 := hP.2.2
    refine lv_aload_n hx hb dX11_feed_25 rfl (lv_at hl 0 rfl) ?_
    refine lv_iload_n hx hb dX11_feed_26 rfl (lv_at hl 2 rfl) ?_
    refine g_cv (As := [.int (iI a2)]) (rest := []) (n := 1) C hml (m_lay l D k A ad hD (va_up (va_up v 1 0) 2 ((v 2) + 4)) f_3 g a2 (by omega) (show 0 ≤ ((v 2) + 4) ∧ ((v 2) + 4) ≤ 696 from by omega)) mM_X11_292 mI_X11_lay mE_X11_lay mN_X11 mC_X11_lay (by decide +kernel) 0 (ci := 11) rfl rfl hP hS (fun _ h => h) ⟨Nat.le_of_ble_eq_true rfl, Nat.le_of_ble_eq_true rfl⟩ ⟨Nat.zero_le _, Nat.zero_le _⟩ hl.1 rfl rfl (Nat.le_of_ble_eq_true rfl) dX11_feed_27 (fun r_4 v_4 f_4 g_4 H locs hq_4 hP _ hS => ?_)
    obtain ⟨rfl, rfl, -, rfl⟩ := hq_4
    show W p l e (gRm 1 22) s m args below meth c _ _ 0 0 Q (F0 m 30 ls [])
    have hf_4 := hP.2.2
    have hP : gWd D (mdW k ad) (va_up (va_up v 1 0) 2 (((v 2) + 4) + 4)) f_4 g H := ⟨hP.1, (gR_up (gR_up ⟨hok.1, hf_4⟩ 1 (by decide)) 2 (by omega))⟩
    refine lv_aload_n hx hb dX11_feed_30 rfl (lv_at hl 0 rfl) ?_
    refine lv_iload_n hx hb dX11_feed_31 rfl (lv_at hl 3 rfl) ?_
    refine g_cv (As := [.int (iI a3)]) (rest := []) (n := 1) C hml (m_lay l D k A ad hD (va_up (va_up v 1 0) 2 (((v 2) + 4) + 4)) f_4 g a3 (by omega) (show 0 ≤ (((v 2) + 4) + 4) ∧ (((v 2) + 4) + 4) ≤ 696 from by omega)) mM_X11_292 mI_X11_lay mE_X11_lay mN_X11 mC_X11_lay (by decide +kernel) 0 (ci := 11) rfl rfl hP hS (fun _ h => h) ⟨Nat.le_of_ble_eq_true rfl, Nat.le_of_ble_eq_true rfl⟩ ⟨Nat.zero_le _, Nat.zero_le _⟩ hl.1 rfl rfl (Nat.le_of_ble_eq_true rfl) dX11_feed_32 (fun r_5 v_5 f_5 g_5 H locs hq_5 hP _ hS => ?_)
    obtain ⟨rfl, rfl, -, rfl⟩ := hq_5
    show W p l e (gRm 1 22) s m args below meth c _ _ 0 0 Q (F0 m 35 ls [])
    have hf_5 := hP.2.2
    have hP : gWd D (mdW k ad) (va_up (va_up v 1 0) 2 ((((v 2) + 4) + 4) + 4)) f_5 g H := ⟨hP.1, (gR_up (gR_up ⟨hok.1, hf_5⟩ 1 (by decide)) 2 (by omega))⟩
    refine lv_aload_n hx hb dX11_feed_35 rfl (lv_at hl 0 rfl) ?_
    refine lv_iload hx hb dX11_feed_36 (lv_at hl 4 rfl) ?_
    refine g_cv (As := [.int (iI a4)]) (rest := []) (n := 1) C hml (m_lay l D k A ad hD (va_up (va_up v 1 0) 2 ((((v 2) + 4) + 4) + 4)) f_5 g a4 (by omega) (show 0 ≤ ((((v 2) + 4) + 4) + 4) ∧ ((((v 2) + 4) + 4) + 4) ≤ 696 from by omega)) mM_X11_292 mI_X11_lay mE_X11_lay mN_X11 mC_X11_lay (by decide +kernel) 0 (ci := 11) rfl rfl hP hS (fun _ h => h) ⟨Nat.le_of_ble_eq_true rfl, Nat.le_of_ble_eq_true rfl⟩ ⟨Nat.zero_le _, Nat.zero_le _⟩ hl.1 rfl rfl (Nat.le_of_ble_eq_true rfl) dX11_feed_38 (fun r_6 v_6 f_6 g_6 H locs hq_6 hP _ hS => ?_)
    obtain ⟨rfl, rfl, -, rfl⟩ := hq_6
    show W p l e (gRm 1 22) s m args below meth c _ _ 0 0 Q (F0 m 41 ls [])
    have hf_6 := hP.2.2
    have hP : gWd D (mdW k ad) (va_up (va_up v 1 0) 2 (((((v 2) + 4) + 4) + 4) + 4)) f_6 g H := ⟨hP.1, (gR_up (gR_up ⟨hok.1, hf_6⟩ 1 (by decide)) 2 (by omega))⟩
    refine lv_aload_n hx hb dX11_feed_41 rfl (lv_at hl 0 rfl) ?_
    refine lv_iload hx hb dX11_feed_42 (lv_at hl 5 rfl) ?_
    refine g_cv (As := [.int (iI a5)]) (rest := []) (n := 1) C hml (m_lay l D k A ad hD (va_up (va_up v 1 0) 2 (((((v 2) + 4) + 4) + 4) + 4)) f_6 g a5 (by omega) (show 0 ≤ (((((v 2) + 4) + 4) + 4) + 4) ∧ (((((v 2) + 4) + 4) + 4) + 4) ≤ 696 from by omega)) mM_X11_292 mI_X11_lay mE_X11_lay mN_X11 mC_X11_lay (by decide +kernel) 0 (ci := 11) rfl rfl hP hS (fun _ h => h) ⟨Nat.le_of_ble_eq_true rfl, Nat.le_of_ble_eq_true rfl⟩ ⟨Nat.zero_le _, Nat.zero_le _⟩ hl.1 rfl rfl (Nat.le_of_ble_eq_true rfl) dX11_feed_44 (fun r_7 v_7 f_7 g_7 H locs hq_7 hP _ hS => ?_)
    obtain ⟨rfl, rfl, -, rfl⟩ := hq_7
    show W p l e (gRm 1 22) s m args below meth c _ _ 0 0 Q (F0 m 47 ls [])
    have hf_7 := hP.2.2
    have hP : gWd D (mdW k ad) (va_up (va_up v 1 0) 2 ((((((v 2) + 4) + 4) + 4) + 4) + 4)) f_7 g H := ⟨hP.1, (gR_up (gR_up ⟨hok.1, hf_7⟩ 1 (by decide)) 2 (by omega))⟩
    refine lv_aload_n hx hb dX11_feed_47 rfl (lv_at hl 0 rfl) ?_
    refine mdG_taped C hP mF_X11_289 dX11_feed_48 ?_
    show W p l e (gRm 1 22) s m args below meth c _ _ 0 0 Q (F0 m 51 ls [.int (iI ((((((v 2) + 4) + 4) + 4) + 4) + 4))])
    exact g_iret hQ C hr hlocks hP hS dX11_feed_51 ⟨(congrArg (fun z => some (Value.int (iI z))) (by first | omega | (split <;> omega))), trivial, trivial, trivial⟩
  · exfalso; omega

set_option maxHeartbeats 4000000 in
set_option maxRecDepth 100000 in
theorem m_fault (l : Launch) (D : va_G) (k : Nat → ClassId) (A : Nat → Prop) (ad : Nat → Nat) (hD : mdD A k ad) (v : gV) (f g : gF) (a1 : Int) (h_a1 : inR a1) (q0 : v 0 = 0) (q2 : v 2 = 0) (q4 : v 4 = (-1)) (q5 : v 5 = (-1)) (q12 : v 12 = 0) (q22 : v 22 = 0) (q23 : v 23 = (-1)) (q24 : v 24 = 0) (q25 : v 25 = 0) : GM l D k A (mdW k ad) yX11_fault cX11_fault 2 (some .int) 0 0 [.ref (ad 0), .int (iI a1)] v f g (fun r v1 f1 g1 => r = some (.int (iI (-1))) ∧ True ∧ True ∧ True) := by
  refine GM.of (by decide) (Nat.le_of_ble_eq_true rfl) ?_
  intro p e s m args below meth c Q ls hQ C hml hr hlocks hP hl
  have hx := C.1
  have hb := C.2.1
  have hok := hP.2
  have hS : va_S A s.heap s.heap [] := va_S.rf
  have hl : lv_has ls 2 [(0, .ref (ad 0)), (1, .int (iI a1))] := hl
  refine lv_aload_n hx hb dX11_fault_0 rfl (lv_at hl 0 rfl) ?_
  refine lv_iconst (v := iI 0) hx hb dX11_fault_1 rfl ?_
  refine mdP_thrown (v1 := (va_up v 1 0)) C hP hD hS mF_X11_146 (by decide) rfl (Or.inl rfl) dX11_fault_2 (fun H locs hP hS => ?_)
  refine lv_iload_n hx hb dX11_fault_5 rfl (lv_at hl 1 rfl) ?_
  refine gi_zne (tgt := 16) hx hb dX11_fault_6 (by decide) (by omega) (fun c_1 => ?_) (fun c_1 => ?_)
  · refine lv_iload_n hx hb dX11_fault_16 rfl (lv_at hl 1 rfl) ?_
    refine lv_iconst (v := iI 1) hx hb dX11_fault_17 rfl ?_
    refine gi_cne (tgt := 28) hx hb dX11_fault_18 (by decide) (by omega) (by decide) (fun c_2 => ?_) (fun c_2 => ?_)
    · refine lv_iconst (v := iI (-1)) hx hb dX11_fault_28 rfl ?_
      exact g_iret hQ C hr hlocks hP hS dX11_fault_29 ⟨rfl, trivial, trivial, trivial⟩
    · refine lv_aload_n hx hb dX11_fault_21 rfl (lv_at hl 0 rfl) ?_
      refine mdG_faultAt C hP mF_X11_17 dX11_fault_22 ?_
      show W p l e (gRm 0 0) s m args below meth c _ _ 0 0 Q (F0 m 25 ls [.int (iI (v 5))])
      have r_3 := hok.1 5
      refine lv_goto (tgt := 29) hx hb dX11_fault_25 (by decide) ?_
      exact g_iret hQ C hr hlocks hP hS dX11_fault_29 ⟨(congrArg (fun z => some (Value.int (iI z))) (by first | omega | (split <;> omega))), trivial, trivial, trivial⟩
  · refine lv_aload_n hx hb dX11_fault_9 rfl (lv_at hl 0 rfl) ?_
    refine mdG_faultKind C hP mF_X11_13 dX11_fault_10 ?_
    show W p l e (gRm 0 0) s m args below meth c _ _ 0 0 Q (F0 m 13 ls [.int (iI (v 4))])
    have r_4 := hok.1 4
    refine lv_goto (tgt := 29) hx hb dX11_fault_13 (by decide) ?_
    exact g_iret hQ C hr hlocks hP hS dX11_fault_29 ⟨(congrArg (fun z => some (Value.int (iI z))) (by first | omega | (split <;> omega))), trivial, trivial, trivial⟩

set_option maxHeartbeats 4000000 in
set_option maxRecDepth 100000 in
theorem m_climber (l : Launch) (D : va_G) (k : Nat → ClassId) (A : Nat → Prop) (ad : Nat → Nat) (hD : mdD A k ad) (v : gV) (f g : gF) (q0 : v 0 = 0) (q2 : v 2 = 0) (q4 : v 4 = (-1)) (q5 : v 5 = (-1)) (q12 : v 12 = 0) (q22 : v 22 = 0) (q23 : v 23 = (-1)) (q24 : v 24 = 0) (q25 : v 25 = 0) : GM l D k A (mdW k ad) yX11_climber cX11_climber 1 (some .int) 1 21 [.ref (ad 0)] v f g (fun r v1 f1 g1 => r = some (.int (iI (-1))) ∧ True ∧ True ∧ True) := by
  refine GM.of (by decide) (Nat.le_of_ble_eq_true rfl) ?_
  intro p e s m args below meth c Q ls hQ C hml hr hlocks hP hl
  have hx := C.1
  have hb := C.2.1
  have hok := hP.2
  have hS : va_S A s.heap s.heap [] := va_S.rf
  have hl : lv_has ls 1 [(0, .ref (ad 0))] := hl
  refine lv_aload_n hx hb dX11_climber_0 rfl (lv_at hl 0 rfl) ?_
  refine lv_iconst (v := iI 0) hx hb dX11_climber_1 rfl ?_
  refine mdP_thrown (v1 := (va_up v 1 0)) C hP hD hS mF_X11_146 (by decide) rfl (Or.inl rfl) dX11_climber_2 (fun H locs hP hS => ?_)
  refine lv_aload_n hx hb dX11_climber_5 rfl (lv_at hl 0 rfl) ?_
  refine lv_iconst (v := iI 0) hx hb dX11_climber_6 rfl ?_
  refine mdP_status (v1 := (va_up (va_up v 1 0) 0 0)) C hP hD hS mF_X11_149 (by decide) rfl (Or.inl rfl) dX11_climber_7 (fun H locs hP hS => ?_)
  refine lv_aload_n hx hb dX11_climber_10 rfl (lv_at hl 0 rfl) ?_
  refine mdG_rounds C hP mF_X11_301 dX11_climber_11 ?_
  show W p l e (gRm 1 21) s m args below meth c _ _ 0 0 Q (F0 m 14 ls [.int (iI (v 12))])
  have r_1 := hok.1 12
  refine gi_zne (tgt := 23) hx hb dX11_climber_14 (by decide) (by omega) (fun c_2 => ?_) (fun c_2 => ?_)
  · exfalso; omega
  · refine lv_aload_n hx hb dX11_climber_17 rfl (lv_at hl 0 rfl) ?_
    refine lv_iconst (v := iI 1) hx hb dX11_climber_18 rfl ?_
    refine g_cv (As := [.int (iI 1)]) (rest := []) (n := 1) C hml (m_refuse l D k A ad hD (va_up (va_up v 1 0) 0 0) f g 1 (by decide)) mM_X11_295 mI_X11_refuse mE_X11_refuse mN_X11 mC_X11_refuse (by decide +kernel) 0 (ci := 11) rfl rfl hP hS (fun _ h => h) ⟨Nat.le_of_ble_eq_true rfl, Nat.le_of_ble_eq_true rfl⟩ ⟨Nat.zero_le _, Nat.zero_le _⟩ hl.1 rfl rfl (Nat.le_of_ble_eq_true rfl) dX11_climber_19 (fun r_3 v_3 f_3 g_3 H locs hq_3 hP _ hS => ?_)
    obtain ⟨rfl, rfl, rfl, rfl⟩ := hq_3
    show W p l e (gRm 1 21) s m args below meth c _ _ 0 0 Q (F0 m 22 ls [.int (iI (-1))])
    have hP : gWd D (mdW k ad) (va_up (va_up v 1 0) 0 (1 : Int)) f g H := ⟨hP.1, (gR_up (gR_up ⟨hok.1, hok.2⟩ 1 (by decide)) 0 (by omega))⟩
    exact g_iret hQ C hr hlocks hP hS dX11_climber_22 ⟨rfl, trivial, trivial, trivial⟩

set_option maxHeartbeats 4000000 in
set_option maxRecDepth 100000 in
theorem m_route (l : Launch) (D : va_G) (k : Nat → ClassId) (A : Nat → Prop) (ad : Nat → Nat) (hD : mdD A k ad) (v : gV) (f g : gF) (a1 : Int) (a2 : Int) (a3 : Int) (a4 : Int) (a5 : Int) (a6 : Int) (h_a1 : inR a1) (h_a2 : inR a2) (h_a3 : inR a3) (h_a4 : inR a4) (h_a5 : inR a5) (h_a6 : inR a6) (q0 : v 0 = 0) (q2 : v 2 = 0) (q4 : v 4 = (-1)) (q5 : v 5 = (-1)) (q12 : v 12 = 0) (q22 : v 22 = 0) (q23 : v 23 = (-1)) (q24 : v 24 = 0) (q25 : v 25 = 0) : GM l D k A (mdW k ad) yX11_route cX11_route 9 (some .boolean) 2 43 [.ref (ad 0), .int (iI a1), .int (iI a2), .int (iI a3), .int (iI a4), .int (iI a5), .int (iI a6)] v f g (fun r v1 f1 g1 => r = some (.int (iI 0)) ∧ True ∧ True ∧ True) := by
  refine GM.of (by decide) (Nat.le_of_ble_eq_true rfl) ?_
  intro p e s m args below meth c Q ls hQ C hml hr hlocks hP hl
  have hx := C.1
  have hb := C.2.1
  have hok := hP.2
  have hS : va_S A s.heap s.heap [] := va_S.rf
  have hl : lv_has ls 9 [(0, .ref (ad 0)), (1, .int (iI a1)), (2, .int (iI a2)), (3, .int (iI a3)), (4, .int (iI a4)), (5, .int (iI a5)), (6, .int (iI a6))] := hl
  refine lv_aload_n hx hb dX11_route_0 rfl (lv_at hl 0 rfl) ?_
  refine lv_iconst (v := iI 0) hx hb dX11_route_1 rfl ?_
  refine mdP_thrown (v1 := (va_up v 1 0)) C hP hD hS mF_X11_146 (by decide) rfl (Or.inl rfl) dX11_route_2 (fun H locs hP hS => ?_)
  refine lv_aload_n hx hb dX11_route_5 rfl (lv_at hl 0 rfl) ?_
  refine lv_iconst (v := iI 0) hx hb dX11_route_6 rfl ?_
  refine mdP_status (v1 := (va_up (va_up v 1 0) 0 0)) C hP hD hS mF_X11_149 (by decide) rfl (Or.inl rfl) dX11_route_7 (fun H locs hP hS => ?_)
  refine lv_aload_n hx hb dX11_route_10 rfl (lv_at hl 0 rfl) ?_
  refine lv_iload_n hx hb dX11_route_11 rfl (lv_at hl 1 rfl) ?_
  refine lv_iload_n hx hb dX11_route_12 rfl (lv_at hl 2 rfl) ?_
  refine g_cv (As := [.int (iI a1), .int (iI a2)]) (rest := []) (n := 2) C hml (m_isRoute l D k A ad hD (va_up (va_up v 1 0) 0 0) f g a1 a2 (by omega) (by omega) (show v 12 ≤ 4 from by omega)) mM_X11_328 mI_X11_isRoute mE_X11_isRoute mN_X11 mC_X11_isRoute (by decide +kernel) 0 (ci := 11) rfl rfl hP hS (fun _ h => h) ⟨Nat.le_of_ble_eq_true rfl, Nat.le_of_ble_eq_true rfl⟩ ⟨Nat.zero_le _, Nat.zero_le _⟩ hl.1 rfl rfl (Nat.le_of_ble_eq_true rfl) dX11_route_13 (fun r_1 v_1 f_1 g_1 H locs hq_1 hP _ hS => ?_)
  obtain ⟨⟨z_1, rfl, ez0_1⟩, rfl, rfl, rfl⟩ := hq_1
  have ez_1 : z_1 = (if (0 ≤ a1 ∧ a1 < v 12) ∧ 0 ≤ a2 ∧ a2 < f 1 a1 then 1 else 0) := ez0_1
  have w_1 := gif (P := (0 ≤ a1 ∧ a1 < v 12) ∧ 0 ≤ a2 ∧ a2 < f 1 a1) ez_1
  have hz_1 : inR z_1 := (by omega)
  show W p l e (gRm 2 43) s m args below meth c _ _ 0 0 Q (F0 m 16 ls [.int (iI z_1)])
  have k_1 : z_1 = 0 := by omega
  refine gi_zne (tgt := 25) hx hb dX11_route_16 (by decide) (by omega) (fun c_2 => ?_) (fun c_2 => ?_)
  · exfalso; omega
  · refine lv_aload_n hx hb dX11_route_19 rfl (lv_at hl 0 rfl) ?_
    refine lv_iconst (v := iI 1) hx hb dX11_route_20 rfl ?_
    refine g_cv (As := [.int (iI 1)]) (rest := []) (n := 1) C hml (m_no l D k A ad hD (va_up (va_up v 1 0) 0 0) f g 1 (by decide)) mM_X11_332 mI_X11_no mE_X11_no mN_X11 mC_X11_no (by decide +kernel) 0 (ci := 11) rfl rfl hP hS (fun _ h => h) ⟨Nat.le_of_ble_eq_true rfl, Nat.le_of_ble_eq_true rfl⟩ ⟨Nat.zero_le _, Nat.zero_le _⟩ hl.1 rfl rfl (Nat.le_of_ble_eq_true rfl) dX11_route_21 (fun r_3 v_3 f_3 g_3 H locs hq_3 hP _ hS => ?_)
    obtain ⟨rfl, rfl, rfl, rfl⟩ := hq_3
    show W p l e (gRm 2 43) s m args below meth c _ _ 0 0 Q (F0 m 24 ls [.int (iI 0)])
    have hP : gWd D (mdW k ad) (va_up (va_up v 1 0) 0 (1 : Int)) f g H := ⟨hP.1, (gR_up (gR_up ⟨hok.1, hok.2⟩ 1 (by decide)) 0 (by omega))⟩
    exact g_zret hQ C hr hlocks (by decide) hP hS dX11_route_24 ⟨rfl, trivial, trivial, trivial⟩

set_option maxHeartbeats 4000000 in
set_option maxRecDepth 100000 in
theorem m_told (l : Launch) (D : va_G) (k : Nat → ClassId) (A : Nat → Prop) (ad : Nat → Nat) (hD : mdD A k ad) (v : gV) (f g : gF) (a1 : Int) (a2 : Int) (a3 : Int) (h_a1 : inR a1) (h_a2 : inR a2) (h_a3 : inR a3) (q0 : v 0 = 0) (q2 : v 2 = 0) (q4 : v 4 = (-1)) (q5 : v 5 = (-1)) (q12 : v 12 = 0) (q22 : v 22 = 0) (q23 : v 23 = (-1)) (q24 : v 24 = 0) (q25 : v 25 = 0) : GM l D k A (mdW k ad) yX11_told cX11_told 5 (some .int) 1 21 [.ref (ad 0), .int (iI a1), .int (iI a2), .int (iI a3)] v f g (fun r v1 f1 g1 => r = some (.int (iI (-1))) ∧ True ∧ True ∧ True) := by
  refine GM.of (by decide) (Nat.le_of_ble_eq_true rfl) ?_
  intro p e s m args below meth c Q ls hQ C hml hr hlocks hP hl
  have hx := C.1
  have hb := C.2.1
  have hok := hP.2
  have hS : va_S A s.heap s.heap [] := va_S.rf
  have hl : lv_has ls 5 [(0, .ref (ad 0)), (1, .int (iI a1)), (2, .int (iI a2)), (3, .int (iI a3))] := hl
  refine lv_aload_n hx hb dX11_told_0 rfl (lv_at hl 0 rfl) ?_
  refine lv_iconst (v := iI 0) hx hb dX11_told_1 rfl ?_
  refine mdP_thrown (v1 := (va_up v 1 0)) C hP hD hS mF_X11_146 (by decide) rfl (Or.inl rfl) dX11_told_2 (fun H locs hP hS => ?_)
  refine lv_aload_n hx hb dX11_told_5 rfl (lv_at hl 0 rfl) ?_
  refine lv_iconst (v := iI 0) hx hb dX11_told_6 rfl ?_
  refine mdP_status (v1 := (va_up (va_up v 1 0) 0 0)) C hP hD hS mF_X11_149 (by decide) rfl (Or.inl rfl) dX11_told_7 (fun H locs hP hS => ?_)
  refine lv_aload_n hx hb dX11_told_10 rfl (lv_at hl 0 rfl) ?_
  refine lv_iload_n hx hb dX11_told_11 rfl (lv_at hl 1 rfl) ?_
  refine g_cv (As := [.int (iI a1)]) (rest := []) (n := 1) C hml (m_isRound l D k A ad hD (va_up (va_up v 1 0) 0 0) f g a1 (by omega)) mM_X11_325 mI_X11_isRound mE_X11_isRound mN_X11 mC_X11_isRound (by decide +kernel) 0 (ci := 11) rfl rfl hP hS (fun _ h => h) ⟨Nat.le_of_ble_eq_true rfl, Nat.le_of_ble_eq_true rfl⟩ ⟨Nat.zero_le _, Nat.zero_le _⟩ hl.1 rfl rfl (Nat.le_of_ble_eq_true rfl) dX11_told_12 (fun r_1 v_1 f_1 g_1 H locs hq_1 hP _ hS => ?_)
  obtain ⟨⟨z_1, rfl, ez0_1⟩, rfl, rfl, rfl⟩ := hq_1
  have ez_1 : z_1 = (if 0 ≤ a1 ∧ a1 < v 12 then 1 else 0) := ez0_1
  have w_1 := gif (P := 0 ≤ a1 ∧ a1 < v 12) ez_1
  have hz_1 : inR z_1 := (by omega)
  show W p l e (gRm 1 21) s m args below meth c _ _ 0 0 Q (F0 m 15 ls [.int (iI z_1)])
  have k_1 : z_1 = 0 := by omega
  refine gi_zeq (tgt := 32) hx hb dX11_told_15 (by decide) (by omega) (fun c_2 => ?_) (fun c_2 => ?_)
  · refine lv_aload_n hx hb dX11_told_32 rfl (lv_at hl 0 rfl) ?_
    refine lv_iconst (v := iI 1) hx hb dX11_told_33 rfl ?_
    refine g_cv (As := [.int (iI 1)]) (rest := []) (n := 1) C hml (m_refuse l D k A ad hD (va_up (va_up v 1 0) 0 0) f g 1 (by decide)) mM_X11_295 mI_X11_refuse mE_X11_refuse mN_X11 mC_X11_refuse (by decide +kernel) 0 (ci := 11) rfl rfl hP hS (fun _ h => h) ⟨Nat.le_of_ble_eq_true rfl, Nat.le_of_ble_eq_true rfl⟩ ⟨Nat.zero_le _, Nat.zero_le _⟩ hl.1 rfl rfl (Nat.le_of_ble_eq_true rfl) dX11_told_34 (fun r_3 v_3 f_3 g_3 H locs hq_3 hP _ hS => ?_)
    obtain ⟨rfl, rfl, rfl, rfl⟩ := hq_3
    show W p l e (gRm 1 21) s m args below meth c _ _ 0 0 Q (F0 m 37 ls [.int (iI (-1))])
    have hP : gWd D (mdW k ad) (va_up (va_up v 1 0) 0 (1 : Int)) f g H := ⟨hP.1, (gR_up (gR_up ⟨hok.1, hok.2⟩ 1 (by decide)) 0 (by omega))⟩
    exact g_iret hQ C hr hlocks hP hS dX11_told_37 ⟨rfl, trivial, trivial, trivial⟩
  · exfalso; omega

set_option maxHeartbeats 4000000 in
set_option maxRecDepth 100000 in
theorem m_begin (l : Launch) (D : va_G) (k : Nat → ClassId) (A : Nat → Prop) (ad : Nat → Nat) (hD : mdD A k ad) (v : gV) (f g : gF) (a1 : Int) (a2 : Int) (a3 : Int) (h_a1 : inR a1) (h_a2 : inR a2) (h_a3 : inR a3) (q0 : v 0 = 0) (q2 : v 2 = 0) (q4 : v 4 = (-1)) (q5 : v 5 = (-1)) (q12 : v 12 = 0) (q22 : v 22 = 0) (q23 : v 23 = (-1)) (q24 : v 24 = 0) (q25 : v 25 = 0) : GM l D k A (mdW k ad) yX11_begin cX11_begin 8 (some .int) 1 21 [.ref (ad 0), .int (iI a1), .int (iI a2), .int (iI a3)] v f g (fun r v1 f1 g1 => r = some (.int (iI (-1))) ∧ True ∧ True ∧ True) := by
  refine GM.of (by decide) (Nat.le_of_ble_eq_true rfl) ?_
  intro p e s m args below meth c Q ls hQ C hml hr hlocks hP hl
  have hx := C.1
  have hb := C.2.1
  have hok := hP.2
  have hS : va_S A s.heap s.heap [] := va_S.rf
  have hl : lv_has ls 8 [(0, .ref (ad 0)), (1, .int (iI a1)), (2, .int (iI a2)), (3, .int (iI a3))] := hl
  refine lv_aload_n hx hb dX11_begin_0 rfl (lv_at hl 0 rfl) ?_
  refine lv_iconst (v := iI 0) hx hb dX11_begin_1 rfl ?_
  refine mdP_thrown (v1 := (va_up v 1 0)) C hP hD hS mF_X11_146 (by decide) rfl (Or.inl rfl) dX11_begin_2 (fun H locs hP hS => ?_)
  refine lv_aload_n hx hb dX11_begin_5 rfl (lv_at hl 0 rfl) ?_
  refine lv_iconst (v := iI 0) hx hb dX11_begin_6 rfl ?_
  refine mdP_status (v1 := (va_up (va_up v 1 0) 0 0)) C hP hD hS mF_X11_149 (by decide) rfl (Or.inl rfl) dX11_begin_7 (fun H locs hP hS => ?_)
  refine lv_aload_n hx hb dX11_begin_10 rfl (lv_at hl 0 rfl) ?_
  refine lv_iload_n hx hb dX11_begin_11 rfl (lv_at hl 1 rfl) ?_
  refine g_cv (As := [.int (iI a1)]) (rest := []) (n := 1) C hml (m_isClimber l D k A ad hD (va_up (va_up v 1 0) 0 0) f g a1 (by omega)) mM_X11_349 mI_X11_isClimber mE_X11_isClimber mN_X11 mC_X11_isClimber (by decide +kernel) 0 (ci := 11) rfl rfl hP hS (fun _ h => h) ⟨Nat.le_of_ble_eq_true rfl, Nat.le_of_ble_eq_true rfl⟩ ⟨Nat.zero_le _, Nat.zero_le _⟩ hl.1 rfl rfl (Nat.le_of_ble_eq_true rfl) dX11_begin_12 (fun r_1 v_1 f_1 g_1 H locs hq_1 hP _ hS => ?_)
  obtain ⟨⟨z_1, rfl, ez0_1⟩, rfl, rfl, rfl⟩ := hq_1
  have ez_1 : z_1 = (if 0 ≤ a1 ∧ a1 < v 22 then 1 else 0) := ez0_1
  have w_1 := gif (P := 0 ≤ a1 ∧ a1 < v 22) ez_1
  have hz_1 : inR z_1 := (by omega)
  show W p l e (gRm 1 21) s m args below meth c _ _ 0 0 Q (F0 m 15 ls [.int (iI z_1)])
  have k_1 : z_1 = 0 := by omega
  refine gi_zeq (tgt := 37) hx hb dX11_begin_15 (by decide) (by omega) (fun c_2 => ?_) (fun c_2 => ?_)
  · refine lv_aload_n hx hb dX11_begin_37 rfl (lv_at hl 0 rfl) ?_
    refine lv_iconst (v := iI 1) hx hb dX11_begin_38 rfl ?_
    refine g_cv (As := [.int (iI 1)]) (rest := []) (n := 1) C hml (m_refuse l D k A ad hD (va_up (va_up v 1 0) 0 0) f g 1 (by decide)) mM_X11_295 mI_X11_refuse mE_X11_refuse mN_X11 mC_X11_refuse (by decide +kernel) 0 (ci := 11) rfl rfl hP hS (fun _ h => h) ⟨Nat.le_of_ble_eq_true rfl, Nat.le_of_ble_eq_true rfl⟩ ⟨Nat.zero_le _, Nat.zero_le _⟩ hl.1 rfl rfl (Nat.le_of_ble_eq_true rfl) dX11_begin_39 (fun r_3 v_3 f_3 g_3 H locs hq_3 hP _ hS => ?_)
    obtain ⟨rfl, rfl, rfl, rfl⟩ := hq_3
    show W p l e (gRm 1 21) s m args below meth c _ _ 0 0 Q (F0 m 42 ls [.int (iI (-1))])
    have hP : gWd D (mdW k ad) (va_up (va_up v 1 0) 0 (1 : Int)) f g H := ⟨hP.1, (gR_up (gR_up ⟨hok.1, hok.2⟩ 1 (by decide)) 0 (by omega))⟩
    exact g_iret hQ C hr hlocks hP hS dX11_begin_42 ⟨rfl, trivial, trivial, trivial⟩
  · exfalso; omega

set_option maxHeartbeats 4000000 in
set_option maxRecDepth 100000 in
theorem m_reach (l : Launch) (D : va_G) (k : Nat → ClassId) (A : Nat → Prop) (ad : Nat → Nat) (hD : mdD A k ad) (v : gV) (f g : gF) (a1 : Int) (a2 : Int) (a3 : Int) (h_a1 : inR a1) (h_a2 : inR a2) (h_a3 : inR a3) (q0 : v 0 = 0) (q2 : v 2 = 0) (q4 : v 4 = (-1)) (q5 : v 5 = (-1)) (q12 : v 12 = 0) (q22 : v 22 = 0) (q23 : v 23 = (-1)) (q24 : v 24 = 0) (q25 : v 25 = 0) : GM l D k A (mdW k ad) yX11_reach cX11_reach 7 (some .int) 1 21 [.ref (ad 0), .int (iI a1), .int (iI a2), .int (iI a3)] v f g (fun r v1 f1 g1 => r = some (.int (iI (-1))) ∧ True ∧ True ∧ True) := by
  refine GM.of (by decide) (Nat.le_of_ble_eq_true rfl) ?_
  intro p e s m args below meth c Q ls hQ C hml hr hlocks hP hl
  have hx := C.1
  have hb := C.2.1
  have hok := hP.2
  have hS : va_S A s.heap s.heap [] := va_S.rf
  have hl : lv_has ls 7 [(0, .ref (ad 0)), (1, .int (iI a1)), (2, .int (iI a2)), (3, .int (iI a3))] := hl
  refine lv_aload_n hx hb dX11_reach_0 rfl (lv_at hl 0 rfl) ?_
  refine lv_iconst (v := iI 0) hx hb dX11_reach_1 rfl ?_
  refine mdP_thrown (v1 := (va_up v 1 0)) C hP hD hS mF_X11_146 (by decide) rfl (Or.inl rfl) dX11_reach_2 (fun H locs hP hS => ?_)
  refine lv_aload_n hx hb dX11_reach_5 rfl (lv_at hl 0 rfl) ?_
  refine lv_iconst (v := iI 0) hx hb dX11_reach_6 rfl ?_
  refine mdP_status (v1 := (va_up (va_up v 1 0) 0 0)) C hP hD hS mF_X11_149 (by decide) rfl (Or.inl rfl) dX11_reach_7 (fun H locs hP hS => ?_)
  refine lv_aload_n hx hb dX11_reach_10 rfl (lv_at hl 0 rfl) ?_
  refine lv_iload_n hx hb dX11_reach_11 rfl (lv_at hl 1 rfl) ?_
  refine g_cv (As := [.int (iI a1)]) (rest := []) (n := 1) C hml (m_isClimber l D k A ad hD (va_up (va_up v 1 0) 0 0) f g a1 (by omega)) mM_X11_349 mI_X11_isClimber mE_X11_isClimber mN_X11 mC_X11_isClimber (by decide +kernel) 0 (ci := 11) rfl rfl hP hS (fun _ h => h) ⟨Nat.le_of_ble_eq_true rfl, Nat.le_of_ble_eq_true rfl⟩ ⟨Nat.zero_le _, Nat.zero_le _⟩ hl.1 rfl rfl (Nat.le_of_ble_eq_true rfl) dX11_reach_12 (fun r_1 v_1 f_1 g_1 H locs hq_1 hP _ hS => ?_)
  obtain ⟨⟨z_1, rfl, ez0_1⟩, rfl, rfl, rfl⟩ := hq_1
  have ez_1 : z_1 = (if 0 ≤ a1 ∧ a1 < v 22 then 1 else 0) := ez0_1
  have w_1 := gif (P := 0 ≤ a1 ∧ a1 < v 22) ez_1
  have hz_1 : inR z_1 := (by omega)
  show W p l e (gRm 1 21) s m args below meth c _ _ 0 0 Q (F0 m 15 ls [.int (iI z_1)])
  have k_1 : z_1 = 0 := by omega
  refine gi_zne (tgt := 24) hx hb dX11_reach_15 (by decide) (by omega) (fun c_2 => ?_) (fun c_2 => ?_)
  · exfalso; omega
  · refine lv_aload_n hx hb dX11_reach_18 rfl (lv_at hl 0 rfl) ?_
    refine lv_iconst (v := iI 1) hx hb dX11_reach_19 rfl ?_
    refine g_cv (As := [.int (iI 1)]) (rest := []) (n := 1) C hml (m_refuse l D k A ad hD (va_up (va_up v 1 0) 0 0) f g 1 (by decide)) mM_X11_295 mI_X11_refuse mE_X11_refuse mN_X11 mC_X11_refuse (by decide +kernel) 0 (ci := 11) rfl rfl hP hS (fun _ h => h) ⟨Nat.le_of_ble_eq_true rfl, Nat.le_of_ble_eq_true rfl⟩ ⟨Nat.zero_le _, Nat.zero_le _⟩ hl.1 rfl rfl (Nat.le_of_ble_eq_true rfl) dX11_reach_20 (fun r_3 v_3 f_3 g_3 H locs hq_3 hP _ hS => ?_)
    obtain ⟨rfl, rfl, rfl, rfl⟩ := hq_3
    show W p l e (gRm 1 21) s m args below meth c _ _ 0 0 Q (F0 m 23 ls [.int (iI (-1))])
    have hP : gWd D (mdW k ad) (va_up (va_up v 1 0) 0 (1 : Int)) f g H := ⟨hP.1, (gR_up (gR_up ⟨hok.1, hok.2⟩ 1 (by decide)) 0 (by omega))⟩
    exact g_iret hQ C hr hlocks hP hS dX11_reach_23 ⟨rfl, trivial, trivial, trivial⟩

set_option maxHeartbeats 4000000 in
set_option maxRecDepth 100000 in
theorem m_fall (l : Launch) (D : va_G) (k : Nat → ClassId) (A : Nat → Prop) (ad : Nat → Nat) (hD : mdD A k ad) (v : gV) (f g : gF) (a1 : Int) (a2 : Int) (a3 : Int) (h_a1 : inR a1) (h_a2 : inR a2) (h_a3 : inR a3) (q0 : v 0 = 0) (q2 : v 2 = 0) (q4 : v 4 = (-1)) (q5 : v 5 = (-1)) (q12 : v 12 = 0) (q22 : v 22 = 0) (q23 : v 23 = (-1)) (q24 : v 24 = 0) (q25 : v 25 = 0) : GM l D k A (mdW k ad) yX11_fall cX11_fall 6 (some .boolean) 1 21 [.ref (ad 0), .int (iI a1), .int (iI a2), .int (iI a3)] v f g (fun r v1 f1 g1 => r = some (.int (iI 0)) ∧ True ∧ True ∧ True) := by
  refine GM.of (by decide) (Nat.le_of_ble_eq_true rfl) ?_
  intro p e s m args below meth c Q ls hQ C hml hr hlocks hP hl
  have hx := C.1
  have hb := C.2.1
  have hok := hP.2
  have hS : va_S A s.heap s.heap [] := va_S.rf
  have hl : lv_has ls 6 [(0, .ref (ad 0)), (1, .int (iI a1)), (2, .int (iI a2)), (3, .int (iI a3))] := hl
  refine lv_aload_n hx hb dX11_fall_0 rfl (lv_at hl 0 rfl) ?_
  refine lv_iconst (v := iI 0) hx hb dX11_fall_1 rfl ?_
  refine mdP_thrown (v1 := (va_up v 1 0)) C hP hD hS mF_X11_146 (by decide) rfl (Or.inl rfl) dX11_fall_2 (fun H locs hP hS => ?_)
  refine lv_aload_n hx hb dX11_fall_5 rfl (lv_at hl 0 rfl) ?_
  refine lv_iconst (v := iI 0) hx hb dX11_fall_6 rfl ?_
  refine mdP_status (v1 := (va_up (va_up v 1 0) 0 0)) C hP hD hS mF_X11_149 (by decide) rfl (Or.inl rfl) dX11_fall_7 (fun H locs hP hS => ?_)
  refine lv_aload_n hx hb dX11_fall_10 rfl (lv_at hl 0 rfl) ?_
  refine lv_iload_n hx hb dX11_fall_11 rfl (lv_at hl 1 rfl) ?_
  refine g_cv (As := [.int (iI a1)]) (rest := []) (n := 1) C hml (m_isClimber l D k A ad hD (va_up (va_up v 1 0) 0 0) f g a1 (by omega)) mM_X11_349 mI_X11_isClimber mE_X11_isClimber mN_X11 mC_X11_isClimber (by decide +kernel) 0 (ci := 11) rfl rfl hP hS (fun _ h => h) ⟨Nat.le_of_ble_eq_true rfl, Nat.le_of_ble_eq_true rfl⟩ ⟨Nat.zero_le _, Nat.zero_le _⟩ hl.1 rfl rfl (Nat.le_of_ble_eq_true rfl) dX11_fall_12 (fun r_1 v_1 f_1 g_1 H locs hq_1 hP _ hS => ?_)
  obtain ⟨⟨z_1, rfl, ez0_1⟩, rfl, rfl, rfl⟩ := hq_1
  have ez_1 : z_1 = (if 0 ≤ a1 ∧ a1 < v 22 then 1 else 0) := ez0_1
  have w_1 := gif (P := 0 ≤ a1 ∧ a1 < v 22) ez_1
  have hz_1 : inR z_1 := (by omega)
  show W p l e (gRm 1 21) s m args below meth c _ _ 0 0 Q (F0 m 15 ls [.int (iI z_1)])
  have k_1 : z_1 = 0 := by omega
  refine gi_zne (tgt := 24) hx hb dX11_fall_15 (by decide) (by omega) (fun c_2 => ?_) (fun c_2 => ?_)
  · exfalso; omega
  · refine lv_aload_n hx hb dX11_fall_18 rfl (lv_at hl 0 rfl) ?_
    refine lv_iconst (v := iI 1) hx hb dX11_fall_19 rfl ?_
    refine g_cv (As := [.int (iI 1)]) (rest := []) (n := 1) C hml (m_no l D k A ad hD (va_up (va_up v 1 0) 0 0) f g 1 (by decide)) mM_X11_332 mI_X11_no mE_X11_no mN_X11 mC_X11_no (by decide +kernel) 0 (ci := 11) rfl rfl hP hS (fun _ h => h) ⟨Nat.le_of_ble_eq_true rfl, Nat.le_of_ble_eq_true rfl⟩ ⟨Nat.zero_le _, Nat.zero_le _⟩ hl.1 rfl rfl (Nat.le_of_ble_eq_true rfl) dX11_fall_20 (fun r_3 v_3 f_3 g_3 H locs hq_3 hP _ hS => ?_)
    obtain ⟨rfl, rfl, rfl, rfl⟩ := hq_3
    show W p l e (gRm 1 21) s m args below meth c _ _ 0 0 Q (F0 m 23 ls [.int (iI 0)])
    have hP : gWd D (mdW k ad) (va_up (va_up v 1 0) 0 (1 : Int)) f g H := ⟨hP.1, (gR_up (gR_up ⟨hok.1, hok.2⟩ 1 (by decide)) 0 (by omega))⟩
    exact g_zret hQ C hr hlocks (by decide) hP hS dX11_fall_23 ⟨rfl, trivial, trivial, trivial⟩

set_option maxHeartbeats 4000000 in
set_option maxRecDepth 100000 in
theorem m_out (l : Launch) (D : va_G) (k : Nat → ClassId) (A : Nat → Prop) (ad : Nat → Nat) (hD : mdD A k ad) (v : gV) (f g : gF) (a1 : Int) (a2 : Int) (a3 : Int) (h_a1 : inR a1) (h_a2 : inR a2) (h_a3 : inR a3) (q0 : v 0 = 0) (q2 : v 2 = 0) (q4 : v 4 = (-1)) (q5 : v 5 = (-1)) (q12 : v 12 = 0) (q22 : v 22 = 0) (q23 : v 23 = (-1)) (q24 : v 24 = 0) (q25 : v 25 = 0) : GM l D k A (mdW k ad) yX11_out cX11_out 7 (some .boolean) 1 21 [.ref (ad 0), .int (iI a1), .int (iI a2), .int (iI a3)] v f g (fun r v1 f1 g1 => r = some (.int (iI 0)) ∧ True ∧ True ∧ True) := by
  refine GM.of (by decide) (Nat.le_of_ble_eq_true rfl) ?_
  intro p e s m args below meth c Q ls hQ C hml hr hlocks hP hl
  have hx := C.1
  have hb := C.2.1
  have hok := hP.2
  have hS : va_S A s.heap s.heap [] := va_S.rf
  have hl : lv_has ls 7 [(0, .ref (ad 0)), (1, .int (iI a1)), (2, .int (iI a2)), (3, .int (iI a3))] := hl
  refine lv_aload_n hx hb dX11_out_0 rfl (lv_at hl 0 rfl) ?_
  refine lv_iconst (v := iI 0) hx hb dX11_out_1 rfl ?_
  refine mdP_thrown (v1 := (va_up v 1 0)) C hP hD hS mF_X11_146 (by decide) rfl (Or.inl rfl) dX11_out_2 (fun H locs hP hS => ?_)
  refine lv_aload_n hx hb dX11_out_5 rfl (lv_at hl 0 rfl) ?_
  refine lv_iconst (v := iI 0) hx hb dX11_out_6 rfl ?_
  refine mdP_status (v1 := (va_up (va_up v 1 0) 0 0)) C hP hD hS mF_X11_149 (by decide) rfl (Or.inl rfl) dX11_out_7 (fun H locs hP hS => ?_)
  refine lv_aload_n hx hb dX11_out_10 rfl (lv_at hl 0 rfl) ?_
  refine lv_iload_n hx hb dX11_out_11 rfl (lv_at hl 1 rfl) ?_
  refine g_cv (As := [.int (iI a1)]) (rest := []) (n := 1) C hml (m_isClimber l D k A ad hD (va_up (va_up v 1 0) 0 0) f g a1 (by omega)) mM_X11_349 mI_X11_isClimber mE_X11_isClimber mN_X11 mC_X11_isClimber (by decide +kernel) 0 (ci := 11) rfl rfl hP hS (fun _ h => h) ⟨Nat.le_of_ble_eq_true rfl, Nat.le_of_ble_eq_true rfl⟩ ⟨Nat.zero_le _, Nat.zero_le _⟩ hl.1 rfl rfl (Nat.le_of_ble_eq_true rfl) dX11_out_12 (fun r_1 v_1 f_1 g_1 H locs hq_1 hP _ hS => ?_)
  obtain ⟨⟨z_1, rfl, ez0_1⟩, rfl, rfl, rfl⟩ := hq_1
  have ez_1 : z_1 = (if 0 ≤ a1 ∧ a1 < v 22 then 1 else 0) := ez0_1
  have w_1 := gif (P := 0 ≤ a1 ∧ a1 < v 22) ez_1
  have hz_1 : inR z_1 := (by omega)
  show W p l e (gRm 1 21) s m args below meth c _ _ 0 0 Q (F0 m 15 ls [.int (iI z_1)])
  have k_1 : z_1 = 0 := by omega
  refine gi_zne (tgt := 24) hx hb dX11_out_15 (by decide) (by omega) (fun c_2 => ?_) (fun c_2 => ?_)
  · exfalso; omega
  · refine lv_aload_n hx hb dX11_out_18 rfl (lv_at hl 0 rfl) ?_
    refine lv_iconst (v := iI 1) hx hb dX11_out_19 rfl ?_
    refine g_cv (As := [.int (iI 1)]) (rest := []) (n := 1) C hml (m_no l D k A ad hD (va_up (va_up v 1 0) 0 0) f g 1 (by decide)) mM_X11_332 mI_X11_no mE_X11_no mN_X11 mC_X11_no (by decide +kernel) 0 (ci := 11) rfl rfl hP hS (fun _ h => h) ⟨Nat.le_of_ble_eq_true rfl, Nat.le_of_ble_eq_true rfl⟩ ⟨Nat.zero_le _, Nat.zero_le _⟩ hl.1 rfl rfl (Nat.le_of_ble_eq_true rfl) dX11_out_20 (fun r_3 v_3 f_3 g_3 H locs hq_3 hP _ hS => ?_)
    obtain ⟨rfl, rfl, rfl, rfl⟩ := hq_3
    show W p l e (gRm 1 21) s m args below meth c _ _ 0 0 Q (F0 m 23 ls [.int (iI 0)])
    have hP : gWd D (mdW k ad) (va_up (va_up v 1 0) 0 (1 : Int)) f g H := ⟨hP.1, (gR_up (gR_up ⟨hok.1, hok.2⟩ 1 (by decide)) 0 (by omega))⟩
    exact g_zret hQ C hr hlocks (by decide) hP hS dX11_out_23 ⟨rfl, trivial, trivial, trivial⟩

set_option maxHeartbeats 4000000 in
set_option maxRecDepth 100000 in
theorem m_clock (l : Launch) (D : va_G) (k : Nat → ClassId) (A : Nat → Prop) (ad : Nat → Nat) (hD : mdD A k ad) (v : gV) (f g : gF) (a1 : Int) (h_a1 : inR a1) (q0 : v 0 = 0) (q2 : v 2 = 0) (q4 : v 4 = (-1)) (q5 : v 5 = (-1)) (q12 : v 12 = 0) (q22 : v 22 = 0) (q23 : v 23 = (-1)) (q24 : v 24 = 0) (q25 : v 25 = 0) : GM l D k A (mdW k ad) yX11_clock cX11_clock 2 (some .boolean) 2 43 [.ref (ad 0), .int (iI a1)] v f g (fun r v1 f1 g1 => (∃ z : Int, r = some (.int (iI z)) ∧ z = (if 0 ≤ a1 ∧ a1 ≤ 1000000 then 1 else 0)) ∧ True ∧ True ∧ True) := by
  refine GM.of (by decide) (Nat.le_of_ble_eq_true rfl) ?_
  intro p e s m args below meth c Q ls hQ C hml hr hlocks hP hl
  have hx := C.1
  have hb := C.2.1
  have hok := hP.2
  have hS : va_S A s.heap s.heap [] := va_S.rf
  have hl : lv_has ls 2 [(0, .ref (ad 0)), (1, .int (iI a1))] := hl
  refine lv_aload_n hx hb dX11_clock_0 rfl (lv_at hl 0 rfl) ?_
  refine lv_iconst (v := iI 0) hx hb dX11_clock_1 rfl ?_
  refine mdP_thrown (v1 := (va_up v 1 0)) C hP hD hS mF_X11_146 (by decide) rfl (Or.inl rfl) dX11_clock_2 (fun H locs hP hS => ?_)
  refine lv_aload_n hx hb dX11_clock_5 rfl (lv_at hl 0 rfl) ?_
  refine lv_aload_n hx hb dX11_clock_6 rfl (lv_at hl 0 rfl) ?_
  refine lv_iload_n hx hb dX11_clock_7 rfl (lv_at hl 1 rfl) ?_
  refine g_cv (As := [.int (iI a1)]) (rest := [.ref (ad 0)]) (n := 1) C hml (m_clocked l D k A ad hD (va_up v 1 0) f g a1 (by omega) (show v 0 = 0 from by omega) (show v 2 = 0 from by omega) (show v 4 = (-1) from by omega) (show v 5 = (-1) from by omega) (show v 12 = 0 from by omega) (show v 22 = 0 from by omega) (show v 23 = (-1) from by omega) (show v 24 = 0 from by omega) (show v 25 = 0 from by omega)) mM_X11_352 mI_X11_clocked mE_X11_clocked mN_X11 mC_X11_clocked (by decide +kernel) 0 (ci := 11) rfl rfl hP hS (fun _ h => h) ⟨Nat.le_of_ble_eq_true rfl, Nat.le_of_ble_eq_true rfl⟩ ⟨Nat.zero_le _, Nat.zero_le _⟩ hl.1 rfl rfl (Nat.le_of_ble_eq_true rfl) dX11_clock_8 (fun r_1 v_1 f_1 g_1 H locs hq_1 hP _ hS => ?_)
  obtain ⟨⟨z_1, rfl, ez0_1⟩, -, -, -⟩ := hq_1
  have ez_1 : z_1 = (if 0 ≤ a1 ∧ a1 ≤ 1000000 then 0 else 2) := ez0_1
  have hz_1 : inR z_1 := (by rw [ez_1]; first | omega | (split <;> omega))
  show W p l e (gRm 2 43) s m args below meth c _ _ 0 0 Q (F0 m 11 ls [.int (iI z_1), .ref (ad 0)])
  have hv_1 := hP.2.1
  have hf_1 := hP.2.2
  refine mdP_status (v1 := (va_up v_1 0 z_1)) C hP hD hS mF_X11_149 (by omega) rfl (Or.inl rfl) dX11_clock_11 (fun H locs hP hS => ?_)
  refine lv_aload_n hx hb dX11_clock_14 rfl (lv_at hl 0 rfl) ?_
  refine mdG_status C hP mF_X11_149 dX11_clock_15 ?_
  show W p l e (gRm 2 43) s m args below meth c _ _ 0 0 Q (F0 m 18 ls [.int (iI z_1)])
  refine gi_zne (tgt := 25) hx hb dX11_clock_18 (by decide) (by omega) (fun c_2 => ?_) (fun c_2 => ?_)
  · refine lv_iconst (v := iI 0) hx hb dX11_clock_25 rfl ?_
    exact g_zret hQ C hr hlocks (by decide) hP hS dX11_clock_26 ⟨⟨_, rfl, (by first | omega | (split <;> omega))⟩, trivial, trivial, trivial⟩
  · refine lv_iconst (v := iI 1) hx hb dX11_clock_21 rfl ?_
    refine lv_goto (tgt := 26) hx hb dX11_clock_22 (by decide) ?_
    exact g_zret hQ C hr hlocks (by decide) hP hS dX11_clock_26 ⟨⟨_, rfl, (by first | omega | (split <;> omega))⟩, trivial, trivial, trivial⟩

set_option maxHeartbeats 4000000 in
set_option maxRecDepth 100000 in
theorem m_now (l : Launch) (D : va_G) (k : Nat → ClassId) (A : Nat → Prop) (ad : Nat → Nat) (hD : mdD A k ad) (v : gV) (f g : gF) (q0 : v 0 = 0) (q2 : v 2 = 0) (q4 : v 4 = (-1)) (q5 : v 5 = (-1)) (q12 : v 12 = 0) (q22 : v 22 = 0) (q23 : v 23 = (-1)) (q24 : v 24 = 0) (q25 : v 25 = 0) : GM l D k A (mdW k ad) yX11_now cX11_now 1 (some .int) 0 0 [.ref (ad 0)] v f g (fun r v1 f1 g1 => r = some (.int (iI 0)) ∧ True ∧ True ∧ True) := by
  refine GM.of (by decide) (Nat.le_of_ble_eq_true rfl) ?_
  intro p e s m args below meth c Q ls hQ C hml hr hlocks hP hl
  have hx := C.1
  have hb := C.2.1
  have hok := hP.2
  have hS : va_S A s.heap s.heap [] := va_S.rf
  have hl : lv_has ls 1 [(0, .ref (ad 0))] := hl
  refine lv_aload_n hx hb dX11_now_0 rfl (lv_at hl 0 rfl) ?_
  refine lv_iconst (v := iI 0) hx hb dX11_now_1 rfl ?_
  refine mdP_thrown (v1 := (va_up v 1 0)) C hP hD hS mF_X11_146 (by decide) rfl (Or.inl rfl) dX11_now_2 (fun H locs hP hS => ?_)
  refine lv_aload_n hx hb dX11_now_5 rfl (lv_at hl 0 rfl) ?_
  refine lv_iconst (v := iI 0) hx hb dX11_now_6 rfl ?_
  refine mdP_status (v1 := (va_up (va_up v 1 0) 0 0)) C hP hD hS mF_X11_149 (by decide) rfl (Or.inl rfl) dX11_now_7 (fun H locs hP hS => ?_)
  refine lv_aload_n hx hb dX11_now_10 rfl (lv_at hl 0 rfl) ?_
  refine mdG_now C hP mF_X11_316 dX11_now_11 ?_
  show W p l e (gRm 0 0) s m args below meth c _ _ 0 0 Q (F0 m 14 ls [.int (iI (v 24))])
  have r_1 := hok.1 24
  exact g_iret hQ C hr hlocks hP hS dX11_now_14 ⟨(congrArg (fun z => some (Value.int (iI z))) (by first | omega | (split <;> omega))), trivial, trivial, trivial⟩

set_option maxHeartbeats 4000000 in
set_option maxRecDepth 100000 in
theorem m_tried (l : Launch) (D : va_G) (k : Nat → ClassId) (A : Nat → Prop) (ad : Nat → Nat) (hD : mdD A k ad) (v : gV) (f g : gF) (a1 : Int) (a2 : Int) (h_a1 : inR a1) (h_a2 : inR a2) (q0 : v 0 = 0) (q2 : v 2 = 0) (q4 : v 4 = (-1)) (q5 : v 5 = (-1)) (q12 : v 12 = 0) (q22 : v 22 = 0) (q23 : v 23 = (-1)) (q24 : v 24 = 0) (q25 : v 25 = 0) : GM l D k A (mdW k ad) yX11_tried cX11_tried 3 (some .int) 1 21 [.ref (ad 0), .int (iI a1), .int (iI a2)] v f g (fun r v1 f1 g1 => r = some (.int (iI (-1))) ∧ True ∧ True ∧ True) := by
  refine GM.of (by decide) (Nat.le_of_ble_eq_true rfl) ?_
  intro p e s m args below meth c Q ls hQ C hml hr hlocks hP hl
  have hx := C.1
  have hb := C.2.1
  have hok := hP.2
  have hS : va_S A s.heap s.heap [] := va_S.rf
  have hl : lv_has ls 3 [(0, .ref (ad 0)), (1, .int (iI a1)), (2, .int (iI a2))] := hl
  refine lv_aload_n hx hb dX11_tried_0 rfl (lv_at hl 0 rfl) ?_
  refine lv_iconst (v := iI 0) hx hb dX11_tried_1 rfl ?_
  refine mdP_thrown (v1 := (va_up v 1 0)) C hP hD hS mF_X11_146 (by decide) rfl (Or.inl rfl) dX11_tried_2 (fun H locs hP hS => ?_)
  refine lv_aload_n hx hb dX11_tried_5 rfl (lv_at hl 0 rfl) ?_
  refine lv_iconst (v := iI 0) hx hb dX11_tried_6 rfl ?_
  refine mdP_status (v1 := (va_up (va_up v 1 0) 0 0)) C hP hD hS mF_X11_149 (by decide) rfl (Or.inl rfl) dX11_tried_7 (fun H locs hP hS => ?_)
  refine lv_iload_n hx hb dX11_tried_10 rfl (lv_at hl 1 rfl) ?_
  refine gi_zlt (tgt := 22) hx hb dX11_tried_11 (by decide) (by omega) (fun c_1 => ?_) (fun c_1 => ?_)
  · refine lv_aload_n hx hb dX11_tried_22 rfl (lv_at hl 0 rfl) ?_
    refine lv_iconst (v := iI 1) hx hb dX11_tried_23 rfl ?_
    refine g_cv (As := [.int (iI 1)]) (rest := []) (n := 1) C hml (m_refuse l D k A ad hD (va_up (va_up v 1 0) 0 0) f g 1 (by decide)) mM_X11_295 mI_X11_refuse mE_X11_refuse mN_X11 mC_X11_refuse (by decide +kernel) 0 (ci := 11) rfl rfl hP hS (fun _ h => h) ⟨Nat.le_of_ble_eq_true rfl, Nat.le_of_ble_eq_true rfl⟩ ⟨Nat.zero_le _, Nat.zero_le _⟩ hl.1 rfl rfl (Nat.le_of_ble_eq_true rfl) dX11_tried_24 (fun r_2 v_2 f_2 g_2 H locs hq_2 hP _ hS => ?_)
    obtain ⟨rfl, rfl, rfl, rfl⟩ := hq_2
    show W p l e (gRm 1 21) s m args below meth c _ _ 0 0 Q (F0 m 27 ls [.int (iI (-1))])
    have hP : gWd D (mdW k ad) (va_up (va_up v 1 0) 0 (1 : Int)) f g H := ⟨hP.1, (gR_up (gR_up ⟨hok.1, hok.2⟩ 1 (by decide)) 0 (by omega))⟩
    exact g_iret hQ C hr hlocks hP hS dX11_tried_27 ⟨rfl, trivial, trivial, trivial⟩
  · refine lv_iload_n hx hb dX11_tried_14 rfl (lv_at hl 1 rfl) ?_
    refine lv_aload_n hx hb dX11_tried_15 rfl (lv_at hl 0 rfl) ?_
    refine mdG_tried C hP mF_X11_319 dX11_tried_16 ?_
    show W p l e (gRm 1 21) s m args below meth c _ _ 0 0 Q (F0 m 19 ls [.int (iI (v 25)), .int (iI a1)])
    have r_3 := hok.1 25
    refine gi_clt (tgt := 28) hx hb dX11_tried_19 (by decide) (by omega) (by omega) (fun c_4 => ?_) (fun c_4 => ?_)
    · refine lv_iload_n hx hb dX11_tried_28 rfl (lv_at hl 2 rfl) ?_
      by_cases c_5_0 : a2 = 0
      · refine lv_tableIn (off := 43) (tgt := 72) hx hb dX11_tried_29 (by rw [c_5_0]; decide) (by rw [c_5_0]; decide) (by rw [c_5_0]; rfl) (by decide) ?_
        refine lv_aload_n hx hb dX11_tried_72 rfl (lv_at hl 0 rfl) ?_
        refine mdG_who C hP mF_X11_94 dX11_tried_73 ?_
        refine lv_iload_n hx hb dX11_tried_76 rfl (lv_at hl 1 rfl) ?_
        refine mdL_who C hP (by omega) (by omega) dX11_tried_77 ?_
        have r_6 := hok.2 24 a1
        exact g_iret hQ C hr hlocks hP hS dX11_tried_78 ⟨(congrArg (fun z => some (Value.int (iI z))) (by first | omega | (split <;> omega))), trivial, trivial, trivial⟩
      by_cases c_5_1 : a2 = 1
      · refine lv_tableIn (off := 50) (tgt := 79) hx hb dX11_tried_29 (by rw [c_5_1]; decide) (by rw [c_5_1]; decide) (by rw [c_5_1]; rfl) (by decide) ?_
        refine lv_aload_n hx hb dX11_tried_79 rfl (lv_at hl 0 rfl) ?_
        refine mdG_where C hP mF_X11_97 dX11_tried_80 ?_
        refine lv_iload_n hx hb dX11_tried_83 rfl (lv_at hl 1 rfl) ?_
        refine mdL_where C hP (by omega) (by omega) dX11_tried_84 ?_
        have r_7 := hok.2 25 a1
        exact g_iret hQ C hr hlocks hP hS dX11_tried_85 ⟨(congrArg (fun z => some (Value.int (iI z))) (by first | omega | (split <;> omega))), trivial, trivial, trivial⟩
      by_cases c_5_2 : a2 = 2
      · refine lv_tableIn (off := 57) (tgt := 86) hx hb dX11_tried_29 (by rw [c_5_2]; decide) (by rw [c_5_2]; decide) (by rw [c_5_2]; rfl) (by decide) ?_
        refine lv_aload_n hx hb dX11_tried_86 rfl (lv_at hl 0 rfl) ?_
        refine mdG_which C hP mF_X11_100 dX11_tried_87 ?_
        refine lv_iload_n hx hb dX11_tried_90 rfl (lv_at hl 1 rfl) ?_
        refine mdL_which C hP (by omega) (by omega) dX11_tried_91 ?_
        have r_8 := hok.2 26 a1
        exact g_iret hQ C hr hlocks hP hS dX11_tried_92 ⟨(congrArg (fun z => some (Value.int (iI z))) (by first | omega | (split <;> omega))), trivial, trivial, trivial⟩
      by_cases c_5_3 : a2 = 3
      · refine lv_tableIn (off := 64) (tgt := 93) hx hb dX11_tried_29 (by rw [c_5_3]; decide) (by rw [c_5_3]; decide) (by rw [c_5_3]; rfl) (by decide) ?_
        refine lv_aload_n hx hb dX11_tried_93 rfl (lv_at hl 0 rfl) ?_
        refine mdG_from C hP mF_X11_103 dX11_tried_94 ?_
        refine lv_iload_n hx hb dX11_tried_97 rfl (lv_at hl 1 rfl) ?_
        refine mdL_from C hP (by omega) (by omega) dX11_tried_98 ?_
        have r_9 := hok.2 27 a1
        exact g_iret hQ C hr hlocks hP hS dX11_tried_99 ⟨(congrArg (fun z => some (Value.int (iI z))) (by first | omega | (split <;> omega))), trivial, trivial, trivial⟩
      by_cases c_5_4 : a2 = 4
      · refine lv_tableIn (off := 71) (tgt := 100) hx hb dX11_tried_29 (by rw [c_5_4]; decide) (by rw [c_5_4]; decide) (by rw [c_5_4]; rfl) (by decide) ?_
        refine lv_aload_n hx hb dX11_tried_100 rfl (lv_at hl 0 rfl) ?_
        refine mdG_to C hP mF_X11_106 dX11_tried_101 ?_
        refine lv_iload_n hx hb dX11_tried_104 rfl (lv_at hl 1 rfl) ?_
        refine mdL_to C hP (by omega) (by omega) dX11_tried_105 ?_
        have r_10 := hok.2 28 a1
        exact g_iret hQ C hr hlocks hP hS dX11_tried_106 ⟨(congrArg (fun z => some (Value.int (iI z))) (by first | omega | (split <;> omega))), trivial, trivial, trivial⟩
      by_cases c_5_5 : a2 = 5
      · refine lv_tableIn (off := 78) (tgt := 107) hx hb dX11_tried_29 (by rw [c_5_5]; decide) (by rw [c_5_5]; decide) (by rw [c_5_5]; rfl) (by decide) ?_
        refine lv_aload_n hx hb dX11_tried_107 rfl (lv_at hl 0 rfl) ?_
        refine mdG_hold C hP mF_X11_109 dX11_tried_108 ?_
        refine lv_iload_n hx hb dX11_tried_111 rfl (lv_at hl 1 rfl) ?_
        refine mdL_hold C hP (by omega) (by omega) dX11_tried_112 ?_
        have r_11 := hok.2 29 a1
        exact g_iret hQ C hr hlocks hP hS dX11_tried_113 ⟨(congrArg (fun z => some (Value.int (iI z))) (by first | omega | (split <;> omega))), trivial, trivial, trivial⟩
      by_cases c_5_6 : a2 = 6
      · refine lv_tableIn (off := 85) (tgt := 114) hx hb dX11_tried_29 (by rw [c_5_6]; decide) (by rw [c_5_6]; decide) (by rw [c_5_6]; rfl) (by decide) ?_
        refine lv_aload_n hx hb dX11_tried_114 rfl (lv_at hl 0 rfl) ?_
        refine mdG_how C hP mF_X11_112 dX11_tried_115 ?_
        refine lv_iload_n hx hb dX11_tried_118 rfl (lv_at hl 1 rfl) ?_
        refine mdL_how C hP (by omega) (by omega) dX11_tried_119 ?_
        have r_12 := hok.2 30 a1
        exact g_iret hQ C hr hlocks hP hS dX11_tried_120 ⟨(congrArg (fun z => some (Value.int (iI z))) (by first | omega | (split <;> omega))), trivial, trivial, trivial⟩
      refine lv_tableOut (tgt := 121) hx hb dX11_tried_29 (by rw [iI_toInt (by omega)]; omega) (by decide) ?_
      refine lv_aload_n hx hb dX11_tried_121 rfl (lv_at hl 0 rfl) ?_
      refine lv_iconst (v := iI 2) hx hb dX11_tried_122 rfl ?_
      refine g_cv (As := [.int (iI 2)]) (rest := []) (n := 1) C hml (m_refuse l D k A ad hD (va_up (va_up v 1 0) 0 0) f g 2 (by decide)) mM_X11_295 mI_X11_refuse mE_X11_refuse mN_X11 mC_X11_refuse (by decide +kernel) 0 (ci := 11) rfl rfl hP hS (fun _ h => h) ⟨Nat.le_of_ble_eq_true rfl, Nat.le_of_ble_eq_true rfl⟩ ⟨Nat.zero_le _, Nat.zero_le _⟩ hl.1 rfl rfl (Nat.le_of_ble_eq_true rfl) dX11_tried_123 (fun r_13 v_13 f_13 g_13 H locs hq_13 hP _ hS => ?_)
      obtain ⟨rfl, rfl, rfl, rfl⟩ := hq_13
      show W p l e (gRm 1 21) s m args below meth c _ _ 0 0 Q (F0 m 126 ls [.int (iI (-1))])
      have hP : gWd D (mdW k ad) (va_up (va_up v 1 0) 0 (2 : Int)) f g H := ⟨hP.1, (gR_up (gR_up ⟨hok.1, hok.2⟩ 1 (by decide)) 0 (by omega))⟩
      exact g_iret hQ C hr hlocks hP hS dX11_tried_126 ⟨rfl, trivial, trivial, trivial⟩
    · refine lv_aload_n hx hb dX11_tried_22 rfl (lv_at hl 0 rfl) ?_
      refine lv_iconst (v := iI 1) hx hb dX11_tried_23 rfl ?_
      refine g_cv (As := [.int (iI 1)]) (rest := []) (n := 1) C hml (m_refuse l D k A ad hD (va_up (va_up v 1 0) 0 0) f g 1 (by decide)) mM_X11_295 mI_X11_refuse mE_X11_refuse mN_X11 mC_X11_refuse (by decide +kernel) 0 (ci := 11) rfl rfl hP hS (fun _ h => h) ⟨Nat.le_of_ble_eq_true rfl, Nat.le_of_ble_eq_true rfl⟩ ⟨Nat.zero_le _, Nat.zero_le _⟩ hl.1 rfl rfl (Nat.le_of_ble_eq_true rfl) dX11_tried_24 (fun r_14 v_14 f_14 g_14 H locs hq_14 hP _ hS => ?_)
      obtain ⟨rfl, rfl, rfl, rfl⟩ := hq_14
      show W p l e (gRm 1 21) s m args below meth c _ _ 0 0 Q (F0 m 27 ls [.int (iI (-1))])
      have hP : gWd D (mdW k ad) (va_up (va_up v 1 0) 0 (1 : Int)) f g H := ⟨hP.1, (gR_up (gR_up ⟨hok.1, hok.2⟩ 1 (by decide)) 0 (by omega))⟩
      exact g_iret hQ C hr hlocks hP hS dX11_tried_27 ⟨rfl, trivial, trivial, trivial⟩

set_option maxHeartbeats 4000000 in
set_option maxRecDepth 100000 in
theorem m_seen (l : Launch) (D : va_G) (k : Nat → ClassId) (A : Nat → Prop) (ad : Nat → Nat) (hD : mdD A k ad) (v : gV) (f g : gF) (a1 : Int) (a2 : Int) (h_a1 : inR a1) (h_a2 : inR a2) (q0 : v 0 = 0) (q2 : v 2 = 0) (q4 : v 4 = (-1)) (q5 : v 5 = (-1)) (q12 : v 12 = 0) (q22 : v 22 = 0) (q23 : v 23 = (-1)) (q24 : v 24 = 0) (q25 : v 25 = 0) : GM l D k A (mdW k ad) yX11_seen cX11_seen 3 (some .int) 1 21 [.ref (ad 0), .int (iI a1), .int (iI a2)] v f g (fun r v1 f1 g1 => r = some (.int (iI (-1))) ∧ True ∧ True ∧ True) := by
  refine GM.of (by decide) (Nat.le_of_ble_eq_true rfl) ?_
  intro p e s m args below meth c Q ls hQ C hml hr hlocks hP hl
  have hx := C.1
  have hb := C.2.1
  have hok := hP.2
  have hS : va_S A s.heap s.heap [] := va_S.rf
  have hl : lv_has ls 3 [(0, .ref (ad 0)), (1, .int (iI a1)), (2, .int (iI a2))] := hl
  refine lv_aload_n hx hb dX11_seen_0 rfl (lv_at hl 0 rfl) ?_
  refine lv_iconst (v := iI 0) hx hb dX11_seen_1 rfl ?_
  refine mdP_thrown (v1 := (va_up v 1 0)) C hP hD hS mF_X11_146 (by decide) rfl (Or.inl rfl) dX11_seen_2 (fun H locs hP hS => ?_)
  refine lv_aload_n hx hb dX11_seen_5 rfl (lv_at hl 0 rfl) ?_
  refine lv_iconst (v := iI 0) hx hb dX11_seen_6 rfl ?_
  refine mdP_status (v1 := (va_up (va_up v 1 0) 0 0)) C hP hD hS mF_X11_149 (by decide) rfl (Or.inl rfl) dX11_seen_7 (fun H locs hP hS => ?_)
  refine lv_aload_n hx hb dX11_seen_10 rfl (lv_at hl 0 rfl) ?_
  refine lv_iload_n hx hb dX11_seen_11 rfl (lv_at hl 1 rfl) ?_
  refine g_cv (As := [.int (iI a1)]) (rest := []) (n := 1) C hml (m_isClimber l D k A ad hD (va_up (va_up v 1 0) 0 0) f g a1 (by omega)) mM_X11_349 mI_X11_isClimber mE_X11_isClimber mN_X11 mC_X11_isClimber (by decide +kernel) 0 (ci := 11) rfl rfl hP hS (fun _ h => h) ⟨Nat.le_of_ble_eq_true rfl, Nat.le_of_ble_eq_true rfl⟩ ⟨Nat.zero_le _, Nat.zero_le _⟩ hl.1 rfl rfl (Nat.le_of_ble_eq_true rfl) dX11_seen_12 (fun r_1 v_1 f_1 g_1 H locs hq_1 hP _ hS => ?_)
  obtain ⟨⟨z_1, rfl, ez0_1⟩, rfl, rfl, rfl⟩ := hq_1
  have ez_1 : z_1 = (if 0 ≤ a1 ∧ a1 < v 22 then 1 else 0) := ez0_1
  have w_1 := gif (P := 0 ≤ a1 ∧ a1 < v 22) ez_1
  have hz_1 : inR z_1 := (by omega)
  show W p l e (gRm 1 21) s m args below meth c _ _ 0 0 Q (F0 m 15 ls [.int (iI z_1)])
  have k_1 : z_1 = 0 := by omega
  refine gi_zeq (tgt := 37) hx hb dX11_seen_15 (by decide) (by omega) (fun c_2 => ?_) (fun c_2 => ?_)
  · refine lv_aload_n hx hb dX11_seen_37 rfl (lv_at hl 0 rfl) ?_
    refine lv_iconst (v := iI 1) hx hb dX11_seen_38 rfl ?_
    refine g_cv (As := [.int (iI 1)]) (rest := []) (n := 1) C hml (m_refuse l D k A ad hD (va_up (va_up v 1 0) 0 0) f g 1 (by decide)) mM_X11_295 mI_X11_refuse mE_X11_refuse mN_X11 mC_X11_refuse (by decide +kernel) 0 (ci := 11) rfl rfl hP hS (fun _ h => h) ⟨Nat.le_of_ble_eq_true rfl, Nat.le_of_ble_eq_true rfl⟩ ⟨Nat.zero_le _, Nat.zero_le _⟩ hl.1 rfl rfl (Nat.le_of_ble_eq_true rfl) dX11_seen_39 (fun r_3 v_3 f_3 g_3 H locs hq_3 hP _ hS => ?_)
    obtain ⟨rfl, rfl, rfl, rfl⟩ := hq_3
    show W p l e (gRm 1 21) s m args below meth c _ _ 0 0 Q (F0 m 42 ls [.int (iI (-1))])
    have hP : gWd D (mdW k ad) (va_up (va_up v 1 0) 0 (1 : Int)) f g H := ⟨hP.1, (gR_up (gR_up ⟨hok.1, hok.2⟩ 1 (by decide)) 0 (by omega))⟩
    exact g_iret hQ C hr hlocks hP hS dX11_seen_42 ⟨rfl, trivial, trivial, trivial⟩
  · exfalso; omega

set_option maxHeartbeats 4000000 in
set_option maxRecDepth 100000 in
theorem m_ready (l : Launch) (D : va_G) (k : Nat → ClassId) (A : Nat → Prop) (ad : Nat → Nat) (hD : mdD A k ad) (v : gV) (f g : gF) (a1 : Int) (h_a1 : inR a1) (q0 : v 0 = 0) (q2 : v 2 = 0) (q4 : v 4 = (-1)) (q5 : v 5 = (-1)) (q12 : v 12 = 0) (q22 : v 22 = 0) (q23 : v 23 = (-1)) (q24 : v 24 = 0) (q25 : v 25 = 0) : GM l D k A (mdW k ad) yX11_ready cX11_ready 2 (some .int) 1 21 [.ref (ad 0), .int (iI a1)] v f g (fun r v1 f1 g1 => r = some (.int (iI (-1))) ∧ True ∧ True ∧ True) := by
  refine GM.of (by decide) (Nat.le_of_ble_eq_true rfl) ?_
  intro p e s m args below meth c Q ls hQ C hml hr hlocks hP hl
  have hx := C.1
  have hb := C.2.1
  have hok := hP.2
  have hS : va_S A s.heap s.heap [] := va_S.rf
  have hl : lv_has ls 2 [(0, .ref (ad 0)), (1, .int (iI a1))] := hl
  refine lv_aload_n hx hb dX11_ready_0 rfl (lv_at hl 0 rfl) ?_
  refine lv_iconst (v := iI 0) hx hb dX11_ready_1 rfl ?_
  refine mdP_thrown (v1 := (va_up v 1 0)) C hP hD hS mF_X11_146 (by decide) rfl (Or.inl rfl) dX11_ready_2 (fun H locs hP hS => ?_)
  refine lv_aload_n hx hb dX11_ready_5 rfl (lv_at hl 0 rfl) ?_
  refine lv_iconst (v := iI 0) hx hb dX11_ready_6 rfl ?_
  refine mdP_status (v1 := (va_up (va_up v 1 0) 0 0)) C hP hD hS mF_X11_149 (by decide) rfl (Or.inl rfl) dX11_ready_7 (fun H locs hP hS => ?_)
  refine lv_aload_n hx hb dX11_ready_10 rfl (lv_at hl 0 rfl) ?_
  refine lv_iload_n hx hb dX11_ready_11 rfl (lv_at hl 1 rfl) ?_
  refine g_cv (As := [.int (iI a1)]) (rest := []) (n := 1) C hml (m_isClimber l D k A ad hD (va_up (va_up v 1 0) 0 0) f g a1 (by omega)) mM_X11_349 mI_X11_isClimber mE_X11_isClimber mN_X11 mC_X11_isClimber (by decide +kernel) 0 (ci := 11) rfl rfl hP hS (fun _ h => h) ⟨Nat.le_of_ble_eq_true rfl, Nat.le_of_ble_eq_true rfl⟩ ⟨Nat.zero_le _, Nat.zero_le _⟩ hl.1 rfl rfl (Nat.le_of_ble_eq_true rfl) dX11_ready_12 (fun r_1 v_1 f_1 g_1 H locs hq_1 hP _ hS => ?_)
  obtain ⟨⟨z_1, rfl, ez0_1⟩, rfl, rfl, rfl⟩ := hq_1
  have ez_1 : z_1 = (if 0 ≤ a1 ∧ a1 < v 22 then 1 else 0) := ez0_1
  have w_1 := gif (P := 0 ≤ a1 ∧ a1 < v 22) ez_1
  have hz_1 : inR z_1 := (by omega)
  show W p l e (gRm 1 21) s m args below meth c _ _ 0 0 Q (F0 m 15 ls [.int (iI z_1)])
  have k_1 : z_1 = 0 := by omega
  refine gi_zne (tgt := 24) hx hb dX11_ready_15 (by decide) (by omega) (fun c_2 => ?_) (fun c_2 => ?_)
  · exfalso; omega
  · refine lv_aload_n hx hb dX11_ready_18 rfl (lv_at hl 0 rfl) ?_
    refine lv_iconst (v := iI 1) hx hb dX11_ready_19 rfl ?_
    refine g_cv (As := [.int (iI 1)]) (rest := []) (n := 1) C hml (m_refuse l D k A ad hD (va_up (va_up v 1 0) 0 0) f g 1 (by decide)) mM_X11_295 mI_X11_refuse mE_X11_refuse mN_X11 mC_X11_refuse (by decide +kernel) 0 (ci := 11) rfl rfl hP hS (fun _ h => h) ⟨Nat.le_of_ble_eq_true rfl, Nat.le_of_ble_eq_true rfl⟩ ⟨Nat.zero_le _, Nat.zero_le _⟩ hl.1 rfl rfl (Nat.le_of_ble_eq_true rfl) dX11_ready_20 (fun r_3 v_3 f_3 g_3 H locs hq_3 hP _ hS => ?_)
    obtain ⟨rfl, rfl, rfl, rfl⟩ := hq_3
    show W p l e (gRm 1 21) s m args below meth c _ _ 0 0 Q (F0 m 23 ls [.int (iI (-1))])
    have hP : gWd D (mdW k ad) (va_up (va_up v 1 0) 0 (1 : Int)) f g H := ⟨hP.1, (gR_up (gR_up ⟨hok.1, hok.2⟩ 1 (by decide)) 0 (by omega))⟩
    exact g_iret hQ C hr hlocks hP hS dX11_ready_23 ⟨rfl, trivial, trivial, trivial⟩

set_option maxHeartbeats 4000000 in
set_option maxRecDepth 100000 in
theorem m_appeal (l : Launch) (D : va_G) (k : Nat → ClassId) (A : Nat → Prop) (ad : Nat → Nat) (hD : mdD A k ad) (v : gV) (f g : gF) (a1 : Int) (a2 : Int) (a3 : Int) (h_a1 : inR a1) (h_a2 : inR a2) (h_a3 : inR a3) (q0 : v 0 = 0) (q2 : v 2 = 0) (q4 : v 4 = (-1)) (q5 : v 5 = (-1)) (q12 : v 12 = 0) (q22 : v 22 = 0) (q23 : v 23 = (-1)) (q24 : v 24 = 0) (q25 : v 25 = 0) : GM l D k A (mdW k ad) yX11_appeal cX11_appeal 4 (some .boolean) 1 21 [.ref (ad 0), .int (iI a1), .int (iI a2), .int (iI a3)] v f g (fun r v1 f1 g1 => r = some (.int (iI 0)) ∧ True ∧ True ∧ True) := by
  refine GM.of (by decide) (Nat.le_of_ble_eq_true rfl) ?_
  intro p e s m args below meth c Q ls hQ C hml hr hlocks hP hl
  have hx := C.1
  have hb := C.2.1
  have hok := hP.2
  have hS : va_S A s.heap s.heap [] := va_S.rf
  have hl : lv_has ls 4 [(0, .ref (ad 0)), (1, .int (iI a1)), (2, .int (iI a2)), (3, .int (iI a3))] := hl
  refine lv_aload_n hx hb dX11_appeal_0 rfl (lv_at hl 0 rfl) ?_
  refine lv_iconst (v := iI 0) hx hb dX11_appeal_1 rfl ?_
  refine mdP_thrown (v1 := (va_up v 1 0)) C hP hD hS mF_X11_146 (by decide) rfl (Or.inl rfl) dX11_appeal_2 (fun H locs hP hS => ?_)
  refine lv_aload_n hx hb dX11_appeal_5 rfl (lv_at hl 0 rfl) ?_
  refine lv_iconst (v := iI 0) hx hb dX11_appeal_6 rfl ?_
  refine mdP_status (v1 := (va_up (va_up v 1 0) 0 0)) C hP hD hS mF_X11_149 (by decide) rfl (Or.inl rfl) dX11_appeal_7 (fun H locs hP hS => ?_)
  refine lv_iload_n hx hb dX11_appeal_10 rfl (lv_at hl 1 rfl) ?_
  refine gi_zlt (tgt := 22) hx hb dX11_appeal_11 (by decide) (by omega) (fun c_1 => ?_) (fun c_1 => ?_)
  · refine lv_aload_n hx hb dX11_appeal_22 rfl (lv_at hl 0 rfl) ?_
    refine lv_iconst (v := iI 1) hx hb dX11_appeal_23 rfl ?_
    refine g_cv (As := [.int (iI 1)]) (rest := []) (n := 1) C hml (m_no l D k A ad hD (va_up (va_up v 1 0) 0 0) f g 1 (by decide)) mM_X11_332 mI_X11_no mE_X11_no mN_X11 mC_X11_no (by decide +kernel) 0 (ci := 11) rfl rfl hP hS (fun _ h => h) ⟨Nat.le_of_ble_eq_true rfl, Nat.le_of_ble_eq_true rfl⟩ ⟨Nat.zero_le _, Nat.zero_le _⟩ hl.1 rfl rfl (Nat.le_of_ble_eq_true rfl) dX11_appeal_24 (fun r_2 v_2 f_2 g_2 H locs hq_2 hP _ hS => ?_)
    obtain ⟨rfl, rfl, rfl, rfl⟩ := hq_2
    show W p l e (gRm 1 21) s m args below meth c _ _ 0 0 Q (F0 m 27 ls [.int (iI 0)])
    have hP : gWd D (mdW k ad) (va_up (va_up v 1 0) 0 (1 : Int)) f g H := ⟨hP.1, (gR_up (gR_up ⟨hok.1, hok.2⟩ 1 (by decide)) 0 (by omega))⟩
    exact g_zret hQ C hr hlocks (by decide) hP hS dX11_appeal_27 ⟨rfl, trivial, trivial, trivial⟩
  · refine lv_iload_n hx hb dX11_appeal_14 rfl (lv_at hl 1 rfl) ?_
    refine lv_aload_n hx hb dX11_appeal_15 rfl (lv_at hl 0 rfl) ?_
    refine mdG_tried C hP mF_X11_319 dX11_appeal_16 ?_
    show W p l e (gRm 1 21) s m args below meth c _ _ 0 0 Q (F0 m 19 ls [.int (iI (v 25)), .int (iI a1)])
    have r_3 := hok.1 25
    refine gi_clt (tgt := 28) hx hb dX11_appeal_19 (by decide) (by omega) (by omega) (fun c_4 => ?_) (fun c_4 => ?_)
    · exfalso; omega
    · refine lv_aload_n hx hb dX11_appeal_22 rfl (lv_at hl 0 rfl) ?_
      refine lv_iconst (v := iI 1) hx hb dX11_appeal_23 rfl ?_
      refine g_cv (As := [.int (iI 1)]) (rest := []) (n := 1) C hml (m_no l D k A ad hD (va_up (va_up v 1 0) 0 0) f g 1 (by decide)) mM_X11_332 mI_X11_no mE_X11_no mN_X11 mC_X11_no (by decide +kernel) 0 (ci := 11) rfl rfl hP hS (fun _ h => h) ⟨Nat.le_of_ble_eq_true rfl, Nat.le_of_ble_eq_true rfl⟩ ⟨Nat.zero_le _, Nat.zero_le _⟩ hl.1 rfl rfl (Nat.le_of_ble_eq_true rfl) dX11_appeal_24 (fun r_5 v_5 f_5 g_5 H locs hq_5 hP _ hS => ?_)
      obtain ⟨rfl, rfl, rfl, rfl⟩ := hq_5
      show W p l e (gRm 1 21) s m args below meth c _ _ 0 0 Q (F0 m 27 ls [.int (iI 0)])
      have hP : gWd D (mdW k ad) (va_up (va_up v 1 0) 0 (1 : Int)) f g H := ⟨hP.1, (gR_up (gR_up ⟨hok.1, hok.2⟩ 1 (by decide)) 0 (by omega))⟩
      exact g_zret hQ C hr hlocks (by decide) hP hS dX11_appeal_27 ⟨rfl, trivial, trivial, trivial⟩

set_option maxHeartbeats 4000000 in
set_option maxRecDepth 100000 in
theorem m_of (l : Launch) (D : va_G) (k : Nat → ClassId) (A : Nat → Prop) (ad : Nat → Nat) (hD : mdD A k ad) (v : gV) (f g : gF) (a1 : Int) (a2 : Int) (a3 : Int) (a4 : Int) (a5 : Int) (h_a1 : inR a1) (h_a2 : inR a2) (h_a3 : inR a3) (h_a4 : inR a4) (h_a5 : inR a5) (q0 : v 0 = 0) (q2 : v 2 = 0) (q4 : v 4 = (-1)) (q5 : v 5 = (-1)) (q12 : v 12 = 0) (q22 : v 22 = 0) (q23 : v 23 = (-1)) (q24 : v 24 = 0) (q25 : v 25 = 0) : GM l D k A (mdW k ad) yX11_of cX11_of 7 (some .int) 2 43 [.ref (ad 0), .int (iI a1), .int (iI a2), .int (iI a3), .int (iI a4), .int (iI a5)] v f g (fun r v1 f1 g1 => r = some (.int (iI (-1))) ∧ True ∧ True ∧ True) := by
  refine GM.of (by decide) (Nat.le_of_ble_eq_true rfl) ?_
  intro p e s m args below meth c Q ls hQ C hml hr hlocks hP hl
  have hx := C.1
  have hb := C.2.1
  have hok := hP.2
  have hS : va_S A s.heap s.heap [] := va_S.rf
  have hl : lv_has ls 7 [(0, .ref (ad 0)), (1, .int (iI a1)), (2, .int (iI a2)), (3, .int (iI a3)), (4, .int (iI a4)), (5, .int (iI a5))] := hl
  refine lv_aload_n hx hb dX11_of_0 rfl (lv_at hl 0 rfl) ?_
  refine lv_iconst (v := iI 0) hx hb dX11_of_1 rfl ?_
  refine mdP_thrown (v1 := (va_up v 1 0)) C hP hD hS mF_X11_146 (by decide) rfl (Or.inl rfl) dX11_of_2 (fun H locs hP hS => ?_)
  refine lv_aload_n hx hb dX11_of_5 rfl (lv_at hl 0 rfl) ?_
  refine lv_iconst (v := iI 0) hx hb dX11_of_6 rfl ?_
  refine mdP_status (v1 := (va_up (va_up v 1 0) 0 0)) C hP hD hS mF_X11_149 (by decide) rfl (Or.inl rfl) dX11_of_7 (fun H locs hP hS => ?_)
  refine lv_aload_n hx hb dX11_of_10 rfl (lv_at hl 0 rfl) ?_
  refine lv_iload_n hx hb dX11_of_11 rfl (lv_at hl 1 rfl) ?_
  refine lv_iload_n hx hb dX11_of_12 rfl (lv_at hl 2 rfl) ?_
  refine g_cv (As := [.int (iI a1), .int (iI a2)]) (rest := []) (n := 2) C hml (m_isRoute l D k A ad hD (va_up (va_up v 1 0) 0 0) f g a1 a2 (by omega) (by omega) (show v 12 ≤ 4 from by omega)) mM_X11_328 mI_X11_isRoute mE_X11_isRoute mN_X11 mC_X11_isRoute (by decide +kernel) 0 (ci := 11) rfl rfl hP hS (fun _ h => h) ⟨Nat.le_of_ble_eq_true rfl, Nat.le_of_ble_eq_true rfl⟩ ⟨Nat.zero_le _, Nat.zero_le _⟩ hl.1 rfl rfl (Nat.le_of_ble_eq_true rfl) dX11_of_13 (fun r_1 v_1 f_1 g_1 H locs hq_1 hP _ hS => ?_)
  obtain ⟨⟨z_1, rfl, ez0_1⟩, rfl, rfl, rfl⟩ := hq_1
  have ez_1 : z_1 = (if (0 ≤ a1 ∧ a1 < v 12) ∧ 0 ≤ a2 ∧ a2 < f 1 a1 then 1 else 0) := ez0_1
  have w_1 := gif (P := (0 ≤ a1 ∧ a1 < v 12) ∧ 0 ≤ a2 ∧ a2 < f 1 a1) ez_1
  have hz_1 : inR z_1 := (by omega)
  show W p l e (gRm 2 43) s m args below meth c _ _ 0 0 Q (F0 m 16 ls [.int (iI z_1)])
  have k_1 : z_1 = 0 := by omega
  refine gi_zeq (tgt := 27) hx hb dX11_of_16 (by decide) (by omega) (fun c_2 => ?_) (fun c_2 => ?_)
  · refine lv_aload_n hx hb dX11_of_27 rfl (lv_at hl 0 rfl) ?_
    refine lv_iconst (v := iI 1) hx hb dX11_of_28 rfl ?_
    refine g_cv (As := [.int (iI 1)]) (rest := []) (n := 1) C hml (m_refuse l D k A ad hD (va_up (va_up v 1 0) 0 0) f g 1 (by decide)) mM_X11_295 mI_X11_refuse mE_X11_refuse mN_X11 mC_X11_refuse (by decide +kernel) 0 (ci := 11) rfl rfl hP hS (fun _ h => h) ⟨Nat.le_of_ble_eq_true rfl, Nat.le_of_ble_eq_true rfl⟩ ⟨Nat.zero_le _, Nat.zero_le _⟩ hl.1 rfl rfl (Nat.le_of_ble_eq_true rfl) dX11_of_29 (fun r_3 v_3 f_3 g_3 H locs hq_3 hP _ hS => ?_)
    obtain ⟨rfl, rfl, rfl, rfl⟩ := hq_3
    show W p l e (gRm 2 43) s m args below meth c _ _ 0 0 Q (F0 m 32 ls [.int (iI (-1))])
    have hP : gWd D (mdW k ad) (va_up (va_up v 1 0) 0 (1 : Int)) f g H := ⟨hP.1, (gR_up (gR_up ⟨hok.1, hok.2⟩ 1 (by decide)) 0 (by omega))⟩
    exact g_iret hQ C hr hlocks hP hS dX11_of_32 ⟨rfl, trivial, trivial, trivial⟩
  · exfalso; omega

set_option maxHeartbeats 4000000 in
set_option maxRecDepth 100000 in
theorem m_key (l : Launch) (D : va_G) (k : Nat → ClassId) (A : Nat → Prop) (ad : Nat → Nat) (hD : mdD A k ad) (v : gV) (f g : gF) (a1 : Int) (a2 : Int) (a3 : Int) (a4 : Int) (h_a1 : inR a1) (h_a2 : inR a2) (h_a3 : inR a3) (h_a4 : inR a4) (q0 : v 0 = 0) (q2 : v 2 = 0) (q4 : v 4 = (-1)) (q5 : v 5 = (-1)) (q12 : v 12 = 0) (q22 : v 22 = 0) (q23 : v 23 = (-1)) (q24 : v 24 = 0) (q25 : v 25 = 0) : GM l D k A (mdW k ad) yX11_key cX11_key 5 (some .long) 2 43 [.ref (ad 0), .int (iI a1), .int (iI a2), .int (iI a3), .int (iI a4)] v f g (fun r v1 f1 g1 => r = some (.long (iL (-1))) ∧ True ∧ True ∧ True) := by
  refine GM.of (by decide) (Nat.le_of_ble_eq_true rfl) ?_
  intro p e s m args below meth c Q ls hQ C hml hr hlocks hP hl
  have hx := C.1
  have hb := C.2.1
  have hok := hP.2
  have hS : va_S A s.heap s.heap [] := va_S.rf
  have hl : lv_has ls 5 [(0, .ref (ad 0)), (1, .int (iI a1)), (2, .int (iI a2)), (3, .int (iI a3)), (4, .int (iI a4))] := hl
  refine lv_aload_n hx hb dX11_key_0 rfl (lv_at hl 0 rfl) ?_
  refine lv_iconst (v := iI 0) hx hb dX11_key_1 rfl ?_
  refine mdP_thrown (v1 := (va_up v 1 0)) C hP hD hS mF_X11_146 (by decide) rfl (Or.inl rfl) dX11_key_2 (fun H locs hP hS => ?_)
  refine lv_aload_n hx hb dX11_key_5 rfl (lv_at hl 0 rfl) ?_
  refine lv_iconst (v := iI 0) hx hb dX11_key_6 rfl ?_
  refine mdP_status (v1 := (va_up (va_up v 1 0) 0 0)) C hP hD hS mF_X11_149 (by decide) rfl (Or.inl rfl) dX11_key_7 (fun H locs hP hS => ?_)
  refine lv_aload_n hx hb dX11_key_10 rfl (lv_at hl 0 rfl) ?_
  refine lv_iload_n hx hb dX11_key_11 rfl (lv_at hl 1 rfl) ?_
  refine lv_iload_n hx hb dX11_key_12 rfl (lv_at hl 2 rfl) ?_
  refine g_cv (As := [.int (iI a1), .int (iI a2)]) (rest := []) (n := 2) C hml (m_isIn l D k A ad hD (va_up (va_up v 1 0) 0 0) f g a1 a2 (by omega) (by omega) (show v 12 ≤ 4 from by omega) (show v 22 ≤ 16 from by omega)) mM_X11_391 mI_X11_isIn mE_X11_isIn mN_X11 mC_X11_isIn (by decide +kernel) 0 (ci := 11) rfl rfl hP hS (fun _ h => h) ⟨Nat.le_of_ble_eq_true rfl, Nat.le_of_ble_eq_true rfl⟩ ⟨Nat.zero_le _, Nat.zero_le _⟩ hl.1 rfl rfl (Nat.le_of_ble_eq_true rfl) dX11_key_13 (fun r_1 v_1 f_1 g_1 H locs hq_1 hP _ hS => ?_)
  obtain ⟨⟨z_1, rfl, ez0_1⟩, rfl, rfl, rfl⟩ := hq_1
  have ez_1 : z_1 = (if (0 ≤ a1 ∧ a1 < v 12) ∧ (0 ≤ a2 ∧ a2 < v 22) ∧ f 21 (16 * a1 + a2) ≠ 0 then 1 else 0) := ez0_1
  have w_1 := gif (P := (0 ≤ a1 ∧ a1 < v 12) ∧ (0 ≤ a2 ∧ a2 < v 22) ∧ f 21 (16 * a1 + a2) ≠ 0) ez_1
  have hz_1 : inR z_1 := (by omega)
  show W p l e (gRm 2 43) s m args below meth c _ _ 0 0 Q (F0 m 16 ls [.int (iI z_1)])
  have k_1 : z_1 = 0 := by omega
  refine gi_zeq (tgt := 33) hx hb dX11_key_16 (by decide) (by omega) (fun c_2 => ?_) (fun c_2 => ?_)
  · refine lv_aload_n hx hb dX11_key_33 rfl (lv_at hl 0 rfl) ?_
    refine lv_iconst (v := iI 1) hx hb dX11_key_34 rfl ?_
    refine g_cv (As := [.int (iI 1)]) (rest := []) (n := 1) C hml (m_refuse l D k A ad hD (va_up (va_up v 1 0) 0 0) f g 1 (by decide)) mM_X11_295 mI_X11_refuse mE_X11_refuse mN_X11 mC_X11_refuse (by decide +kernel) 0 (ci := 11) rfl rfl hP hS (fun _ h => h) ⟨Nat.le_of_ble_eq_true rfl, Nat.le_of_ble_eq_true rfl⟩ ⟨Nat.zero_le _, Nat.zero_le _⟩ hl.1 rfl rfl (Nat.le_of_ble_eq_true rfl) dX11_key_35 (fun r_3 v_3 f_3 g_3 H locs hq_3 hP _ hS => ?_)
    obtain ⟨rfl, rfl, rfl, rfl⟩ := hq_3
    show W p l e (gRm 2 43) s m args below meth c _ _ 0 0 Q (F0 m 38 ls [.int (iI (-1))])
    have hP : gWd D (mdW k ad) (va_up (va_up v 1 0) 0 (1 : Int)) f g H := ⟨hP.1, (gR_up (gR_up ⟨hok.1, hok.2⟩ 1 (by decide)) 0 (by omega))⟩
    refine gi_i2l hx hb (by decide) dX11_key_38 ?_
    exact g_lret hQ C hr hlocks hP hS dX11_key_39 ⟨rfl, trivial, trivial, trivial⟩
  · exfalso; omega

set_option maxHeartbeats 4000000 in
set_option maxRecDepth 100000 in
theorem m_rank (l : Launch) (D : va_G) (k : Nat → ClassId) (A : Nat → Prop) (ad : Nat → Nat) (hD : mdD A k ad) (v : gV) (f g : gF) (a1 : Int) (a2 : Int) (a3 : Int) (h_a1 : inR a1) (h_a2 : inR a2) (h_a3 : inR a3) (q0 : v 0 = 0) (q2 : v 2 = 0) (q4 : v 4 = (-1)) (q5 : v 5 = (-1)) (q12 : v 12 = 0) (q22 : v 22 = 0) (q23 : v 23 = (-1)) (q24 : v 24 = 0) (q25 : v 25 = 0) : GM l D k A (mdW k ad) yX11_rank cX11_rank 4 (some .int) 2 43 [.ref (ad 0), .int (iI a1), .int (iI a2), .int (iI a3)] v f g (fun r v1 f1 g1 => r = some (.int (iI (-1))) ∧ True ∧ True ∧ True) := by
  refine GM.of (by decide) (Nat.le_of_ble_eq_true rfl) ?_
  intro p e s m args below meth c Q ls hQ C hml hr hlocks hP hl
  have hx := C.1
  have hb := C.2.1
  have hok := hP.2
  have hS : va_S A s.heap s.heap [] := va_S.rf
  have hl : lv_has ls 4 [(0, .ref (ad 0)), (1, .int (iI a1)), (2, .int (iI a2)), (3, .int (iI a3))] := hl
  refine lv_aload_n hx hb dX11_rank_0 rfl (lv_at hl 0 rfl) ?_
  refine lv_iconst (v := iI 0) hx hb dX11_rank_1 rfl ?_
  refine mdP_thrown (v1 := (va_up v 1 0)) C hP hD hS mF_X11_146 (by decide) rfl (Or.inl rfl) dX11_rank_2 (fun H locs hP hS => ?_)
  refine lv_aload_n hx hb dX11_rank_5 rfl (lv_at hl 0 rfl) ?_
  refine lv_iconst (v := iI 0) hx hb dX11_rank_6 rfl ?_
  refine mdP_status (v1 := (va_up (va_up v 1 0) 0 0)) C hP hD hS mF_X11_149 (by decide) rfl (Or.inl rfl) dX11_rank_7 (fun H locs hP hS => ?_)
  refine lv_aload_n hx hb dX11_rank_10 rfl (lv_at hl 0 rfl) ?_
  refine lv_iload_n hx hb dX11_rank_11 rfl (lv_at hl 1 rfl) ?_
  refine lv_iload_n hx hb dX11_rank_12 rfl (lv_at hl 2 rfl) ?_
  refine g_cv (As := [.int (iI a1), .int (iI a2)]) (rest := []) (n := 2) C hml (m_isIn l D k A ad hD (va_up (va_up v 1 0) 0 0) f g a1 a2 (by omega) (by omega) (show v 12 ≤ 4 from by omega) (show v 22 ≤ 16 from by omega)) mM_X11_391 mI_X11_isIn mE_X11_isIn mN_X11 mC_X11_isIn (by decide +kernel) 0 (ci := 11) rfl rfl hP hS (fun _ h => h) ⟨Nat.le_of_ble_eq_true rfl, Nat.le_of_ble_eq_true rfl⟩ ⟨Nat.zero_le _, Nat.zero_le _⟩ hl.1 rfl rfl (Nat.le_of_ble_eq_true rfl) dX11_rank_13 (fun r_1 v_1 f_1 g_1 H locs hq_1 hP _ hS => ?_)
  obtain ⟨⟨z_1, rfl, ez0_1⟩, rfl, rfl, rfl⟩ := hq_1
  have ez_1 : z_1 = (if (0 ≤ a1 ∧ a1 < v 12) ∧ (0 ≤ a2 ∧ a2 < v 22) ∧ f 21 (16 * a1 + a2) ≠ 0 then 1 else 0) := ez0_1
  have w_1 := gif (P := (0 ≤ a1 ∧ a1 < v 12) ∧ (0 ≤ a2 ∧ a2 < v 22) ∧ f 21 (16 * a1 + a2) ≠ 0) ez_1
  have hz_1 : inR z_1 := (by omega)
  show W p l e (gRm 2 43) s m args below meth c _ _ 0 0 Q (F0 m 16 ls [.int (iI z_1)])
  have k_1 : z_1 = 0 := by omega
  refine gi_zne (tgt := 25) hx hb dX11_rank_16 (by decide) (by omega) (fun c_2 => ?_) (fun c_2 => ?_)
  · exfalso; omega
  · refine lv_aload_n hx hb dX11_rank_19 rfl (lv_at hl 0 rfl) ?_
    refine lv_iconst (v := iI 1) hx hb dX11_rank_20 rfl ?_
    refine g_cv (As := [.int (iI 1)]) (rest := []) (n := 1) C hml (m_refuse l D k A ad hD (va_up (va_up v 1 0) 0 0) f g 1 (by decide)) mM_X11_295 mI_X11_refuse mE_X11_refuse mN_X11 mC_X11_refuse (by decide +kernel) 0 (ci := 11) rfl rfl hP hS (fun _ h => h) ⟨Nat.le_of_ble_eq_true rfl, Nat.le_of_ble_eq_true rfl⟩ ⟨Nat.zero_le _, Nat.zero_le _⟩ hl.1 rfl rfl (Nat.le_of_ble_eq_true rfl) dX11_rank_21 (fun r_3 v_3 f_3 g_3 H locs hq_3 hP _ hS => ?_)
    obtain ⟨rfl, rfl, rfl, rfl⟩ := hq_3
    show W p l e (gRm 2 43) s m args below meth c _ _ 0 0 Q (F0 m 24 ls [.int (iI (-1))])
    have hP : gWd D (mdW k ad) (va_up (va_up v 1 0) 0 (1 : Int)) f g H := ⟨hP.1, (gR_up (gR_up ⟨hok.1, hok.2⟩ 1 (by decide)) 0 (by omega))⟩
    exact g_iret hQ C hr hlocks hP hS dX11_rank_24 ⟨rfl, trivial, trivial, trivial⟩

set_option maxHeartbeats 4000000 in
set_option maxRecDepth 100000 in
theorem m_advance (l : Launch) (D : va_G) (k : Nat → ClassId) (A : Nat → Prop) (ad : Nat → Nat) (hD : mdD A k ad) (v : gV) (f g : gF) (a1 : Int) (a2 : Int) (h_a1 : inR a1) (h_a2 : inR a2) (q0 : v 0 = 0) (q2 : v 2 = 0) (q4 : v 4 = (-1)) (q5 : v 5 = (-1)) (q12 : v 12 = 0) (q22 : v 22 = 0) (q23 : v 23 = (-1)) (q24 : v 24 = 0) (q25 : v 25 = 0) : GM l D k A (mdW k ad) yX11_advance cX11_advance 7 (some .int) 1 21 [.ref (ad 0), .int (iI a1), .int (iI a2)] v f g (fun r v1 f1 g1 => r = some (.int (iI (-1))) ∧ True ∧ True ∧ True) := by
  refine GM.of (by decide) (Nat.le_of_ble_eq_true rfl) ?_
  intro p e s m args below meth c Q ls hQ C hml hr hlocks hP hl
  have hx := C.1
  have hb := C.2.1
  have hok := hP.2
  have hS : va_S A s.heap s.heap [] := va_S.rf
  have hl : lv_has ls 7 [(0, .ref (ad 0)), (1, .int (iI a1)), (2, .int (iI a2))] := hl
  refine lv_aload_n hx hb dX11_advance_0 rfl (lv_at hl 0 rfl) ?_
  refine lv_iconst (v := iI 0) hx hb dX11_advance_1 rfl ?_
  refine mdP_thrown (v1 := (va_up v 1 0)) C hP hD hS mF_X11_146 (by decide) rfl (Or.inl rfl) dX11_advance_2 (fun H locs hP hS => ?_)
  refine lv_aload_n hx hb dX11_advance_5 rfl (lv_at hl 0 rfl) ?_
  refine lv_iconst (v := iI 0) hx hb dX11_advance_6 rfl ?_
  refine mdP_status (v1 := (va_up (va_up v 1 0) 0 0)) C hP hD hS mF_X11_149 (by decide) rfl (Or.inl rfl) dX11_advance_7 (fun H locs hP hS => ?_)
  refine lv_iload_n hx hb dX11_advance_10 rfl (lv_at hl 1 rfl) ?_
  refine lv_iconst (v := iI 1) hx hb dX11_advance_11 rfl ?_
  refine gi_clt (tgt := 28) hx hb dX11_advance_12 (by decide) (by omega) (by decide) (fun c_1 => ?_) (fun c_1 => ?_)
  · refine lv_aload_n hx hb dX11_advance_28 rfl (lv_at hl 0 rfl) ?_
    refine lv_iconst (v := iI 2) hx hb dX11_advance_29 rfl ?_
    refine g_cv (As := [.int (iI 2)]) (rest := []) (n := 1) C hml (m_refuse l D k A ad hD (va_up (va_up v 1 0) 0 0) f g 2 (by decide)) mM_X11_295 mI_X11_refuse mE_X11_refuse mN_X11 mC_X11_refuse (by decide +kernel) 0 (ci := 11) rfl rfl hP hS (fun _ h => h) ⟨Nat.le_of_ble_eq_true rfl, Nat.le_of_ble_eq_true rfl⟩ ⟨Nat.zero_le _, Nat.zero_le _⟩ hl.1 rfl rfl (Nat.le_of_ble_eq_true rfl) dX11_advance_30 (fun r_2 v_2 f_2 g_2 H locs hq_2 hP _ hS => ?_)
    obtain ⟨rfl, rfl, rfl, rfl⟩ := hq_2
    show W p l e (gRm 1 21) s m args below meth c _ _ 0 0 Q (F0 m 33 ls [.int (iI (-1))])
    have hP : gWd D (mdW k ad) (va_up (va_up v 1 0) 0 (2 : Int)) f g H := ⟨hP.1, (gR_up (gR_up ⟨hok.1, hok.2⟩ 1 (by decide)) 0 (by omega))⟩
    exact g_iret hQ C hr hlocks hP hS dX11_advance_33 ⟨rfl, trivial, trivial, trivial⟩
  · refine lv_iload_n hx hb dX11_advance_15 rfl (lv_at hl 1 rfl) ?_
    refine lv_bipush (v := iI 16) hx hb dX11_advance_16 (by decide) ?_
    refine gi_cgt (tgt := 28) hx hb dX11_advance_18 (by decide) (by omega) (by decide) (fun c_3 => ?_) (fun c_3 => ?_)
    · refine lv_aload_n hx hb dX11_advance_28 rfl (lv_at hl 0 rfl) ?_
      refine lv_iconst (v := iI 2) hx hb dX11_advance_29 rfl ?_
      refine g_cv (As := [.int (iI 2)]) (rest := []) (n := 1) C hml (m_refuse l D k A ad hD (va_up (va_up v 1 0) 0 0) f g 2 (by decide)) mM_X11_295 mI_X11_refuse mE_X11_refuse mN_X11 mC_X11_refuse (by decide +kernel) 0 (ci := 11) rfl rfl hP hS (fun _ h => h) ⟨Nat.le_of_ble_eq_true rfl, Nat.le_of_ble_eq_true rfl⟩ ⟨Nat.zero_le _, Nat.zero_le _⟩ hl.1 rfl rfl (Nat.le_of_ble_eq_true rfl) dX11_advance_30 (fun r_4 v_4 f_4 g_4 H locs hq_4 hP _ hS => ?_)
      obtain ⟨rfl, rfl, rfl, rfl⟩ := hq_4
      show W p l e (gRm 1 21) s m args below meth c _ _ 0 0 Q (F0 m 33 ls [.int (iI (-1))])
      have hP : gWd D (mdW k ad) (va_up (va_up v 1 0) 0 (2 : Int)) f g H := ⟨hP.1, (gR_up (gR_up ⟨hok.1, hok.2⟩ 1 (by decide)) 0 (by omega))⟩
      exact g_iret hQ C hr hlocks hP hS dX11_advance_33 ⟨rfl, trivial, trivial, trivial⟩
    · refine lv_iload_n hx hb dX11_advance_21 rfl (lv_at hl 2 rfl) ?_
      refine g_cs (As := [.int (iI a2)]) (rest := []) (n := 1) C hml (m_isDay l D k A ad hD (va_up (va_up v 1 0) 0 0) f g a2 (by omega)) mM_X11_364 mS_X11_isDay mN_X11 mC_X11_isDay (by decide +kernel) hP hS (fun _ h => h) ⟨Nat.le_of_ble_eq_true rfl, Nat.le_of_ble_eq_true rfl⟩ ⟨Nat.zero_le _, Nat.zero_le _⟩ hl.1 rfl rfl (Nat.le_of_ble_eq_true rfl) dX11_advance_22 (fun r_5 v_5 f_5 g_5 H locs hq_5 hP _ hS => ?_)
      obtain ⟨⟨z_5, rfl, ez0_5⟩, rfl, rfl, rfl⟩ := hq_5
      have ez_5 : z_5 = (if 0 ≤ a2 ∧ a2 ≤ 999 then 1 else 0) := ez0_5
      have w_5 := gif (P := 0 ≤ a2 ∧ a2 ≤ 999) ez_5
      have hz_5 : inR z_5 := (by omega)
      show W p l e (gRm 1 21) s m args below meth c _ _ 0 0 Q (F0 m 25 ls [.int (iI z_5)])
      refine gi_zne (tgt := 34) hx hb dX11_advance_25 (by decide) (by omega) (fun c_6 => ?_) (fun c_6 => ?_)
      · refine lv_iconst (v := iI 0) hx hb dX11_advance_34 rfl ?_
        refine lv_istore_n (lv' := [(3, .int (iI 0)), (0, .ref (ad 0)), (1, .int (iI a1)), (2, .int (iI a2))]) hx hb dX11_advance_35 rfl hl (by decide) rfl (fun ls hl => ?_)
        refine lv_iload_n hx hb dX11_advance_36 rfl (lv_at hl 0 rfl) ?_
        refine lv_aload_n hx hb dX11_advance_37 rfl (lv_at hl 1 rfl) ?_
        refine mdG_climbers C hP mF_X11_313 dX11_advance_38 ?_
        show W p l e (gRm 1 21) s m args below meth c _ _ 0 0 Q (F0 m 41 ls [.int (iI (v 22)), .int (iI 0)])
        have r_7 := hok.1 22
        refine gi_cge (tgt := 64) hx hb dX11_advance_41 (by decide) (by decide) (by omega) (fun c_8 => ?_) (fun c_8 => ?_)
        · refine lv_aload_n hx hb dX11_advance_64 rfl (lv_at hl 1 rfl) ?_
          refine mdG_open C hP mF_X11_82 dX11_advance_65 ?_
          show W p l e (gRm 1 21) s m args below meth c _ _ 0 0 Q (F0 m 68 ls [.int (iI (v 23))])
          have r_9 := hok.1 23
          refine gi_zlt (tgt := 84) hx hb dX11_advance_68 (by decide) (by omega) (fun c_10 => ?_) (fun c_10 => ?_)
          · refine lv_aload_n hx hb dX11_advance_84 rfl (lv_at hl 1 rfl) ?_
            refine lv_bipush (v := iI 10) hx hb dX11_advance_85 (by decide) ?_
            refine g_cv (As := [.int (iI 10)]) (rest := []) (n := 1) C hml (m_refuse l D k A ad hD (va_up (va_up v 1 0) 0 0) f g 10 (by decide)) mM_X11_295 mI_X11_refuse mE_X11_refuse mN_X11 mC_X11_refuse (by decide +kernel) 0 (ci := 11) rfl rfl hP hS (fun _ h => h) ⟨Nat.le_of_ble_eq_true rfl, Nat.le_of_ble_eq_true rfl⟩ ⟨Nat.zero_le _, Nat.zero_le _⟩ hl.1 rfl rfl (Nat.le_of_ble_eq_true rfl) dX11_advance_87 (fun r_11 v_11 f_11 g_11 H locs hq_11 hP _ hS => ?_)
            obtain ⟨rfl, rfl, rfl, rfl⟩ := hq_11
            show W p l e (gRm 1 21) s m args below meth c _ _ 0 0 Q (F0 m 90 ls [.int (iI (-1))])
            have hP : gWd D (mdW k ad) (va_up (va_up v 1 0) 0 (10 : Int)) f g H := ⟨hP.1, (gR_up (gR_up ⟨hok.1, hok.2⟩ 1 (by decide)) 0 (by omega))⟩
            exact g_iret hQ C hr hlocks hP hS dX11_advance_90 ⟨rfl, trivial, trivial, trivial⟩
          · exfalso; omega
        · exfalso; omega
      · refine lv_aload_n hx hb dX11_advance_28 rfl (lv_at hl 0 rfl) ?_
        refine lv_iconst (v := iI 2) hx hb dX11_advance_29 rfl ?_
        refine g_cv (As := [.int (iI 2)]) (rest := []) (n := 1) C hml (m_refuse l D k A ad hD (va_up (va_up v 1 0) 0 0) f g 2 (by decide)) mM_X11_295 mI_X11_refuse mE_X11_refuse mN_X11 mC_X11_refuse (by decide +kernel) 0 (ci := 11) rfl rfl hP hS (fun _ h => h) ⟨Nat.le_of_ble_eq_true rfl, Nat.le_of_ble_eq_true rfl⟩ ⟨Nat.zero_le _, Nat.zero_le _⟩ hl.1 rfl rfl (Nat.le_of_ble_eq_true rfl) dX11_advance_30 (fun r_12 v_12 f_12 g_12 H locs hq_12 hP _ hS => ?_)
        obtain ⟨rfl, rfl, rfl, rfl⟩ := hq_12
        show W p l e (gRm 1 21) s m args below meth c _ _ 0 0 Q (F0 m 33 ls [.int (iI (-1))])
        have hP : gWd D (mdW k ad) (va_up (va_up v 1 0) 0 (2 : Int)) f g H := ⟨hP.1, (gR_up (gR_up ⟨hok.1, hok.2⟩ 1 (by decide)) 0 (by omega))⟩
        exact g_iret hQ C hr hlocks hP hS dX11_advance_33 ⟨rfl, trivial, trivial, trivial⟩

set_option maxHeartbeats 4000000 in
set_option maxRecDepth 100000 in
theorem m_order (l : Launch) (D : va_G) (k : Nat → ClassId) (A : Nat → Prop) (ad : Nat → Nat) (hD : mdD A k ad) (v : gV) (f g : gF) (a1 : Int) (a2 : Int) (h_a1 : inR a1) (h_a2 : inR a2) (q0 : v 0 = 0) (q2 : v 2 = 0) (q4 : v 4 = (-1)) (q5 : v 5 = (-1)) (q12 : v 12 = 0) (q22 : v 22 = 0) (q23 : v 23 = (-1)) (q24 : v 24 = 0) (q25 : v 25 = 0) : GM l D k A (mdW k ad) yX11_order cX11_order 3 (some .int) 1 21 [.ref (ad 0), .int (iI a1), .int (iI a2)] v f g (fun r v1 f1 g1 => r = some (.int (iI (-1))) ∧ True ∧ True ∧ True) := by
  refine GM.of (by decide) (Nat.le_of_ble_eq_true rfl) ?_
  intro p e s m args below meth c Q ls hQ C hml hr hlocks hP hl
  have hx := C.1
  have hb := C.2.1
  have hok := hP.2
  have hS : va_S A s.heap s.heap [] := va_S.rf
  have hl : lv_has ls 3 [(0, .ref (ad 0)), (1, .int (iI a1)), (2, .int (iI a2))] := hl
  refine lv_aload_n hx hb dX11_order_0 rfl (lv_at hl 0 rfl) ?_
  refine lv_iconst (v := iI 0) hx hb dX11_order_1 rfl ?_
  refine mdP_thrown (v1 := (va_up v 1 0)) C hP hD hS mF_X11_146 (by decide) rfl (Or.inl rfl) dX11_order_2 (fun H locs hP hS => ?_)
  refine lv_aload_n hx hb dX11_order_5 rfl (lv_at hl 0 rfl) ?_
  refine lv_iconst (v := iI 0) hx hb dX11_order_6 rfl ?_
  refine mdP_status (v1 := (va_up (va_up v 1 0) 0 0)) C hP hD hS mF_X11_149 (by decide) rfl (Or.inl rfl) dX11_order_7 (fun H locs hP hS => ?_)
  refine lv_aload_n hx hb dX11_order_10 rfl (lv_at hl 0 rfl) ?_
  refine lv_iload_n hx hb dX11_order_11 rfl (lv_at hl 1 rfl) ?_
  refine g_cv (As := [.int (iI a1)]) (rest := []) (n := 1) C hml (m_isRound l D k A ad hD (va_up (va_up v 1 0) 0 0) f g a1 (by omega)) mM_X11_325 mI_X11_isRound mE_X11_isRound mN_X11 mC_X11_isRound (by decide +kernel) 0 (ci := 11) rfl rfl hP hS (fun _ h => h) ⟨Nat.le_of_ble_eq_true rfl, Nat.le_of_ble_eq_true rfl⟩ ⟨Nat.zero_le _, Nat.zero_le _⟩ hl.1 rfl rfl (Nat.le_of_ble_eq_true rfl) dX11_order_12 (fun r_1 v_1 f_1 g_1 H locs hq_1 hP _ hS => ?_)
  obtain ⟨⟨z_1, rfl, ez0_1⟩, rfl, rfl, rfl⟩ := hq_1
  have ez_1 : z_1 = (if 0 ≤ a1 ∧ a1 < v 12 then 1 else 0) := ez0_1
  have w_1 := gif (P := 0 ≤ a1 ∧ a1 < v 12) ez_1
  have hz_1 : inR z_1 := (by omega)
  show W p l e (gRm 1 21) s m args below meth c _ _ 0 0 Q (F0 m 15 ls [.int (iI z_1)])
  have k_1 : z_1 = 0 := by omega
  refine gi_zeq (tgt := 32) hx hb dX11_order_15 (by decide) (by omega) (fun c_2 => ?_) (fun c_2 => ?_)
  · refine lv_aload_n hx hb dX11_order_32 rfl (lv_at hl 0 rfl) ?_
    refine lv_iconst (v := iI 1) hx hb dX11_order_33 rfl ?_
    refine g_cv (As := [.int (iI 1)]) (rest := []) (n := 1) C hml (m_refuse l D k A ad hD (va_up (va_up v 1 0) 0 0) f g 1 (by decide)) mM_X11_295 mI_X11_refuse mE_X11_refuse mN_X11 mC_X11_refuse (by decide +kernel) 0 (ci := 11) rfl rfl hP hS (fun _ h => h) ⟨Nat.le_of_ble_eq_true rfl, Nat.le_of_ble_eq_true rfl⟩ ⟨Nat.zero_le _, Nat.zero_le _⟩ hl.1 rfl rfl (Nat.le_of_ble_eq_true rfl) dX11_order_34 (fun r_3 v_3 f_3 g_3 H locs hq_3 hP _ hS => ?_)
    obtain ⟨rfl, rfl, rfl, rfl⟩ := hq_3
    show W p l e (gRm 1 21) s m args below meth c _ _ 0 0 Q (F0 m 37 ls [.int (iI (-1))])
    have hP : gWd D (mdW k ad) (va_up (va_up v 1 0) 0 (1 : Int)) f g H := ⟨hP.1, (gR_up (gR_up ⟨hok.1, hok.2⟩ 1 (by decide)) 0 (by omega))⟩
    exact g_iret hQ C hr hlocks hP hS dX11_order_37 ⟨rfl, trivial, trivial, trivial⟩
  · exfalso; omega

set_option maxHeartbeats 4000000 in
set_option maxRecDepth 100000 in
theorem m_parts (l : Launch) (D : va_G) (k : Nat → ClassId) (A : Nat → Prop) (ad : Nat → Nat) (hD : mdD A k ad) (v : gV) (f g : gF) (a1 : Int) (a2 : Int) (a3 : Int) (h_a1 : inR a1) (h_a2 : inR a2) (h_a3 : inR a3) (q0 : v 0 = 0) (q2 : v 2 = 0) (q4 : v 4 = (-1)) (q5 : v 5 = (-1)) (q12 : v 12 = 0) (q22 : v 22 = 0) (q23 : v 23 = (-1)) (q24 : v 24 = 0) (q25 : v 25 = 0) : GM l D k A (mdW k ad) yX11_parts cX11_parts 4 (some .int) 1 21 [.ref (ad 0), .int (iI a1), .int (iI a2), .int (iI a3)] v f g (fun r v1 f1 g1 => r = some (.int (iI (-1))) ∧ True ∧ True ∧ True) := by
  refine GM.of (by decide) (Nat.le_of_ble_eq_true rfl) ?_
  intro p e s m args below meth c Q ls hQ C hml hr hlocks hP hl
  have hx := C.1
  have hb := C.2.1
  have hok := hP.2
  have hS : va_S A s.heap s.heap [] := va_S.rf
  have hl : lv_has ls 4 [(0, .ref (ad 0)), (1, .int (iI a1)), (2, .int (iI a2)), (3, .int (iI a3))] := hl
  refine lv_aload_n hx hb dX11_parts_0 rfl (lv_at hl 0 rfl) ?_
  refine lv_iconst (v := iI 0) hx hb dX11_parts_1 rfl ?_
  refine mdP_thrown (v1 := (va_up v 1 0)) C hP hD hS mF_X11_146 (by decide) rfl (Or.inl rfl) dX11_parts_2 (fun H locs hP hS => ?_)
  refine lv_aload_n hx hb dX11_parts_5 rfl (lv_at hl 0 rfl) ?_
  refine lv_iconst (v := iI 0) hx hb dX11_parts_6 rfl ?_
  refine mdP_status (v1 := (va_up (va_up v 1 0) 0 0)) C hP hD hS mF_X11_149 (by decide) rfl (Or.inl rfl) dX11_parts_7 (fun H locs hP hS => ?_)
  refine lv_aload_n hx hb dX11_parts_10 rfl (lv_at hl 0 rfl) ?_
  refine lv_iload_n hx hb dX11_parts_11 rfl (lv_at hl 1 rfl) ?_
  refine g_cv (As := [.int (iI a1)]) (rest := []) (n := 1) C hml (m_isRound l D k A ad hD (va_up (va_up v 1 0) 0 0) f g a1 (by omega)) mM_X11_325 mI_X11_isRound mE_X11_isRound mN_X11 mC_X11_isRound (by decide +kernel) 0 (ci := 11) rfl rfl hP hS (fun _ h => h) ⟨Nat.le_of_ble_eq_true rfl, Nat.le_of_ble_eq_true rfl⟩ ⟨Nat.zero_le _, Nat.zero_le _⟩ hl.1 rfl rfl (Nat.le_of_ble_eq_true rfl) dX11_parts_12 (fun r_1 v_1 f_1 g_1 H locs hq_1 hP _ hS => ?_)
  obtain ⟨⟨z_1, rfl, ez0_1⟩, rfl, rfl, rfl⟩ := hq_1
  have ez_1 : z_1 = (if 0 ≤ a1 ∧ a1 < v 12 then 1 else 0) := ez0_1
  have w_1 := gif (P := 0 ≤ a1 ∧ a1 < v 12) ez_1
  have hz_1 : inR z_1 := (by omega)
  show W p l e (gRm 1 21) s m args below meth c _ _ 0 0 Q (F0 m 15 ls [.int (iI z_1)])
  have k_1 : z_1 = 0 := by omega
  refine gi_zne (tgt := 24) hx hb dX11_parts_15 (by decide) (by omega) (fun c_2 => ?_) (fun c_2 => ?_)
  · exfalso; omega
  · refine lv_aload_n hx hb dX11_parts_18 rfl (lv_at hl 0 rfl) ?_
    refine lv_iconst (v := iI 1) hx hb dX11_parts_19 rfl ?_
    refine g_cv (As := [.int (iI 1)]) (rest := []) (n := 1) C hml (m_refuse l D k A ad hD (va_up (va_up v 1 0) 0 0) f g 1 (by decide)) mM_X11_295 mI_X11_refuse mE_X11_refuse mN_X11 mC_X11_refuse (by decide +kernel) 0 (ci := 11) rfl rfl hP hS (fun _ h => h) ⟨Nat.le_of_ble_eq_true rfl, Nat.le_of_ble_eq_true rfl⟩ ⟨Nat.zero_le _, Nat.zero_le _⟩ hl.1 rfl rfl (Nat.le_of_ble_eq_true rfl) dX11_parts_20 (fun r_3 v_3 f_3 g_3 H locs hq_3 hP _ hS => ?_)
    obtain ⟨rfl, rfl, rfl, rfl⟩ := hq_3
    show W p l e (gRm 1 21) s m args below meth c _ _ 0 0 Q (F0 m 23 ls [.int (iI (-1))])
    have hP : gWd D (mdW k ad) (va_up (va_up v 1 0) 0 (1 : Int)) f g H := ⟨hP.1, (gR_up (gR_up ⟨hok.1, hok.2⟩ 1 (by decide)) 0 (by omega))⟩
    exact g_iret hQ C hr hlocks hP hS dX11_parts_23 ⟨rfl, trivial, trivial, trivial⟩

set_option maxHeartbeats 4000000 in
set_option maxRecDepth 100000 in
theorem m_choose (l : Launch) (D : va_G) (k : Nat → ClassId) (A : Nat → Prop) (ad : Nat → Nat) (hD : mdD A k ad) (v : gV) (f g : gF) (a1 : Int) (a2 : Int) (a3 : Int) (h_a1 : inR a1) (h_a2 : inR a2) (h_a3 : inR a3) (q0 : v 0 = 0) (q2 : v 2 = 0) (q4 : v 4 = (-1)) (q5 : v 5 = (-1)) (q12 : v 12 = 0) (q22 : v 22 = 0) (q23 : v 23 = (-1)) (q24 : v 24 = 0) (q25 : v 25 = 0) : GM l D k A (mdW k ad) yX11_choose cX11_choose 8 (some .int) 1 21 [.ref (ad 0), .int (iI a1), .int (iI a2), .int (iI a3)] v f g (fun r v1 f1 g1 => r = some (.int (iI (-1))) ∧ True ∧ True ∧ True) := by
  refine GM.of (by decide) (Nat.le_of_ble_eq_true rfl) ?_
  intro p e s m args below meth c Q ls hQ C hml hr hlocks hP hl
  have hx := C.1
  have hb := C.2.1
  have hok := hP.2
  have hS : va_S A s.heap s.heap [] := va_S.rf
  have hl : lv_has ls 8 [(0, .ref (ad 0)), (1, .int (iI a1)), (2, .int (iI a2)), (3, .int (iI a3))] := hl
  refine lv_aload_n hx hb dX11_choose_0 rfl (lv_at hl 0 rfl) ?_
  refine lv_iconst (v := iI 0) hx hb dX11_choose_1 rfl ?_
  refine mdP_thrown (v1 := (va_up v 1 0)) C hP hD hS mF_X11_146 (by decide) rfl (Or.inl rfl) dX11_choose_2 (fun H locs hP hS => ?_)
  refine lv_aload_n hx hb dX11_choose_5 rfl (lv_at hl 0 rfl) ?_
  refine lv_iconst (v := iI 0) hx hb dX11_choose_6 rfl ?_
  refine mdP_status (v1 := (va_up (va_up v 1 0) 0 0)) C hP hD hS mF_X11_149 (by decide) rfl (Or.inl rfl) dX11_choose_7 (fun H locs hP hS => ?_)
  refine lv_aload_n hx hb dX11_choose_10 rfl (lv_at hl 0 rfl) ?_
  refine lv_iload_n hx hb dX11_choose_11 rfl (lv_at hl 1 rfl) ?_
  refine g_cv (As := [.int (iI a1)]) (rest := []) (n := 1) C hml (m_isRound l D k A ad hD (va_up (va_up v 1 0) 0 0) f g a1 (by omega)) mM_X11_325 mI_X11_isRound mE_X11_isRound mN_X11 mC_X11_isRound (by decide +kernel) 0 (ci := 11) rfl rfl hP hS (fun _ h => h) ⟨Nat.le_of_ble_eq_true rfl, Nat.le_of_ble_eq_true rfl⟩ ⟨Nat.zero_le _, Nat.zero_le _⟩ hl.1 rfl rfl (Nat.le_of_ble_eq_true rfl) dX11_choose_12 (fun r_1 v_1 f_1 g_1 H locs hq_1 hP _ hS => ?_)
  obtain ⟨⟨z_1, rfl, ez0_1⟩, rfl, rfl, rfl⟩ := hq_1
  have ez_1 : z_1 = (if 0 ≤ a1 ∧ a1 < v 12 then 1 else 0) := ez0_1
  have w_1 := gif (P := 0 ≤ a1 ∧ a1 < v 12) ez_1
  have hz_1 : inR z_1 := (by omega)
  show W p l e (gRm 1 21) s m args below meth c _ _ 0 0 Q (F0 m 15 ls [.int (iI z_1)])
  have k_1 : z_1 = 0 := by omega
  refine gi_zne (tgt := 24) hx hb dX11_choose_15 (by decide) (by omega) (fun c_2 => ?_) (fun c_2 => ?_)
  · exfalso; omega
  · refine lv_aload_n hx hb dX11_choose_18 rfl (lv_at hl 0 rfl) ?_
    refine lv_iconst (v := iI 1) hx hb dX11_choose_19 rfl ?_
    refine g_cv (As := [.int (iI 1)]) (rest := []) (n := 1) C hml (m_refuse l D k A ad hD (va_up (va_up v 1 0) 0 0) f g 1 (by decide)) mM_X11_295 mI_X11_refuse mE_X11_refuse mN_X11 mC_X11_refuse (by decide +kernel) 0 (ci := 11) rfl rfl hP hS (fun _ h => h) ⟨Nat.le_of_ble_eq_true rfl, Nat.le_of_ble_eq_true rfl⟩ ⟨Nat.zero_le _, Nat.zero_le _⟩ hl.1 rfl rfl (Nat.le_of_ble_eq_true rfl) dX11_choose_20 (fun r_3 v_3 f_3 g_3 H locs hq_3 hP _ hS => ?_)
    obtain ⟨rfl, rfl, rfl, rfl⟩ := hq_3
    show W p l e (gRm 1 21) s m args below meth c _ _ 0 0 Q (F0 m 23 ls [.int (iI (-1))])
    have hP : gWd D (mdW k ad) (va_up (va_up v 1 0) 0 (1 : Int)) f g H := ⟨hP.1, (gR_up (gR_up ⟨hok.1, hok.2⟩ 1 (by decide)) 0 (by omega))⟩
    exact g_iret hQ C hr hlocks hP hS dX11_choose_23 ⟨rfl, trivial, trivial, trivial⟩

set_option maxHeartbeats 4000000 in
set_option maxRecDepth 100000 in
theorem m_next (l : Launch) (D : va_G) (k : Nat → ClassId) (A : Nat → Prop) (ad : Nat → Nat) (hD : mdD A k ad) (v : gV) (f g : gF) (q3 : v 3 = 0) (q10 : v 10 = 0) : GM l D k A (mdW k ad) yX11_next cX11_next 2 none 0 0 [.ref (ad 0)] v f g (fun r v1 f1 g1 => r = none ∧ (va_up (va_up (va_up v 9 (v 10)) 10 (v 10)) 8 0) = v1 ∧ f = f1 ∧ g = g1) := by
  refine GM.of (by decide) (Nat.le_of_ble_eq_true rfl) ?_
  intro p e s m args below meth c Q ls hQ C hml hr hlocks hP hl
  have hx := C.1
  have hb := C.2.1
  have hok := hP.2
  have hS : va_S A s.heap s.heap [] := va_S.rf
  have hl : lv_has ls 2 [(0, .ref (ad 0))] := hl
  refine lv_aload_n hx hb dX11_next_0 rfl (lv_at hl 0 rfl) ?_
  refine lv_aload_n hx hb dX11_next_1 rfl (lv_at hl 0 rfl) ?_
  refine mdG_behind C hP mF_X11_155 dX11_next_2 ?_
  have r_1 := hok.1 10
  refine mdP_at (v1 := (va_up v 9 (v 10))) C hP hD hS mF_X11_158 (by omega) rfl (Or.inl rfl) dX11_next_5 (fun H locs hP hS => ?_)
  refine lv_aload_n hx hb dX11_next_8 rfl (lv_at hl 0 rfl) ?_
  refine mdG_at C hP mF_X11_158 dX11_next_9 ?_
  show W p l e (gRm 0 0) s m args below meth c _ _ 0 0 Q (F0 m 12 ls [.int (iI (v 10))])
  refine lv_aload_n hx hb dX11_next_12 rfl (lv_at hl 0 rfl) ?_
  refine mdG_end C hP mF_X11_152 dX11_next_13 ?_
  show W p l e (gRm 0 0) s m args below meth c _ _ 0 0 Q (F0 m 16 ls [.int (iI (v 3)), .int (iI (v 10))])
  have r_2 := hok.1 3
  refine gi_cge (tgt := 58) hx hb dX11_next_16 (by decide) (by omega) (by omega) (fun c_3 => ?_) (fun c_3 => ?_)
  · refine lv_aload_n hx hb dX11_next_58 rfl (lv_at hl 0 rfl) ?_
    refine lv_aload_n hx hb dX11_next_59 rfl (lv_at hl 0 rfl) ?_
    refine mdG_at C hP mF_X11_158 dX11_next_60 ?_
    show W p l e (gRm 0 0) s m args below meth c _ _ 0 0 Q (F0 m 63 ls [.int (iI (v 10)), .ref (ad 0)])
    refine mdP_behind (v1 := (va_up (va_up v 9 (v 10)) 10 (v 10))) C hP hD hS mF_X11_155 (by omega) rfl (Or.inl rfl) dX11_next_63 (fun H locs hP hS => ?_)
    refine lv_aload_n hx hb dX11_next_66 rfl (lv_at hl 0 rfl) ?_
    refine mdG_at C hP mF_X11_158 dX11_next_67 ?_
    show W p l e (gRm 0 0) s m args below meth c _ _ 0 0 Q (F0 m 70 ls [.int (iI (v 10))])
    refine lv_aload_n hx hb dX11_next_70 rfl (lv_at hl 0 rfl) ?_
    refine mdG_end C hP mF_X11_152 dX11_next_71 ?_
    show W p l e (gRm 0 0) s m args below meth c _ _ 0 0 Q (F0 m 74 ls [.int (iI (v 3)), .int (iI (v 10))])
    refine gi_clt (tgt := 83) hx hb dX11_next_74 (by decide) (by omega) (by omega) (fun c_4 => ?_) (fun c_4 => ?_)
    · exfalso; omega
    · refine lv_aload_n hx hb dX11_next_77 rfl (lv_at hl 0 rfl) ?_
      refine lv_iconst (v := iI 0) hx hb dX11_next_78 rfl ?_
      refine mdP_sort (v1 := (va_up (va_up (va_up v 9 (v 10)) 10 (v 10)) 8 0)) C hP hD hS mF_X11_165 (by decide) rfl (Or.inl rfl) dX11_next_79 (fun H locs hP hS => ?_)
      exact g_vret hQ C hr hlocks hP hS dX11_next_82 ⟨rfl, rfl, rfl, rfl⟩
  · exfalso; omega

set_option maxHeartbeats 4000000 in
set_option maxRecDepth 100000 in
theorem m_readText (l : Launch) (D : va_G) (k : Nat → ClassId) (A : Nat → Prop) (ad : Nat → Nat) (hD : mdD A k ad) (v : gV) (f g : gF) (q3 : v 3 = 0) (q10 : v 10 = 0) (q6 : v 6 = 0) : GM l D k A (mdW k ad) yX11_readText cX11_readText 3 none 1 21 [.ref (ad 0)] v f g (fun r v1 f1 g1 => r = none ∧ (va_up (va_up (va_up (va_up (va_up (va_up (va_up v 15 0) 19 0) 17 1) 16 5) 9 (v 10)) 10 (v 10)) 8 0) = v1 ∧ True ∧ g = g1 ∧ f1 16 0 = 0) := by
  refine GM.of (by decide) (Nat.le_of_ble_eq_true rfl) ?_
  intro p e s m args below meth c Q ls hQ C hml hr hlocks hP hl
  have hx := C.1
  have hb := C.2.1
  have hok := hP.2
  have hS : va_S A s.heap s.heap [] := va_S.rf
  have hl : lv_has ls 3 [(0, .ref (ad 0))] := hl
  refine lv_aload_n hx hb dX11_readText_0 rfl (lv_at hl 0 rfl) ?_
  refine lv_iconst (v := iI 0) hx hb dX11_readText_1 rfl ?_
  refine mdP_newRounds (v1 := (va_up v 15 0)) C hP hD hS mF_X11_207 (by decide) rfl (Or.inl rfl) dX11_readText_2 (fun H locs hP hS => ?_)
  refine lv_aload_n hx hb dX11_readText_5 rfl (lv_at hl 0 rfl) ?_
  refine lv_iconst (v := iI 0) hx hb dX11_readText_6 rfl ?_
  refine mdP_newBack (v1 := (va_up (va_up v 15 0) 19 0)) C hP hD hS mF_X11_210 (by decide) (by omega) rfl (Or.inl rfl) dX11_readText_7 (fun H locs hP hS => ?_)
  refine lv_aload_n hx hb dX11_readText_10 rfl (lv_at hl 0 rfl) ?_
  refine lv_iconst (v := iI 1) hx hb dX11_readText_11 rfl ?_
  refine mdP_newKeys (v1 := (va_up (va_up (va_up v 15 0) 19 0) 17 1)) C hP hD hS mF_X11_214 (by decide) rfl (Or.inl rfl) dX11_readText_12 (fun H locs hP hS => ?_)
  refine lv_aload_n hx hb dX11_readText_15 rfl (lv_at hl 0 rfl) ?_
  refine mdG_newKey C hP mF_X11_60 dX11_readText_16 ?_
  refine lv_iconst (v := iI 0) hx hb dX11_readText_19 rfl ?_
  refine lv_iconst (v := iI 0) hx hb dX11_readText_20 rfl ?_
  refine mdS_newKey (f1 := (va_up f 14 (u1 (f 14) 0 0))) C hP hD hS (by decide) (by decide) (by decide) rfl (Or.inl rfl) dX11_readText_21 (fun H locs hP hS => ?_)
  refine lv_aload_n hx hb dX11_readText_22 rfl (lv_at hl 0 rfl) ?_
  refine mdG_newUp C hP mF_X11_67 dX11_readText_23 ?_
  refine lv_iconst (v := iI 0) hx hb dX11_readText_26 rfl ?_
  refine lv_iconst (v := iI 0) hx hb dX11_readText_27 rfl ?_
  refine mdS_newUp (f1 := (va_up (va_up f 14 (u1 (f 14) 0 0)) 16 (u1 (f 16) 0 0))) C hP hD hS (by decide) (by decide) (by decide) (by omega) rfl (Or.inl rfl) dX11_readText_28 (fun H locs hP hS => ?_)
  refine lv_aload_n hx hb dX11_readText_29 rfl (lv_at hl 0 rfl) ?_
  refine lv_iconst (v := iI 5) hx hb dX11_readText_30 rfl ?_
  refine mdP_newParts (v1 := (va_up (va_up (va_up (va_up v 15 0) 19 0) 17 1) 16 5)) C hP hD hS mF_X11_217 (by decide) rfl (Or.inl rfl) dX11_readText_31 (fun H locs hP hS => ?_)
  refine lv_aload_n hx hb dX11_readText_34 rfl (lv_at hl 0 rfl) ?_
  refine mdG_newPart C hP mF_X11_51 dX11_readText_35 ?_
  refine lv_iconst (v := iI 0) hx hb dX11_readText_38 rfl ?_
  refine lv_iconst (v := iI 0) hx hb dX11_readText_39 rfl ?_
  refine mdS_newPart (f1 := (va_up (va_up (va_up f 14 (u1 (f 14) 0 0)) 16 (u1 (f 16) 0 0)) 11 (u1 (f 11) 0 0))) C hP hD hS (by decide) (by decide) (by decide) rfl (Or.inl rfl) dX11_readText_40 (fun H locs hP hS => ?_)
  refine lv_aload_n hx hb dX11_readText_41 rfl (lv_at hl 0 rfl) ?_
  refine mdG_newNumber C hP mF_X11_54 dX11_readText_42 ?_
  refine lv_iconst (v := iI 0) hx hb dX11_readText_45 rfl ?_
  refine lv_bipush (v := iI 100) hx hb dX11_readText_46 (by decide) ?_
  refine mdS_newNumber (f1 := (va_up (va_up (va_up (va_up f 14 (u1 (f 14) 0 0)) 16 (u1 (f 16) 0 0)) 11 (u1 (f 11) 0 0)) 12 (u1 (f 12) 0 100))) C hP hD hS (by decide) (by decide) (by decide) rfl (Or.inl rfl) dX11_readText_48 (fun H locs hP hS => ?_)
  refine lv_aload_n hx hb dX11_readText_49 rfl (lv_at hl 0 rfl) ?_
  refine mdG_newPart C hP mF_X11_51 dX11_readText_50 ?_
  refine lv_iconst (v := iI 1) hx hb dX11_readText_53 rfl ?_
  refine lv_iconst (v := iI 1) hx hb dX11_readText_54 rfl ?_
  refine mdS_newPart (f1 := (va_up (va_up (va_up (va_up f 14 (u1 (f 14) 0 0)) 16 (u1 (f 16) 0 0)) 11 (u1 (u1 (f 11) 0 0) 1 1)) 12 (u1 (f 12) 0 100))) C hP hD hS (by decide) (by decide) (by decide) rfl (Or.inr (gF_up (gF_up (gF_up (gF_up (gR_up (gR_up (gR_up (gR_up ⟨hok.1, hok.2⟩ 15 (by decide)) 19 (by decide)) 17 (by decide)) 16 (by decide)) 14 (u1_rng (hok.2 14) (by decide))) 16 (u1_rng (hok.2 16) (by decide))) 11 (u1_rng (u1_rng (hok.2 11) (by decide)) (by decide))) 12 (u1_rng (hok.2 12) (by decide)))) dX11_readText_55 (fun H locs hP hS => ?_)
  refine lv_aload_n hx hb dX11_readText_56 rfl (lv_at hl 0 rfl) ?_
  refine mdG_newPart C hP mF_X11_51 dX11_readText_57 ?_
  refine lv_iconst (v := iI 2) hx hb dX11_readText_60 rfl ?_
  refine lv_bipush (v := iI 9) hx hb dX11_readText_61 (by decide) ?_
  refine mdS_newPart (f1 := (va_up (va_up (va_up (va_up f 14 (u1 (f 14) 0 0)) 16 (u1 (f 16) 0 0)) 11 (u1 (u1 (u1 (f 11) 0 0) 1 1) 2 9)) 12 (u1 (f 12) 0 100))) C hP hD hS (by decide) (by decide) (by decide) rfl (Or.inr (gF_up (gF_up (gF_up (gF_up (gR_up (gR_up (gR_up (gR_up ⟨hok.1, hok.2⟩ 15 (by decide)) 19 (by decide)) 17 (by decide)) 16 (by decide)) 14 (u1_rng (hok.2 14) (by decide))) 16 (u1_rng (hok.2 16) (by decide))) 11 (u1_rng (u1_rng (u1_rng (hok.2 11) (by decide)) (by decide)) (by decide))) 12 (u1_rng (hok.2 12) (by decide)))) dX11_readText_63 (fun H locs hP hS => ?_)
  refine lv_aload_n hx hb dX11_readText_64 rfl (lv_at hl 0 rfl) ?_
  refine mdG_newPart C hP mF_X11_51 dX11_readText_65 ?_
  refine lv_iconst (v := iI 3) hx hb dX11_readText_68 rfl ?_
  refine lv_iconst (v := iI 2) hx hb dX11_readText_69 rfl ?_
  refine mdS_newPart (f1 := (va_up (va_up (va_up (va_up f 14 (u1 (f 14) 0 0)) 16 (u1 (f 16) 0 0)) 11 (u1 (u1 (u1 (u1 (f 11) 0 0) 1 1) 2 9) 3 2)) 12 (u1 (f 12) 0 100))) C hP hD hS (by decide) (by decide) (by decide) rfl (Or.inr (gF_up (gF_up (gF_up (gF_up (gR_up (gR_up (gR_up (gR_up ⟨hok.1, hok.2⟩ 15 (by decide)) 19 (by decide)) 17 (by decide)) 16 (by decide)) 14 (u1_rng (hok.2 14) (by decide))) 16 (u1_rng (hok.2 16) (by decide))) 11 (u1_rng (u1_rng (u1_rng (u1_rng (hok.2 11) (by decide)) (by decide)) (by decide)) (by decide))) 12 (u1_rng (hok.2 12) (by decide)))) dX11_readText_70 (fun H locs hP hS => ?_)
  refine lv_aload_n hx hb dX11_readText_71 rfl (lv_at hl 0 rfl) ?_
  refine mdG_newPart C hP mF_X11_51 dX11_readText_72 ?_
  refine lv_iconst (v := iI 4) hx hb dX11_readText_75 rfl ?_
  refine lv_bipush (v := iI 7) hx hb dX11_readText_76 (by decide) ?_
  refine mdS_newPart (f1 := (va_up (va_up (va_up (va_up f 14 (u1 (f 14) 0 0)) 16 (u1 (f 16) 0 0)) 11 (u1 (u1 (u1 (u1 (u1 (f 11) 0 0) 1 1) 2 9) 3 2) 4 7)) 12 (u1 (f 12) 0 100))) C hP hD hS (by decide) (by decide) (by decide) rfl (Or.inr (gF_up (gF_up (gF_up (gF_up (gR_up (gR_up (gR_up (gR_up ⟨hok.1, hok.2⟩ 15 (by decide)) 19 (by decide)) 17 (by decide)) 16 (by decide)) 14 (u1_rng (hok.2 14) (by decide))) 16 (u1_rng (hok.2 16) (by decide))) 11 (u1_rng (u1_rng (u1_rng (u1_rng (u1_rng (hok.2 11) (by decide)) (by decide)) (by decide)) (by decide)) (by decide))) 12 (u1_rng (hok.2 12) (by decide)))) dX11_readText_78 (fun H locs hP hS => ?_)
  refine lv_iconst (v := iI 0) hx hb dX11_readText_79 rfl ?_
  refine lv_istore_n (lv' := [(1, .int (iI 0)), (0, .ref (ad 0))]) hx hb dX11_readText_80 rfl hl (by decide) rfl (fun ls hl => ?_)
  refine lv_aload_n hx hb dX11_readText_81 rfl (lv_at hl 1 rfl) ?_
  refine g_cv (As := []) (rest := []) (n := 0) C hml (m_next l D k A ad hD (va_up (va_up (va_up (va_up v 15 0) 19 0) 17 1) 16 5) (va_up (va_up (va_up (va_up f 14 (u1 (f 14) 0 0)) 16 (u1 (f 16) 0 0)) 11 (u1 (u1 (u1 (u1 (u1 (f 11) 0 0) 1 1) 2 9) 3 2) 4 7)) 12 (u1 (f 12) 0 100)) g (show v 3 = 0 from by omega) (show v 10 = 0 from by omega)) mM_X11_201 mI_X11_next mE_X11_next mN_X11 mC_X11_next (by decide +kernel) 0 (ci := 11) rfl rfl hP hS (fun _ h => h) ⟨Nat.le_of_ble_eq_true rfl, Nat.le_of_ble_eq_true rfl⟩ ⟨Nat.zero_le _, Nat.zero_le _⟩ hl.1 rfl rfl (Nat.le_of_ble_eq_true rfl) dX11_readText_82 (fun r_1 v_1 f_1 g_1 H locs hq_1 hP _ hS => ?_)
  obtain ⟨rfl, rfl, rfl, rfl⟩ := hq_1
  show W p l e (gRm 1 21) s m args below meth c _ _ 0 0 Q (F0 m 85 ls [])
  refine lv_aload_n hx hb dX11_readText_85 rfl (lv_at hl 1 rfl) ?_
  refine mdG_bad C hP mF_X11_188 dX11_readText_86 ?_
  show W p l e (gRm 1 21) s m args below meth c _ _ 0 0 Q (F0 m 89 ls [.int (iI (v 6))])
  have r_2 := hok.1 6
  refine gi_zne (tgt := 166) hx hb dX11_readText_89 (by decide) (by omega) (fun c_3 => ?_) (fun c_3 => ?_)
  · exfalso; omega
  · refine lv_aload_n hx hb dX11_readText_92 rfl (lv_at hl 1 rfl) ?_
    refine mdG_sort C hP mF_X11_165 dX11_readText_93 ?_
    show W p l e (gRm 1 21) s m args below meth c _ _ 0 0 Q (F0 m 96 ls [.int (iI 0)])
    refine gi_zeq (tgt := 166) hx hb dX11_readText_96 (by decide) (by decide) (fun c_4 => ?_) (fun c_4 => ?_)
    · exact g_vret hQ C hr hlocks hP hS dX11_readText_166 ⟨rfl, rfl, trivial, rfl, rfl⟩
    · exfalso; omega

set_option maxHeartbeats 4000000 in
set_option maxRecDepth 100000 in
theorem m_load (l : Launch) (D : va_G) (k : Nat → ClassId) (A : Nat → Prop) (ad : Nat → Nat) (hD : mdD A k ad) (v : gV) (f g : gF) (a1 : Int) (h_a1 : inR a1) (q0 : v 0 = 0) (q2 : v 2 = 0) (q4 : v 4 = (-1)) (q5 : v 5 = (-1)) (q12 : v 12 = 0) (q22 : v 22 = 0) (q23 : v 23 = (-1)) (q24 : v 24 = 0) (q25 : v 25 = 0) : GM l D k A (mdW k ad) yX11_load cX11_load 4 (some .int) 2 43 [.ref (ad 0), .int (iI a1)] v f g (fun r v1 f1 g1 => (∃ z : Int, r = some (.int (iI z)) ∧ z = (if a1 = 0 then 0 else (-1))) ∧ True ∧ True ∧ True) := by
  refine GM.of (by decide) (Nat.le_of_ble_eq_true rfl) ?_
  intro p e s m args below meth c Q ls hQ C hml hr hlocks hP hl
  have hx := C.1
  have hb := C.2.1
  have hok := hP.2
  have hS : va_S A s.heap s.heap [] := va_S.rf
  have hl : lv_has ls 4 [(0, .ref (ad 0)), (1, .int (iI a1))] := hl
  refine lv_aload_n hx hb dX11_load_0 rfl (lv_at hl 0 rfl) ?_
  refine lv_iconst (v := iI 0) hx hb dX11_load_1 rfl ?_
  refine mdP_thrown (v1 := (va_up v 1 0)) C hP hD hS mF_X11_146 (by decide) rfl (Or.inl rfl) dX11_load_2 (fun H locs hP hS => ?_)
  refine lv_aload_n hx hb dX11_load_5 rfl (lv_at hl 0 rfl) ?_
  refine lv_iconst (v := iI 0) hx hb dX11_load_6 rfl ?_
  refine mdP_status (v1 := (va_up (va_up v 1 0) 0 0)) C hP hD hS mF_X11_149 (by decide) rfl (Or.inl rfl) dX11_load_7 (fun H locs hP hS => ?_)
  refine lv_iload_n hx hb dX11_load_10 rfl (lv_at hl 1 rfl) ?_
  refine gi_zlt (tgt := 22) hx hb dX11_load_11 (by decide) (by omega) (fun c_1 => ?_) (fun c_1 => ?_)
  · refine lv_aload_n hx hb dX11_load_22 rfl (lv_at hl 0 rfl) ?_
    refine lv_iconst (v := iI 2) hx hb dX11_load_23 rfl ?_
    refine g_cv (As := [.int (iI 2)]) (rest := []) (n := 1) C hml (m_refuse l D k A ad hD (va_up (va_up v 1 0) 0 0) f g 2 (by decide)) mM_X11_295 mI_X11_refuse mE_X11_refuse mN_X11 mC_X11_refuse (by decide +kernel) 0 (ci := 11) rfl rfl hP hS (fun _ h => h) ⟨Nat.le_of_ble_eq_true rfl, Nat.le_of_ble_eq_true rfl⟩ ⟨Nat.zero_le _, Nat.zero_le _⟩ hl.1 rfl rfl (Nat.le_of_ble_eq_true rfl) dX11_load_24 (fun r_2 v_2 f_2 g_2 H locs hq_2 hP _ hS => ?_)
    obtain ⟨rfl, rfl, rfl, rfl⟩ := hq_2
    show W p l e (gRm 2 43) s m args below meth c _ _ 0 0 Q (F0 m 27 ls [.int (iI (-1))])
    have hP : gWd D (mdW k ad) (va_up (va_up v 1 0) 0 (2 : Int)) f g H := ⟨hP.1, (gR_up (gR_up ⟨hok.1, hok.2⟩ 1 (by decide)) 0 (by omega))⟩
    exact g_iret hQ C hr hlocks hP hS dX11_load_27 ⟨⟨_, rfl, (by first | omega | (split <;> omega))⟩, trivial, trivial, trivial⟩
  · refine lv_iload_n hx hb dX11_load_14 rfl (lv_at hl 1 rfl) ?_
    refine lv_aload_n hx hb dX11_load_15 rfl (lv_at hl 0 rfl) ?_
    refine mdG_taped C hP mF_X11_289 dX11_load_16 ?_
    show W p l e (gRm 2 43) s m args below meth c _ _ 0 0 Q (F0 m 19 ls [.int (iI (v 2)), .int (iI a1)])
    have r_3 := hok.1 2
    refine gi_cle (tgt := 28) hx hb dX11_load_19 (by decide) (by omega) (by omega) (fun c_4 => ?_) (fun c_4 => ?_)
    · refine lv_aload_n hx hb dX11_load_28 rfl (lv_at hl 0 rfl) ?_
      refine lv_iload_n hx hb dX11_load_29 rfl (lv_at hl 1 rfl) ?_
      refine mdP_end (v1 := (va_up (va_up (va_up v 1 0) 0 0) 3 a1)) C hP hD hS mF_X11_152 (by omega) rfl (Or.inl rfl) dX11_load_30 (fun H locs hP hS => ?_)
      refine lv_aload_n hx hb dX11_load_33 rfl (lv_at hl 0 rfl) ?_
      refine lv_iconst (v := iI 0) hx hb dX11_load_34 rfl ?_
      refine mdP_taped (v1 := (va_up (va_up (va_up (va_up v 1 0) 0 0) 3 a1) 2 0)) C hP hD hS mF_X11_289 (by decide) rfl (Or.inl rfl) dX11_load_35 (fun H locs hP hS => ?_)
      refine lv_aload_n hx hb dX11_load_38 rfl (lv_at hl 0 rfl) ?_
      refine lv_iconst (v := iI 0) hx hb dX11_load_39 rfl ?_
      refine mdP_behind (v1 := (va_up (va_up (va_up (va_up (va_up v 1 0) 0 0) 3 a1) 2 0) 10 0)) C hP hD hS mF_X11_155 (by decide) rfl (Or.inl rfl) dX11_load_40 (fun H locs hP hS => ?_)
      refine lv_aload_n hx hb dX11_load_43 rfl (lv_at hl 0 rfl) ?_
      refine lv_iconst (v := iI 0) hx hb dX11_load_44 rfl ?_
      refine mdP_bad (v1 := (va_up (va_up (va_up (va_up (va_up (va_up v 1 0) 0 0) 3 a1) 2 0) 10 0) 6 0)) C hP hD hS mF_X11_188 (by decide) rfl (Or.inl rfl) dX11_load_45 (fun H locs hP hS => ?_)
      refine lv_aload_n hx hb dX11_load_48 rfl (lv_at hl 0 rfl) ?_
      refine g_cv (As := []) (rest := []) (n := 0) C hml (m_readText l D k A ad hD (va_up (va_up (va_up (va_up (va_up (va_up v 1 0) 0 0) 3 a1) 2 0) 10 0) 6 0) f g (show a1 = 0 from by omega) (show 0 = 0 from by omega) (show 0 = 0 from by omega)) mM_X11_298 mI_X11_readText mE_X11_readText mN_X11 mC_X11_readText (by decide +kernel) 0 (ci := 11) rfl rfl hP hS (fun _ h => h) ⟨Nat.le_of_ble_eq_true rfl, Nat.le_of_ble_eq_true rfl⟩ ⟨Nat.zero_le _, Nat.zero_le _⟩ hl.1 rfl rfl (Nat.le_of_ble_eq_true rfl) dX11_load_49 (fun r_5 v_5 f_5 g_5 H locs hq_5 hP _ hS => ?_)
      obtain ⟨rfl, rfl, -, rfl, hx_5⟩ := hq_5
      show W p l e (gRm 2 43) s m args below meth c _ _ 0 0 Q (F0 m 52 ls [])
      have hf_5 := hP.2.2
      have hP : gWd D (mdW k ad) (va_up (va_up (va_up (va_up (va_up (va_up (va_up (va_up (va_up (va_up (va_up (va_up v 1 0) 0 0) 3 a1) 2 0) 10 0) 6 0) 15 0) 19 0) 17 1) 16 5) 9 0) 8 0) f_5 g H := ⟨hP.1, (gR_up (gR_up (gR_up (gR_up (gR_up (gR_up (gR_up (gR_up (gR_up (gR_up (gR_up (gR_up ⟨hok.1, hf_5⟩ 1 (by decide)) 0 (by decide)) 3 (by omega)) 2 (by decide)) 10 (by decide)) 6 (by decide)) 15 (by decide)) 19 (by decide)) 17 (by decide)) 16 (by decide)) 9 (by decide)) 8 (by decide))⟩
      refine lv_aload_n hx hb dX11_load_52 rfl (lv_at hl 0 rfl) ?_
      refine lv_aload_n hx hb dX11_load_53 rfl (lv_at hl 0 rfl) ?_
      refine mdG_bad C hP mF_X11_188 dX11_load_54 ?_
      show W p l e (gRm 2 43) s m args below meth c _ _ 0 0 Q (F0 m 57 ls [.int (iI 0), .ref (ad 0)])
      refine mdP_faultKind (v1 := (va_up (va_up (va_up (va_up (va_up (va_up (va_up (va_up (va_up (va_up (va_up (va_up (va_up v 1 0) 0 0) 3 a1) 2 0) 10 0) 6 0) 15 0) 19 0) 17 1) 16 5) 9 0) 8 0) 4 0)) C hP hD hS mF_X11_13 (by decide) rfl (Or.inl rfl) dX11_load_57 (fun H locs hP hS => ?_)
      refine lv_aload_n hx hb dX11_load_60 rfl (lv_at hl 0 rfl) ?_
      refine lv_aload_n hx hb dX11_load_61 rfl (lv_at hl 0 rfl) ?_
      refine mdG_bad C hP mF_X11_188 dX11_load_62 ?_
      show W p l e (gRm 2 43) s m args below meth c _ _ 0 0 Q (F0 m 65 ls [.int (iI 0), .ref (ad 0)])
      refine gi_zne (tgt := 72) hx hb dX11_load_65 (by decide) (by decide) (fun c_6 => ?_) (fun c_6 => ?_)
      · exfalso; omega
      · refine lv_iconst (v := iI (-1)) hx hb dX11_load_68 rfl ?_
        refine lv_goto (tgt := 76) hx hb dX11_load_69 (by decide) ?_
        refine mdP_faultAt (v1 := (va_up (va_up (va_up (va_up (va_up (va_up (va_up (va_up (va_up (va_up (va_up (va_up (va_up (va_up v 1 0) 0 0) 3 a1) 2 0) 10 0) 6 0) 15 0) 19 0) 17 1) 16 5) 9 0) 8 0) 4 0) 5 (-1))) C hP hD hS mF_X11_17 (by decide) rfl (Or.inl rfl) dX11_load_76 (fun H locs hP hS => ?_)
        refine lv_aload_n hx hb dX11_load_79 rfl (lv_at hl 0 rfl) ?_
        refine mdG_bad C hP mF_X11_188 dX11_load_80 ?_
        show W p l e (gRm 2 43) s m args below meth c _ _ 0 0 Q (F0 m 83 ls [.int (iI 0)])
        refine gi_zle (tgt := 93) hx hb dX11_load_83 (by decide) (by decide) (fun c_7 => ?_) (fun c_7 => ?_)
        · refine lv_aload_n hx hb dX11_load_93 rfl (lv_at hl 0 rfl) ?_
          refine lv_aload_n hx hb dX11_load_94 rfl (lv_at hl 0 rfl) ?_
          refine mdG_newRounds C hP mF_X11_207 dX11_load_95 ?_
          show W p l e (gRm 2 43) s m args below meth c _ _ 0 0 Q (F0 m 98 ls [.int (iI 0), .ref (ad 0)])
          refine mdP_rounds (v1 := (va_up (va_up (va_up (va_up (va_up (va_up (va_up (va_up (va_up (va_up (va_up (va_up (va_up (va_up (va_up v 1 0) 0 0) 3 a1) 2 0) 10 0) 6 0) 15 0) 19 0) 17 1) 16 5) 9 0) 8 0) 4 0) 5 (-1)) 12 0)) C hP hD hS mF_X11_301 (by decide) rfl (Or.inl rfl) dX11_load_98 (fun H locs hP hS => ?_)
          refine lv_aload_n hx hb dX11_load_101 rfl (lv_at hl 0 rfl) ?_
          refine lv_aload_n hx hb dX11_load_102 rfl (lv_at hl 0 rfl) ?_
          refine mdG_newParts C hP mF_X11_217 dX11_load_103 ?_
          show W p l e (gRm 2 43) s m args below meth c _ _ 0 0 Q (F0 m 106 ls [.int (iI 5), .ref (ad 0)])
          refine mdP_parts (v1 := (va_up (va_up (va_up (va_up (va_up (va_up (va_up (va_up (va_up (va_up (va_up (va_up (va_up (va_up (va_up (va_up v 1 0) 0 0) 3 a1) 2 0) 10 0) 6 0) 15 0) 19 0) 17 1) 16 5) 9 0) 8 0) 4 0) 5 (-1)) 12 0) 13 5)) C hP hD hS mF_X11_304 (by decide) rfl (Or.inl rfl) dX11_load_106 (fun H locs hP hS => ?_)
          refine lv_aload_n hx hb dX11_load_109 rfl (lv_at hl 0 rfl) ?_
          refine lv_aload_n hx hb dX11_load_110 rfl (lv_at hl 0 rfl) ?_
          refine mdG_newKeys C hP mF_X11_214 dX11_load_111 ?_
          show W p l e (gRm 2 43) s m args below meth c _ _ 0 0 Q (F0 m 114 ls [.int (iI 1), .ref (ad 0)])
          refine mdP_keys (v1 := (va_up (va_up (va_up (va_up (va_up (va_up (va_up (va_up (va_up (va_up (va_up (va_up (va_up (va_up (va_up (va_up (va_up v 1 0) 0 0) 3 a1) 2 0) 10 0) 6 0) 15 0) 19 0) 17 1) 16 5) 9 0) 8 0) 4 0) 5 (-1)) 12 0) 13 5) 14 1)) C hP hD hS mF_X11_307 (by decide) rfl (Or.inl rfl) dX11_load_114 (fun H locs hP hS => ?_)
          refine lv_aload_n hx hb dX11_load_117 rfl (lv_at hl 0 rfl) ?_
          refine lv_aload_n hx hb dX11_load_118 rfl (lv_at hl 0 rfl) ?_
          refine mdG_newBack C hP mF_X11_210 dX11_load_119 ?_
          show W p l e (gRm 2 43) s m args below meth c _ _ 0 0 Q (F0 m 122 ls [.int (iI 0), .ref (ad 0)])
          refine mdP_goesBack (v1 := (va_up (va_up (va_up (va_up (va_up (va_up (va_up (va_up (va_up (va_up (va_up (va_up (va_up (va_up (va_up (va_up (va_up (va_up v 1 0) 0 0) 3 a1) 2 0) 10 0) 6 0) 15 0) 19 0) 17 1) 16 5) 9 0) 8 0) 4 0) 5 (-1)) 12 0) 13 5) 14 1) 18 0)) C hP hD hS mF_X11_310 (by decide) (by omega) rfl (Or.inl rfl) dX11_load_122 (fun H locs hP hS => ?_)
          refine lv_iconst (v := iI 0) hx hb dX11_load_125 rfl ?_
          refine lv_istore_n (lv' := [(2, .int (iI 0)), (0, .ref (ad 0)), (1, .int (iI a1))]) hx hb dX11_load_126 rfl hl (by decide) rfl (fun ls hl => ?_)
          refine lv_iload_n hx hb dX11_load_127 rfl (lv_at hl 0 rfl) ?_
          refine lv_aload_n hx hb dX11_load_128 rfl (lv_at hl 1 rfl) ?_
          refine mdG_rounds C hP mF_X11_301 dX11_load_129 ?_
          show W p l e (gRm 2 43) s m args below meth c _ _ 0 0 Q (F0 m 132 ls [.int (iI 0), .int (iI 0)])
          refine gi_cge (tgt := 189) hx hb dX11_load_132 (by decide) (by decide) (by decide) (fun c_8 => ?_) (fun c_8 => ?_)
          · refine lv_iconst (v := iI 0) hx hb dX11_load_189 rfl ?_
            refine lv_istore_n (lv' := [(2, .int (iI 0)), (0, .ref (ad 0)), (1, .int (iI a1))]) hx hb dX11_load_190 rfl hl (by decide) rfl (fun ls hl => ?_)
            refine lv_iload_n hx hb dX11_load_191 rfl (lv_at hl 0 rfl) ?_
            refine lv_aload_n hx hb dX11_load_192 rfl (lv_at hl 1 rfl) ?_
            refine mdG_parts C hP mF_X11_304 dX11_load_193 ?_
            show W p l e (gRm 2 43) s m args below meth c _ _ 0 0 Q (F0 m 196 ls [.int (iI 5), .int (iI 0)])
            refine gi_cge (tgt := 229) hx hb dX11_load_196 (by decide) (by decide) (by decide) (fun c_9 => ?_) (fun c_9 => ?_)
            · exfalso; omega
            · refine lv_aload_n hx hb dX11_load_199 rfl (lv_at hl 1 rfl) ?_
              refine mdG_part C hP mF_X11_45 dX11_load_200 ?_
              refine lv_iload_n hx hb dX11_load_203 rfl (lv_at hl 0 rfl) ?_
              refine lv_aload_n hx hb dX11_load_204 rfl (lv_at hl 1 rfl) ?_
              refine mdG_newPart C hP mF_X11_51 dX11_load_205 ?_
              refine lv_iload_n hx hb dX11_load_208 rfl (lv_at hl 0 rfl) ?_
              refine mdL_newPart C hP (by decide) (by decide) dX11_load_209 ?_
              have r_10 := hf_5 11 0
              refine mdS_part (f1 := (va_up f_5 9 (u1 (f_5 9) 0 (f_5 11 0)))) C hP hD hS (by decide) (by decide) (by omega) rfl (Or.inl rfl) dX11_load_210 (fun H locs hP hS => ?_)
              refine lv_aload_n hx hb dX11_load_211 rfl (lv_at hl 1 rfl) ?_
              refine mdG_partNumber C hP mF_X11_48 dX11_load_212 ?_
              refine lv_iload_n hx hb dX11_load_215 rfl (lv_at hl 0 rfl) ?_
              refine lv_aload_n hx hb dX11_load_216 rfl (lv_at hl 1 rfl) ?_
              refine mdG_newNumber C hP mF_X11_54 dX11_load_217 ?_
              refine lv_iload_n hx hb dX11_load_220 rfl (lv_at hl 0 rfl) ?_
              refine mdL_newNumber C hP (by decide) (by decide) dX11_load_221 ?_
              show W p l e (gRm 2 43) s m args below meth c _ _ 0 0 Q (F0 m 222 ls [.int (iI (f_5 12 0)), .int (iI 0), .ref (ad 11)])
              have r_11 := hf_5 12 0
              refine mdS_partNumber (f1 := (va_up (va_up f_5 9 (u1 (f_5 9) 0 (f_5 11 0))) 10 (u1 (f_5 10) 0 (f_5 12 0)))) C hP hD hS (by decide) (by decide) (by omega) rfl (Or.inl rfl) dX11_load_222 (fun H locs hP hS => ?_)
              refine lv_iinc (v := iI 1) (lv' := [(2, .int (iI 1)), (0, .ref (ad 0)), (1, .int (iI a1))]) hx hb dX11_load_223 hl (k := 0) rfl (by show iI _ + iI 1 = _; rw [iI_add]; congr 1) (by decide) rfl (fun ls hl => ?_)
              refine lv_goto (tgt := 191) hx hb dX11_load_226 (by decide) ?_
              refine lv_iload_n hx hb dX11_load_191 rfl (lv_at hl 0 rfl) ?_
              refine lv_aload_n hx hb dX11_load_192 rfl (lv_at hl 1 rfl) ?_
              refine mdG_parts C hP mF_X11_304 dX11_load_193 ?_
              show W p l e (gRm 2 43) s m args below meth c _ _ 0 0 Q (F0 m 196 ls [.int (iI 5), .int (iI 1)])
              refine gi_cge (tgt := 229) hx hb dX11_load_196 (by decide) (by decide) (by decide) (fun c_12 => ?_) (fun c_12 => ?_)
              · exfalso; omega
              · refine lv_aload_n hx hb dX11_load_199 rfl (lv_at hl 1 rfl) ?_
                refine mdG_part C hP mF_X11_45 dX11_load_200 ?_
                refine lv_iload_n hx hb dX11_load_203 rfl (lv_at hl 0 rfl) ?_
                refine lv_aload_n hx hb dX11_load_204 rfl (lv_at hl 1 rfl) ?_
                refine mdG_newPart C hP mF_X11_51 dX11_load_205 ?_
                refine lv_iload_n hx hb dX11_load_208 rfl (lv_at hl 0 rfl) ?_
                refine mdL_newPart C hP (by decide) (by decide) dX11_load_209 ?_
                show W p l e (gRm 2 43) s m args below meth c _ _ 0 0 Q (F0 m 210 ls [.int (iI (f_5 11 1)), .int (iI 1), .ref (ad 10)])
                have r_13 := hf_5 11 1
                refine mdS_part (f1 := (va_up (va_up f_5 9 (u1 (u1 (f_5 9) 0 (f_5 11 0)) 1 (f_5 11 1))) 10 (u1 (f_5 10) 0 (f_5 12 0)))) C hP hD hS (by decide) (by decide) (by omega) rfl (Or.inr (gF_up (gF_up (gR_up (gR_up (gR_up (gR_up (gR_up (gR_up (gR_up (gR_up (gR_up (gR_up (gR_up (gR_up (gR_up (gR_up (gR_up (gR_up (gR_up (gR_up ⟨hok.1, hf_5⟩ 1 (by decide)) 0 (by decide)) 3 (by omega)) 2 (by decide)) 10 (by decide)) 6 (by decide)) 15 (by decide)) 19 (by decide)) 17 (by decide)) 16 (by decide)) 9 (by decide)) 8 (by decide)) 4 (by decide)) 5 (by decide)) 12 (by decide)) 13 (by decide)) 14 (by decide)) 18 (by decide)) 9 (u1_rng (u1_rng (hf_5 9) (by omega)) (by omega))) 10 (u1_rng (hf_5 10) (by omega)))) dX11_load_210 (fun H locs hP hS => ?_)
                refine lv_aload_n hx hb dX11_load_211 rfl (lv_at hl 1 rfl) ?_
                refine mdG_partNumber C hP mF_X11_48 dX11_load_212 ?_
                refine lv_iload_n hx hb dX11_load_215 rfl (lv_at hl 0 rfl) ?_
                refine lv_aload_n hx hb dX11_load_216 rfl (lv_at hl 1 rfl) ?_
                refine mdG_newNumber C hP mF_X11_54 dX11_load_217 ?_
                refine lv_iload_n hx hb dX11_load_220 rfl (lv_at hl 0 rfl) ?_
                refine mdL_newNumber C hP (by decide) (by decide) dX11_load_221 ?_
                show W p l e (gRm 2 43) s m args below meth c _ _ 0 0 Q (F0 m 222 ls [.int (iI (f_5 12 1)), .int (iI 1), .ref (ad 11)])
                have r_14 := hf_5 12 1
                refine mdS_partNumber (f1 := (va_up (va_up f_5 9 (u1 (u1 (f_5 9) 0 (f_5 11 0)) 1 (f_5 11 1))) 10 (u1 (u1 (f_5 10) 0 (f_5 12 0)) 1 (f_5 12 1)))) C hP hD hS (by decide) (by decide) (by omega) rfl (Or.inr (gF_up (gF_up (gR_up (gR_up (gR_up (gR_up (gR_up (gR_up (gR_up (gR_up (gR_up (gR_up (gR_up (gR_up (gR_up (gR_up (gR_up (gR_up (gR_up (gR_up ⟨hok.1, hf_5⟩ 1 (by decide)) 0 (by decide)) 3 (by omega)) 2 (by decide)) 10 (by decide)) 6 (by decide)) 15 (by decide)) 19 (by decide)) 17 (by decide)) 16 (by decide)) 9 (by decide)) 8 (by decide)) 4 (by decide)) 5 (by decide)) 12 (by decide)) 13 (by decide)) 14 (by decide)) 18 (by decide)) 9 (u1_rng (u1_rng (hf_5 9) (by omega)) (by omega))) 10 (u1_rng (u1_rng (hf_5 10) (by omega)) (by omega)))) dX11_load_222 (fun H locs hP hS => ?_)
                refine lv_iinc (v := iI 2) (lv' := [(2, .int (iI 2)), (0, .ref (ad 0)), (1, .int (iI a1))]) hx hb dX11_load_223 hl (k := 0) rfl (by show iI _ + iI 1 = _; rw [iI_add]; congr 1) (by decide) rfl (fun ls hl => ?_)
                refine lv_goto (tgt := 191) hx hb dX11_load_226 (by decide) ?_
                refine lv_iload_n hx hb dX11_load_191 rfl (lv_at hl 0 rfl) ?_
                refine lv_aload_n hx hb dX11_load_192 rfl (lv_at hl 1 rfl) ?_
                refine mdG_parts C hP mF_X11_304 dX11_load_193 ?_
                show W p l e (gRm 2 43) s m args below meth c _ _ 0 0 Q (F0 m 196 ls [.int (iI 5), .int (iI 2)])
                refine gi_cge (tgt := 229) hx hb dX11_load_196 (by decide) (by decide) (by decide) (fun c_15 => ?_) (fun c_15 => ?_)
                · exfalso; omega
                · refine lv_aload_n hx hb dX11_load_199 rfl (lv_at hl 1 rfl) ?_
                  refine mdG_part C hP mF_X11_45 dX11_load_200 ?_
                  refine lv_iload_n hx hb dX11_load_203 rfl (lv_at hl 0 rfl) ?_
                  refine lv_aload_n hx hb dX11_load_204 rfl (lv_at hl 1 rfl) ?_
                  refine mdG_newPart C hP mF_X11_51 dX11_load_205 ?_
                  refine lv_iload_n hx hb dX11_load_208 rfl (lv_at hl 0 rfl) ?_
                  refine mdL_newPart C hP (by decide) (by decide) dX11_load_209 ?_
                  show W p l e (gRm 2 43) s m args below meth c _ _ 0 0 Q (F0 m 210 ls [.int (iI (f_5 11 2)), .int (iI 2), .ref (ad 10)])
                  have r_16 := hf_5 11 2
                  refine mdS_part (f1 := (va_up (va_up f_5 9 (u1 (u1 (u1 (f_5 9) 0 (f_5 11 0)) 1 (f_5 11 1)) 2 (f_5 11 2))) 10 (u1 (u1 (f_5 10) 0 (f_5 12 0)) 1 (f_5 12 1)))) C hP hD hS (by decide) (by decide) (by omega) rfl (Or.inr (gF_up (gF_up (gR_up (gR_up (gR_up (gR_up (gR_up (gR_up (gR_up (gR_up (gR_up (gR_up (gR_up (gR_up (gR_up (gR_up (gR_up (gR_up (gR_up (gR_up ⟨hok.1, hf_5⟩ 1 (by decide)) 0 (by decide)) 3 (by omega)) 2 (by decide)) 10 (by decide)) 6 (by decide)) 15 (by decide)) 19 (by decide)) 17 (by decide)) 16 (by decide)) 9 (by decide)) 8 (by decide)) 4 (by decide)) 5 (by decide)) 12 (by decide)) 13 (by decide)) 14 (by decide)) 18 (by decide)) 9 (u1_rng (u1_rng (u1_rng (hf_5 9) (by omega)) (by omega)) (by omega))) 10 (u1_rng (u1_rng (hf_5 10) (by omega)) (by omega)))) dX11_load_210 (fun H locs hP hS => ?_)
                  refine lv_aload_n hx hb dX11_load_211 rfl (lv_at hl 1 rfl) ?_
                  refine mdG_partNumber C hP mF_X11_48 dX11_load_212 ?_
                  refine lv_iload_n hx hb dX11_load_215 rfl (lv_at hl 0 rfl) ?_
                  refine lv_aload_n hx hb dX11_load_216 rfl (lv_at hl 1 rfl) ?_
                  refine mdG_newNumber C hP mF_X11_54 dX11_load_217 ?_
                  refine lv_iload_n hx hb dX11_load_220 rfl (lv_at hl 0 rfl) ?_
                  refine mdL_newNumber C hP (by decide) (by decide) dX11_load_221 ?_
                  show W p l e (gRm 2 43) s m args below meth c _ _ 0 0 Q (F0 m 222 ls [.int (iI (f_5 12 2)), .int (iI 2), .ref (ad 11)])
                  have r_17 := hf_5 12 2
                  refine mdS_partNumber (f1 := (va_up (va_up f_5 9 (u1 (u1 (u1 (f_5 9) 0 (f_5 11 0)) 1 (f_5 11 1)) 2 (f_5 11 2))) 10 (u1 (u1 (u1 (f_5 10) 0 (f_5 12 0)) 1 (f_5 12 1)) 2 (f_5 12 2)))) C hP hD hS (by decide) (by decide) (by omega) rfl (Or.inr (gF_up (gF_up (gR_up (gR_up (gR_up (gR_up (gR_up (gR_up (gR_up (gR_up (gR_up (gR_up (gR_up (gR_up (gR_up (gR_up (gR_up (gR_up (gR_up (gR_up ⟨hok.1, hf_5⟩ 1 (by decide)) 0 (by decide)) 3 (by omega)) 2 (by decide)) 10 (by decide)) 6 (by decide)) 15 (by decide)) 19 (by decide)) 17 (by decide)) 16 (by decide)) 9 (by decide)) 8 (by decide)) 4 (by decide)) 5 (by decide)) 12 (by decide)) 13 (by decide)) 14 (by decide)) 18 (by decide)) 9 (u1_rng (u1_rng (u1_rng (hf_5 9) (by omega)) (by omega)) (by omega))) 10 (u1_rng (u1_rng (u1_rng (hf_5 10) (by omega)) (by omega)) (by omega)))) dX11_load_222 (fun H locs hP hS => ?_)
                  refine lv_iinc (v := iI 3) (lv' := [(2, .int (iI 3)), (0, .ref (ad 0)), (1, .int (iI a1))]) hx hb dX11_load_223 hl (k := 0) rfl (by show iI _ + iI 1 = _; rw [iI_add]; congr 1) (by decide) rfl (fun ls hl => ?_)
                  refine lv_goto (tgt := 191) hx hb dX11_load_226 (by decide) ?_
                  refine lv_iload_n hx hb dX11_load_191 rfl (lv_at hl 0 rfl) ?_
                  refine lv_aload_n hx hb dX11_load_192 rfl (lv_at hl 1 rfl) ?_
                  refine mdG_parts C hP mF_X11_304 dX11_load_193 ?_
                  show W p l e (gRm 2 43) s m args below meth c _ _ 0 0 Q (F0 m 196 ls [.int (iI 5), .int (iI 3)])
                  refine gi_cge (tgt := 229) hx hb dX11_load_196 (by decide) (by decide) (by decide) (fun c_18 => ?_) (fun c_18 => ?_)
                  · exfalso; omega
                  · refine lv_aload_n hx hb dX11_load_199 rfl (lv_at hl 1 rfl) ?_
                    refine mdG_part C hP mF_X11_45 dX11_load_200 ?_
                    refine lv_iload_n hx hb dX11_load_203 rfl (lv_at hl 0 rfl) ?_
                    refine lv_aload_n hx hb dX11_load_204 rfl (lv_at hl 1 rfl) ?_
                    refine mdG_newPart C hP mF_X11_51 dX11_load_205 ?_
                    refine lv_iload_n hx hb dX11_load_208 rfl (lv_at hl 0 rfl) ?_
                    refine mdL_newPart C hP (by decide) (by decide) dX11_load_209 ?_
                    show W p l e (gRm 2 43) s m args below meth c _ _ 0 0 Q (F0 m 210 ls [.int (iI (f_5 11 3)), .int (iI 3), .ref (ad 10)])
                    have r_19 := hf_5 11 3
                    refine mdS_part (f1 := (va_up (va_up f_5 9 (u1 (u1 (u1 (u1 (f_5 9) 0 (f_5 11 0)) 1 (f_5 11 1)) 2 (f_5 11 2)) 3 (f_5 11 3))) 10 (u1 (u1 (u1 (f_5 10) 0 (f_5 12 0)) 1 (f_5 12 1)) 2 (f_5 12 2)))) C hP hD hS (by decide) (by decide) (by omega) rfl (Or.inr (gF_up (gF_up (gR_up (gR_up (gR_up (gR_up (gR_up (gR_up (gR_up (gR_up (gR_up (gR_up (gR_up (gR_up (gR_up (gR_up (gR_up (gR_up (gR_up (gR_up ⟨hok.1, hf_5⟩ 1 (by decide)) 0 (by decide)) 3 (by omega)) 2 (by decide)) 10 (by decide)) 6 (by decide)) 15 (by decide)) 19 (by decide)) 17 (by decide)) 16 (by decide)) 9 (by decide)) 8 (by decide)) 4 (by decide)) 5 (by decide)) 12 (by decide)) 13 (by decide)) 14 (by decide)) 18 (by decide)) 9 (u1_rng (u1_rng (u1_rng (u1_rng (hf_5 9) (by omega)) (by omega)) (by omega)) (by omega))) 10 (u1_rng (u1_rng (u1_rng (hf_5 10) (by omega)) (by omega)) (by omega)))) dX11_load_210 (fun H locs hP hS => ?_)
                    refine lv_aload_n hx hb dX11_load_211 rfl (lv_at hl 1 rfl) ?_
                    refine mdG_partNumber C hP mF_X11_48 dX11_load_212 ?_
                    refine lv_iload_n hx hb dX11_load_215 rfl (lv_at hl 0 rfl) ?_
                    refine lv_aload_n hx hb dX11_load_216 rfl (lv_at hl 1 rfl) ?_
                    refine mdG_newNumber C hP mF_X11_54 dX11_load_217 ?_
                    refine lv_iload_n hx hb dX11_load_220 rfl (lv_at hl 0 rfl) ?_
                    refine mdL_newNumber C hP (by decide) (by decide) dX11_load_221 ?_
                    show W p l e (gRm 2 43) s m args below meth c _ _ 0 0 Q (F0 m 222 ls [.int (iI (f_5 12 3)), .int (iI 3), .ref (ad 11)])
                    have r_20 := hf_5 12 3
                    refine mdS_partNumber (f1 := (va_up (va_up f_5 9 (u1 (u1 (u1 (u1 (f_5 9) 0 (f_5 11 0)) 1 (f_5 11 1)) 2 (f_5 11 2)) 3 (f_5 11 3))) 10 (u1 (u1 (u1 (u1 (f_5 10) 0 (f_5 12 0)) 1 (f_5 12 1)) 2 (f_5 12 2)) 3 (f_5 12 3)))) C hP hD hS (by decide) (by decide) (by omega) rfl (Or.inr (gF_up (gF_up (gR_up (gR_up (gR_up (gR_up (gR_up (gR_up (gR_up (gR_up (gR_up (gR_up (gR_up (gR_up (gR_up (gR_up (gR_up (gR_up (gR_up (gR_up ⟨hok.1, hf_5⟩ 1 (by decide)) 0 (by decide)) 3 (by omega)) 2 (by decide)) 10 (by decide)) 6 (by decide)) 15 (by decide)) 19 (by decide)) 17 (by decide)) 16 (by decide)) 9 (by decide)) 8 (by decide)) 4 (by decide)) 5 (by decide)) 12 (by decide)) 13 (by decide)) 14 (by decide)) 18 (by decide)) 9 (u1_rng (u1_rng (u1_rng (u1_rng (hf_5 9) (by omega)) (by omega)) (by omega)) (by omega))) 10 (u1_rng (u1_rng (u1_rng (u1_rng (hf_5 10) (by omega)) (by omega)) (by omega)) (by omega)))) dX11_load_222 (fun H locs hP hS => ?_)
                    refine lv_iinc (v := iI 4) (lv' := [(2, .int (iI 4)), (0, .ref (ad 0)), (1, .int (iI a1))]) hx hb dX11_load_223 hl (k := 0) rfl (by show iI _ + iI 1 = _; rw [iI_add]; congr 1) (by decide) rfl (fun ls hl => ?_)
                    refine lv_goto (tgt := 191) hx hb dX11_load_226 (by decide) ?_
                    refine lv_iload_n hx hb dX11_load_191 rfl (lv_at hl 0 rfl) ?_
                    refine lv_aload_n hx hb dX11_load_192 rfl (lv_at hl 1 rfl) ?_
                    refine mdG_parts C hP mF_X11_304 dX11_load_193 ?_
                    show W p l e (gRm 2 43) s m args below meth c _ _ 0 0 Q (F0 m 196 ls [.int (iI 5), .int (iI 4)])
                    refine gi_cge (tgt := 229) hx hb dX11_load_196 (by decide) (by decide) (by decide) (fun c_21 => ?_) (fun c_21 => ?_)
                    · exfalso; omega
                    · refine lv_aload_n hx hb dX11_load_199 rfl (lv_at hl 1 rfl) ?_
                      refine mdG_part C hP mF_X11_45 dX11_load_200 ?_
                      refine lv_iload_n hx hb dX11_load_203 rfl (lv_at hl 0 rfl) ?_
                      refine lv_aload_n hx hb dX11_load_204 rfl (lv_at hl 1 rfl) ?_
                      refine mdG_newPart C hP mF_X11_51 dX11_load_205 ?_
                      refine lv_iload_n hx hb dX11_load_208 rfl (lv_at hl 0 rfl) ?_
                      refine mdL_newPart C hP (by decide) (by decide) dX11_load_209 ?_
                      show W p l e (gRm 2 43) s m args below meth c _ _ 0 0 Q (F0 m 210 ls [.int (iI (f_5 11 4)), .int (iI 4), .ref (ad 10)])
                      have r_22 := hf_5 11 4
                      refine mdS_part (f1 := (va_up (va_up f_5 9 (u1 (u1 (u1 (u1 (u1 (f_5 9) 0 (f_5 11 0)) 1 (f_5 11 1)) 2 (f_5 11 2)) 3 (f_5 11 3)) 4 (f_5 11 4))) 10 (u1 (u1 (u1 (u1 (f_5 10) 0 (f_5 12 0)) 1 (f_5 12 1)) 2 (f_5 12 2)) 3 (f_5 12 3)))) C hP hD hS (by decide) (by decide) (by omega) rfl (Or.inr (gF_up (gF_up (gR_up (gR_up (gR_up (gR_up (gR_up (gR_up (gR_up (gR_up (gR_up (gR_up (gR_up (gR_up (gR_up (gR_up (gR_up (gR_up (gR_up (gR_up ⟨hok.1, hf_5⟩ 1 (by decide)) 0 (by decide)) 3 (by omega)) 2 (by decide)) 10 (by decide)) 6 (by decide)) 15 (by decide)) 19 (by decide)) 17 (by decide)) 16 (by decide)) 9 (by decide)) 8 (by decide)) 4 (by decide)) 5 (by decide)) 12 (by decide)) 13 (by decide)) 14 (by decide)) 18 (by decide)) 9 (u1_rng (u1_rng (u1_rng (u1_rng (u1_rng (hf_5 9) (by omega)) (by omega)) (by omega)) (by omega)) (by omega))) 10 (u1_rng (u1_rng (u1_rng (u1_rng (hf_5 10) (by omega)) (by omega)) (by omega)) (by omega)))) dX11_load_210 (fun H locs hP hS => ?_)
                      refine lv_aload_n hx hb dX11_load_211 rfl (lv_at hl 1 rfl) ?_
                      refine mdG_partNumber C hP mF_X11_48 dX11_load_212 ?_
                      refine lv_iload_n hx hb dX11_load_215 rfl (lv_at hl 0 rfl) ?_
                      refine lv_aload_n hx hb dX11_load_216 rfl (lv_at hl 1 rfl) ?_
                      refine mdG_newNumber C hP mF_X11_54 dX11_load_217 ?_
                      refine lv_iload_n hx hb dX11_load_220 rfl (lv_at hl 0 rfl) ?_
                      refine mdL_newNumber C hP (by decide) (by decide) dX11_load_221 ?_
                      show W p l e (gRm 2 43) s m args below meth c _ _ 0 0 Q (F0 m 222 ls [.int (iI (f_5 12 4)), .int (iI 4), .ref (ad 11)])
                      have r_23 := hf_5 12 4
                      refine mdS_partNumber (f1 := (va_up (va_up f_5 9 (u1 (u1 (u1 (u1 (u1 (f_5 9) 0 (f_5 11 0)) 1 (f_5 11 1)) 2 (f_5 11 2)) 3 (f_5 11 3)) 4 (f_5 11 4))) 10 (u1 (u1 (u1 (u1 (u1 (f_5 10) 0 (f_5 12 0)) 1 (f_5 12 1)) 2 (f_5 12 2)) 3 (f_5 12 3)) 4 (f_5 12 4)))) C hP hD hS (by decide) (by decide) (by omega) rfl (Or.inr (gF_up (gF_up (gR_up (gR_up (gR_up (gR_up (gR_up (gR_up (gR_up (gR_up (gR_up (gR_up (gR_up (gR_up (gR_up (gR_up (gR_up (gR_up (gR_up (gR_up ⟨hok.1, hf_5⟩ 1 (by decide)) 0 (by decide)) 3 (by omega)) 2 (by decide)) 10 (by decide)) 6 (by decide)) 15 (by decide)) 19 (by decide)) 17 (by decide)) 16 (by decide)) 9 (by decide)) 8 (by decide)) 4 (by decide)) 5 (by decide)) 12 (by decide)) 13 (by decide)) 14 (by decide)) 18 (by decide)) 9 (u1_rng (u1_rng (u1_rng (u1_rng (u1_rng (hf_5 9) (by omega)) (by omega)) (by omega)) (by omega)) (by omega))) 10 (u1_rng (u1_rng (u1_rng (u1_rng (u1_rng (hf_5 10) (by omega)) (by omega)) (by omega)) (by omega)) (by omega)))) dX11_load_222 (fun H locs hP hS => ?_)
                      refine lv_iinc (v := iI 5) (lv' := [(2, .int (iI 5)), (0, .ref (ad 0)), (1, .int (iI a1))]) hx hb dX11_load_223 hl (k := 0) rfl (by show iI _ + iI 1 = _; rw [iI_add]; congr 1) (by decide) rfl (fun ls hl => ?_)
                      refine lv_goto (tgt := 191) hx hb dX11_load_226 (by decide) ?_
                      refine lv_iload_n hx hb dX11_load_191 rfl (lv_at hl 0 rfl) ?_
                      refine lv_aload_n hx hb dX11_load_192 rfl (lv_at hl 1 rfl) ?_
                      refine mdG_parts C hP mF_X11_304 dX11_load_193 ?_
                      show W p l e (gRm 2 43) s m args below meth c _ _ 0 0 Q (F0 m 196 ls [.int (iI 5), .int (iI 5)])
                      refine gi_cge (tgt := 229) hx hb dX11_load_196 (by decide) (by decide) (by decide) (fun c_24 => ?_) (fun c_24 => ?_)
                      · refine lv_iconst (v := iI 0) hx hb dX11_load_229 rfl ?_
                        refine lv_istore_n (lv' := [(2, .int (iI 0)), (0, .ref (ad 0)), (1, .int (iI a1))]) hx hb dX11_load_230 rfl hl (by decide) rfl (fun ls hl => ?_)
                        refine lv_iload_n hx hb dX11_load_231 rfl (lv_at hl 0 rfl) ?_
                        refine lv_aload_n hx hb dX11_load_232 rfl (lv_at hl 1 rfl) ?_
                        refine mdG_keys C hP mF_X11_307 dX11_load_233 ?_
                        show W p l e (gRm 2 43) s m args below meth c _ _ 0 0 Q (F0 m 236 ls [.int (iI 1), .int (iI 0)])
                        refine gi_cge (tgt := 269) hx hb dX11_load_236 (by decide) (by decide) (by decide) (fun c_25 => ?_) (fun c_25 => ?_)
                        · exfalso; omega
                        · refine lv_aload_n hx hb dX11_load_239 rfl (lv_at hl 1 rfl) ?_
                          refine mdG_key C hP mF_X11_57 dX11_load_240 ?_
                          refine lv_iload_n hx hb dX11_load_243 rfl (lv_at hl 0 rfl) ?_
                          refine lv_aload_n hx hb dX11_load_244 rfl (lv_at hl 1 rfl) ?_
                          refine mdG_newKey C hP mF_X11_60 dX11_load_245 ?_
                          refine lv_iload_n hx hb dX11_load_248 rfl (lv_at hl 0 rfl) ?_
                          refine mdL_newKey C hP (by decide) (by decide) dX11_load_249 ?_
                          show W p l e (gRm 2 43) s m args below meth c _ _ 0 0 Q (F0 m 250 ls [.int (iI (f_5 14 0)), .int (iI 0), .ref (ad 14)])
                          have r_26 := hf_5 14 0
                          refine mdS_key (f1 := (va_up (va_up (va_up f_5 9 (u1 (u1 (u1 (u1 (u1 (f_5 9) 0 (f_5 11 0)) 1 (f_5 11 1)) 2 (f_5 11 2)) 3 (f_5 11 3)) 4 (f_5 11 4))) 10 (u1 (u1 (u1 (u1 (u1 (f_5 10) 0 (f_5 12 0)) 1 (f_5 12 1)) 2 (f_5 12 2)) 3 (f_5 12 3)) 4 (f_5 12 4))) 13 (u1 (f_5 13) 0 (f_5 14 0)))) C hP hD hS (by decide) (by decide) (by omega) rfl (Or.inl rfl) dX11_load_250 (fun H locs hP hS => ?_)
                          refine lv_aload_n hx hb dX11_load_251 rfl (lv_at hl 1 rfl) ?_
                          refine mdG_isUp C hP mF_X11_63 dX11_load_252 ?_
                          refine lv_iload_n hx hb dX11_load_255 rfl (lv_at hl 0 rfl) ?_
                          refine lv_aload_n hx hb dX11_load_256 rfl (lv_at hl 1 rfl) ?_
                          refine mdG_newUp C hP mF_X11_67 dX11_load_257 ?_
                          refine lv_iload_n hx hb dX11_load_260 rfl (lv_at hl 0 rfl) ?_
                          refine mdL_newUp C hP (by decide) (by decide) dX11_load_261 ?_
                          show W p l e (gRm 2 43) s m args below meth c _ _ 0 0 Q (F0 m 262 ls [.int (iI (f_5 16 0)), .int (iI 0), .ref (ad 16)])
                          have r_27 := hf_5 16 0
                          refine mdS_isUp (f1 := (va_up (va_up (va_up (va_up f_5 9 (u1 (u1 (u1 (u1 (u1 (f_5 9) 0 (f_5 11 0)) 1 (f_5 11 1)) 2 (f_5 11 2)) 3 (f_5 11 3)) 4 (f_5 11 4))) 10 (u1 (u1 (u1 (u1 (u1 (f_5 10) 0 (f_5 12 0)) 1 (f_5 12 1)) 2 (f_5 12 2)) 3 (f_5 12 3)) 4 (f_5 12 4))) 13 (u1 (f_5 13) 0 (f_5 14 0))) 15 (u1 (f_5 15) 0 (f_5 16 0)))) C hP hD hS (by decide) (by decide) (by omega) (by omega) rfl (Or.inl rfl) dX11_load_262 (fun H locs hP hS => ?_)
                          refine lv_iinc (v := iI 1) (lv' := [(2, .int (iI 1)), (0, .ref (ad 0)), (1, .int (iI a1))]) hx hb dX11_load_263 hl (k := 0) rfl (by show iI _ + iI 1 = _; rw [iI_add]; congr 1) (by decide) rfl (fun ls hl => ?_)
                          refine lv_goto (tgt := 231) hx hb dX11_load_266 (by decide) ?_
                          refine lv_iload_n hx hb dX11_load_231 rfl (lv_at hl 0 rfl) ?_
                          refine lv_aload_n hx hb dX11_load_232 rfl (lv_at hl 1 rfl) ?_
                          refine mdG_keys C hP mF_X11_307 dX11_load_233 ?_
                          show W p l e (gRm 2 43) s m args below meth c _ _ 0 0 Q (F0 m 236 ls [.int (iI 1), .int (iI 1)])
                          refine gi_cge (tgt := 269) hx hb dX11_load_236 (by decide) (by decide) (by decide) (fun c_28 => ?_) (fun c_28 => ?_)
                          · refine lv_iconst (v := iI 0) hx hb dX11_load_269 rfl ?_
                            refine lv_istore_n (lv' := [(2, .int (iI 0)), (0, .ref (ad 0)), (1, .int (iI a1))]) hx hb dX11_load_270 rfl hl (by decide) rfl (fun ls hl => ?_)
                            have L_29 : ∀ (n : Nat) (x2 : Int) (f_29 : gF) (H : Heap) (locs : List Loc) (ls : Array Slot), 20 - x2 < (n : Int) → 0 ≤ x2 → x2 ≤ 20 → gWd D (mdW k ad) (va_up (va_up (va_up (va_up (va_up (va_up (va_up (va_up (va_up (va_up (va_up (va_up (va_up (va_up (va_up (va_up (va_up (va_up v 1 0) 0 0) 3 a1) 2 0) 10 0) 6 0) 15 0) 19 0) 17 1) 16 5) 9 0) 8 0) 4 0) 5 (-1)) 12 0) 13 5) 14 1) 18 0) f_29 g H → va_S A s.heap H locs → lv_has ls 4 [(0, .ref (ad 0)), (1, .int (iI a1)), (2, .int (iI x2))] → W p l e (gRm 2 43) s m args below meth c H locs 0 0 Q (F0 m 271 ls []) := by
                              intro n
                              induction n with
                              | zero =>
                                intro x2 f_29 H locs ls hn_29 i_29_0 i_29_1 hP hS hl
                                exfalso; omega
                              | succ n ih_271 =>
                                intro x2 f_29 H locs ls hn_29 i_29_0 i_29_1 hP hS hl
                                have hf_29 := hP.2.2
                                refine lv_iload_n hx hb dX11_load_271 rfl (lv_at hl 2 rfl) ?_
                                refine lv_bipush (v := iI 20) hx hb dX11_load_272 (by decide) ?_
                                refine gi_cge (tgt := 322) hx hb dX11_load_274 (by decide) (by omega) (by decide) (fun c_30 => ?_) (fun c_30 => ?_)
                                · refine lv_aload_n hx hb dX11_load_322 rfl (lv_at hl 0 rfl) ?_
                                  refine lv_iconst (v := iI 0) hx hb dX11_load_323 rfl ?_
                                  refine mdP_climbers (v1 := (va_up (va_up (va_up (va_up (va_up (va_up (va_up (va_up (va_up (va_up (va_up (va_up (va_up (va_up (va_up (va_up (va_up (va_up (va_up v 1 0) 0 0) 3 a1) 2 0) 10 0) 6 0) 15 0) 19 0) 17 1) 16 5) 9 0) 8 0) 4 0) 5 (-1)) 12 0) 13 5) 14 1) 18 0) 22 0)) C hP hD hS mF_X11_313 (by decide) rfl (Or.inl rfl) dX11_load_324 (fun H locs hP hS => ?_)
                                  refine lv_aload_n hx hb dX11_load_327 rfl (lv_at hl 0 rfl) ?_
                                  refine lv_iconst (v := iI (-1)) hx hb dX11_load_328 rfl ?_
                                  refine mdP_open (v1 := (va_up (va_up (va_up (va_up (va_up (va_up (va_up (va_up (va_up (va_up (va_up (va_up (va_up (va_up (va_up (va_up (va_up (va_up (va_up (va_up v 1 0) 0 0) 3 a1) 2 0) 10 0) 6 0) 15 0) 19 0) 17 1) 16 5) 9 0) 8 0) 4 0) 5 (-1)) 12 0) 13 5) 14 1) 18 0) 22 0) 23 (-1))) C hP hD hS mF_X11_82 (by decide) rfl (Or.inl rfl) dX11_load_329 (fun H locs hP hS => ?_)
                                  refine lv_aload_n hx hb dX11_load_332 rfl (lv_at hl 0 rfl) ?_
                                  refine lv_iconst (v := iI 0) hx hb dX11_load_333 rfl ?_
                                  refine mdP_now (v1 := (va_up (va_up (va_up (va_up (va_up (va_up (va_up (va_up (va_up (va_up (va_up (va_up (va_up (va_up (va_up (va_up (va_up (va_up (va_up (va_up (va_up v 1 0) 0 0) 3 a1) 2 0) 10 0) 6 0) 15 0) 19 0) 17 1) 16 5) 9 0) 8 0) 4 0) 5 (-1)) 12 0) 13 5) 14 1) 18 0) 22 0) 23 (-1)) 24 0)) C hP hD hS mF_X11_316 (by decide) rfl (Or.inl rfl) dX11_load_334 (fun H locs hP hS => ?_)
                                  refine lv_aload_n hx hb dX11_load_337 rfl (lv_at hl 0 rfl) ?_
                                  refine lv_iconst (v := iI 0) hx hb dX11_load_338 rfl ?_
                                  refine mdP_tried (v1 := (va_up (va_up (va_up (va_up (va_up (va_up (va_up (va_up (va_up (va_up (va_up (va_up (va_up (va_up (va_up (va_up (va_up (va_up (va_up (va_up (va_up (va_up v 1 0) 0 0) 3 a1) 2 0) 10 0) 6 0) 15 0) 19 0) 17 1) 16 5) 9 0) 8 0) 4 0) 5 (-1)) 12 0) 13 5) 14 1) 18 0) 22 0) 23 (-1)) 24 0) 25 0)) C hP hD hS mF_X11_319 (by decide) rfl (Or.inl rfl) dX11_load_339 (fun H locs hP hS => ?_)
                                  refine lv_aload_n hx hb dX11_load_342 rfl (lv_at hl 0 rfl) ?_
                                  refine lv_iconst (v := iI 0) hx hb dX11_load_343 rfl ?_
                                  refine mdP_appeals (v1 := (va_up (va_up (va_up (va_up (va_up (va_up (va_up (va_up (va_up (va_up (va_up (va_up (va_up (va_up (va_up (va_up (va_up (va_up (va_up (va_up (va_up (va_up (va_up v 1 0) 0 0) 3 a1) 2 0) 10 0) 6 0) 15 0) 19 0) 17 1) 16 5) 9 0) 8 0) 4 0) 5 (-1)) 12 0) 13 5) 14 1) 18 0) 22 0) 23 (-1)) 24 0) 25 0) 26 0)) C hP hD hS mF_X11_322 (by decide) rfl (Or.inl rfl) dX11_load_344 (fun H locs hP hS => ?_)
                                  refine lv_iconst (v := iI 0) hx hb dX11_load_347 rfl ?_
                                  refine lv_istore_n (lv' := [(2, .int (iI 0)), (0, .ref (ad 0)), (1, .int (iI a1))]) hx hb dX11_load_348 rfl hl (by decide) rfl (fun ls hl => ?_)
                                  have L_31 : ∀ (n : Nat) (x2 : Int) (f_31 : gF) (H : Heap) (locs : List Loc) (ls : Array Slot), 64 - x2 < (n : Int) → 0 ≤ x2 → x2 ≤ 64 → gWd D (mdW k ad) (va_up (va_up (va_up (va_up (va_up (va_up (va_up (va_up (va_up (va_up (va_up (va_up (va_up (va_up (va_up (va_up (va_up (va_up (va_up (va_up (va_up (va_up (va_up v 1 0) 0 0) 3 a1) 2 0) 10 0) 6 0) 15 0) 19 0) 17 1) 16 5) 9 0) 8 0) 4 0) 5 (-1)) 12 0) 13 5) 14 1) 18 0) 22 0) 23 (-1)) 24 0) 25 0) 26 0) f_31 g H → va_S A s.heap H locs → lv_has ls 4 [(0, .ref (ad 0)), (1, .int (iI a1)), (2, .int (iI x2))] → W p l e (gRm 2 43) s m args below meth c H locs 0 0 Q (F0 m 349 ls []) := by
                                    intro n
                                    induction n with
                                    | zero =>
                                      intro x2 f_31 H locs ls hn_31 i_31_0 i_31_1 hP hS hl
                                      exfalso; omega
                                    | succ n ih_349 =>
                                      intro x2 f_31 H locs ls hn_31 i_31_0 i_31_1 hP hS hl
                                      have hf_31 := hP.2.2
                                      refine lv_iload_n hx hb dX11_load_349 rfl (lv_at hl 2 rfl) ?_
                                      refine lv_bipush (v := iI 64) hx hb dX11_load_350 (by decide) ?_
                                      refine gi_cge (tgt := 368) hx hb dX11_load_352 (by decide) (by omega) (by decide) (fun c_32 => ?_) (fun c_32 => ?_)
                                      · refine lv_iconst (v := iI 0) hx hb dX11_load_368 rfl ?_
                                        refine lv_istore_n (lv' := [(2, .int (iI 0)), (0, .ref (ad 0)), (1, .int (iI a1))]) hx hb dX11_load_369 rfl hl (by decide) rfl (fun ls hl => ?_)
                                        have L_33 : ∀ (n : Nat) (x2 : Int) (f_33 : gF) (H : Heap) (locs : List Loc) (ls : Array Slot), 4 - x2 < (n : Int) → 0 ≤ x2 → x2 ≤ 4 → gWd D (mdW k ad) (va_up (va_up (va_up (va_up (va_up (va_up (va_up (va_up (va_up (va_up (va_up (va_up (va_up (va_up (va_up (va_up (va_up (va_up (va_up (va_up (va_up (va_up (va_up v 1 0) 0 0) 3 a1) 2 0) 10 0) 6 0) 15 0) 19 0) 17 1) 16 5) 9 0) 8 0) 4 0) 5 (-1)) 12 0) 13 5) 14 1) 18 0) 22 0) 23 (-1)) 24 0) 25 0) 26 0) f_33 g H → va_S A s.heap H locs → lv_has ls 4 [(0, .ref (ad 0)), (1, .int (iI a1)), (2, .int (iI x2))] → W p l e (gRm 2 43) s m args below meth c H locs 0 0 Q (F0 m 370 ls []) := by
                                          intro n
                                          induction n with
                                          | zero =>
                                            intro x2 f_33 H locs ls hn_33 i_33_0 i_33_1 hP hS hl
                                            exfalso; omega
                                          | succ n ih_370 =>
                                            intro x2 f_33 H locs ls hn_33 i_33_0 i_33_1 hP hS hl
                                            have hf_33 := hP.2.2
                                            refine lv_iload_n hx hb dX11_load_370 rfl (lv_at hl 2 rfl) ?_
                                            refine lv_iconst (v := iI 4) hx hb dX11_load_371 rfl ?_
                                            refine gi_cge (tgt := 388) hx hb dX11_load_372 (by decide) (by omega) (by decide) (fun c_34 => ?_) (fun c_34 => ?_)
                                            · refine lv_aload_n hx hb dX11_load_388 rfl (lv_at hl 0 rfl) ?_
                                              refine mdG_rounds C hP mF_X11_301 dX11_load_389 ?_
                                              show W p l e (gRm 2 43) s m args below meth c _ _ 0 0 Q (F0 m 392 ls [.int (iI 0)])
                                              exact g_iret hQ C hr hlocks hP hS dX11_load_392 ⟨⟨_, rfl, (by first | omega | (split <;> omega))⟩, trivial, trivial, trivial⟩
                                            · refine lv_aload_n hx hb dX11_load_375 rfl (lv_at hl 0 rfl) ?_
                                              refine mdG_orderMany C hP mF_X11_91 dX11_load_376 ?_
                                              refine lv_iload_n hx hb dX11_load_379 rfl (lv_at hl 2 rfl) ?_
                                              refine lv_iconst (v := iI 0) hx hb dX11_load_380 rfl ?_
                                              refine mdS_orderMany (f1 := (va_up f_33 23 (u1 (f_33 23) x2 0))) C hP hD hS (by omega) (by omega) (by decide) rfl (Or.inl rfl) dX11_load_381 (fun H locs hP hS => ?_)
                                              refine lv_iinc (v := iI (x2 + 1)) (lv' := [(2, .int (iI (x2 + 1))), (0, .ref (ad 0)), (1, .int (iI a1))]) hx hb dX11_load_382 hl (k := 2) rfl (by show iI _ + iI 1 = _; rw [iI_add]) (by decide) rfl (fun ls hl => ?_)
                                              refine lv_goto (tgt := 370) hx hb dX11_load_385 (by decide) ?_
                                              exact ih_370 (x2 + 1) (va_up f_33 23 (u1 (f_33 23) x2 0)) _ _ _ (by omega) (by omega) (by omega) hP hS (lv_sub hl [1, 2, 0] rfl)
                                        exact L_33 5 0 f_31 _ _ _ (by omega) (by omega) (by omega) hP hS (lv_sub hl [1, 2, 0] rfl)
                                      · refine lv_aload_n hx hb dX11_load_355 rfl (lv_at hl 0 rfl) ?_
                                        refine mdG_isIn C hP mF_X11_85 dX11_load_356 ?_
                                        refine lv_iload_n hx hb dX11_load_359 rfl (lv_at hl 2 rfl) ?_
                                        refine lv_iconst (v := iI 0) hx hb dX11_load_360 rfl ?_
                                        refine mdS_isIn (f1 := (va_up f_31 21 (u1 (f_31 21) x2 0))) C hP hD hS (by omega) (by omega) (by decide) (by omega) rfl (Or.inl rfl) dX11_load_361 (fun H locs hP hS => ?_)
                                        refine lv_iinc (v := iI (x2 + 1)) (lv' := [(2, .int (iI (x2 + 1))), (0, .ref (ad 0)), (1, .int (iI a1))]) hx hb dX11_load_362 hl (k := 2) rfl (by show iI _ + iI 1 = _; rw [iI_add]) (by decide) rfl (fun ls hl => ?_)
                                        refine lv_goto (tgt := 349) hx hb dX11_load_365 (by decide) ?_
                                        exact ih_349 (x2 + 1) (va_up f_31 21 (u1 (f_31 21) x2 0)) _ _ _ (by omega) (by omega) (by omega) hP hS (lv_sub hl [1, 2, 0] rfl)
                                  exact L_31 65 0 f_29 _ _ _ (by omega) (by omega) (by omega) hP hS (lv_sub hl [1, 2, 0] rfl)
                                · refine lv_aload_n hx hb dX11_load_277 rfl (lv_at hl 0 rfl) ?_
                                  refine mdG_holds C hP mF_X11_73 dX11_load_278 ?_
                                  refine lv_iload_n hx hb dX11_load_281 rfl (lv_at hl 2 rfl) ?_
                                  refine lv_bipush (v := iI 10) hx hb dX11_load_282 (by decide) ?_
                                  refine mdS_holds (f1 := (va_up f_29 18 (u1 (f_29 18) x2 10))) C hP hD hS (by omega) (by omega) (by decide) rfl (Or.inl rfl) dX11_load_284 (fun H locs hP hS => ?_)
                                  refine lv_aload_n hx hb dX11_load_285 rfl (lv_at hl 0 rfl) ?_
                                  refine mdG_begun C hP mF_X11_79 dX11_load_286 ?_
                                  refine lv_iload_n hx hb dX11_load_289 rfl (lv_at hl 2 rfl) ?_
                                  refine lv_iconst (v := iI 0) hx hb dX11_load_290 rfl ?_
                                  refine mdS_begun (f1 := (va_up (va_up f_29 18 (u1 (f_29 18) x2 10)) 20 (u1 (f_29 20) x2 0))) C hP hD hS (by omega) (by omega) (by decide) rfl (Or.inl rfl) dX11_load_291 (fun H locs hP hS => ?_)
                                  refine lv_iconst (v := iI 0) hx hb dX11_load_292 rfl ?_
                                  refine lv_istore_n (lv' := [(3, .int (iI 0)), (0, .ref (ad 0)), (1, .int (iI a1)), (2, .int (iI x2))]) hx hb dX11_load_293 rfl hl (by decide) rfl (fun ls hl => ?_)
                                  have L_35 : ∀ (n : Nat) (x3 : Int) (f_35 : gF) (H : Heap) (locs : List Loc) (ls : Array Slot), 3 - x3 < (n : Int) → 0 ≤ x3 → x3 ≤ 3 → gWd D (mdW k ad) (va_up (va_up (va_up (va_up (va_up (va_up (va_up (va_up (va_up (va_up (va_up (va_up (va_up (va_up (va_up (va_up (va_up (va_up v 1 0) 0 0) 3 a1) 2 0) 10 0) 6 0) 15 0) 19 0) 17 1) 16 5) 9 0) 8 0) 4 0) 5 (-1)) 12 0) 13 5) 14 1) 18 0) f_35 g H → va_S A s.heap H locs → lv_has ls 4 [(0, .ref (ad 0)), (1, .int (iI a1)), (2, .int (iI x2)), (3, .int (iI x3))] → W p l e (gRm 2 43) s m args below meth c H locs 0 0 Q (F0 m 294 ls []) := by
                                    intro n
                                    induction n with
                                    | zero =>
                                      intro x3 f_35 H locs ls hn_35 i_35_0 i_35_1 hP hS hl
                                      exfalso; omega
                                    | succ n ih_294 =>
                                      intro x3 f_35 H locs ls hn_35 i_35_0 i_35_1 hP hS hl
                                      have hf_35 := hP.2.2
                                      refine lv_iload_n hx hb dX11_load_294 rfl (lv_at hl 3 rfl) ?_
                                      refine lv_iconst (v := iI 3) hx hb dX11_load_295 rfl ?_
                                      refine gi_cge (tgt := 316) hx hb dX11_load_296 (by decide) (by omega) (by decide) (fun c_36 => ?_) (fun c_36 => ?_)
                                      · refine lv_iinc (v := iI (x2 + 1)) (lv' := [(2, .int (iI (x2 + 1))), (0, .ref (ad 0)), (1, .int (iI a1)), (3, .int (iI x3))]) hx hb dX11_load_316 hl (k := 2) rfl (by show iI _ + iI 1 = _; rw [iI_add]) (by decide) rfl (fun ls hl => ?_)
                                        refine lv_goto (tgt := 271) hx hb dX11_load_319 (by decide) ?_
                                        exact ih_271 (x2 + 1) f_35 _ _ _ (by omega) (by omega) (by omega) hP hS (lv_sub hl [1, 2, 0] rfl)
                                      · refine lv_aload_n hx hb dX11_load_299 rfl (lv_at hl 0 rfl) ?_
                                        refine mdG_zones C hP mF_X11_76 dX11_load_300 ?_
                                        refine lv_iconst (v := iI 3) hx hb dX11_load_303 rfl ?_
                                        refine lv_iload_n hx hb dX11_load_304 rfl (lv_at hl 2 rfl) ?_
                                        refine gi_mul (z := (3 * x2)) hx hb dX11_load_305 rfl ?_
                                        refine lv_iload_n hx hb dX11_load_306 rfl (lv_at hl 3 rfl) ?_
                                        refine gi_add (z := ((3 * x2) + x3)) hx hb dX11_load_307 rfl ?_
                                        refine lv_iconst (v := iI 0) hx hb dX11_load_308 rfl ?_
                                        refine mdS_zones (f1 := (va_up f_35 19 (u1 (f_35 19) ((3 * x2) + x3) 0))) C hP hD hS (by omega) (by omega) (by decide) rfl (Or.inl rfl) dX11_load_309 (fun H locs hP hS => ?_)
                                        refine lv_iinc (v := iI (x3 + 1)) (lv' := [(3, .int (iI (x3 + 1))), (0, .ref (ad 0)), (1, .int (iI a1)), (2, .int (iI x2))]) hx hb dX11_load_310 hl (k := 3) rfl (by show iI _ + iI 1 = _; rw [iI_add]) (by decide) rfl (fun ls hl => ?_)
                                        refine lv_goto (tgt := 294) hx hb dX11_load_313 (by decide) ?_
                                        exact ih_294 (x3 + 1) (va_up f_35 19 (u1 (f_35 19) ((3 * x2) + x3) 0)) _ _ _ (by omega) (by omega) (by omega) hP hS (lv_sub hl [1, 2, 3, 0] rfl)
                                  exact L_35 4 0 (va_up (va_up f_29 18 (u1 (f_29 18) x2 10)) 20 (u1 (f_29 20) x2 0)) _ _ _ (by omega) (by omega) (by omega) hP hS (lv_sub hl [1, 2, 3, 0] rfl)
                            exact L_29 21 0 (va_up (va_up (va_up (va_up f_5 9 (u1 (u1 (u1 (u1 (u1 (f_5 9) 0 (f_5 11 0)) 1 (f_5 11 1)) 2 (f_5 11 2)) 3 (f_5 11 3)) 4 (f_5 11 4))) 10 (u1 (u1 (u1 (u1 (u1 (f_5 10) 0 (f_5 12 0)) 1 (f_5 12 1)) 2 (f_5 12 2)) 3 (f_5 12 3)) 4 (f_5 12 4))) 13 (u1 (f_5 13) 0 (f_5 14 0))) 15 (u1 (f_5 15) 0 (f_5 16 0))) _ _ _ (by omega) (by omega) (by omega) hP hS (lv_sub hl [1, 2, 0] rfl)
                          · exfalso; omega
                      · exfalso; omega
          · exfalso; omega
        · exfalso; omega
    · refine lv_aload_n hx hb dX11_load_22 rfl (lv_at hl 0 rfl) ?_
      refine lv_iconst (v := iI 2) hx hb dX11_load_23 rfl ?_
      refine g_cv (As := [.int (iI 2)]) (rest := []) (n := 1) C hml (m_refuse l D k A ad hD (va_up (va_up v 1 0) 0 0) f g 2 (by decide)) mM_X11_295 mI_X11_refuse mE_X11_refuse mN_X11 mC_X11_refuse (by decide +kernel) 0 (ci := 11) rfl rfl hP hS (fun _ h => h) ⟨Nat.le_of_ble_eq_true rfl, Nat.le_of_ble_eq_true rfl⟩ ⟨Nat.zero_le _, Nat.zero_le _⟩ hl.1 rfl rfl (Nat.le_of_ble_eq_true rfl) dX11_load_24 (fun r_37 v_37 f_37 g_37 H locs hq_37 hP _ hS => ?_)
      obtain ⟨rfl, rfl, rfl, rfl⟩ := hq_37
      show W p l e (gRm 2 43) s m args below meth c _ _ 0 0 Q (F0 m 27 ls [.int (iI (-1))])
      have hP : gWd D (mdW k ad) (va_up (va_up v 1 0) 0 (2 : Int)) f g H := ⟨hP.1, (gR_up (gR_up ⟨hok.1, hok.2⟩ 1 (by decide)) 0 (by omega))⟩
      exact g_iret hQ C hr hlocks hP hS dX11_load_27 ⟨⟨_, rfl, (by first | omega | (split <;> omega))⟩, trivial, trivial, trivial⟩
