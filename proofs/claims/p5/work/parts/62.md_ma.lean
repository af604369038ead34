set_option maxHeartbeats 4000000 in
set_option maxRecDepth 100000 in
theorem m_X11_refuse (l : Launch) (D : va_G) (k : Nat → ClassId) (A : Nat → Prop) (ad : Nat → Nat) (hD : mdD A k ad) (v : gV) (f g : gF) (a1 : Int) (h_a1 : inR a1) (ha : 0 ≤ a1 ∧ a1 ≤ 10) : GM l D k A (mdT k ad) yX11_refuse cX11_refuse 2 (some .int) 0 0 [.ref (ad 0), .int (iI a1)] v f g (fun r v1 f1 g1 => r = some (.int (iI (-1))) ∧ (va_up v 0 a1) = v1 ∧ f = f1 ∧ g = g1) := by
  refine GM.of (by decide) (Nat.le_of_ble_eq_true rfl) ?_
  intro p e s m args below meth c Q ls hQ C hml hr hlocks hP hl
  have hx := C.1
  have hb := C.2.1
  have hok := hP.2
  have hS : va_S A s.heap s.heap [] := va_S.rf
  have hl : lv_has ls 2 [(0, .ref (ad 0)), (1, .int (iI a1))] := hl
  have hP : gWd D (mdT k ad) (va_up v 0 (v 0)) f g s.heap := by rw [va_id]; exact hP
  refine lv_aload_n hx hb dX11_refuse_0 rfl (lv_at hl 0 rfl) ?_
  refine lv_iload_n hx hb dX11_refuse_1 rfl (lv_at hl 1 rfl) ?_
  refine mdP_status (v1 := (va_up v 0 a1)) C hP hD hS mF_X11_149 (by omega) rfl (Or.inr (gR_up (V := mdV) (F := mdF) ⟨hok.1, hok.2⟩ 0 (show 0 ≤ a1 ∧ a1 ≤ 10 from by omega))) dX11_refuse_2 (fun H locs hP hS => ?_)
  refine lv_iconst (v := iI (-1)) hx hb dX11_refuse_5 rfl ?_
  exact g_iret hQ C hr hlocks hP hS dX11_refuse_6 ⟨rfl, rfl, rfl, rfl⟩

set_option maxHeartbeats 4000000 in
set_option maxRecDepth 100000 in
theorem m_X11_no (l : Launch) (D : va_G) (k : Nat → ClassId) (A : Nat → Prop) (ad : Nat → Nat) (hD : mdD A k ad) (v : gV) (f g : gF) (a1 : Int) (h_a1 : inR a1) (ha : 0 ≤ a1 ∧ a1 ≤ 10) : GM l D k A (mdT k ad) yX11_no cX11_no 2 (some .boolean) 0 0 [.ref (ad 0), .int (iI a1)] v f g (fun r v1 f1 g1 => r = some (.int (iI 0)) ∧ (va_up v 0 a1) = v1 ∧ f = f1 ∧ g = g1) := by
  refine GM.of (by decide) (Nat.le_of_ble_eq_true rfl) ?_
  intro p e s m args below meth c Q ls hQ C hml hr hlocks hP hl
  have hx := C.1
  have hb := C.2.1
  have hok := hP.2
  have hS : va_S A s.heap s.heap [] := va_S.rf
  have hl : lv_has ls 2 [(0, .ref (ad 0)), (1, .int (iI a1))] := hl
  have hP : gWd D (mdT k ad) (va_up v 0 (v 0)) f g s.heap := by rw [va_id]; exact hP
  refine lv_aload_n hx hb dX11_no_0 rfl (lv_at hl 0 rfl) ?_
  refine lv_iload_n hx hb dX11_no_1 rfl (lv_at hl 1 rfl) ?_
  refine mdP_status (v1 := (va_up v 0 a1)) C hP hD hS mF_X11_149 (by omega) rfl (Or.inr (gR_up (V := mdV) (F := mdF) ⟨hok.1, hok.2⟩ 0 (show 0 ≤ a1 ∧ a1 ≤ 10 from by omega))) dX11_no_2 (fun H locs hP hS => ?_)
  refine lv_iconst (v := iI 0) hx hb dX11_no_5 rfl ?_
  exact g_zret hQ C hr hlocks (by decide) hP hS dX11_no_6 ⟨rfl, rfl, rfl, rfl⟩

set_option maxHeartbeats 4000000 in
set_option maxRecDepth 100000 in
theorem m_X11_status (l : Launch) (D : va_G) (k : Nat → ClassId) (A : Nat → Prop) (ad : Nat → Nat) (hD : mdD A k ad) (v : gV) (f g : gF) : GM l D k A (mdT k ad) yX11_status cX11_status 1 (some .int) 0 0 [.ref (ad 0)] v f g (fun r v1 f1 g1 => ∃ (z : Int), r = some (.int (iI z)) ∧ (va_up v 1 0) = v1 ∧ f = f1 ∧ g = g1 ∧ (0 ≤ z ∧ z ≤ 10)) := by
  refine GM.of (by decide) (Nat.le_of_ble_eq_true rfl) ?_
  intro p e s m args below meth c Q ls hQ C hml hr hlocks hP hl
  have hx := C.1
  have hb := C.2.1
  have hok := hP.2
  have hS : va_S A s.heap s.heap [] := va_S.rf
  have hl : lv_has ls 1 [(0, .ref (ad 0))] := hl
  have hP : gWd D (mdT k ad) (va_up v 1 (v 1)) f g s.heap := by rw [va_id]; exact hP
  refine lv_aload_n hx hb dX11_status_0 rfl (lv_at hl 0 rfl) ?_
  refine lv_iconst (v := iI 0) hx hb dX11_status_1 rfl ?_
  refine mdP_thrown (v1 := (va_up v 1 0)) C hP hD hS mF_X11_146 (by decide) rfl (Or.inr (gR_up (V := mdV) (F := mdF) ⟨hok.1, hok.2⟩ 1 (show 0 ≤ 0 ∧ 0 ≤ 0 from by decide))) dX11_status_2 (fun H locs hP hS => ?_)
  refine lv_aload_n hx hb dX11_status_5 rfl (lv_at hl 0 rfl) ?_
  refine mdG_status C hP mF_X11_149 dX11_status_6 ?_
  show W p l e (gRm 0 0) s m args below meth c _ _ 0 0 Q (F0 m 9 ls [.int (iI (v 0))])
  have r_1 : 0 ≤ (v 0) ∧ (v 0) ≤ 10 := hok.1 0
  exact g_iret hQ C hr hlocks hP hS dX11_status_9 ⟨(v 0), rfl, rfl, rfl, rfl, (by first | omega | (split <;> omega))⟩

set_option maxHeartbeats 4000000 in
set_option maxRecDepth 100000 in
theorem m_X11_isLetter (l : Launch) (D : va_G) (k : Nat → ClassId) (A : Nat → Prop) (ad : Nat → Nat) (hD : mdD A k ad) (v : gV) (f g : gF) (a1 : Int) (h_a1 : inR a1) : GM l D k A (mdT k ad) yX11_isLetter cX11_isLetter 1 (some .boolean) 0 0 [.int (iI a1)] v f g (fun r v1 f1 g1 => ∃ (z : Int), r = some (.int (iI z)) ∧ v = v1 ∧ f = f1 ∧ g = g1 ∧ (z = (if 97 ≤ a1 ∧ a1 ≤ 122 then 1 else 0))) := by
  refine GM.of (by decide) (Nat.le_of_ble_eq_true rfl) ?_
  intro p e s m args below meth c Q ls hQ C hml hr hlocks hP hl
  have hx := C.1
  have hb := C.2.1
  have hok := hP.2
  have hS : va_S A s.heap s.heap [] := va_S.rf
  have hl : lv_has ls 1 [(0, .int (iI a1))] := hl
  refine lv_iload_n hx hb dX11_isLetter_0 rfl (lv_at hl 0 rfl) ?_
  refine lv_bipush (v := iI 97) hx hb dX11_isLetter_1 (by decide) ?_
  refine gi_clt (tgt := 16) hx hb dX11_isLetter_3 (by decide) (by omega) (by decide) (fun c_1 => ?_) (fun c_1 => ?_)
  · refine lv_iconst (v := iI 0) hx hb dX11_isLetter_16 rfl ?_
    exact g_zret hQ C hr hlocks (by decide) hP hS dX11_isLetter_17 ⟨0, rfl, rfl, rfl, rfl, (by first | omega | (split <;> omega))⟩
  · refine lv_iload_n hx hb dX11_isLetter_6 rfl (lv_at hl 0 rfl) ?_
    refine lv_bipush (v := iI 122) hx hb dX11_isLetter_7 (by decide) ?_
    refine gi_cgt (tgt := 16) hx hb dX11_isLetter_9 (by decide) (by omega) (by decide) (fun c_2 => ?_) (fun c_2 => ?_)
    · refine lv_iconst (v := iI 0) hx hb dX11_isLetter_16 rfl ?_
      exact g_zret hQ C hr hlocks (by decide) hP hS dX11_isLetter_17 ⟨0, rfl, rfl, rfl, rfl, (by first | omega | (split <;> omega))⟩
    · refine lv_iconst (v := iI 1) hx hb dX11_isLetter_12 rfl ?_
      refine lv_goto (tgt := 17) hx hb dX11_isLetter_13 (by decide) ?_
      exact g_zret hQ C hr hlocks (by decide) hP hS dX11_isLetter_17 ⟨1, rfl, rfl, rfl, rfl, (by first | omega | (split <;> omega))⟩

set_option maxHeartbeats 4000000 in
set_option maxRecDepth 100000 in
theorem m_X11_isDigit (l : Launch) (D : va_G) (k : Nat → ClassId) (A : Nat → Prop) (ad : Nat → Nat) (hD : mdD A k ad) (v : gV) (f g : gF) (a1 : Int) (h_a1 : inR a1) : GM l D k A (mdT k ad) yX11_isDigit cX11_isDigit 1 (some .boolean) 0 0 [.int (iI a1)] v f g (fun r v1 f1 g1 => ∃ (z : Int), r = some (.int (iI z)) ∧ v = v1 ∧ f = f1 ∧ g = g1 ∧ (z = (if 48 ≤ a1 ∧ a1 ≤ 57 then 1 else 0))) := by
  refine GM.of (by decide) (Nat.le_of_ble_eq_true rfl) ?_
  intro p e s m args below meth c Q ls hQ C hml hr hlocks hP hl
  have hx := C.1
  have hb := C.2.1
  have hok := hP.2
  have hS : va_S A s.heap s.heap [] := va_S.rf
  have hl : lv_has ls 1 [(0, .int (iI a1))] := hl
  refine lv_iload_n hx hb dX11_isDigit_0 rfl (lv_at hl 0 rfl) ?_
  refine lv_bipush (v := iI 48) hx hb dX11_isDigit_1 (by decide) ?_
  refine gi_clt (tgt := 16) hx hb dX11_isDigit_3 (by decide) (by omega) (by decide) (fun c_1 => ?_) (fun c_1 => ?_)
  · refine lv_iconst (v := iI 0) hx hb dX11_isDigit_16 rfl ?_
    exact g_zret hQ C hr hlocks (by decide) hP hS dX11_isDigit_17 ⟨0, rfl, rfl, rfl, rfl, (by first | omega | (split <;> omega))⟩
  · refine lv_iload_n hx hb dX11_isDigit_6 rfl (lv_at hl 0 rfl) ?_
    refine lv_bipush (v := iI 57) hx hb dX11_isDigit_7 (by decide) ?_
    refine gi_cgt (tgt := 16) hx hb dX11_isDigit_9 (by decide) (by omega) (by decide) (fun c_2 => ?_) (fun c_2 => ?_)
    · refine lv_iconst (v := iI 0) hx hb dX11_isDigit_16 rfl ?_
      exact g_zret hQ C hr hlocks (by decide) hP hS dX11_isDigit_17 ⟨0, rfl, rfl, rfl, rfl, (by first | omega | (split <;> omega))⟩
    · refine lv_iconst (v := iI 1) hx hb dX11_isDigit_12 rfl ?_
      refine lv_goto (tgt := 17) hx hb dX11_isDigit_13 (by decide) ?_
      exact g_zret hQ C hr hlocks (by decide) hP hS dX11_isDigit_17 ⟨1, rfl, rfl, rfl, rfl, (by first | omega | (split <;> omega))⟩

set_option maxHeartbeats 4000000 in
set_option maxRecDepth 100000 in
theorem m_X11_isDay (l : Launch) (D : va_G) (k : Nat → ClassId) (A : Nat → Prop) (ad : Nat → Nat) (hD : mdD A k ad) (v : gV) (f g : gF) (a1 : Int) (h_a1 : inR a1) : GM l D k A (mdT k ad) yX11_isDay cX11_isDay 1 (some .boolean) 0 0 [.int (iI a1)] v f g (fun r v1 f1 g1 => ∃ (z : Int), r = some (.int (iI z)) ∧ v = v1 ∧ f = f1 ∧ g = g1 ∧ (z = (if 0 ≤ a1 ∧ a1 ≤ 999 then 1 else 0))) := by
  refine GM.of (by decide) (Nat.le_of_ble_eq_true rfl) ?_
  intro p e s m args below meth c Q ls hQ C hml hr hlocks hP hl
  have hx := C.1
  have hb := C.2.1
  have hok := hP.2
  have hS : va_S A s.heap s.heap [] := va_S.rf
  have hl : lv_has ls 1 [(0, .int (iI a1))] := hl
  refine lv_iload_n hx hb dX11_isDay_0 rfl (lv_at hl 0 rfl) ?_
  refine gi_zlt (tgt := 15) hx hb dX11_isDay_1 (by decide) (by omega) (fun c_1 => ?_) (fun c_1 => ?_)
  · refine lv_iconst (v := iI 0) hx hb dX11_isDay_15 rfl ?_
    exact g_zret hQ C hr hlocks (by decide) hP hS dX11_isDay_16 ⟨0, rfl, rfl, rfl, rfl, (by first | omega | (split <;> omega))⟩
  · refine lv_iload_n hx hb dX11_isDay_4 rfl (lv_at hl 0 rfl) ?_
    refine lv_sipush (v := iI 999) hx hb dX11_isDay_5 (by decide) ?_
    refine gi_cgt (tgt := 15) hx hb dX11_isDay_8 (by decide) (by omega) (by decide) (fun c_2 => ?_) (fun c_2 => ?_)
    · refine lv_iconst (v := iI 0) hx hb dX11_isDay_15 rfl ?_
      exact g_zret hQ C hr hlocks (by decide) hP hS dX11_isDay_16 ⟨0, rfl, rfl, rfl, rfl, (by first | omega | (split <;> omega))⟩
    · refine lv_iconst (v := iI 1) hx hb dX11_isDay_11 rfl ?_
      refine lv_goto (tgt := 16) hx hb dX11_isDay_12 (by decide) ?_
      exact g_zret hQ C hr hlocks (by decide) hP hS dX11_isDay_16 ⟨1, rfl, rfl, rfl, rfl, (by first | omega | (split <;> omega))⟩

set_option maxHeartbeats 4000000 in
set_option maxRecDepth 100000 in
theorem m_X11_isRound (l : Launch) (D : va_G) (k : Nat → ClassId) (A : Nat → Prop) (ad : Nat → Nat) (hD : mdD A k ad) (v : gV) (f g : gF) (a1 : Int) (h_a1 : inR a1) : GM l D k A (mdT k ad) yX11_isRound cX11_isRound 2 (some .boolean) 0 0 [.ref (ad 0), .int (iI a1)] v f g (fun r v1 f1 g1 => ∃ (z : Int), r = some (.int (iI z)) ∧ v = v1 ∧ f = f1 ∧ g = g1 ∧ (z = (if 0 ≤ a1 ∧ a1 < (v 12) then 1 else 0))) := by
  refine GM.of (by decide) (Nat.le_of_ble_eq_true rfl) ?_
  intro p e s m args below meth c Q ls hQ C hml hr hlocks hP hl
  have hx := C.1
  have hb := C.2.1
  have hok := hP.2
  have hS : va_S A s.heap s.heap [] := va_S.rf
  have hl : lv_has ls 2 [(0, .ref (ad 0)), (1, .int (iI a1))] := hl
  refine lv_iload_n hx hb dX11_isRound_0 rfl (lv_at hl 1 rfl) ?_
  refine gi_zlt (tgt := 16) hx hb dX11_isRound_1 (by decide) (by omega) (fun c_1 => ?_) (fun c_1 => ?_)
  · refine lv_iconst (v := iI 0) hx hb dX11_isRound_16 rfl ?_
    exact g_zret hQ C hr hlocks (by decide) hP hS dX11_isRound_17 ⟨0, rfl, rfl, rfl, rfl, (by first | omega | (split <;> omega))⟩
  · refine lv_iload_n hx hb dX11_isRound_4 rfl (lv_at hl 1 rfl) ?_
    refine lv_aload_n hx hb dX11_isRound_5 rfl (lv_at hl 0 rfl) ?_
    refine mdG_rounds C hP mF_X11_301 dX11_isRound_6 ?_
    have r_2 : 0 ≤ (v 12) ∧ (v 12) ≤ 4 := hok.1 12
    refine gi_cge (tgt := 16) hx hb dX11_isRound_9 (by decide) (by omega) (by omega) (fun c_3 => ?_) (fun c_3 => ?_)
    · refine lv_iconst (v := iI 0) hx hb dX11_isRound_16 rfl ?_
      exact g_zret hQ C hr hlocks (by decide) hP hS dX11_isRound_17 ⟨0, rfl, rfl, rfl, rfl, (by first | omega | (split <;> omega))⟩
    · refine lv_iconst (v := iI 1) hx hb dX11_isRound_12 rfl ?_
      refine lv_goto (tgt := 17) hx hb dX11_isRound_13 (by decide) ?_
      exact g_zret hQ C hr hlocks (by decide) hP hS dX11_isRound_17 ⟨1, rfl, rfl, rfl, rfl, (by first | omega | (split <;> omega))⟩

set_option maxHeartbeats 4000000 in
set_option maxRecDepth 100000 in
theorem m_X11_isRoute (l : Launch) (D : va_G) (k : Nat → ClassId) (A : Nat → Prop) (ad : Nat → Nat) (hD : mdD A k ad) (v : gV) (f g : gF) (a1 : Int) (a2 : Int) (h_a1 : inR a1) (h_a2 : inR a2) : GM l D k A (mdT k ad) yX11_isRoute cX11_isRoute 3 (some .boolean) 1 21 [.ref (ad 0), .int (iI a1), .int (iI a2)] v f g (fun r v1 f1 g1 => ∃ (z : Int), r = some (.int (iI z)) ∧ v = v1 ∧ f = f1 ∧ g = g1 ∧ (z = (if (0 ≤ a1 ∧ a1 < (v 12)) ∧ 0 ≤ a2 ∧ a2 < (f 1) a1 then 1 else 0)) ∧ (z = 1 → a2 ≤ 4 ∧ a1 ≤ 3)) := by
  refine GM.of (by decide) (Nat.le_of_ble_eq_true rfl) ?_
  intro p e s m args below meth c Q ls hQ C hml hr hlocks hP hl
  have hx := C.1
  have hb := C.2.1
  have hok := hP.2
  have hS : va_S A s.heap s.heap [] := va_S.rf
  have hl : lv_has ls 3 [(0, .ref (ad 0)), (1, .int (iI a1)), (2, .int (iI a2))] := hl
  have r_1 : 0 ≤ (v 12) ∧ (v 12) ≤ 4 := hok.1 12
  refine lv_aload_n hx hb dX11_isRoute_0 rfl (lv_at hl 0 rfl) ?_
  refine lv_iload_n hx hb dX11_isRoute_1 rfl (lv_at hl 1 rfl) ?_
  refine g_cv (As := [.int (iI a1)]) (rest := []) (n := 1) C hml (m_X11_isRound l D k A ad hD v f g a1 (by omega)) mM_X11_325 mI_X11_isRound mE_X11_isRound mN_X11 mC_X11_isRound (by decide +kernel) 0 (ci := 11) rfl rfl hP hS (fun _ h => h) ⟨Nat.le_of_ble_eq_true rfl, Nat.le_of_ble_eq_true rfl⟩ ⟨Nat.zero_le _, Nat.zero_le _⟩ hl.1 rfl rfl (Nat.le_of_ble_eq_true rfl) dX11_isRoute_2 (fun r_2 v_2 f_2 g_2 H locs hq_2 hP _ hS => ?_)
  obtain ⟨z_2, rfl, rfl, rfl, rfl, p0_2⟩ := hq_2
  show W p l e (gRm 1 21) s m args below meth c _ _ 0 0 Q (F0 m 5 ls [.int (iI z_2)])
  replace p0_2 : z_2 = (if 0 ≤ a1 ∧ a1 < (v 12) then 1 else 0) := p0_2
  have w_2 := gif (P := 0 ≤ a1 ∧ a1 < (v 12)) p0_2
  have hz_2 : inR z_2 := (by first | omega | (rw [p0_2]; split <;> omega))
  refine gi_zeq (tgt := 26) hx hb dX11_isRoute_5 (by decide) (by omega) (fun c_3 => ?_) (fun c_3 => ?_)
  · refine lv_iconst (v := iI 0) hx hb dX11_isRoute_26 rfl ?_
    exact g_zret hQ C hr hlocks (by decide) hP hS dX11_isRoute_27 ⟨0, rfl, rfl, rfl, rfl, (by first | omega | (split <;> omega)), (by first | omega | (split <;> omega))⟩
  · refine lv_iload_n hx hb dX11_isRoute_8 rfl (lv_at hl 2 rfl) ?_
    refine gi_zlt (tgt := 26) hx hb dX11_isRoute_9 (by decide) (by omega) (fun c_4 => ?_) (fun c_4 => ?_)
    · refine lv_iconst (v := iI 0) hx hb dX11_isRoute_26 rfl ?_
      exact g_zret hQ C hr hlocks (by decide) hP hS dX11_isRoute_27 ⟨0, rfl, rfl, rfl, rfl, (by first | omega | (split <;> omega)), (by first | omega | (split <;> omega))⟩
    · refine lv_iload_n hx hb dX11_isRoute_12 rfl (lv_at hl 2 rfl) ?_
      refine lv_aload_n hx hb dX11_isRoute_13 rfl (lv_at hl 0 rfl) ?_
      refine mdG_routes C hP mF_X11_20 dX11_isRoute_14 ?_
      refine lv_iload_n hx hb dX11_isRoute_17 rfl (lv_at hl 1 rfl) ?_
      refine mdL_routes C hP (by omega) (by omega) dX11_isRoute_18 ?_
      have r_5 : 0 ≤ (f 1 a1) ∧ (f 1 a1) ≤ 5 := hP.2.2 1 a1
      refine gi_cge (tgt := 26) hx hb dX11_isRoute_19 (by decide) (by omega) (by omega) (fun c_6 => ?_) (fun c_6 => ?_)
      · refine lv_iconst (v := iI 0) hx hb dX11_isRoute_26 rfl ?_
        exact g_zret hQ C hr hlocks (by decide) hP hS dX11_isRoute_27 ⟨0, rfl, rfl, rfl, rfl, (by first | omega | (split <;> omega)), (by first | omega | (split <;> omega))⟩
      · refine lv_iconst (v := iI 1) hx hb dX11_isRoute_22 rfl ?_
        refine lv_goto (tgt := 27) hx hb dX11_isRoute_23 (by decide) ?_
        exact g_zret hQ C hr hlocks (by decide) hP hS dX11_isRoute_27 ⟨1, rfl, rfl, rfl, rfl, (by first | omega | (split <;> omega)), (by first | omega | (split <;> omega))⟩

set_option maxHeartbeats 4000000 in
set_option maxRecDepth 100000 in
theorem m_X11_isClimber (l : Launch) (D : va_G) (k : Nat → ClassId) (A : Nat → Prop) (ad : Nat → Nat) (hD : mdD A k ad) (v : gV) (f g : gF) (a1 : Int) (h_a1 : inR a1) : GM l D k A (mdT k ad) yX11_isClimber cX11_isClimber 2 (some .boolean) 0 0 [.ref (ad 0), .int (iI a1)] v f g (fun r v1 f1 g1 => ∃ (z : Int), r = some (.int (iI z)) ∧ v = v1 ∧ f = f1 ∧ g = g1 ∧ (z = (if 0 ≤ a1 ∧ a1 < (v 22) then 1 else 0)) ∧ (z = 1 → 0 ≤ a1 ∧ a1 ≤ 15)) := by
  refine GM.of (by decide) (Nat.le_of_ble_eq_true rfl) ?_
  intro p e s m args below meth c Q ls hQ C hml hr hlocks hP hl
  have hx := C.1
  have hb := C.2.1
  have hok := hP.2
  have hS : va_S A s.heap s.heap [] := va_S.rf
  have hl : lv_has ls 2 [(0, .ref (ad 0)), (1, .int (iI a1))] := hl
  refine lv_iload_n hx hb dX11_isClimber_0 rfl (lv_at hl 1 rfl) ?_
  refine gi_zlt (tgt := 16) hx hb dX11_isClimber_1 (by decide) (by omega) (fun c_1 => ?_) (fun c_1 => ?_)
  · refine lv_iconst (v := iI 0) hx hb dX11_isClimber_16 rfl ?_
    exact g_zret hQ C hr hlocks (by decide) hP hS dX11_isClimber_17 ⟨0, rfl, rfl, rfl, rfl, (by first | omega | (split <;> omega)), (by first | omega | (split <;> omega))⟩
  · refine lv_iload_n hx hb dX11_isClimber_4 rfl (lv_at hl 1 rfl) ?_
    refine lv_aload_n hx hb dX11_isClimber_5 rfl (lv_at hl 0 rfl) ?_
    refine mdG_climbers C hP mF_X11_313 dX11_isClimber_6 ?_
    have r_2 : 0 ≤ (v 22) ∧ (v 22) ≤ 16 := hok.1 22
    refine gi_cge (tgt := 16) hx hb dX11_isClimber_9 (by decide) (by omega) (by omega) (fun c_3 => ?_) (fun c_3 => ?_)
    · refine lv_iconst (v := iI 0) hx hb dX11_isClimber_16 rfl ?_
      exact g_zret hQ C hr hlocks (by decide) hP hS dX11_isClimber_17 ⟨0, rfl, rfl, rfl, rfl, (by first | omega | (split <;> omega)), (by first | omega | (split <;> omega))⟩
    · refine lv_iconst (v := iI 1) hx hb dX11_isClimber_12 rfl ?_
      refine lv_goto (tgt := 17) hx hb dX11_isClimber_13 (by decide) ?_
      exact g_zret hQ C hr hlocks (by decide) hP hS dX11_isClimber_17 ⟨1, rfl, rfl, rfl, rfl, (by first | omega | (split <;> omega)), (by first | omega | (split <;> omega))⟩

set_option maxHeartbeats 4000000 in
set_option maxRecDepth 100000 in
theorem m_X11_isIn (l : Launch) (D : va_G) (k : Nat → ClassId) (A : Nat → Prop) (ad : Nat → Nat) (hD : mdD A k ad) (v : gV) (f g : gF) (a1 : Int) (a2 : Int) (h_a1 : inR a1) (h_a2 : inR a2) : GM l D k A (mdT k ad) yX11_isIn cX11_isIn 3 (some .boolean) 1 21 [.ref (ad 0), .int (iI a1), .int (iI a2)] v f g (fun r v1 f1 g1 => ∃ (z : Int), r = some (.int (iI z)) ∧ v = v1 ∧ f = f1 ∧ g = g1 ∧ (z = (if (0 ≤ a1 ∧ a1 < (v 12)) ∧ (0 ≤ a2 ∧ a2 < (v 22)) ∧ (f 21) (16 * a1 + a2) ≠ 0 then 1 else 0)) ∧ (z = 1 → (0 ≤ a1 ∧ a1 ≤ 3) ∧ (0 ≤ a2 ∧ a2 ≤ 15))) := by
  refine GM.of (by decide) (Nat.le_of_ble_eq_true rfl) ?_
  intro p e s m args below meth c Q ls hQ C hml hr hlocks hP hl
  have hx := C.1
  have hb := C.2.1
  have hok := hP.2
  have hS : va_S A s.heap s.heap [] := va_S.rf
  have hl : lv_has ls 3 [(0, .ref (ad 0)), (1, .int (iI a1)), (2, .int (iI a2))] := hl
  have r_1 : 0 ≤ (v 12) ∧ (v 12) ≤ 4 := hok.1 12
  have r_2 : 0 ≤ (v 22) ∧ (v 22) ≤ 16 := hok.1 22
  refine lv_aload_n hx hb dX11_isIn_0 rfl (lv_at hl 0 rfl) ?_
  refine lv_iload_n hx hb dX11_isIn_1 rfl (lv_at hl 1 rfl) ?_
  refine g_cv (As := [.int (iI a1)]) (rest := []) (n := 1) C hml (m_X11_isRound l D k A ad hD v f g a1 (by omega)) mM_X11_325 mI_X11_isRound mE_X11_isRound mN_X11 mC_X11_isRound (by decide +kernel) 0 (ci := 11) rfl rfl hP hS (fun _ h => h) ⟨Nat.le_of_ble_eq_true rfl, Nat.le_of_ble_eq_true rfl⟩ ⟨Nat.zero_le _, Nat.zero_le _⟩ hl.1 rfl rfl (Nat.le_of_ble_eq_true rfl) dX11_isIn_2 (fun r_3 v_3 f_3 g_3 H locs hq_3 hP _ hS => ?_)
  obtain ⟨z_3, rfl, rfl, rfl, rfl, p0_3⟩ := hq_3
  show W p l e (gRm 1 21) s m args below meth c _ _ 0 0 Q (F0 m 5 ls [.int (iI z_3)])
  replace p0_3 : z_3 = (if 0 ≤ a1 ∧ a1 < (v 12) then 1 else 0) := p0_3
  have w_3 := gif (P := 0 ≤ a1 ∧ a1 < (v 12)) p0_3
  have hz_3 : inR z_3 := (by first | omega | (rw [p0_3]; split <;> omega))
  refine gi_zeq (tgt := 34) hx hb dX11_isIn_5 (by decide) (by omega) (fun c_4 => ?_) (fun c_4 => ?_)
  · refine lv_iconst (v := iI 0) hx hb dX11_isIn_34 rfl ?_
    exact g_zret hQ C hr hlocks (by decide) hP hS dX11_isIn_35 ⟨0, rfl, rfl, rfl, rfl, (by first | omega | (split <;> omega)), (by first | omega | (split <;> omega))⟩
  · refine lv_aload_n hx hb dX11_isIn_8 rfl (lv_at hl 0 rfl) ?_
    refine lv_iload_n hx hb dX11_isIn_9 rfl (lv_at hl 2 rfl) ?_
    refine g_cv (As := [.int (iI a2)]) (rest := []) (n := 1) C hml (m_X11_isClimber l D k A ad hD v f g a2 (by omega)) mM_X11_349 mI_X11_isClimber mE_X11_isClimber mN_X11 mC_X11_isClimber (by decide +kernel) 0 (ci := 11) rfl rfl hP hS (fun _ h => h) ⟨Nat.le_of_ble_eq_true rfl, Nat.le_of_ble_eq_true rfl⟩ ⟨Nat.zero_le _, Nat.zero_le _⟩ hl.1 rfl rfl (Nat.le_of_ble_eq_true rfl) dX11_isIn_10 (fun r_5 v_5 f_5 g_5 H locs hq_5 hP _ hS => ?_)
    obtain ⟨z_5, rfl, rfl, rfl, rfl, p0_5, p1_5⟩ := hq_5
    show W p l e (gRm 1 21) s m args below meth c _ _ 0 0 Q (F0 m 13 ls [.int (iI z_5)])
    replace p0_5 : z_5 = (if 0 ≤ a2 ∧ a2 < (v 22) then 1 else 0) := p0_5
    have w_5 := gif (P := 0 ≤ a2 ∧ a2 < (v 22)) p0_5
    replace p1_5 : z_5 = 1 → 0 ≤ a2 ∧ a2 ≤ 15 := p1_5
    have hz_5 : inR z_5 := (by first | omega | (rw [p0_5]; split <;> omega))
    refine gi_zeq (tgt := 34) hx hb dX11_isIn_13 (by decide) (by omega) (fun c_6 => ?_) (fun c_6 => ?_)
    · refine lv_iconst (v := iI 0) hx hb dX11_isIn_34 rfl ?_
      exact g_zret hQ C hr hlocks (by decide) hP hS dX11_isIn_35 ⟨0, rfl, rfl, rfl, rfl, (by first | omega | (split <;> omega)), (by first | omega | (split <;> omega))⟩
    · refine lv_aload_n hx hb dX11_isIn_16 rfl (lv_at hl 0 rfl) ?_
      refine mdG_isIn C hP mF_X11_85 dX11_isIn_17 ?_
      refine lv_bipush (v := iI 16) hx hb dX11_isIn_20 (by decide) ?_
      refine lv_iload_n hx hb dX11_isIn_22 rfl (lv_at hl 1 rfl) ?_
      refine gi_mul (z := (16 * a1)) hx hb dX11_isIn_23 rfl ?_
      refine lv_iload_n hx hb dX11_isIn_24 rfl (lv_at hl 2 rfl) ?_
      refine gi_add (z := ((16 * a1) + a2)) hx hb dX11_isIn_25 rfl ?_
      refine mdL_isIn C hP (by omega) (by omega) dX11_isIn_26 ?_
      have r_7 : 0 ≤ (f 21 ((16 * a1) + a2)) ∧ (f 21 ((16 * a1) + a2)) ≤ 1 := hP.2.2 21 ((16 * a1) + a2)
      refine gi_zeq (tgt := 34) hx hb dX11_isIn_27 (by decide) (by omega) (fun c_8 => ?_) (fun c_8 => ?_)
      · refine lv_iconst (v := iI 0) hx hb dX11_isIn_34 rfl ?_
        exact g_zret hQ C hr hlocks (by decide) hP hS dX11_isIn_35 ⟨0, rfl, rfl, rfl, rfl, (by first | omega | (split <;> omega)), (by first | omega | (split <;> omega))⟩
      · refine lv_iconst (v := iI 1) hx hb dX11_isIn_30 rfl ?_
        refine lv_goto (tgt := 35) hx hb dX11_isIn_31 (by decide) ?_
        exact g_zret hQ C hr hlocks (by decide) hP hS dX11_isIn_35 ⟨1, rfl, rfl, rfl, rfl, (by first | omega | (split <;> omega)), (by first | omega | (split <;> omega))⟩

set_option maxHeartbeats 4000000 in
set_option maxRecDepth 100000 in
theorem m_X11_at (l : Launch) (D : va_G) (k : Nat → ClassId) (A : Nat → Prop) (ad : Nat → Nat) (hD : mdD A k ad) (v : gV) (f g : gF) (a1 : Int) (a2 : Int) (h_a1 : inR a1) (h_a2 : inR a2) (h1 : 0 ≤ a1 ∧ a1 ≤ 3) (h2 : 0 ≤ a2 ∧ a2 ≤ 4) : GM l D k A (mdT k ad) yX11_at cX11_at 2 (some .int) 0 0 [.int (iI a1), .int (iI a2)] v f g (fun r v1 f1 g1 => ∃ (z : Int), r = some (.int (iI z)) ∧ v = v1 ∧ f = f1 ∧ g = g1 ∧ (z = (5 * a1 + a2))) := by
  refine GM.of (by decide) (Nat.le_of_ble_eq_true rfl) ?_
  intro p e s m args below meth c Q ls hQ C hml hr hlocks hP hl
  have hx := C.1
  have hb := C.2.1
  have hok := hP.2
  have hS : va_S A s.heap s.heap [] := va_S.rf
  have hl : lv_has ls 2 [(0, .int (iI a1)), (1, .int (iI a2))] := hl
  refine lv_iconst (v := iI 5) hx hb dX11_at_0 rfl ?_
  refine lv_iload_n hx hb dX11_at_1 rfl (lv_at hl 0 rfl) ?_
  refine gi_mul (z := (5 * a1)) hx hb dX11_at_2 rfl ?_
  refine lv_iload_n hx hb dX11_at_3 rfl (lv_at hl 1 rfl) ?_
  refine gi_add (z := ((5 * a1) + a2)) hx hb dX11_at_4 rfl ?_
  exact g_iret hQ C hr hlocks hP hS dX11_at_5 ⟨((5 * a1) + a2), rfl, rfl, rfl, rfl, (by first | omega | (split <;> omega))⟩

set_option maxHeartbeats 4000000 in
set_option maxRecDepth 100000 in
theorem m_X11_lay (l : Launch) (D : va_G) (k : Nat → ClassId) (A : Nat → Prop) (ad : Nat → Nat) (hD : mdD A k ad) (v : gV) (f g : gF) (a1 : Int) (B : Int → Int) (h_a1 : inR a1) (hB : ∀ k, (f 0) k % 256 = B k) (h1 : (v 2) ≤ 696) : GM l D k A (mdT k ad) yX11_lay cX11_lay 3 none 0 0 [.ref (ad 0), .int (iI a1)] v f g (fun r v1 f1 g1 => ∃ (a0_ : Int → Int), r = none ∧ (va_up v 2 ((v 2) + 4)) = v1 ∧ (va_up f 0 a0_) = f1 ∧ g = g1 ∧ (∀ k, a0_ k % 256 = bP B (v 2) a1 k)) := by
  refine GM.of (by decide) (Nat.le_of_ble_eq_true rfl) ?_
  intro p e s m args below meth c Q ls hQ C hml hr hlocks hP hl
  have hx := C.1
  have hb := C.2.1
  have hok := hP.2
  have hS : va_S A s.heap s.heap [] := va_S.rf
  have hl : lv_has ls 3 [(0, .ref (ad 0)), (1, .int (iI a1))] := hl
  have hP : gWd D (mdT k ad) (va_up v 2 (v 2)) (va_up f 0 (f 0)) g s.heap := by rw [va_id, va_id]; exact hP
  refine lv_iconst (v := iI 3) hx hb dX11_lay_0 rfl ?_
  refine lv_istore_n (lv' := [(2, .int (iI 3)), (0, .ref (ad 0)), (1, .int (iI a1))]) hx hb dX11_lay_1 rfl hl (by decide) rfl (fun ls hl => ?_)
  refine lv_iload_n hx hb dX11_lay_2 rfl (lv_at hl 0 rfl) ?_
  refine gi_zlt (tgt := 38) hx hb dX11_lay_3 (by decide) (by decide) (fun c_1 => ?_) (fun c_1 => ?_)
  · exfalso; omega
  · refine lv_aload_n hx hb dX11_lay_6 rfl (lv_at hl 1 rfl) ?_
    refine mdG_tape C hP mF_X11_7 dX11_lay_7 ?_
    refine lv_aload_n hx hb dX11_lay_10 rfl (lv_at hl 1 rfl) ?_
    refine mdG_taped C hP mF_X11_289 dX11_lay_11 ?_
    show W p l e (gRm 0 0) s m args below meth c _ _ 0 0 Q (F0 m 14 ls [.int (iI (v 2)), .ref (ad 1)])
    have r_2 : 0 ≤ (v 2) ∧ (v 2) ≤ 700 := hok.1 2
    refine lv_iload_n hx hb dX11_lay_14 rfl (lv_at hl 2 rfl) ?_
    refine lv_bipush (v := iI 8) hx hb dX11_lay_15 (by decide) ?_
    refine lv_iload_n hx hb dX11_lay_17 rfl (lv_at hl 0 rfl) ?_
    refine gi_mul (z := 24) hx hb dX11_lay_18 (by decide) ?_
    obtain ⟨x_3, ex_3, hx_3⟩ : ∃ z : Int, iI a1 >>> (iI 24 &&& 31) = iI z ∧ inR z := ⟨(iI a1 >>> (iI 24 &&& 31)).toInt, (iI_of _).symm, iI_rng _⟩
    have ux_3 := gSr24 (by omega) hx_3 ex_3
    refine gi_shr (z := x_3) hx hb dX11_lay_19 ex_3 ?_
    obtain ⟨x_4, ex_4, hx_4⟩ : ∃ z : Int, (iI x_3).toInt8.toInt32 = iI z ∧ inR z := ⟨((iI x_3).toInt8.toInt32).toInt, (iI_of _).symm, iI_rng _⟩
    have ux_4 := gB8m hx_3 hx_4 ex_4
    have qx_4 := gB8r ex_4
    refine gi_i2b (z := x_4) hx hb dX11_lay_20 ex_4 ?_
    refine mdS_tape (f1 := (va_up f 0 (u1 (f 0) (v 2) x_4))) C hP hD hS (by omega) (by omega) (by omega) (gB8 ex_4) rfl (Or.inr (gF_up (V := mdV) (F := mdF) (gR_up (V := mdV) (F := mdF) ⟨hok.1, hok.2⟩ 2 (hP.2.1 2)) 0 (u1_rng (hP.2.2 0) (show (-128) ≤ x_4 ∧ x_4 ≤ 127 from (by omega))))) dX11_lay_21 (fun H locs hP hS => ?_)
    refine lv_aload_n hx hb dX11_lay_22 rfl (lv_at hl 1 rfl) ?_
    refine lv_dup hx hb dX11_lay_23 rfl ?_
    refine mdG_taped C hP mF_X11_289 dX11_lay_24 ?_
    show W p l e (gRm 0 0) s m args below meth c _ _ 0 0 Q (F0 m 27 ls [.int (iI (v 2)), .ref (ad 0)])
    refine lv_iconst (v := iI 1) hx hb dX11_lay_27 rfl ?_
    refine gi_add (z := ((v 2) + 1)) hx hb dX11_lay_28 rfl ?_
    refine mdP_taped (v1 := (va_up v 2 ((v 2) + 1))) C hP hD hS mF_X11_289 (by omega) rfl (Or.inr (gF_up (V := mdV) (F := mdF) (gR_up (V := mdV) (F := mdF) ⟨hok.1, hok.2⟩ 2 (show 0 ≤ ((v 2) + 1) ∧ ((v 2) + 1) ≤ 700 from by omega)) 0 (hP.2.2 0))) dX11_lay_29 (fun H locs hP hS => ?_)
    refine lv_iinc (v := iI 2) (lv' := [(2, .int (iI 2)), (0, .ref (ad 0)), (1, .int (iI a1))]) hx hb dX11_lay_32 hl (k := 0) rfl (by show iI _ + iI (-1) = _; rw [iI_add]; congr 1) (by decide) rfl (fun ls hl => ?_)
    refine lv_goto (tgt := 2) hx hb dX11_lay_35 (by decide) ?_
    refine lv_iload_n hx hb dX11_lay_2 rfl (lv_at hl 0 rfl) ?_
    refine gi_zlt (tgt := 38) hx hb dX11_lay_3 (by decide) (by decide) (fun c_5 => ?_) (fun c_5 => ?_)
    · exfalso; omega
    · refine lv_aload_n hx hb dX11_lay_6 rfl (lv_at hl 1 rfl) ?_
      refine mdG_tape C hP mF_X11_7 dX11_lay_7 ?_
      refine lv_aload_n hx hb dX11_lay_10 rfl (lv_at hl 1 rfl) ?_
      refine mdG_taped C hP mF_X11_289 dX11_lay_11 ?_
      show W p l e (gRm 0 0) s m args below meth c _ _ 0 0 Q (F0 m 14 ls [.int (iI ((v 2) + 1)), .ref (ad 1)])
      have r_6 : 0 ≤ ((v 2) + 1) ∧ ((v 2) + 1) ≤ 700 := hP.2.1 2
      refine lv_iload_n hx hb dX11_lay_14 rfl (lv_at hl 2 rfl) ?_
      refine lv_bipush (v := iI 8) hx hb dX11_lay_15 (by decide) ?_
      refine lv_iload_n hx hb dX11_lay_17 rfl (lv_at hl 0 rfl) ?_
      refine gi_mul (z := 16) hx hb dX11_lay_18 (by decide) ?_
      obtain ⟨x_7, ex_7, hx_7⟩ : ∃ z : Int, iI a1 >>> (iI 16 &&& 31) = iI z ∧ inR z := ⟨(iI a1 >>> (iI 16 &&& 31)).toInt, (iI_of _).symm, iI_rng _⟩
      have ux_7 := gSr16 (by omega) hx_7 ex_7
      refine gi_shr (z := x_7) hx hb dX11_lay_19 ex_7 ?_
      obtain ⟨x_8, ex_8, hx_8⟩ : ∃ z : Int, (iI x_7).toInt8.toInt32 = iI z ∧ inR z := ⟨((iI x_7).toInt8.toInt32).toInt, (iI_of _).symm, iI_rng _⟩
      have ux_8 := gB8m hx_7 hx_8 ex_8
      have qx_8 := gB8r ex_8
      refine gi_i2b (z := x_8) hx hb dX11_lay_20 ex_8 ?_
      refine mdS_tape (f1 := (va_up f 0 (u1 (u1 (f 0) (v 2) x_4) ((v 2) + 1) x_8))) C hP hD hS (by omega) (by omega) (by omega) (gB8 ex_8) rfl (Or.inr (gF_up (V := mdV) (F := mdF) (gR_up (V := mdV) (F := mdF) ⟨hok.1, hok.2⟩ 2 (hP.2.1 2)) 0 (u1_rng (hP.2.2 0) (show (-128) ≤ x_8 ∧ x_8 ≤ 127 from (by omega))))) dX11_lay_21 (fun H locs hP hS => ?_)
      refine lv_aload_n hx hb dX11_lay_22 rfl (lv_at hl 1 rfl) ?_
      refine lv_dup hx hb dX11_lay_23 rfl ?_
      refine mdG_taped C hP mF_X11_289 dX11_lay_24 ?_
      show W p l e (gRm 0 0) s m args below meth c _ _ 0 0 Q (F0 m 27 ls [.int (iI ((v 2) + 1)), .ref (ad 0)])
      refine lv_iconst (v := iI 1) hx hb dX11_lay_27 rfl ?_
      refine gi_add (z := ((v 2) + 2)) hx hb dX11_lay_28 (by omega) ?_
      refine mdP_taped (v1 := (va_up v 2 ((v 2) + 2))) C hP hD hS mF_X11_289 (by omega) rfl (Or.inr (gF_up (V := mdV) (F := mdF) (gR_up (V := mdV) (F := mdF) ⟨hok.1, hok.2⟩ 2 (show 0 ≤ ((v 2) + 2) ∧ ((v 2) + 2) ≤ 700 from by omega)) 0 (hP.2.2 0))) dX11_lay_29 (fun H locs hP hS => ?_)
      refine lv_iinc (v := iI 1) (lv' := [(2, .int (iI 1)), (0, .ref (ad 0)), (1, .int (iI a1))]) hx hb dX11_lay_32 hl (k := 0) rfl (by show iI _ + iI (-1) = _; rw [iI_add]; congr 1) (by decide) rfl (fun ls hl => ?_)
      refine lv_goto (tgt := 2) hx hb dX11_lay_35 (by decide) ?_
      refine lv_iload_n hx hb dX11_lay_2 rfl (lv_at hl 0 rfl) ?_
      refine gi_zlt (tgt := 38) hx hb dX11_lay_3 (by decide) (by decide) (fun c_9 => ?_) (fun c_9 => ?_)
      · exfalso; omega
      · refine lv_aload_n hx hb dX11_lay_6 rfl (lv_at hl 1 rfl) ?_
        refine mdG_tape C hP mF_X11_7 dX11_lay_7 ?_
        refine lv_aload_n hx hb dX11_lay_10 rfl (lv_at hl 1 rfl) ?_
        refine mdG_taped C hP mF_X11_289 dX11_lay_11 ?_
        show W p l e (gRm 0 0) s m args below meth c _ _ 0 0 Q (F0 m 14 ls [.int (iI ((v 2) + 2)), .ref (ad 1)])
        have r_10 : 0 ≤ ((v 2) + 2) ∧ ((v 2) + 2) ≤ 700 := hP.2.1 2
        refine lv_iload_n hx hb dX11_lay_14 rfl (lv_at hl 2 rfl) ?_
        refine lv_bipush (v := iI 8) hx hb dX11_lay_15 (by decide) ?_
        refine lv_iload_n hx hb dX11_lay_17 rfl (lv_at hl 0 rfl) ?_
        refine gi_mul (z := 8) hx hb dX11_lay_18 (by decide) ?_
        obtain ⟨x_11, ex_11, hx_11⟩ : ∃ z : Int, iI a1 >>> (iI 8 &&& 31) = iI z ∧ inR z := ⟨(iI a1 >>> (iI 8 &&& 31)).toInt, (iI_of _).symm, iI_rng _⟩
        have ux_11 := gSr8 (by omega) hx_11 ex_11
        refine gi_shr (z := x_11) hx hb dX11_lay_19 ex_11 ?_
        obtain ⟨x_12, ex_12, hx_12⟩ : ∃ z : Int, (iI x_11).toInt8.toInt32 = iI z ∧ inR z := ⟨((iI x_11).toInt8.toInt32).toInt, (iI_of _).symm, iI_rng _⟩
        have ux_12 := gB8m hx_11 hx_12 ex_12
        have qx_12 := gB8r ex_12
        refine gi_i2b (z := x_12) hx hb dX11_lay_20 ex_12 ?_
        refine mdS_tape (f1 := (va_up f 0 (u1 (u1 (u1 (f 0) (v 2) x_4) ((v 2) + 1) x_8) ((v 2) + 2) x_12))) C hP hD hS (by omega) (by omega) (by omega) (gB8 ex_12) rfl (Or.inr (gF_up (V := mdV) (F := mdF) (gR_up (V := mdV) (F := mdF) ⟨hok.1, hok.2⟩ 2 (hP.2.1 2)) 0 (u1_rng (hP.2.2 0) (show (-128) ≤ x_12 ∧ x_12 ≤ 127 from (by omega))))) dX11_lay_21 (fun H locs hP hS => ?_)
        refine lv_aload_n hx hb dX11_lay_22 rfl (lv_at hl 1 rfl) ?_
        refine lv_dup hx hb dX11_lay_23 rfl ?_
        refine mdG_taped C hP mF_X11_289 dX11_lay_24 ?_
        show W p l e (gRm 0 0) s m args below meth c _ _ 0 0 Q (F0 m 27 ls [.int (iI ((v 2) + 2)), .ref (ad 0)])
        refine lv_iconst (v := iI 1) hx hb dX11_lay_27 rfl ?_
        refine gi_add (z := ((v 2) + 3)) hx hb dX11_lay_28 (by omega) ?_
        refine mdP_taped (v1 := (va_up v 2 ((v 2) + 3))) C hP hD hS mF_X11_289 (by omega) rfl (Or.inr (gF_up (V := mdV) (F := mdF) (gR_up (V := mdV) (F := mdF) ⟨hok.1, hok.2⟩ 2 (show 0 ≤ ((v 2) + 3) ∧ ((v 2) + 3) ≤ 700 from by omega)) 0 (hP.2.2 0))) dX11_lay_29 (fun H locs hP hS => ?_)
        refine lv_iinc (v := iI 0) (lv' := [(2, .int (iI 0)), (0, .ref (ad 0)), (1, .int (iI a1))]) hx hb dX11_lay_32 hl (k := 0) rfl (by show iI _ + iI (-1) = _; rw [iI_add]; congr 1) (by decide) rfl (fun ls hl => ?_)
        refine lv_goto (tgt := 2) hx hb dX11_lay_35 (by decide) ?_
        refine lv_iload_n hx hb dX11_lay_2 rfl (lv_at hl 0 rfl) ?_
        refine gi_zlt (tgt := 38) hx hb dX11_lay_3 (by decide) (by decide) (fun c_13 => ?_) (fun c_13 => ?_)
        · exfalso; omega
        · refine lv_aload_n hx hb dX11_lay_6 rfl (lv_at hl 1 rfl) ?_
          refine mdG_tape C hP mF_X11_7 dX11_lay_7 ?_
          refine lv_aload_n hx hb dX11_lay_10 rfl (lv_at hl 1 rfl) ?_
          refine mdG_taped C hP mF_X11_289 dX11_lay_11 ?_
          show W p l e (gRm 0 0) s m args below meth c _ _ 0 0 Q (F0 m 14 ls [.int (iI ((v 2) + 3)), .ref (ad 1)])
          have r_14 : 0 ≤ ((v 2) + 3) ∧ ((v 2) + 3) ≤ 700 := hP.2.1 2
          refine lv_iload_n hx hb dX11_lay_14 rfl (lv_at hl 2 rfl) ?_
          refine lv_bipush (v := iI 8) hx hb dX11_lay_15 (by decide) ?_
          refine lv_iload_n hx hb dX11_lay_17 rfl (lv_at hl 0 rfl) ?_
          refine gi_mul (z := 0) hx hb dX11_lay_18 (by decide) ?_
          obtain ⟨x_15, ex_15, hx_15⟩ : ∃ z : Int, iI a1 >>> (iI 0 &&& 31) = iI z ∧ inR z := ⟨(iI a1 >>> (iI 0 &&& 31)).toInt, (iI_of _).symm, iI_rng _⟩
          have ux_15 := gSr0 (by omega) hx_15 ex_15
          refine gi_shr (z := x_15) hx hb dX11_lay_19 ex_15 ?_
          obtain ⟨x_16, ex_16, hx_16⟩ : ∃ z : Int, (iI x_15).toInt8.toInt32 = iI z ∧ inR z := ⟨((iI x_15).toInt8.toInt32).toInt, (iI_of _).symm, iI_rng _⟩
          have ux_16 := gB8m hx_15 hx_16 ex_16
          have qx_16 := gB8r ex_16
          refine gi_i2b (z := x_16) hx hb dX11_lay_20 ex_16 ?_
          refine mdS_tape (f1 := (va_up f 0 (u1 (u1 (u1 (u1 (f 0) (v 2) x_4) ((v 2) + 1) x_8) ((v 2) + 2) x_12) ((v 2) + 3) x_16))) C hP hD hS (by omega) (by omega) (by omega) (gB8 ex_16) rfl (Or.inr (gF_up (V := mdV) (F := mdF) (gR_up (V := mdV) (F := mdF) ⟨hok.1, hok.2⟩ 2 (hP.2.1 2)) 0 (u1_rng (hP.2.2 0) (show (-128) ≤ x_16 ∧ x_16 ≤ 127 from (by omega))))) dX11_lay_21 (fun H locs hP hS => ?_)
          refine lv_aload_n hx hb dX11_lay_22 rfl (lv_at hl 1 rfl) ?_
          refine lv_dup hx hb dX11_lay_23 rfl ?_
          refine mdG_taped C hP mF_X11_289 dX11_lay_24 ?_
          show W p l e (gRm 0 0) s m args below meth c _ _ 0 0 Q (F0 m 27 ls [.int (iI ((v 2) + 3)), .ref (ad 0)])
          refine lv_iconst (v := iI 1) hx hb dX11_lay_27 rfl ?_
          refine gi_add (z := ((v 2) + 4)) hx hb dX11_lay_28 (by omega) ?_
          refine mdP_taped (v1 := (va_up v 2 ((v 2) + 4))) C hP hD hS mF_X11_289 (by omega) rfl (Or.inr (gF_up (V := mdV) (F := mdF) (gR_up (V := mdV) (F := mdF) ⟨hok.1, hok.2⟩ 2 (show 0 ≤ ((v 2) + 4) ∧ ((v 2) + 4) ≤ 700 from by omega)) 0 (hP.2.2 0))) dX11_lay_29 (fun H locs hP hS => ?_)
          refine lv_iinc (v := iI (-1)) (lv' := [(2, .int (iI (-1))), (0, .ref (ad 0)), (1, .int (iI a1))]) hx hb dX11_lay_32 hl (k := 0) rfl (by show iI _ + iI (-1) = _; rw [iI_add]; congr 1) (by decide) rfl (fun ls hl => ?_)
          refine lv_goto (tgt := 2) hx hb dX11_lay_35 (by decide) ?_
          refine lv_iload_n hx hb dX11_lay_2 rfl (lv_at hl 0 rfl) ?_
          refine gi_zlt (tgt := 38) hx hb dX11_lay_3 (by decide) (by decide) (fun c_17 => ?_) (fun c_17 => ?_)
          · exact g_vret hQ C hr hlocks hP hS dX11_lay_38 ⟨(u1 (u1 (u1 (u1 (f 0) (v 2) x_4) ((v 2) + 1) x_8) ((v 2) + 2) x_12) ((v 2) + 3) x_16), rfl, rfl, rfl, rfl, (u1_mod (u1_mod (u1_mod (u1_mod hB (by omega)) (by omega)) (by omega)) (by omega))⟩
          · exfalso; omega

set_option maxHeartbeats 4000000 in
set_option maxRecDepth 100000 in
theorem m_X11_feed (l : Launch) (D : va_G) (k : Nat → ClassId) (A : Nat → Prop) (ad : Nat → Nat) (hD : mdD A k ad) (v : gV) (f g : gF) (a1 : Int) (a2 : Int) (a3 : Int) (a4 : Int) (a5 : Int) (B : Int → Int) (h_a1 : inR a1) (h_a2 : inR a2) (h_a3 : inR a3) (h_a4 : inR a4) (h_a5 : inR a5) (hB : ∀ k, (f 0) k % 256 = B k) : GM l D k A (mdT k ad) yX11_feed cX11_feed 6 (some .int) 1 22 [.ref (ad 0), .int (iI a1), .int (iI a2), .int (iI a3), .int (iI a4), .int (iI a5)] v f g (fun r v1 f1 g1 => ∃ (z : Int) (a0_ : Int → Int), r = some (.int (iI z)) ∧ (va_up (va_up v 2 (if (v 2) ≤ 680 then (v 2) + 20 else (v 2))) 1 0) = v1 ∧ (va_up f 0 a0_) = f1 ∧ g = g1 ∧ (z = (if (v 2) ≤ 680 then (v 2) + 20 else (-1))) ∧ (∀ k, a0_ k % 256 = (if (v 2) ≤ 680 then bG B (v 2) a1 a2 a3 a4 a5 else B) k)) := by
  refine GM.of (by decide) (Nat.le_of_ble_eq_true rfl) ?_
  intro p e s m args below meth c Q ls hQ C hml hr hlocks hP hl
  have hx := C.1
  have hb := C.2.1
  have hok := hP.2
  have hS : va_S A s.heap s.heap [] := va_S.rf
  have hl : lv_has ls 6 [(0, .ref (ad 0)), (1, .int (iI a1)), (2, .int (iI a2)), (3, .int (iI a3)), (4, .int (iI a4)), (5, .int (iI a5))] := hl
  have hP : gWd D (mdT k ad) (va_up (va_up v 2 (v 2)) 1 (v 1)) (va_up f 0 (f 0)) g s.heap := by rw [va_id, va_id, va_id]; exact hP
  refine lv_aload_n hx hb dX11_feed_0 rfl (lv_at hl 0 rfl) ?_
  refine lv_iconst (v := iI 0) hx hb dX11_feed_1 rfl ?_
  refine mdP_thrown (v1 := (va_up (va_up v 2 (v 2)) 1 0)) C hP hD hS mF_X11_146 (by decide) rfl (Or.inr (gF_up (V := mdV) (F := mdF) (gR_up (V := mdV) (F := mdF) (gR_up (V := mdV) (F := mdF) ⟨hok.1, hok.2⟩ 2 (hP.2.1 2)) 1 (show 0 ≤ 0 ∧ 0 ≤ 0 from by decide)) 0 (hP.2.2 0))) dX11_feed_2 (fun H locs hP hS => ?_)
  refine lv_aload_n hx hb dX11_feed_5 rfl (lv_at hl 0 rfl) ?_
  refine mdG_taped C hP mF_X11_289 dX11_feed_6 ?_
  show W p l e (gRm 1 22) s m args below meth c _ _ 0 0 Q (F0 m 9 ls [.int (iI (v 2))])
  have r_1 : 0 ≤ (v 2) ∧ (v 2) ≤ 700 := hok.1 2
  refine lv_bipush (v := iI 20) hx hb dX11_feed_9 (by decide) ?_
  refine gi_add (z := ((v 2) + 20)) hx hb dX11_feed_11 rfl ?_
  refine lv_sipush (v := iI 700) hx hb dX11_feed_12 (by decide) ?_
  refine gi_cle (tgt := 20) hx hb dX11_feed_15 (by decide) (by omega) (by decide) (fun c_2 => ?_) (fun c_2 => ?_)
  · refine lv_aload_n hx hb dX11_feed_20 rfl (lv_at hl 0 rfl) ?_
    refine lv_iload_n hx hb dX11_feed_21 rfl (lv_at hl 1 rfl) ?_
    refine g_cv (As := [.int (iI a1)]) (rest := []) (n := 1) C hml (m_X11_lay l D k A ad hD (va_up (va_up v 2 (v 2)) 1 0) (va_up f 0 (f 0)) g a1 B (by omega) (show ∀ k, (f 0) k % 256 = B k from by assumption) (show (v 2) ≤ 696 from by omega)) mM_X11_292 mI_X11_lay mE_X11_lay mN_X11 mC_X11_lay (by decide +kernel) 0 (ci := 11) rfl rfl hP hS (fun _ h => h) ⟨Nat.le_of_ble_eq_true rfl, Nat.le_of_ble_eq_true rfl⟩ ⟨Nat.zero_le _, Nat.zero_le _⟩ hl.1 rfl rfl (Nat.le_of_ble_eq_true rfl) dX11_feed_22 (fun r_3 v_3 f_3 g_3 H locs hq_3 hP _ hS => ?_)
    obtain ⟨a0_3, rfl, rfl, rfl, rfl, p0_3⟩ := hq_3
    show W p l e (gRm 1 22) s m args below meth c _ _ 0 0 Q (F0 m 25 ls [])
    have hP : gWd D (mdT k ad) (va_up (va_up v 2 ((v 2) + 4)) 1 0) (va_up f 0 a0_3) g H := ⟨hP.1, (gF_up (V := mdV) (F := mdF) (gR_up (V := mdV) (F := mdF) (gR_up (V := mdV) (F := mdF) ⟨hok.1, hok.2⟩ 2 (hP.2.1 2)) 1 (hP.2.1 1)) 0 (hP.2.2 0))⟩
    replace p0_3 : ∀ k, a0_3 k % 256 = bP B (v 2) a1 k := p0_3
    refine lv_aload_n hx hb dX11_feed_25 rfl (lv_at hl 0 rfl) ?_
    refine lv_iload_n hx hb dX11_feed_26 rfl (lv_at hl 2 rfl) ?_
    refine g_cv (As := [.int (iI a2)]) (rest := []) (n := 1) C hml (m_X11_lay l D k A ad hD (va_up (va_up v 2 ((v 2) + 4)) 1 0) (va_up f 0 a0_3) g a2 (bP B (v 2) a1) (by omega) (show ∀ k, a0_3 k % 256 = (bP B (v 2) a1) k from by assumption) (show ((v 2) + 4) ≤ 696 from by omega)) mM_X11_292 mI_X11_lay mE_X11_lay mN_X11 mC_X11_lay (by decide +kernel) 0 (ci := 11) rfl rfl hP hS (fun _ h => h) ⟨Nat.le_of_ble_eq_true rfl, Nat.le_of_ble_eq_true rfl⟩ ⟨Nat.zero_le _, Nat.zero_le _⟩ hl.1 rfl rfl (Nat.le_of_ble_eq_true rfl) dX11_feed_27 (fun r_4 v_4 f_4 g_4 H locs hq_4 hP _ hS => ?_)
    obtain ⟨a0_4, rfl, rfl, rfl, rfl, p0_4⟩ := hq_4
    show W p l e (gRm 1 22) s m args below meth c _ _ 0 0 Q (F0 m 30 ls [])
    have hP : gWd D (mdT k ad) (va_up (va_up v 2 (((v 2) + 4) + 4)) 1 0) (va_up f 0 a0_4) g H := ⟨hP.1, (gF_up (V := mdV) (F := mdF) (gR_up (V := mdV) (F := mdF) (gR_up (V := mdV) (F := mdF) ⟨hok.1, hok.2⟩ 2 (hP.2.1 2)) 1 (hP.2.1 1)) 0 (hP.2.2 0))⟩
    replace p0_4 : ∀ k, a0_4 k % 256 = bP (bP B (v 2) a1) ((v 2) + 4) a2 k := p0_4
    refine lv_aload_n hx hb dX11_feed_30 rfl (lv_at hl 0 rfl) ?_
    refine lv_iload_n hx hb dX11_feed_31 rfl (lv_at hl 3 rfl) ?_
    refine g_cv (As := [.int (iI a3)]) (rest := []) (n := 1) C hml (m_X11_lay l D k A ad hD (va_up (va_up v 2 (((v 2) + 4) + 4)) 1 0) (va_up f 0 a0_4) g a3 (bP (bP B (v 2) a1) ((v 2) + 4) a2) (by omega) (show ∀ k, a0_4 k % 256 = (bP (bP B (v 2) a1) ((v 2) + 4) a2) k from by assumption) (show (((v 2) + 4) + 4) ≤ 696 from by omega)) mM_X11_292 mI_X11_lay mE_X11_lay mN_X11 mC_X11_lay (by decide +kernel) 0 (ci := 11) rfl rfl hP hS (fun _ h => h) ⟨Nat.le_of_ble_eq_true rfl, Nat.le_of_ble_eq_true rfl⟩ ⟨Nat.zero_le _, Nat.zero_le _⟩ hl.1 rfl rfl (Nat.le_of_ble_eq_true rfl) dX11_feed_32 (fun r_5 v_5 f_5 g_5 H locs hq_5 hP _ hS => ?_)
    obtain ⟨a0_5, rfl, rfl, rfl, rfl, p0_5⟩ := hq_5
    show W p l e (gRm 1 22) s m args below meth c _ _ 0 0 Q (F0 m 35 ls [])
    have hP : gWd D (mdT k ad) (va_up (va_up v 2 ((((v 2) + 4) + 4) + 4)) 1 0) (va_up f 0 a0_5) g H := ⟨hP.1, (gF_up (V := mdV) (F := mdF) (gR_up (V := mdV) (F := mdF) (gR_up (V := mdV) (F := mdF) ⟨hok.1, hok.2⟩ 2 (hP.2.1 2)) 1 (hP.2.1 1)) 0 (hP.2.2 0))⟩
    replace p0_5 : ∀ k, a0_5 k % 256 = bP (bP (bP B (v 2) a1) ((v 2) + 4) a2) (((v 2) + 4) + 4) a3 k := p0_5
    refine lv_aload_n hx hb dX11_feed_35 rfl (lv_at hl 0 rfl) ?_
    refine lv_iload hx hb dX11_feed_36 (lv_at hl 4 rfl) ?_
    refine g_cv (As := [.int (iI a4)]) (rest := []) (n := 1) C hml (m_X11_lay l D k A ad hD (va_up (va_up v 2 ((((v 2) + 4) + 4) + 4)) 1 0) (va_up f 0 a0_5) g a4 (bP (bP (bP B (v 2) a1) ((v 2) + 4) a2) (((v 2) + 4) + 4) a3) (by omega) (show ∀ k, a0_5 k % 256 = (bP (bP (bP B (v 2) a1) ((v 2) + 4) a2) (((v 2) + 4) + 4) a3) k from by assumption) (show ((((v 2) + 4) + 4) + 4) ≤ 696 from by omega)) mM_X11_292 mI_X11_lay mE_X11_lay mN_X11 mC_X11_lay (by decide +kernel) 0 (ci := 11) rfl rfl hP hS (fun _ h => h) ⟨Nat.le_of_ble_eq_true rfl, Nat.le_of_ble_eq_true rfl⟩ ⟨Nat.zero_le _, Nat.zero_le _⟩ hl.1 rfl rfl (Nat.le_of_ble_eq_true rfl) dX11_feed_38 (fun r_6 v_6 f_6 g_6 H locs hq_6 hP _ hS => ?_)
    obtain ⟨a0_6, rfl, rfl, rfl, rfl, p0_6⟩ := hq_6
    show W p l e (gRm 1 22) s m args below meth c _ _ 0 0 Q (F0 m 41 ls [])
    have hP : gWd D (mdT k ad) (va_up (va_up v 2 (((((v 2) + 4) + 4) + 4) + 4)) 1 0) (va_up f 0 a0_6) g H := ⟨hP.1, (gF_up (V := mdV) (F := mdF) (gR_up (V := mdV) (F := mdF) (gR_up (V := mdV) (F := mdF) ⟨hok.1, hok.2⟩ 2 (hP.2.1 2)) 1 (hP.2.1 1)) 0 (hP.2.2 0))⟩
    replace p0_6 : ∀ k, a0_6 k % 256 = bP (bP (bP (bP B (v 2) a1) ((v 2) + 4) a2) (((v 2) + 4) + 4) a3) ((((v 2) + 4) + 4) + 4) a4 k := p0_6
    refine lv_aload_n hx hb dX11_feed_41 rfl (lv_at hl 0 rfl) ?_
    refine lv_iload hx hb dX11_feed_42 (lv_at hl 5 rfl) ?_
    refine g_cv (As := [.int (iI a5)]) (rest := []) (n := 1) C hml (m_X11_lay l D k A ad hD (va_up (va_up v 2 (((((v 2) + 4) + 4) + 4) + 4)) 1 0) (va_up f 0 a0_6) g a5 (bP (bP (bP (bP B (v 2) a1) ((v 2) + 4) a2) (((v 2) + 4) + 4) a3) ((((v 2) + 4) + 4) + 4) a4) (by omega) (show ∀ k, a0_6 k % 256 = (bP (bP (bP (bP B (v 2) a1) ((v 2) + 4) a2) (((v 2) + 4) + 4) a3) ((((v 2) + 4) + 4) + 4) a4) k from by assumption) (show (((((v 2) + 4) + 4) + 4) + 4) ≤ 696 from by omega)) mM_X11_292 mI_X11_lay mE_X11_lay mN_X11 mC_X11_lay (by decide +kernel) 0 (ci := 11) rfl rfl hP hS (fun _ h => h) ⟨Nat.le_of_ble_eq_true rfl, Nat.le_of_ble_eq_true rfl⟩ ⟨Nat.zero_le _, Nat.zero_le _⟩ hl.1 rfl rfl (Nat.le_of_ble_eq_true rfl) dX11_feed_44 (fun r_7 v_7 f_7 g_7 H locs hq_7 hP _ hS => ?_)
    obtain ⟨a0_7, rfl, rfl, rfl, rfl, p0_7⟩ := hq_7
    show W p l e (gRm 1 22) s m args below meth c _ _ 0 0 Q (F0 m 47 ls [])
    have hP : gWd D (mdT k ad) (va_up (va_up v 2 ((((((v 2) + 4) + 4) + 4) + 4) + 4)) 1 0) (va_up f 0 a0_7) g H := ⟨hP.1, (gF_up (V := mdV) (F := mdF) (gR_up (V := mdV) (F := mdF) (gR_up (V := mdV) (F := mdF) ⟨hok.1, hok.2⟩ 2 (hP.2.1 2)) 1 (hP.2.1 1)) 0 (hP.2.2 0))⟩
    replace p0_7 : ∀ k, a0_7 k % 256 = bP (bP (bP (bP (bP B (v 2) a1) ((v 2) + 4) a2) (((v 2) + 4) + 4) a3) ((((v 2) + 4) + 4) + 4) a4) (((((v 2) + 4) + 4) + 4) + 4) a5 k := p0_7
    refine lv_aload_n hx hb dX11_feed_47 rfl (lv_at hl 0 rfl) ?_
    refine mdG_taped C hP mF_X11_289 dX11_feed_48 ?_
    show W p l e (gRm 1 22) s m args below meth c _ _ 0 0 Q (F0 m 51 ls [.int (iI ((((((v 2) + 4) + 4) + 4) + 4) + 4))])
    have r_8 : 0 ≤ ((((((v 2) + 4) + 4) + 4) + 4) + 4) ∧ ((((((v 2) + 4) + 4) + 4) + 4) + 4) ≤ 700 := hP.2.1 2
    exact g_iret hQ C hr hlocks hP hS dX11_feed_51 ⟨((((((v 2) + 4) + 4) + 4) + 4) + 4), a0_7, rfl, (by rw [show ((if (v 2) ≤ 680 then (v 2) + 20 else (v 2)) : Int) = ((((((v 2) + 4) + 4) + 4) + 4) + 4) from by split <;> omega]), rfl, rfl, (by first | omega | (split <;> omega)), (by first | (rw [if_pos (by omega)]; assumption) | (rw [if_neg (by omega)]; assumption))⟩
  · refine lv_iconst (v := iI (-1)) hx hb dX11_feed_18 rfl ?_
    exact g_iret hQ C hr hlocks hP hS dX11_feed_19 ⟨(-1), (f 0), rfl, (by rw [show ((if (v 2) ≤ 680 then (v 2) + 20 else (v 2)) : Int) = (v 2) from by split <;> omega]), rfl, rfl, (by first | omega | (split <;> omega)), (by first | (rw [if_pos (by omega)]; assumption) | (rw [if_neg (by omega)]; assumption))⟩

set_option maxHeartbeats 4000000 in
set_option maxRecDepth 100000 in
theorem m_X11_fault (l : Launch) (D : va_G) (k : Nat → ClassId) (A : Nat → Prop) (ad : Nat → Nat) (hD : mdD A k ad) (v : gV) (f g : gF) (a1 : Int) (h_a1 : inR a1) : GM l D k A (mdT k ad) yX11_fault cX11_fault 2 (some .int) 0 0 [.ref (ad 0), .int (iI a1)] v f g (fun r v1 f1 g1 => ∃ (z : Int), r = some (.int (iI z)) ∧ (va_up v 1 0) = v1 ∧ f = f1 ∧ g = g1 ∧ (z = (if a1 = 0 then (v 4) else if a1 = 1 then (v 5) else (-1))) ∧ ((-1) ≤ z ∧ z ≤ 700)) := by
  refine GM.of (by decide) (Nat.le_of_ble_eq_true rfl) ?_
  intro p e s m args below meth c Q ls hQ C hml hr hlocks hP hl
  have hx := C.1
  have hb := C.2.1
  have hok := hP.2
  have hS : va_S A s.heap s.heap [] := va_S.rf
  have hl : lv_has ls 2 [(0, .ref (ad 0)), (1, .int (iI a1))] := hl
  have hP : gWd D (mdT k ad) (va_up v 1 (v 1)) f g s.heap := by rw [va_id]; exact hP
  refine lv_aload_n hx hb dX11_fault_0 rfl (lv_at hl 0 rfl) ?_
  refine lv_iconst (v := iI 0) hx hb dX11_fault_1 rfl ?_
  refine mdP_thrown (v1 := (va_up v 1 0)) C hP hD hS mF_X11_146 (by decide) rfl (Or.inr (gR_up (V := mdV) (F := mdF) ⟨hok.1, hok.2⟩ 1 (show 0 ≤ 0 ∧ 0 ≤ 0 from by decide))) dX11_fault_2 (fun H locs hP hS => ?_)
  refine lv_iload_n hx hb dX11_fault_5 rfl (lv_at hl 1 rfl) ?_
  refine gi_zne (tgt := 16) hx hb dX11_fault_6 (by decide) (by omega) (fun c_1 => ?_) (fun c_1 => ?_)
  · refine lv_iload_n hx hb dX11_fault_16 rfl (lv_at hl 1 rfl) ?_
    refine lv_iconst (v := iI 1) hx hb dX11_fault_17 rfl ?_
    refine gi_cne (tgt := 28) hx hb dX11_fault_18 (by decide) (by omega) (by decide) (fun c_2 => ?_) (fun c_2 => ?_)
    · refine lv_iconst (v := iI (-1)) hx hb dX11_fault_28 rfl ?_
      exact g_iret hQ C hr hlocks hP hS dX11_fault_29 ⟨(-1), rfl, rfl, rfl, rfl, (by first | rw [if_pos (by omega)] | rw [if_neg (by omega), if_pos (by omega)] | rw [if_neg (by omega), if_neg (by omega)]), (by first | omega | (split <;> omega))⟩
    · refine lv_aload_n hx hb dX11_fault_21 rfl (lv_at hl 0 rfl) ?_
      refine mdG_faultAt C hP mF_X11_17 dX11_fault_22 ?_
      show W p l e (gRm 0 0) s m args below meth c _ _ 0 0 Q (F0 m 25 ls [.int (iI (v 5))])
      have r_3 : (-1) ≤ (v 5) ∧ (v 5) ≤ 700 := hok.1 5
      refine lv_goto (tgt := 29) hx hb dX11_fault_25 (by decide) ?_
      exact g_iret hQ C hr hlocks hP hS dX11_fault_29 ⟨(v 5), rfl, rfl, rfl, rfl, (by first | rw [if_pos (by omega)] | rw [if_neg (by omega), if_pos (by omega)] | rw [if_neg (by omega), if_neg (by omega)]), (by first | omega | (split <;> omega))⟩
  · refine lv_aload_n hx hb dX11_fault_9 rfl (lv_at hl 0 rfl) ?_
    refine mdG_faultKind C hP mF_X11_13 dX11_fault_10 ?_
    show W p l e (gRm 0 0) s m args below meth c _ _ 0 0 Q (F0 m 13 ls [.int (iI (v 4))])
    have r_4 : (-1) ≤ (v 4) ∧ (v 4) ≤ 5 := hok.1 4
    refine lv_goto (tgt := 29) hx hb dX11_fault_13 (by decide) ?_
    exact g_iret hQ C hr hlocks hP hS dX11_fault_29 ⟨(v 4), rfl, rfl, rfl, rfl, (by first | rw [if_pos (by omega)] | rw [if_neg (by omega), if_pos (by omega)] | rw [if_neg (by omega), if_neg (by omega)]), (by first | omega | (split <;> omega))⟩

set_option maxHeartbeats 4000000 in
set_option maxRecDepth 100000 in
theorem m_X11_goesTo (l : Launch) (D : va_G) (k : Nat → ClassId) (A : Nat → Prop) (ad : Nat → Nat) (hD : mdD A k ad) (v : gV) (f g : gF) (a1 : Int) (h_a1 : inR a1) (h1 : 0 ≤ a1 ∧ a1 ≤ 1000000) : GM l D k A (mdT k ad) yX11_goesTo cX11_goesTo 3 none 0 0 [.ref (ad 0), .int (iI a1)] v f g (fun r v1 f1 g1 => ∃ (a28_ : Int → Int) (a30_ : Int → Int), r = none ∧ (va_up v 24 a1) = v1 ∧ (va_up (va_up f 28 a28_) 30 a30_) = f1 ∧ g = g1) := by
  refine GM.of (by decide) (Nat.le_of_ble_eq_true rfl) ?_
  intro p e s m args below meth c Q ls hQ C hml hr hlocks hP hl
  have hx := C.1
  have hb := C.2.1
  have hok := hP.2
  have hS : va_S A s.heap s.heap [] := va_S.rf
  have hl : lv_has ls 3 [(0, .ref (ad 0)), (1, .int (iI a1))] := hl
  have hP : gWd D (mdT k ad) (va_up v 24 (v 24)) (va_up (va_up f 28 (f 28)) 30 (f 30)) g s.heap := by rw [va_id, va_id, va_id]; exact hP
  have r_1 : 0 ≤ (v 25) ∧ (v 25) ≤ 300 := hok.1 25
  refine lv_aload_n hx hb dX11_goesTo_0 rfl (lv_at hl 0 rfl) ?_
  refine lv_iload_n hx hb dX11_goesTo_1 rfl (lv_at hl 1 rfl) ?_
  refine mdP_now (v1 := (va_up v 24 a1)) C hP hD hS mF_X11_316 (by omega) rfl (Or.inr (gF_up (V := mdV) (F := mdF) (gF_up (V := mdV) (F := mdF) (gR_up (V := mdV) (F := mdF) ⟨hok.1, hok.2⟩ 24 (show 0 ≤ a1 ∧ a1 ≤ 1000000 from by omega)) 28 (hP.2.2 28)) 30 (hP.2.2 30))) dX11_goesTo_2 (fun H locs hP hS => ?_)
  refine lv_iconst (v := iI 0) hx hb dX11_goesTo_5 rfl ?_
  refine lv_istore_n (lv' := [(2, .int (iI 0)), (0, .ref (ad 0)), (1, .int (iI a1))]) hx hb dX11_goesTo_6 rfl hl (by decide) rfl (fun ls hl => ?_)
  have L_2 : ∀ (n : Nat) (x2 : Int) (c28_2 : Int → Int) (c30_2 : Int → Int) (H : Heap) (locs : List Loc) (ls : Array Slot), 300 - x2 < (n : Int) → (0 ≤ x2 ∧ x2 ≤ (v 25)) → gWd D (mdT k ad) (va_up v 24 a1) (va_up (va_up f 28 c28_2) 30 c30_2) g H → va_S A s.heap H locs → lv_has ls 3 [(0, .ref (ad 0)), (1, .int (iI a1)), (2, .int (iI x2))] → W p l e (gRm 0 0) s m args below meth c H locs 0 0 Q (F0 m 7 ls []) := by
    intro n
    induction n with
    | zero =>
      intro x2 c28_2 c30_2 H locs ls hn_2 i2_0 hP hS hl
      exfalso; omega
    | succ n ih_7 =>
      intro x2 c28_2 c30_2 H locs ls hn_2 i2_0 hP hS hl
      refine lv_iload_n hx hb dX11_goesTo_7 rfl (lv_at hl 2 rfl) ?_
      refine lv_aload_n hx hb dX11_goesTo_8 rfl (lv_at hl 0 rfl) ?_
      refine mdG_tried C hP mF_X11_319 dX11_goesTo_9 ?_
      show W p l e (gRm 0 0) s m args below meth c _ _ 0 0 Q (F0 m 12 ls [.int (iI (v 25)), .int (iI x2)])
      refine gi_cge (tgt := 86) hx hb dX11_goesTo_12 (by decide) (by omega) (by omega) (fun c_3 => ?_) (fun c_3 => ?_)
      · exact g_vret hQ C hr hlocks hP hS dX11_goesTo_86 ⟨c28_2, c30_2, rfl, rfl, rfl, rfl⟩
      · refine lv_aload_n hx hb dX11_goesTo_15 rfl (lv_at hl 0 rfl) ?_
        refine mdG_how C hP mF_X11_112 dX11_goesTo_16 ?_
        refine lv_iload_n hx hb dX11_goesTo_19 rfl (lv_at hl 2 rfl) ?_
        refine mdL_how C hP (by omega) (by omega) dX11_goesTo_20 ?_
        show W p l e (gRm 0 0) s m args below meth c _ _ 0 0 Q (F0 m 21 ls [.int (iI (c30_2 x2))])
        have r_4 : 0 ≤ (c30_2 x2) ∧ (c30_2 x2) ≤ 4 := hP.2.2 30 x2
        refine gi_zne (tgt := 80) hx hb dX11_goesTo_21 (by decide) (by omega) (fun c_5 => ?_) (fun c_5 => ?_)
        · refine lv_iinc (v := iI (x2 + 1)) (lv' := [(2, .int (iI (x2 + 1))), (0, .ref (ad 0)), (1, .int (iI a1))]) hx hb dX11_goesTo_80 hl (k := 2) rfl (by show iI _ + iI 1 = _; rw [iI_add]) (by decide) rfl (fun ls hl => ?_)
          refine lv_goto (tgt := 7) hx hb dX11_goesTo_83 (by decide) ?_
          exact ih_7 (x2 + 1) c28_2 c30_2 _ _ _ (by omega) (by omega) hP hS (lv_sub hl [1, 2, 0] rfl)
        · refine lv_aload_n hx hb dX11_goesTo_24 rfl (lv_at hl 0 rfl) ?_
          refine mdG_from C hP mF_X11_103 dX11_goesTo_25 ?_
          refine lv_iload_n hx hb dX11_goesTo_28 rfl (lv_at hl 2 rfl) ?_
          refine mdL_from C hP (by omega) (by omega) dX11_goesTo_29 ?_
          show W p l e (gRm 0 0) s m args below meth c _ _ 0 0 Q (F0 m 30 ls [.int (iI (f 27 x2))])
          have r_6 : 0 ≤ (f 27 x2) ∧ (f 27 x2) ≤ 1000000 := hP.2.2 27 x2
          refine lv_aload_n hx hb dX11_goesTo_30 rfl (lv_at hl 0 rfl) ?_
          refine mdG_seconds C hP mF_X11_27 dX11_goesTo_31 ?_
          refine lv_aload_n hx hb dX11_goesTo_34 rfl (lv_at hl 0 rfl) ?_
          refine mdG_where C hP mF_X11_97 dX11_goesTo_35 ?_
          refine lv_iload_n hx hb dX11_goesTo_38 rfl (lv_at hl 2 rfl) ?_
          refine mdL_where C hP (by omega) (by omega) dX11_goesTo_39 ?_
          show W p l e (gRm 0 0) s m args below meth c _ _ 0 0 Q (F0 m 40 ls [.int (iI (f 25 x2)), .ref (ad 4), .int (iI (f 27 x2))])
          have r_7 : 0 ≤ (f 25 x2) ∧ (f 25 x2) ≤ 3 := hP.2.2 25 x2
          refine mdL_seconds C hP (by omega) (by omega) dX11_goesTo_40 ?_
          show W p l e (gRm 0 0) s m args below meth c _ _ 0 0 Q (F0 m 41 ls [.int (iI (f 3 (f 25 x2))), .int (iI (f 27 x2))])
          have r_8 : 0 ≤ (f 3 (f 25 x2)) ∧ (f 3 (f 25 x2)) ≤ 999 := hP.2.2 3 (f 25 x2)
          refine gi_add (z := ((f 27 x2) + (f 3 (f 25 x2)))) hx hb dX11_goesTo_41 rfl ?_
          refine lv_iload_n hx hb dX11_goesTo_42 rfl (lv_at hl 1 rfl) ?_
          refine gi_cle (tgt := 49) hx hb dX11_goesTo_43 (by decide) (by omega) (by omega) (fun c_9 => ?_) (fun c_9 => ?_)
          · refine lv_aload_n hx hb dX11_goesTo_49 rfl (lv_at hl 0 rfl) ?_
            refine mdG_how C hP mF_X11_112 dX11_goesTo_50 ?_
            refine lv_iload_n hx hb dX11_goesTo_53 rfl (lv_at hl 2 rfl) ?_
            refine lv_iconst (v := iI 3) hx hb dX11_goesTo_54 rfl ?_
            refine mdS_how (f1 := (va_up (va_up f 28 c28_2) 30 (u1 c30_2 x2 3))) C hP hD hS (by omega) (by omega) (by decide) rfl (Or.inr (gF_up (V := mdV) (F := mdF) (gF_up (V := mdV) (F := mdF) (gR_up (V := mdV) (F := mdF) ⟨hok.1, hok.2⟩ 24 (hP.2.1 24)) 28 (hP.2.2 28)) 30 (u1_rng (hP.2.2 30) (show 0 ≤ 3 ∧ 3 ≤ 4 from (by decide))))) dX11_goesTo_55 (fun H locs hP hS => ?_)
            refine lv_aload_n hx hb dX11_goesTo_56 rfl (lv_at hl 0 rfl) ?_
            refine mdG_to C hP mF_X11_106 dX11_goesTo_57 ?_
            refine lv_iload_n hx hb dX11_goesTo_60 rfl (lv_at hl 2 rfl) ?_
            refine lv_aload_n hx hb dX11_goesTo_61 rfl (lv_at hl 0 rfl) ?_
            refine mdG_from C hP mF_X11_103 dX11_goesTo_62 ?_
            refine lv_iload_n hx hb dX11_goesTo_65 rfl (lv_at hl 2 rfl) ?_
            refine mdL_from C hP (by omega) (by omega) dX11_goesTo_66 ?_
            show W p l e (gRm 0 0) s m args below meth c _ _ 0 0 Q (F0 m 67 ls [.int (iI (f 27 x2)), .int (iI x2), .ref (ad 29)])
            refine lv_aload_n hx hb dX11_goesTo_67 rfl (lv_at hl 0 rfl) ?_
            refine mdG_seconds C hP mF_X11_27 dX11_goesTo_68 ?_
            refine lv_aload_n hx hb dX11_goesTo_71 rfl (lv_at hl 0 rfl) ?_
            refine mdG_where C hP mF_X11_97 dX11_goesTo_72 ?_
            refine lv_iload_n hx hb dX11_goesTo_75 rfl (lv_at hl 2 rfl) ?_
            refine mdL_where C hP (by omega) (by omega) dX11_goesTo_76 ?_
            show W p l e (gRm 0 0) s m args below meth c _ _ 0 0 Q (F0 m 77 ls [.int (iI (f 25 x2)), .ref (ad 4), .int (iI (f 27 x2)), .int (iI x2), .ref (ad 29)])
            refine mdL_seconds C hP (by omega) (by omega) dX11_goesTo_77 ?_
            show W p l e (gRm 0 0) s m args below meth c _ _ 0 0 Q (F0 m 78 ls [.int (iI (f 3 (f 25 x2))), .int (iI (f 27 x2)), .int (iI x2), .ref (ad 29)])
            refine gi_add (z := ((f 27 x2) + (f 3 (f 25 x2)))) hx hb dX11_goesTo_78 rfl ?_
            refine mdS_to (f1 := (va_up (va_up f 28 (u1 c28_2 x2 ((f 27 x2) + (f 3 (f 25 x2))))) 30 (u1 c30_2 x2 3))) C hP hD hS (by omega) (by omega) (by omega) rfl (Or.inr (gF_up (V := mdV) (F := mdF) (gF_up (V := mdV) (F := mdF) (gR_up (V := mdV) (F := mdF) ⟨hok.1, hok.2⟩ 24 (hP.2.1 24)) 28 (u1_rng (hP.2.2 28) (show (-1) ≤ ((f 27 x2) + (f 3 (f 25 x2))) ∧ ((f 27 x2) + (f 3 (f 25 x2))) ≤ 1000999 from (by omega)))) 30 (hP.2.2 30))) dX11_goesTo_79 (fun H locs hP hS => ?_)
            refine lv_iinc (v := iI (x2 + 1)) (lv' := [(2, .int (iI (x2 + 1))), (0, .ref (ad 0)), (1, .int (iI a1))]) hx hb dX11_goesTo_80 hl (k := 2) rfl (by show iI _ + iI 1 = _; rw [iI_add]) (by decide) rfl (fun ls hl => ?_)
            refine lv_goto (tgt := 7) hx hb dX11_goesTo_83 (by decide) ?_
            exact ih_7 (x2 + 1) (u1 c28_2 x2 ((f 27 x2) + (f 3 (f 25 x2)))) (u1 c30_2 x2 3) _ _ _ (by omega) (by omega) hP hS (lv_sub hl [1, 2, 0] rfl)
          · refine lv_goto (tgt := 80) hx hb dX11_goesTo_46 (by decide) ?_
            refine lv_iinc (v := iI (x2 + 1)) (lv' := [(2, .int (iI (x2 + 1))), (0, .ref (ad 0)), (1, .int (iI a1))]) hx hb dX11_goesTo_80 hl (k := 2) rfl (by show iI _ + iI 1 = _; rw [iI_add]) (by decide) rfl (fun ls hl => ?_)
            refine lv_goto (tgt := 7) hx hb dX11_goesTo_83 (by decide) ?_
            exact ih_7 (x2 + 1) c28_2 c30_2 _ _ _ (by omega) (by omega) hP hS (lv_sub hl [1, 2, 0] rfl)
  exact L_2 301 0 (f 28) (f 30) _ _ _ (by omega) (by omega) hP hS (lv_sub hl [1, 2, 0] rfl)

set_option maxHeartbeats 4000000 in
set_option maxRecDepth 100000 in
theorem m_X11_clocked (l : Launch) (D : va_G) (k : Nat → ClassId) (A : Nat → Prop) (ad : Nat → Nat) (hD : mdD A k ad) (v : gV) (f g : gF) (a1 : Int) (h_a1 : inR a1) : GM l D k A (mdT k ad) yX11_clocked cX11_clocked 2 (some .int) 1 22 [.ref (ad 0), .int (iI a1)] v f g (fun r v1 f1 g1 => ∃ (z : Int) (w24 : Int) (a28_ : Int → Int) (a30_ : Int → Int), r = some (.int (iI z)) ∧ (va_up v 24 w24) = v1 ∧ (va_up (va_up f 28 a28_) 30 a30_) = f1 ∧ g = g1 ∧ (0 ≤ z ∧ z ≤ 9) ∧ (z = 0 → 0 ≤ a1 ∧ a1 ≤ 1000000)) := by
  refine GM.of (by decide) (Nat.le_of_ble_eq_true rfl) ?_
  intro p e s m args below meth c Q ls hQ C hml hr hlocks hP hl
  have hx := C.1
  have hb := C.2.1
  have hok := hP.2
  have hS : va_S A s.heap s.heap [] := va_S.rf
  have hl : lv_has ls 2 [(0, .ref (ad 0)), (1, .int (iI a1))] := hl
  have hP : gWd D (mdT k ad) (va_up v 24 (v 24)) (va_up (va_up f 28 (f 28)) 30 (f 30)) g s.heap := by rw [va_id, va_id, va_id]; exact hP
  refine lv_iload_n hx hb dX11_clocked_0 rfl (lv_at hl 1 rfl) ?_
  refine gi_zlt (tgt := 11) hx hb dX11_clocked_1 (by decide) (by omega) (fun c_1 => ?_) (fun c_1 => ?_)
  · refine lv_iconst (v := iI 2) hx hb dX11_clocked_11 rfl ?_
    exact g_iret hQ C hr hlocks hP hS dX11_clocked_12 ⟨2, (v 24), (f 28), (f 30), rfl, rfl, rfl, rfl, (by first | omega | (split <;> omega)), (by first | omega | (split <;> omega))⟩
  · refine lv_iload_n hx hb dX11_clocked_4 rfl (lv_at hl 1 rfl) ?_
    refine lv_ldcw (v := iI 1000000) hx hb C.2.2.2.1 (C.2.2.1 _ (show Cond.constant RX11 337 (iI 1000000) ∈ gWs from mD_X11_337)) dX11_clocked_5 ?_
    refine gi_cle (tgt := 13) hx hb dX11_clocked_8 (by decide) (by omega) (by decide) (fun c_2 => ?_) (fun c_2 => ?_)
    · refine lv_iload_n hx hb dX11_clocked_13 rfl (lv_at hl 1 rfl) ?_
      refine lv_aload_n hx hb dX11_clocked_14 rfl (lv_at hl 0 rfl) ?_
      refine mdG_now C hP mF_X11_316 dX11_clocked_15 ?_
      show W p l e (gRm 1 22) s m args below meth c _ _ 0 0 Q (F0 m 18 ls [.int (iI (v 24)), .int (iI a1)])
      have r_3 : 0 ≤ (v 24) ∧ (v 24) ≤ 1000000 := hok.1 24
      refine gi_cge (tgt := 24) hx hb dX11_clocked_18 (by decide) (by omega) (by omega) (fun c_4 => ?_) (fun c_4 => ?_)
      · refine lv_aload_n hx hb dX11_clocked_24 rfl (lv_at hl 0 rfl) ?_
        refine lv_iload_n hx hb dX11_clocked_25 rfl (lv_at hl 1 rfl) ?_
        refine g_cv (As := [.int (iI a1)]) (rest := []) (n := 1) C hml (m_X11_goesTo l D k A ad hD (va_up v 24 (v 24)) (va_up (va_up f 28 (f 28)) 30 (f 30)) g a1 (by omega) (show 0 ≤ a1 ∧ a1 ≤ 1000000 from by omega)) mM_X11_338 mI_X11_goesTo mE_X11_goesTo mN_X11 mC_X11_goesTo (by decide +kernel) 0 (ci := 11) rfl rfl hP hS (fun _ h => h) ⟨Nat.le_of_ble_eq_true rfl, Nat.le_of_ble_eq_true rfl⟩ ⟨Nat.zero_le _, Nat.zero_le _⟩ hl.1 rfl rfl (Nat.le_of_ble_eq_true rfl) dX11_clocked_26 (fun r_5 v_5 f_5 g_5 H locs hq_5 hP _ hS => ?_)
        obtain ⟨a28_5, a30_5, rfl, rfl, rfl, rfl⟩ := hq_5
        show W p l e (gRm 1 22) s m args below meth c _ _ 0 0 Q (F0 m 29 ls [])
        have hP : gWd D (mdT k ad) (va_up v 24 a1) (va_up (va_up f 28 a28_5) 30 a30_5) g H := ⟨hP.1, (gF_up (V := mdV) (F := mdF) (gF_up (V := mdV) (F := mdF) (gR_up (V := mdV) (F := mdF) ⟨hok.1, hok.2⟩ 24 (hP.2.1 24)) 28 (hP.2.2 28)) 30 (hP.2.2 30))⟩
        refine lv_iconst (v := iI 0) hx hb dX11_clocked_29 rfl ?_
        exact g_iret hQ C hr hlocks hP hS dX11_clocked_30 ⟨0, a1, a28_5, a30_5, rfl, rfl, rfl, rfl, (by first | omega | (split <;> omega)), (by first | omega | (split <;> omega))⟩
      · refine lv_bipush (v := iI 9) hx hb dX11_clocked_21 (by decide) ?_
        exact g_iret hQ C hr hlocks hP hS dX11_clocked_23 ⟨9, (v 24), (f 28), (f 30), rfl, rfl, rfl, rfl, (by first | omega | (split <;> omega)), (by first | omega | (split <;> omega))⟩
    · refine lv_iconst (v := iI 2) hx hb dX11_clocked_11 rfl ?_
      exact g_iret hQ C hr hlocks hP hS dX11_clocked_12 ⟨2, (v 24), (f 28), (f 30), rfl, rfl, rfl, rfl, (by first | omega | (split <;> omega)), (by first | omega | (split <;> omega))⟩

set_option maxHeartbeats 4000000 in
set_option maxRecDepth 100000 in
theorem m_X11_openTry (l : Launch) (D : va_G) (k : Nat → ClassId) (A : Nat → Prop) (ad : Nat → Nat) (hD : mdD A k ad) (v : gV) (f g : gF) (a1 : Int) (h_a1 : inR a1) : GM l D k A (mdT k ad) yX11_openTry cX11_openTry 3 (some .int) 0 0 [.ref (ad 0), .int (iI a1)] v f g (fun r v1 f1 g1 => ∃ (z : Int), r = some (.int (iI z)) ∧ v = v1 ∧ f = f1 ∧ g = g1 ∧ ((-1) ≤ z ∧ z ≤ 299)) := by
  refine GM.of (by decide) (Nat.le_of_ble_eq_true rfl) ?_
  intro p e s m args below meth c Q ls hQ C hml hr hlocks hP hl
  have hx := C.1
  have hb := C.2.1
  have hok := hP.2
  have hS : va_S A s.heap s.heap [] := va_S.rf
  have hl : lv_has ls 3 [(0, .ref (ad 0)), (1, .int (iI a1))] := hl
  have r_1 : 0 ≤ (v 25) ∧ (v 25) ≤ 300 := hok.1 25
  refine lv_iconst (v := iI 0) hx hb dX11_openTry_0 rfl ?_
  refine lv_istore_n (lv' := [(2, .int (iI 0)), (0, .ref (ad 0)), (1, .int (iI a1))]) hx hb dX11_openTry_1 rfl hl (by decide) rfl (fun ls hl => ?_)
  have L_2 : ∀ (n : Nat) (x2 : Int) (H : Heap) (locs : List Loc) (ls : Array Slot), 300 - x2 < (n : Int) → (0 ≤ x2 ∧ x2 ≤ (v 25)) → gWd D (mdT k ad) v f g H → va_S A s.heap H locs → lv_has ls 3 [(0, .ref (ad 0)), (1, .int (iI a1)), (2, .int (iI x2))] → W p l e (gRm 0 0) s m args below meth c H locs 0 0 Q (F0 m 2 ls []) := by
    intro n
    induction n with
    | zero =>
      intro x2 H locs ls hn_2 i2_0 hP hS hl
      exfalso; omega
    | succ n ih_2 =>
      intro x2 H locs ls hn_2 i2_0 hP hS hl
      refine lv_iload_n hx hb dX11_openTry_2 rfl (lv_at hl 2 rfl) ?_
      refine lv_aload_n hx hb dX11_openTry_3 rfl (lv_at hl 0 rfl) ?_
      refine mdG_tried C hP mF_X11_319 dX11_openTry_4 ?_
      refine gi_cge (tgt := 37) hx hb dX11_openTry_7 (by decide) (by omega) (by omega) (fun c_3 => ?_) (fun c_3 => ?_)
      · refine lv_iconst (v := iI (-1)) hx hb dX11_openTry_37 rfl ?_
        exact g_iret hQ C hr hlocks hP hS dX11_openTry_38 ⟨(-1), rfl, rfl, rfl, rfl, (by first | omega | (split <;> omega))⟩
      · refine lv_aload_n hx hb dX11_openTry_10 rfl (lv_at hl 0 rfl) ?_
        refine mdG_who C hP mF_X11_94 dX11_openTry_11 ?_
        refine lv_iload_n hx hb dX11_openTry_14 rfl (lv_at hl 2 rfl) ?_
        refine mdL_who C hP (by omega) (by omega) dX11_openTry_15 ?_
        have r_4 : 0 ≤ (f 24 x2) ∧ (f 24 x2) ≤ 15 := hP.2.2 24 x2
        refine lv_iload_n hx hb dX11_openTry_16 rfl (lv_at hl 1 rfl) ?_
        refine gi_cne (tgt := 31) hx hb dX11_openTry_17 (by decide) (by omega) (by omega) (fun c_5 => ?_) (fun c_5 => ?_)
        · refine lv_iinc (v := iI (x2 + 1)) (lv' := [(2, .int (iI (x2 + 1))), (0, .ref (ad 0)), (1, .int (iI a1))]) hx hb dX11_openTry_31 hl (k := 2) rfl (by show iI _ + iI 1 = _; rw [iI_add]) (by decide) rfl (fun ls hl => ?_)
          refine lv_goto (tgt := 2) hx hb dX11_openTry_34 (by decide) ?_
          exact ih_2 (x2 + 1) _ _ _ (by omega) (by omega) hP hS (lv_sub hl [1, 2, 0] rfl)
        · refine lv_aload_n hx hb dX11_openTry_20 rfl (lv_at hl 0 rfl) ?_
          refine mdG_how C hP mF_X11_112 dX11_openTry_21 ?_
          refine lv_iload_n hx hb dX11_openTry_24 rfl (lv_at hl 2 rfl) ?_
          refine mdL_how C hP (by omega) (by omega) dX11_openTry_25 ?_
          have r_6 : 0 ≤ (f 30 x2) ∧ (f 30 x2) ≤ 4 := hP.2.2 30 x2
          refine gi_zne (tgt := 31) hx hb dX11_openTry_26 (by decide) (by omega) (fun c_7 => ?_) (fun c_7 => ?_)
          · refine lv_iinc (v := iI (x2 + 1)) (lv' := [(2, .int (iI (x2 + 1))), (0, .ref (ad 0)), (1, .int (iI a1))]) hx hb dX11_openTry_31 hl (k := 2) rfl (by show iI _ + iI 1 = _; rw [iI_add]) (by decide) rfl (fun ls hl => ?_)
            refine lv_goto (tgt := 2) hx hb dX11_openTry_34 (by decide) ?_
            exact ih_2 (x2 + 1) _ _ _ (by omega) (by omega) hP hS (lv_sub hl [1, 2, 0] rfl)
          · refine lv_iload_n hx hb dX11_openTry_29 rfl (lv_at hl 2 rfl) ?_
            exact g_iret hQ C hr hlocks hP hS dX11_openTry_30 ⟨x2, rfl, rfl, rfl, rfl, (by first | omega | (split <;> omega))⟩
  exact L_2 301 0 _ _ _ (by omega) (by omega) hP hS (lv_sub hl [1, 2, 0] rfl)

set_option maxHeartbeats 4000000 in
set_option maxRecDepth 100000 in
theorem m_X11_hasSeen (l : Launch) (D : va_G) (k : Nat → ClassId) (A : Nat → Prop) (ad : Nat → Nat) (hD : mdD A k ad) (v : gV) (f g : gF) (a1 : Int) (a2 : Int) (h_a1 : inR a1) (h_a2 : inR a2) (h1 : 0 ≤ a1 ∧ a1 ≤ 15) : GM l D k A (mdT k ad) yX11_hasSeen cX11_hasSeen 7 (some .boolean) 1 30 [.ref (ad 0), .int (iI a1), .int (iI a2)] v f g (fun r v1 f1 g1 => ∃ (z : Int), r = some (.int (iI z)) ∧ v = v1 ∧ f = f1 ∧ g = g1 ∧ (0 ≤ z ∧ z ≤ 1)) := by
  refine GM.of (by decide) (Nat.le_of_ble_eq_true rfl) ?_
  intro p e s m args below meth c Q ls hQ C hml hr hlocks hP hl
  have hx := C.1
  have hb := C.2.1
  have hok := hP.2
  have hS : va_S A s.heap s.heap [] := va_S.rf
  have hl : lv_has ls 7 [(0, .ref (ad 0)), (1, .int (iI a1)), (2, .int (iI a2))] := hl
  have r_1 : 0 ≤ (v 25) ∧ (v 25) ≤ 300 := hok.1 25
  refine lv_iconst (v := iI 0) hx hb dX11_hasSeen_0 rfl ?_
  refine lv_istore_n (lv' := [(3, .int (iI 0)), (0, .ref (ad 0)), (1, .int (iI a1)), (2, .int (iI a2))]) hx hb dX11_hasSeen_1 rfl hl (by decide) rfl (fun ls hl => ?_)
  have L_2 : ∀ (n : Nat) (x3 : Int) (H : Heap) (locs : List Loc) (ls : Array Slot), 300 - x3 < (n : Int) → (0 ≤ x3 ∧ x3 ≤ (v 25)) → gWd D (mdT k ad) v f g H → va_S A s.heap H locs → lv_has ls 7 [(0, .ref (ad 0)), (1, .int (iI a1)), (2, .int (iI a2)), (3, .int (iI x3))] → W p l e (gRm 1 30) s m args below meth c H locs 0 0 Q (F0 m 2 ls []) := by
    intro n
    induction n with
    | zero =>
      intro x3 H locs ls hn_2 i2_0 hP hS hl
      exfalso; omega
    | succ n ih_2 =>
      intro x3 H locs ls hn_2 i2_0 hP hS hl
      refine lv_iload_n hx hb dX11_hasSeen_2 rfl (lv_at hl 3 rfl) ?_
      refine lv_aload_n hx hb dX11_hasSeen_3 rfl (lv_at hl 0 rfl) ?_
      refine mdG_tried C hP mF_X11_319 dX11_hasSeen_4 ?_
      refine gi_cge (tgt := 158) hx hb dX11_hasSeen_7 (by decide) (by omega) (by omega) (fun c_3 => ?_) (fun c_3 => ?_)
      · refine lv_iconst (v := iI 0) hx hb dX11_hasSeen_158 rfl ?_
        exact g_zret hQ C hr hlocks (by decide) hP hS dX11_hasSeen_159 ⟨0, rfl, rfl, rfl, rfl, (by first | omega | (split <;> omega))⟩
      · refine lv_aload_n hx hb dX11_hasSeen_10 rfl (lv_at hl 0 rfl) ?_
        refine mdG_where C hP mF_X11_97 dX11_hasSeen_11 ?_
        refine lv_iload_n hx hb dX11_hasSeen_14 rfl (lv_at hl 3 rfl) ?_
        refine mdL_where C hP (by omega) (by omega) dX11_hasSeen_15 ?_
        have r_4 : 0 ≤ (f 25 x3) ∧ (f 25 x3) ≤ 3 := hP.2.2 25 x3
        refine lv_aload_n hx hb dX11_hasSeen_16 rfl (lv_at hl 0 rfl) ?_
        refine mdG_open C hP mF_X11_82 dX11_hasSeen_17 ?_
        have r_5 : (-1) ≤ (v 23) ∧ (v 23) ≤ 3 := hok.1 23
        refine gi_cne (tgt := 152) hx hb dX11_hasSeen_20 (by decide) (by omega) (by omega) (fun c_6 => ?_) (fun c_6 => ?_)
        · refine lv_iinc (v := iI (x3 + 1)) (lv' := [(3, .int (iI (x3 + 1))), (0, .ref (ad 0)), (1, .int (iI a1)), (2, .int (iI a2))]) hx hb dX11_hasSeen_152 hl (k := 3) rfl (by show iI _ + iI 1 = _; rw [iI_add]) (by decide) rfl (fun ls hl => ?_)
          refine lv_goto (tgt := 2) hx hb dX11_hasSeen_155 (by decide) ?_
          exact ih_2 (x3 + 1) _ _ _ (by omega) (by omega) hP hS (lv_sub hl [1, 2, 3, 0] rfl)
        · refine lv_aload_n hx hb dX11_hasSeen_23 rfl (lv_at hl 0 rfl) ?_
          refine mdG_which C hP mF_X11_100 dX11_hasSeen_24 ?_
          refine lv_iload_n hx hb dX11_hasSeen_27 rfl (lv_at hl 3 rfl) ?_
          refine mdL_which C hP (by omega) (by omega) dX11_hasSeen_28 ?_
          have r_7 : 0 ≤ (f 26 x3) ∧ (f 26 x3) ≤ 4 := hP.2.2 26 x3
          refine lv_iload_n hx hb dX11_hasSeen_29 rfl (lv_at hl 2 rfl) ?_
          refine gi_cne (tgt := 152) hx hb dX11_hasSeen_30 (by decide) (by omega) (by omega) (fun c_8 => ?_) (fun c_8 => ?_)
          · refine lv_iinc (v := iI (x3 + 1)) (lv' := [(3, .int (iI (x3 + 1))), (0, .ref (ad 0)), (1, .int (iI a1)), (2, .int (iI a2))]) hx hb dX11_hasSeen_152 hl (k := 3) rfl (by show iI _ + iI 1 = _; rw [iI_add]) (by decide) rfl (fun ls hl => ?_)
            refine lv_goto (tgt := 2) hx hb dX11_hasSeen_155 (by decide) ?_
            exact ih_2 (x3 + 1) _ _ _ (by omega) (by omega) hP hS (lv_sub hl [1, 2, 3, 0] rfl)
          · refine lv_aload_n hx hb dX11_hasSeen_33 rfl (lv_at hl 0 rfl) ?_
            refine mdG_who C hP mF_X11_94 dX11_hasSeen_34 ?_
            refine lv_iload_n hx hb dX11_hasSeen_37 rfl (lv_at hl 3 rfl) ?_
            refine mdL_who C hP (by omega) (by omega) dX11_hasSeen_38 ?_
            have r_9 : 0 ≤ (f 24 x3) ∧ (f 24 x3) ≤ 15 := hP.2.2 24 x3
            refine lv_iload_n hx hb dX11_hasSeen_39 rfl (lv_at hl 1 rfl) ?_
            refine gi_cne (tgt := 46) hx hb dX11_hasSeen_40 (by decide) (by omega) (by omega) (fun c_10 => ?_) (fun c_10 => ?_)
            · refine lv_aload_n hx hb dX11_hasSeen_46 rfl (lv_at hl 0 rfl) ?_
              refine mdG_how C hP mF_X11_112 dX11_hasSeen_47 ?_
              refine lv_iload_n hx hb dX11_hasSeen_50 rfl (lv_at hl 3 rfl) ?_
              refine mdL_how C hP (by omega) (by omega) dX11_hasSeen_51 ?_
              have r_11 : 0 ≤ (f 30 x3) ∧ (f 30 x3) ≤ 4 := hP.2.2 30 x3
              refine gi_zne (tgt := 62) hx hb dX11_hasSeen_52 (by decide) (by omega) (fun c_12 => ?_) (fun c_12 => ?_)
              · refine lv_aload_n hx hb dX11_hasSeen_62 rfl (lv_at hl 0 rfl) ?_
                refine mdG_to C hP mF_X11_106 dX11_hasSeen_63 ?_
                refine lv_iload_n hx hb dX11_hasSeen_66 rfl (lv_at hl 3 rfl) ?_
                refine mdL_to C hP (by omega) (by omega) dX11_hasSeen_67 ?_
                have r_13 : (-1) ≤ (f 28 x3) ∧ (f 28 x3) ≤ 1000999 := hP.2.2 28 x3
                refine lv_istore (lv' := [(4, .int (iI (f 28 x3))), (0, .ref (ad 0)), (1, .int (iI a1)), (2, .int (iI a2)), (3, .int (iI x3))]) hx hb dX11_hasSeen_68 hl (by decide) rfl (fun ls hl => ?_)
                refine lv_bipush (v := iI 20) hx hb dX11_hasSeen_70 (by decide) ?_
                refine lv_iload_n hx hb dX11_hasSeen_72 rfl (lv_at hl 2 rfl) ?_
                refine gi_mul (z := (20 * a1)) hx hb dX11_hasSeen_73 rfl ?_
                refine lv_istore (lv' := [(5, .int (iI (20 * a1))), (4, .int (iI (f 28 x3))), (0, .ref (ad 0)), (1, .int (iI a1)), (2, .int (iI a2)), (3, .int (iI x3))]) hx hb dX11_hasSeen_74 hl (by decide) rfl (fun ls hl => ?_)
                have L_14 : ∀ (n : Nat) (x5 : Int) (H : Heap) (locs : List Loc) (ls : Array Slot), 20 * a1 + 20 - x5 < (n : Int) → (20 * a1 ≤ x5 ∧ x5 ≤ 20 * a1 + 20) → gWd D (mdT k ad) v f g H → va_S A s.heap H locs → lv_has ls 7 [(0, .ref (ad 0)), (1, .int (iI a1)), (2, .int (iI a2)), (3, .int (iI x3)), (4, .int (iI (f 28 x3))), (5, .int (iI x5))] → W p l e (gRm 1 30) s m args below meth c H locs 0 0 Q (F0 m 76 ls []) := by
                  intro n
                  induction n with
                  | zero =>
                    intro x5 H locs ls hn_14 i14_0 hP hS hl
                    exfalso; omega
                  | succ n ih_76 =>
                    intro x5 H locs ls hn_14 i14_0 hP hS hl
                    refine lv_iload hx hb dX11_hasSeen_76 (lv_at hl 5 rfl) ?_
                    refine lv_bipush (v := iI 20) hx hb dX11_hasSeen_78 (by decide) ?_
                    refine lv_iload_n hx hb dX11_hasSeen_80 rfl (lv_at hl 1 rfl) ?_
                    refine gi_mul (z := (20 * a1)) hx hb dX11_hasSeen_81 rfl ?_
                    refine lv_aload_n hx hb dX11_hasSeen_82 rfl (lv_at hl 0 rfl) ?_
                    refine mdG_outs C hP mF_X11_124 dX11_hasSeen_83 ?_
                    refine lv_iload_n hx hb dX11_hasSeen_86 rfl (lv_at hl 1 rfl) ?_
                    refine mdL_outs C hP (by omega) (by omega) dX11_hasSeen_87 ?_
                    have r_15 : 0 ≤ (f 34 a1) ∧ (f 34 a1) ≤ 20 := hP.2.2 34 a1
                    refine gi_add (z := ((20 * a1) + (f 34 a1))) hx hb dX11_hasSeen_88 rfl ?_
                    refine gi_cge (tgt := 152) hx hb dX11_hasSeen_89 (by decide) (by omega) (by omega) (fun c_16 => ?_) (fun c_16 => ?_)
                    · refine lv_iinc (v := iI (x3 + 1)) (lv' := [(3, .int (iI (x3 + 1))), (0, .ref (ad 0)), (1, .int (iI a1)), (2, .int (iI a2)), (4, .int (iI (f 28 x3))), (5, .int (iI x5))]) hx hb dX11_hasSeen_152 hl (k := 3) rfl (by show iI _ + iI 1 = _; rw [iI_add]) (by decide) rfl (fun ls hl => ?_)
                      refine lv_goto (tgt := 2) hx hb dX11_hasSeen_155 (by decide) ?_
                      exact ih_2 (x3 + 1) _ _ _ (by omega) (by omega) hP hS (lv_sub hl [1, 2, 3, 0] rfl)
                    · refine lv_aload_n hx hb dX11_hasSeen_92 rfl (lv_at hl 0 rfl) ?_
                      refine mdG_outTo C hP mF_X11_130 dX11_hasSeen_93 ?_
                      refine lv_iload hx hb dX11_hasSeen_96 (lv_at hl 5 rfl) ?_
                      refine mdL_outTo C hP (by omega) (by omega) dX11_hasSeen_98 ?_
                      have r_17 : (-1) ≤ (f 36 x5) ∧ (f 36 x5) ≤ 1000000 := hP.2.2 36 x5
                      refine gi_zge (tgt := 109) hx hb dX11_hasSeen_99 (by decide) (by omega) (fun c_18 => ?_) (fun c_18 => ?_)
                      · refine lv_aload_n hx hb dX11_hasSeen_109 rfl (lv_at hl 0 rfl) ?_
                        refine mdG_outTo C hP mF_X11_130 dX11_hasSeen_110 ?_
                        refine lv_iload hx hb dX11_hasSeen_113 (lv_at hl 5 rfl) ?_
                        refine mdL_outTo C hP (by omega) (by omega) dX11_hasSeen_115 ?_
                        refine lv_istore (lv' := [(6, .int (iI (f 36 x5))), (0, .ref (ad 0)), (1, .int (iI a1)), (2, .int (iI a2)), (3, .int (iI x3)), (4, .int (iI (f 28 x3))), (5, .int (iI x5))]) hx hb dX11_hasSeen_116 hl (by decide) rfl (fun ls hl => ?_)
                        refine lv_aload_n hx hb dX11_hasSeen_118 rfl (lv_at hl 1 rfl) ?_
                        refine mdG_from C hP mF_X11_103 dX11_hasSeen_119 ?_
                        refine lv_iload_n hx hb dX11_hasSeen_122 rfl (lv_at hl 4 rfl) ?_
                        refine mdL_from C hP (by omega) (by omega) dX11_hasSeen_123 ?_
                        have r_19 : 0 ≤ (f 27 x3) ∧ (f 27 x3) ≤ 1000000 := hP.2.2 27 x3
                        refine lv_aload_n hx hb dX11_hasSeen_124 rfl (lv_at hl 1 rfl) ?_
                        refine mdG_outFrom C hP mF_X11_127 dX11_hasSeen_125 ?_
                        refine lv_iload hx hb dX11_hasSeen_128 (lv_at hl 6 rfl) ?_
                        refine mdL_outFrom C hP (by omega) (by omega) dX11_hasSeen_130 ?_
                        have r_20 : 0 ≤ (f 35 x5) ∧ (f 35 x5) ≤ 1000000 := hP.2.2 35 x5
                        refine gi_max C hml hl.1 mM_X11_341 (by omega) (by omega) (Nat.le_of_ble_eq_true rfl) (Nat.le_of_ble_eq_true rfl) dX11_hasSeen_131 (fun x_21 hx_21 => ?_)
                        refine lv_iload hx hb dX11_hasSeen_134 (lv_at hl 5 rfl) ?_
                        refine lv_iload hx hb dX11_hasSeen_136 (lv_at hl 0 rfl) ?_
                        refine gi_min C hml hl.1 mM_X11_346 (by omega) (by omega) (Nat.le_of_ble_eq_true rfl) (Nat.le_of_ble_eq_true rfl) dX11_hasSeen_138 (fun x_22 hx_22 => ?_)
                        refine gi_cgt (tgt := 146) hx hb dX11_hasSeen_141 (by decide) (by omega) (by omega) (fun c_23 => ?_) (fun c_23 => ?_)
                        · refine lv_iinc (v := iI (x5 + 1)) (lv' := [(5, .int (iI (x5 + 1))), (6, .int (iI (f 36 x5))), (0, .ref (ad 0)), (1, .int (iI a1)), (2, .int (iI a2)), (3, .int (iI x3)), (4, .int (iI (f 28 x3)))]) hx hb dX11_hasSeen_146 hl (k := 6) rfl (by show iI _ + iI 1 = _; rw [iI_add]) (by decide) rfl (fun ls hl => ?_)
                          refine lv_goto (tgt := 76) hx hb dX11_hasSeen_149 (by decide) ?_
                          exact ih_76 (x5 + 1) _ _ _ (by omega) (by omega) hP hS (lv_sub hl [2, 3, 4, 5, 6, 0] rfl)
                        · refine lv_iconst (v := iI 1) hx hb dX11_hasSeen_144 rfl ?_
                          exact g_zret hQ C hr hlocks (by decide) hP hS dX11_hasSeen_145 ⟨1, rfl, rfl, rfl, rfl, (by first | omega | (split <;> omega))⟩
                      · refine lv_aload_n hx hb dX11_hasSeen_102 rfl (lv_at hl 0 rfl) ?_
                        refine mdG_now C hP mF_X11_316 dX11_hasSeen_103 ?_
                        have r_24 : 0 ≤ (v 24) ∧ (v 24) ≤ 1000000 := hok.1 24
                        refine lv_goto (tgt := 116) hx hb dX11_hasSeen_106 (by decide) ?_
                        refine lv_istore (lv' := [(6, .int (iI (v 24))), (0, .ref (ad 0)), (1, .int (iI a1)), (2, .int (iI a2)), (3, .int (iI x3)), (4, .int (iI (f 28 x3))), (5, .int (iI x5))]) hx hb dX11_hasSeen_116 hl (by decide) rfl (fun ls hl => ?_)
                        refine lv_aload_n hx hb dX11_hasSeen_118 rfl (lv_at hl 1 rfl) ?_
                        refine mdG_from C hP mF_X11_103 dX11_hasSeen_119 ?_
                        refine lv_iload_n hx hb dX11_hasSeen_122 rfl (lv_at hl 4 rfl) ?_
                        refine mdL_from C hP (by omega) (by omega) dX11_hasSeen_123 ?_
                        have r_25 : 0 ≤ (f 27 x3) ∧ (f 27 x3) ≤ 1000000 := hP.2.2 27 x3
                        refine lv_aload_n hx hb dX11_hasSeen_124 rfl (lv_at hl 1 rfl) ?_
                        refine mdG_outFrom C hP mF_X11_127 dX11_hasSeen_125 ?_
                        refine lv_iload hx hb dX11_hasSeen_128 (lv_at hl 6 rfl) ?_
                        refine mdL_outFrom C hP (by omega) (by omega) dX11_hasSeen_130 ?_
                        have r_26 : 0 ≤ (f 35 x5) ∧ (f 35 x5) ≤ 1000000 := hP.2.2 35 x5
                        refine gi_max C hml hl.1 mM_X11_341 (by omega) (by omega) (Nat.le_of_ble_eq_true rfl) (Nat.le_of_ble_eq_true rfl) dX11_hasSeen_131 (fun x_27 hx_27 => ?_)
                        refine lv_iload hx hb dX11_hasSeen_134 (lv_at hl 5 rfl) ?_
                        refine lv_iload hx hb dX11_hasSeen_136 (lv_at hl 0 rfl) ?_
                        refine gi_min C hml hl.1 mM_X11_346 (by omega) (by omega) (Nat.le_of_ble_eq_true rfl) (Nat.le_of_ble_eq_true rfl) dX11_hasSeen_138 (fun x_28 hx_28 => ?_)
                        refine gi_cgt (tgt := 146) hx hb dX11_hasSeen_141 (by decide) (by omega) (by omega) (fun c_29 => ?_) (fun c_29 => ?_)
                        · refine lv_iinc (v := iI (x5 + 1)) (lv' := [(5, .int (iI (x5 + 1))), (6, .int (iI (v 24))), (0, .ref (ad 0)), (1, .int (iI a1)), (2, .int (iI a2)), (3, .int (iI x3)), (4, .int (iI (f 28 x3)))]) hx hb dX11_hasSeen_146 hl (k := 6) rfl (by show iI _ + iI 1 = _; rw [iI_add]) (by decide) rfl (fun ls hl => ?_)
                          refine lv_goto (tgt := 76) hx hb dX11_hasSeen_149 (by decide) ?_
                          exact ih_76 (x5 + 1) _ _ _ (by omega) (by omega) hP hS (lv_sub hl [2, 3, 4, 5, 6, 0] rfl)
                        · refine lv_iconst (v := iI 1) hx hb dX11_hasSeen_144 rfl ?_
                          exact g_zret hQ C hr hlocks (by decide) hP hS dX11_hasSeen_145 ⟨1, rfl, rfl, rfl, rfl, (by first | omega | (split <;> omega))⟩
                exact L_14 21 (20 * a1) _ _ _ (by omega) (by omega) hP hS (lv_sub hl [2, 3, 4, 5, 1, 0] rfl)
              · refine lv_aload_n hx hb dX11_hasSeen_55 rfl (lv_at hl 0 rfl) ?_
                refine mdG_now C hP mF_X11_316 dX11_hasSeen_56 ?_
                have r_30 : 0 ≤ (v 24) ∧ (v 24) ≤ 1000000 := hok.1 24
                refine lv_goto (tgt := 68) hx hb dX11_hasSeen_59 (by decide) ?_
                refine lv_istore (lv' := [(4, .int (iI (v 24))), (0, .ref (ad 0)), (1, .int (iI a1)), (2, .int (iI a2)), (3, .int (iI x3))]) hx hb dX11_hasSeen_68 hl (by decide) rfl (fun ls hl => ?_)
                refine lv_bipush (v := iI 20) hx hb dX11_hasSeen_70 (by decide) ?_
                refine lv_iload_n hx hb dX11_hasSeen_72 rfl (lv_at hl 2 rfl) ?_
                refine gi_mul (z := (20 * a1)) hx hb dX11_hasSeen_73 rfl ?_
                refine lv_istore (lv' := [(5, .int (iI (20 * a1))), (4, .int (iI (v 24))), (0, .ref (ad 0)), (1, .int (iI a1)), (2, .int (iI a2)), (3, .int (iI x3))]) hx hb dX11_hasSeen_74 hl (by decide) rfl (fun ls hl => ?_)
                have L_31 : ∀ (n : Nat) (x5 : Int) (H : Heap) (locs : List Loc) (ls : Array Slot), 20 * a1 + 20 - x5 < (n : Int) → (20 * a1 ≤ x5 ∧ x5 ≤ 20 * a1 + 20) → gWd D (mdT k ad) v f g H → va_S A s.heap H locs → lv_has ls 7 [(0, .ref (ad 0)), (1, .int (iI a1)), (2, .int (iI a2)), (3, .int (iI x3)), (4, .int (iI (v 24))), (5, .int (iI x5))] → W p l e (gRm 1 30) s m args below meth c H locs 0 0 Q (F0 m 76 ls []) := by
                  intro n
                  induction n with
                  | zero =>
                    intro x5 H locs ls hn_31 i31_0 hP hS hl
                    exfalso; omega
                  | succ n ih_76 =>
                    intro x5 H locs ls hn_31 i31_0 hP hS hl
                    refine lv_iload hx hb dX11_hasSeen_76 (lv_at hl 5 rfl) ?_
                    refine lv_bipush (v := iI 20) hx hb dX11_hasSeen_78 (by decide) ?_
                    refine lv_iload_n hx hb dX11_hasSeen_80 rfl (lv_at hl 1 rfl) ?_
                    refine gi_mul (z := (20 * a1)) hx hb dX11_hasSeen_81 rfl ?_
                    refine lv_aload_n hx hb dX11_hasSeen_82 rfl (lv_at hl 0 rfl) ?_
                    refine mdG_outs C hP mF_X11_124 dX11_hasSeen_83 ?_
                    refine lv_iload_n hx hb dX11_hasSeen_86 rfl (lv_at hl 1 rfl) ?_
                    refine mdL_outs C hP (by omega) (by omega) dX11_hasSeen_87 ?_
                    have r_32 : 0 ≤ (f 34 a1) ∧ (f 34 a1) ≤ 20 := hP.2.2 34 a1
                    refine gi_add (z := ((20 * a1) + (f 34 a1))) hx hb dX11_hasSeen_88 rfl ?_
                    refine gi_cge (tgt := 152) hx hb dX11_hasSeen_89 (by decide) (by omega) (by omega) (fun c_33 => ?_) (fun c_33 => ?_)
                    · refine lv_iinc (v := iI (x3 + 1)) (lv' := [(3, .int (iI (x3 + 1))), (0, .ref (ad 0)), (1, .int (iI a1)), (2, .int (iI a2)), (4, .int (iI (v 24))), (5, .int (iI x5))]) hx hb dX11_hasSeen_152 hl (k := 3) rfl (by show iI _ + iI 1 = _; rw [iI_add]) (by decide) rfl (fun ls hl => ?_)
                      refine lv_goto (tgt := 2) hx hb dX11_hasSeen_155 (by decide) ?_
                      exact ih_2 (x3 + 1) _ _ _ (by omega) (by omega) hP hS (lv_sub hl [1, 2, 3, 0] rfl)
                    · refine lv_aload_n hx hb dX11_hasSeen_92 rfl (lv_at hl 0 rfl) ?_
                      refine mdG_outTo C hP mF_X11_130 dX11_hasSeen_93 ?_
                      refine lv_iload hx hb dX11_hasSeen_96 (lv_at hl 5 rfl) ?_
                      refine mdL_outTo C hP (by omega) (by omega) dX11_hasSeen_98 ?_
                      have r_34 : (-1) ≤ (f 36 x5) ∧ (f 36 x5) ≤ 1000000 := hP.2.2 36 x5
                      refine gi_zge (tgt := 109) hx hb dX11_hasSeen_99 (by decide) (by omega) (fun c_35 => ?_) (fun c_35 => ?_)
                      · refine lv_aload_n hx hb dX11_hasSeen_109 rfl (lv_at hl 0 rfl) ?_
                        refine mdG_outTo C hP mF_X11_130 dX11_hasSeen_110 ?_
                        refine lv_iload hx hb dX11_hasSeen_113 (lv_at hl 5 rfl) ?_
                        refine mdL_outTo C hP (by omega) (by omega) dX11_hasSeen_115 ?_
                        refine lv_istore (lv' := [(6, .int (iI (f 36 x5))), (0, .ref (ad 0)), (1, .int (iI a1)), (2, .int (iI a2)), (3, .int (iI x3)), (4, .int (iI (v 24))), (5, .int (iI x5))]) hx hb dX11_hasSeen_116 hl (by decide) rfl (fun ls hl => ?_)
                        refine lv_aload_n hx hb dX11_hasSeen_118 rfl (lv_at hl 1 rfl) ?_
                        refine mdG_from C hP mF_X11_103 dX11_hasSeen_119 ?_
                        refine lv_iload_n hx hb dX11_hasSeen_122 rfl (lv_at hl 4 rfl) ?_
                        refine mdL_from C hP (by omega) (by omega) dX11_hasSeen_123 ?_
                        have r_36 : 0 ≤ (f 27 x3) ∧ (f 27 x3) ≤ 1000000 := hP.2.2 27 x3
                        refine lv_aload_n hx hb dX11_hasSeen_124 rfl (lv_at hl 1 rfl) ?_
                        refine mdG_outFrom C hP mF_X11_127 dX11_hasSeen_125 ?_
                        refine lv_iload hx hb dX11_hasSeen_128 (lv_at hl 6 rfl) ?_
                        refine mdL_outFrom C hP (by omega) (by omega) dX11_hasSeen_130 ?_
                        have r_37 : 0 ≤ (f 35 x5) ∧ (f 35 x5) ≤ 1000000 := hP.2.2 35 x5
                        refine gi_max C hml hl.1 mM_X11_341 (by omega) (by omega) (Nat.le_of_ble_eq_true rfl) (Nat.le_of_ble_eq_true rfl) dX11_hasSeen_131 (fun x_38 hx_38 => ?_)
                        refine lv_iload hx hb dX11_hasSeen_134 (lv_at hl 5 rfl) ?_
                        refine lv_iload hx hb dX11_hasSeen_136 (lv_at hl 0 rfl) ?_
                        refine gi_min C hml hl.1 mM_X11_346 (by omega) (by omega) (Nat.le_of_ble_eq_true rfl) (Nat.le_of_ble_eq_true rfl) dX11_hasSeen_138 (fun x_39 hx_39 => ?_)
                        refine gi_cgt (tgt := 146) hx hb dX11_hasSeen_141 (by decide) (by omega) (by omega) (fun c_40 => ?_) (fun c_40 => ?_)
                        · refine lv_iinc (v := iI (x5 + 1)) (lv' := [(5, .int (iI (x5 + 1))), (6, .int (iI (f 36 x5))), (0, .ref (ad 0)), (1, .int (iI a1)), (2, .int (iI a2)), (3, .int (iI x3)), (4, .int (iI (v 24)))]) hx hb dX11_hasSeen_146 hl (k := 6) rfl (by show iI _ + iI 1 = _; rw [iI_add]) (by decide) rfl (fun ls hl => ?_)
                          refine lv_goto (tgt := 76) hx hb dX11_hasSeen_149 (by decide) ?_
                          exact ih_76 (x5 + 1) _ _ _ (by omega) (by omega) hP hS (lv_sub hl [2, 3, 4, 5, 6, 0] rfl)
                        · refine lv_iconst (v := iI 1) hx hb dX11_hasSeen_144 rfl ?_
                          exact g_zret hQ C hr hlocks (by decide) hP hS dX11_hasSeen_145 ⟨1, rfl, rfl, rfl, rfl, (by first | omega | (split <;> omega))⟩
                      · refine lv_aload_n hx hb dX11_hasSeen_102 rfl (lv_at hl 0 rfl) ?_
                        refine mdG_now C hP mF_X11_316 dX11_hasSeen_103 ?_
                        refine lv_goto (tgt := 116) hx hb dX11_hasSeen_106 (by decide) ?_
                        refine lv_istore (lv' := [(6, .int (iI (v 24))), (0, .ref (ad 0)), (1, .int (iI a1)), (2, .int (iI a2)), (3, .int (iI x3)), (4, .int (iI (v 24))), (5, .int (iI x5))]) hx hb dX11_hasSeen_116 hl (by decide) rfl (fun ls hl => ?_)
                        refine lv_aload_n hx hb dX11_hasSeen_118 rfl (lv_at hl 1 rfl) ?_
                        refine mdG_from C hP mF_X11_103 dX11_hasSeen_119 ?_
                        refine lv_iload_n hx hb dX11_hasSeen_122 rfl (lv_at hl 4 rfl) ?_
                        refine mdL_from C hP (by omega) (by omega) dX11_hasSeen_123 ?_
                        have r_41 : 0 ≤ (f 27 x3) ∧ (f 27 x3) ≤ 1000000 := hP.2.2 27 x3
                        refine lv_aload_n hx hb dX11_hasSeen_124 rfl (lv_at hl 1 rfl) ?_
                        refine mdG_outFrom C hP mF_X11_127 dX11_hasSeen_125 ?_
                        refine lv_iload hx hb dX11_hasSeen_128 (lv_at hl 6 rfl) ?_
                        refine mdL_outFrom C hP (by omega) (by omega) dX11_hasSeen_130 ?_
                        have r_42 : 0 ≤ (f 35 x5) ∧ (f 35 x5) ≤ 1000000 := hP.2.2 35 x5
                        refine gi_max C hml hl.1 mM_X11_341 (by omega) (by omega) (Nat.le_of_ble_eq_true rfl) (Nat.le_of_ble_eq_true rfl) dX11_hasSeen_131 (fun x_43 hx_43 => ?_)
                        refine lv_iload hx hb dX11_hasSeen_134 (lv_at hl 5 rfl) ?_
                        refine lv_iload hx hb dX11_hasSeen_136 (lv_at hl 0 rfl) ?_
                        refine gi_min C hml hl.1 mM_X11_346 (by omega) (by omega) (Nat.le_of_ble_eq_true rfl) (Nat.le_of_ble_eq_true rfl) dX11_hasSeen_138 (fun x_44 hx_44 => ?_)
                        refine gi_cgt (tgt := 146) hx hb dX11_hasSeen_141 (by decide) (by omega) (by omega) (fun c_45 => ?_) (fun c_45 => ?_)
                        · refine lv_iinc (v := iI (x5 + 1)) (lv' := [(5, .int (iI (x5 + 1))), (6, .int (iI (v 24))), (0, .ref (ad 0)), (1, .int (iI a1)), (2, .int (iI a2)), (3, .int (iI x3)), (4, .int (iI (v 24)))]) hx hb dX11_hasSeen_146 hl (k := 6) rfl (by show iI _ + iI 1 = _; rw [iI_add]) (by decide) rfl (fun ls hl => ?_)
                          refine lv_goto (tgt := 76) hx hb dX11_hasSeen_149 (by decide) ?_
                          exact ih_76 (x5 + 1) _ _ _ (by omega) (by omega) hP hS (lv_sub hl [2, 3, 4, 5, 6, 0] rfl)
                        · refine lv_iconst (v := iI 1) hx hb dX11_hasSeen_144 rfl ?_
                          exact g_zret hQ C hr hlocks (by decide) hP hS dX11_hasSeen_145 ⟨1, rfl, rfl, rfl, rfl, (by first | omega | (split <;> omega))⟩
                exact L_31 21 (20 * a1) _ _ _ (by omega) (by omega) hP hS (lv_sub hl [2, 3, 4, 5, 1, 0] rfl)
            · refine lv_goto (tgt := 152) hx hb dX11_hasSeen_43 (by decide) ?_
              refine lv_iinc (v := iI (x3 + 1)) (lv' := [(3, .int (iI (x3 + 1))), (0, .ref (ad 0)), (1, .int (iI a1)), (2, .int (iI a2))]) hx hb dX11_hasSeen_152 hl (k := 3) rfl (by show iI _ + iI 1 = _; rw [iI_add]) (by decide) rfl (fun ls hl => ?_)
              refine lv_goto (tgt := 2) hx hb dX11_hasSeen_155 (by decide) ?_
              exact ih_2 (x3 + 1) _ _ _ (by omega) (by omega) hP hS (lv_sub hl [1, 2, 3, 0] rfl)
  exact L_2 301 0 _ _ _ (by omega) (by omega) hP hS (lv_sub hl [1, 2, 3, 0] rfl)

set_option maxHeartbeats 4000000 in
set_option maxRecDepth 100000 in
theorem m_X11_readyAt (l : Launch) (D : va_G) (k : Nat → ClassId) (A : Nat → Prop) (ad : Nat → Nat) (hD : mdD A k ad) (v : gV) (f g : gF) (a1 : Int) (h_a1 : inR a1) : GM l D k A (mdT k ad) yX11_readyAt cX11_readyAt 4 (some .int) 1 30 [.ref (ad 0), .int (iI a1)] v f g (fun r v1 f1 g1 => ∃ (z : Int), r = some (.int (iI z)) ∧ v = v1 ∧ f = f1 ∧ g = g1 ∧ (0 ≤ z ∧ z ≤ 1001998)) := by
  refine GM.of (by decide) (Nat.le_of_ble_eq_true rfl) ?_
  intro p e s m args below meth c Q ls hQ C hml hr hlocks hP hl
  have hx := C.1
  have hb := C.2.1
  have hok := hP.2
  have hS : va_S A s.heap s.heap [] := va_S.rf
  have hl : lv_has ls 4 [(0, .ref (ad 0)), (1, .int (iI a1))] := hl
  have r_1 : 0 ≤ (v 25) ∧ (v 25) ≤ 300 := hok.1 25
  refine lv_iconst (v := iI 0) hx hb dX11_readyAt_0 rfl ?_
  refine lv_istore_n (lv' := [(2, .int (iI 0)), (0, .ref (ad 0)), (1, .int (iI a1))]) hx hb dX11_readyAt_1 rfl hl (by decide) rfl (fun ls hl => ?_)
  refine lv_iconst (v := iI 0) hx hb dX11_readyAt_2 rfl ?_
  refine lv_istore_n (lv' := [(3, .int (iI 0)), (2, .int (iI 0)), (0, .ref (ad 0)), (1, .int (iI a1))]) hx hb dX11_readyAt_3 rfl hl (by decide) rfl (fun ls hl => ?_)
  have L_2 : ∀ (n : Nat) (x2 : Int) (x3 : Int) (H : Heap) (locs : List Loc) (ls : Array Slot), 300 - x3 < (n : Int) → (0 ≤ x3 ∧ x3 ≤ (v 25)) → (0 ≤ x2 ∧ x2 ≤ 1001998) → gWd D (mdT k ad) v f g H → va_S A s.heap H locs → lv_has ls 4 [(0, .ref (ad 0)), (1, .int (iI a1)), (2, .int (iI x2)), (3, .int (iI x3))] → W p l e (gRm 1 30) s m args below meth c H locs 0 0 Q (F0 m 4 ls []) := by
    intro n
    induction n with
    | zero =>
      intro x2 x3 H locs ls hn_2 i2_0 i2_1 hP hS hl
      exfalso; omega
    | succ n ih_4 =>
      intro x2 x3 H locs ls hn_2 i2_0 i2_1 hP hS hl
      refine lv_iload_n hx hb dX11_readyAt_4 rfl (lv_at hl 3 rfl) ?_
      refine lv_aload_n hx hb dX11_readyAt_5 rfl (lv_at hl 0 rfl) ?_
      refine mdG_tried C hP mF_X11_319 dX11_readyAt_6 ?_
      refine gi_cge (tgt := 71) hx hb dX11_readyAt_9 (by decide) (by omega) (by omega) (fun c_3 => ?_) (fun c_3 => ?_)
      · refine lv_iload_n hx hb dX11_readyAt_71 rfl (lv_at hl 2 rfl) ?_
        exact g_iret hQ C hr hlocks hP hS dX11_readyAt_72 ⟨x2, rfl, rfl, rfl, rfl, (by first | omega | (split <;> omega))⟩
      · refine lv_aload_n hx hb dX11_readyAt_12 rfl (lv_at hl 0 rfl) ?_
        refine mdG_who C hP mF_X11_94 dX11_readyAt_13 ?_
        refine lv_iload_n hx hb dX11_readyAt_16 rfl (lv_at hl 3 rfl) ?_
        refine mdL_who C hP (by omega) (by omega) dX11_readyAt_17 ?_
        have r_4 : 0 ≤ (f 24 x3) ∧ (f 24 x3) ≤ 15 := hP.2.2 24 x3
        refine lv_iload_n hx hb dX11_readyAt_18 rfl (lv_at hl 1 rfl) ?_
        refine gi_cne (tgt := 65) hx hb dX11_readyAt_19 (by decide) (by omega) (by omega) (fun c_5 => ?_) (fun c_5 => ?_)
        · refine lv_iinc (v := iI (x3 + 1)) (lv' := [(3, .int (iI (x3 + 1))), (0, .ref (ad 0)), (1, .int (iI a1)), (2, .int (iI x2))]) hx hb dX11_readyAt_65 hl (k := 3) rfl (by show iI _ + iI 1 = _; rw [iI_add]) (by decide) rfl (fun ls hl => ?_)
          refine lv_goto (tgt := 4) hx hb dX11_readyAt_68 (by decide) ?_
          exact ih_4 x2 (x3 + 1) _ _ _ (by omega) (by omega) (by omega) hP hS (lv_sub hl [1, 2, 3, 0] rfl)
        · refine lv_aload_n hx hb dX11_readyAt_22 rfl (lv_at hl 0 rfl) ?_
          refine mdG_where C hP mF_X11_97 dX11_readyAt_23 ?_
          refine lv_iload_n hx hb dX11_readyAt_26 rfl (lv_at hl 3 rfl) ?_
          refine mdL_where C hP (by omega) (by omega) dX11_readyAt_27 ?_
          have r_6 : 0 ≤ (f 25 x3) ∧ (f 25 x3) ≤ 3 := hP.2.2 25 x3
          refine lv_aload_n hx hb dX11_readyAt_28 rfl (lv_at hl 0 rfl) ?_
          refine mdG_open C hP mF_X11_82 dX11_readyAt_29 ?_
          have r_7 : (-1) ≤ (v 23) ∧ (v 23) ≤ 3 := hok.1 23
          refine gi_cne (tgt := 65) hx hb dX11_readyAt_32 (by decide) (by omega) (by omega) (fun c_8 => ?_) (fun c_8 => ?_)
          · refine lv_iinc (v := iI (x3 + 1)) (lv' := [(3, .int (iI (x3 + 1))), (0, .ref (ad 0)), (1, .int (iI a1)), (2, .int (iI x2))]) hx hb dX11_readyAt_65 hl (k := 3) rfl (by show iI _ + iI 1 = _; rw [iI_add]) (by decide) rfl (fun ls hl => ?_)
            refine lv_goto (tgt := 4) hx hb dX11_readyAt_68 (by decide) ?_
            exact ih_4 x2 (x3 + 1) _ _ _ (by omega) (by omega) (by omega) hP hS (lv_sub hl [1, 2, 3, 0] rfl)
          · refine lv_aload_n hx hb dX11_readyAt_35 rfl (lv_at hl 0 rfl) ?_
            refine mdG_how C hP mF_X11_112 dX11_readyAt_36 ?_
            refine lv_iload_n hx hb dX11_readyAt_39 rfl (lv_at hl 3 rfl) ?_
            refine mdL_how C hP (by omega) (by omega) dX11_readyAt_40 ?_
            have r_9 : 0 ≤ (f 30 x3) ∧ (f 30 x3) ≤ 4 := hP.2.2 30 x3
            refine gi_zeq (tgt := 65) hx hb dX11_readyAt_41 (by decide) (by omega) (fun c_10 => ?_) (fun c_10 => ?_)
            · refine lv_iinc (v := iI (x3 + 1)) (lv' := [(3, .int (iI (x3 + 1))), (0, .ref (ad 0)), (1, .int (iI a1)), (2, .int (iI x2))]) hx hb dX11_readyAt_65 hl (k := 3) rfl (by show iI _ + iI 1 = _; rw [iI_add]) (by decide) rfl (fun ls hl => ?_)
              refine lv_goto (tgt := 4) hx hb dX11_readyAt_68 (by decide) ?_
              exact ih_4 x2 (x3 + 1) _ _ _ (by omega) (by omega) (by omega) hP hS (lv_sub hl [1, 2, 3, 0] rfl)
            · refine lv_iload_n hx hb dX11_readyAt_44 rfl (lv_at hl 2 rfl) ?_
              refine lv_aload_n hx hb dX11_readyAt_45 rfl (lv_at hl 0 rfl) ?_
              refine mdG_to C hP mF_X11_106 dX11_readyAt_46 ?_
              refine lv_iload_n hx hb dX11_readyAt_49 rfl (lv_at hl 3 rfl) ?_
              refine mdL_to C hP (by omega) (by omega) dX11_readyAt_50 ?_
              have r_11 : (-1) ≤ (f 28 x3) ∧ (f 28 x3) ≤ 1000999 := hP.2.2 28 x3
              refine lv_aload_n hx hb dX11_readyAt_51 rfl (lv_at hl 0 rfl) ?_
              refine mdG_rest C hP mF_X11_30 dX11_readyAt_52 ?_
              refine lv_aload_n hx hb dX11_readyAt_55 rfl (lv_at hl 0 rfl) ?_
              refine mdG_open C hP mF_X11_82 dX11_readyAt_56 ?_
              refine mdL_rest C hP (by omega) (by omega) dX11_readyAt_59 ?_
              have r_12 : 0 ≤ (f 4 (v 23)) ∧ (f 4 (v 23)) ≤ 999 := hP.2.2 4 (v 23)
              refine gi_add (z := ((f 28 x3) + (f 4 (v 23)))) hx hb dX11_readyAt_60 rfl ?_
              refine gi_max C hml hl.1 mM_X11_341 (by omega) (by omega) (Nat.le_of_ble_eq_true rfl) (Nat.le_of_ble_eq_true rfl) dX11_readyAt_61 (fun x_13 hx_13 => ?_)
              refine lv_istore_n (lv' := [(2, .int (iI x_13)), (0, .ref (ad 0)), (1, .int (iI a1)), (3, .int (iI x3))]) hx hb dX11_readyAt_64 rfl hl (by decide) rfl (fun ls hl => ?_)
              refine lv_iinc (v := iI (x3 + 1)) (lv' := [(3, .int (iI (x3 + 1))), (2, .int (iI x_13)), (0, .ref (ad 0)), (1, .int (iI a1))]) hx hb dX11_readyAt_65 hl (k := 3) rfl (by show iI _ + iI 1 = _; rw [iI_add]) (by decide) rfl (fun ls hl => ?_)
              refine lv_goto (tgt := 4) hx hb dX11_readyAt_68 (by decide) ?_
              exact ih_4 x_13 (x3 + 1) _ _ _ (by omega) (by omega) (by omega) hP hS (lv_sub hl [2, 3, 1, 0] rfl)
  exact L_2 301 0 0 _ _ _ (by omega) (by omega) (by omega) hP hS (lv_sub hl [2, 3, 1, 0] rfl)

set_option maxHeartbeats 4000000 in
set_option maxRecDepth 100000 in
theorem m_X11_climber (l : Launch) (D : va_G) (k : Nat → ClassId) (A : Nat → Prop) (ad : Nat → Nat) (hD : mdD A k ad) (v : gV) (f g : gF) : GM l D k A (mdT k ad) yX11_climber cX11_climber 1 (some .int) 1 21 [.ref (ad 0)] v f g (fun r v1 f1 g1 => ∃ (z : Int) (w0 : Int) (w1 : Int) (w22 : Int) (w23 : Int) (a21_ : Int → Int) (a22_ : Int → Int) (a23_ : Int → Int) (a34_ : Int → Int), r = some (.int (iI z)) ∧ (va_up (va_up (va_up (va_up v 0 w0) 1 w1) 22 w22) 23 w23) = v1 ∧ (va_up (va_up (va_up (va_up f 21 a21_) 22 a22_) 23 a23_) 34 a34_) = f1 ∧ g = g1 ∧ ((-1) ≤ z ∧ z ≤ 15)) := by
  refine GM.of (by decide) (Nat.le_of_ble_eq_true rfl) ?_
  intro p e s m args below meth c Q ls hQ C hml hr hlocks hP hl
  have hx := C.1
  have hb := C.2.1
  have hok := hP.2
  have hS : va_S A s.heap s.heap [] := va_S.rf
  have hl : lv_has ls 1 [(0, .ref (ad 0))] := hl
  have hP : gWd D (mdT k ad) (va_up (va_up (va_up (va_up v 0 (v 0)) 1 (v 1)) 22 (v 22)) 23 (v 23)) (va_up (va_up (va_up (va_up f 21 (f 21)) 22 (f 22)) 23 (f 23)) 34 (f 34)) g s.heap := by rw [va_id, va_id, va_id, va_id, va_id, va_id, va_id, va_id]; exact hP
  refine lv_aload_n hx hb dX11_climber_0 rfl (lv_at hl 0 rfl) ?_
  refine lv_iconst (v := iI 0) hx hb dX11_climber_1 rfl ?_
  refine mdP_thrown (v1 := (va_up (va_up (va_up (va_up v 0 (v 0)) 1 0) 22 (v 22)) 23 (v 23))) C hP hD hS mF_X11_146 (by decide) rfl (Or.inr (gF_up (V := mdV) (F := mdF) (gF_up (V := mdV) (F := mdF) (gF_up (V := mdV) (F := mdF) (gF_up (V := mdV) (F := mdF) (gR_up (V := mdV) (F := mdF) (gR_up (V := mdV) (F := mdF) (gR_up (V := mdV) (F := mdF) (gR_up (V := mdV) (F := mdF) ⟨hok.1, hok.2⟩ 0 (hP.2.1 0)) 1 (show 0 ≤ 0 ∧ 0 ≤ 0 from by decide)) 22 (hP.2.1 22)) 23 (hP.2.1 23)) 21 (hP.2.2 21)) 22 (hP.2.2 22)) 23 (hP.2.2 23)) 34 (hP.2.2 34))) dX11_climber_2 (fun H locs hP hS => ?_)
  refine lv_aload_n hx hb dX11_climber_5 rfl (lv_at hl 0 rfl) ?_
  refine lv_iconst (v := iI 0) hx hb dX11_climber_6 rfl ?_
  refine mdP_status (v1 := (va_up (va_up (va_up (va_up v 0 0) 1 0) 22 (v 22)) 23 (v 23))) C hP hD hS mF_X11_149 (by decide) rfl (Or.inr (gF_up (V := mdV) (F := mdF) (gF_up (V := mdV) (F := mdF) (gF_up (V := mdV) (F := mdF) (gF_up (V := mdV) (F := mdF) (gR_up (V := mdV) (F := mdF) (gR_up (V := mdV) (F := mdF) (gR_up (V := mdV) (F := mdF) (gR_up (V := mdV) (F := mdF) ⟨hok.1, hok.2⟩ 0 (show 0 ≤ 0 ∧ 0 ≤ 10 from by decide)) 1 (hP.2.1 1)) 22 (hP.2.1 22)) 23 (hP.2.1 23)) 21 (hP.2.2 21)) 22 (hP.2.2 22)) 23 (hP.2.2 23)) 34 (hP.2.2 34))) dX11_climber_7 (fun H locs hP hS => ?_)
  refine lv_aload_n hx hb dX11_climber_10 rfl (lv_at hl 0 rfl) ?_
  refine mdG_rounds C hP mF_X11_301 dX11_climber_11 ?_
  show W p l e (gRm 1 21) s m args below meth c _ _ 0 0 Q (F0 m 14 ls [.int (iI (v 12))])
  have r_1 : 0 ≤ (v 12) ∧ (v 12) ≤ 4 := hok.1 12
  refine gi_zne (tgt := 23) hx hb dX11_climber_14 (by decide) (by omega) (fun c_2 => ?_) (fun c_2 => ?_)
  · refine lv_aload_n hx hb dX11_climber_23 rfl (lv_at hl 0 rfl) ?_
    refine mdG_climbers C hP mF_X11_313 dX11_climber_24 ?_
    show W p l e (gRm 1 21) s m args below meth c _ _ 0 0 Q (F0 m 27 ls [.int (iI (v 22))])
    have r_3 : 0 ≤ (v 22) ∧ (v 22) ≤ 16 := hok.1 22
    refine lv_bipush (v := iI 16) hx hb dX11_climber_27 (by decide) ?_
    refine gi_cne (tgt := 38) hx hb dX11_climber_29 (by decide) (by omega) (by decide) (fun c_4 => ?_) (fun c_4 => ?_)
    · refine lv_aload_n hx hb dX11_climber_38 rfl (lv_at hl 0 rfl) ?_
      refine mdG_tried C hP mF_X11_319 dX11_climber_39 ?_
      show W p l e (gRm 1 21) s m args below meth c _ _ 0 0 Q (F0 m 42 ls [.int (iI (v 25))])
      have r_5 : 0 ≤ (v 25) ∧ (v 25) ≤ 300 := hok.1 25
      refine gi_zgt (tgt := 52) hx hb dX11_climber_42 (by decide) (by omega) (fun c_6 => ?_) (fun c_6 => ?_)
      · refine lv_aload_n hx hb dX11_climber_52 rfl (lv_at hl 0 rfl) ?_
        refine lv_bipush (v := iI 10) hx hb dX11_climber_53 (by decide) ?_
        refine g_cv (As := [.int (iI 10)]) (rest := []) (n := 1) C hml (m_X11_refuse l D k A ad hD (va_up (va_up (va_up (va_up v 0 0) 1 0) 22 (v 22)) 23 (v 23)) (va_up (va_up (va_up (va_up f 21 (f 21)) 22 (f 22)) 23 (f 23)) 34 (f 34)) g 10 (by decide) (show 0 ≤ (10 : Int) ∧ (10 : Int) ≤ 10 from by omega)) mM_X11_295 mI_X11_refuse mE_X11_refuse mN_X11 mC_X11_refuse (by decide +kernel) 0 (ci := 11) rfl rfl hP hS (fun _ h => h) ⟨Nat.le_of_ble_eq_true rfl, Nat.le_of_ble_eq_true rfl⟩ ⟨Nat.zero_le _, Nat.zero_le _⟩ hl.1 rfl rfl (Nat.le_of_ble_eq_true rfl) dX11_climber_55 (fun r_7 v_7 f_7 g_7 H locs hq_7 hP _ hS => ?_)
        obtain ⟨rfl, rfl, rfl, rfl⟩ := hq_7
        show W p l e (gRm 1 21) s m args below meth c _ _ 0 0 Q (F0 m 58 ls [.int (iI (-1))])
        have hP : gWd D (mdT k ad) (va_up (va_up (va_up (va_up v 0 (10 : Int)) 1 0) 22 (v 22)) 23 (v 23)) (va_up (va_up (va_up (va_up f 21 (f 21)) 22 (f 22)) 23 (f 23)) 34 (f 34)) g H := ⟨hP.1, (gF_up (V := mdV) (F := mdF) (gF_up (V := mdV) (F := mdF) (gF_up (V := mdV) (F := mdF) (gF_up (V := mdV) (F := mdF) (gR_up (V := mdV) (F := mdF) (gR_up (V := mdV) (F := mdF) (gR_up (V := mdV) (F := mdF) (gR_up (V := mdV) (F := mdF) ⟨hok.1, hok.2⟩ 0 (hP.2.1 0)) 1 (hP.2.1 1)) 22 (hP.2.1 22)) 23 (hP.2.1 23)) 21 (hP.2.2 21)) 22 (hP.2.2 22)) 23 (hP.2.2 23)) 34 (hP.2.2 34))⟩
        exact g_iret hQ C hr hlocks hP hS dX11_climber_58 ⟨(-1), (10 : Int), 0, (v 22), (v 23), (f 21), (f 22), (f 23), (f 34), rfl, rfl, rfl, rfl, (by first | omega | (split <;> omega))⟩
      · refine lv_aload_n hx hb dX11_climber_45 rfl (lv_at hl 0 rfl) ?_
        refine mdG_open C hP mF_X11_82 dX11_climber_46 ?_
        show W p l e (gRm 1 21) s m args below meth c _ _ 0 0 Q (F0 m 49 ls [.int (iI (v 23))])
        have r_8 : (-1) ≤ (v 23) ∧ (v 23) ≤ 3 := hok.1 23
        refine gi_zle (tgt := 59) hx hb dX11_climber_49 (by decide) (by omega) (fun c_9 => ?_) (fun c_9 => ?_)
        · refine lv_aload_n hx hb dX11_climber_59 rfl (lv_at hl 0 rfl) ?_
          refine mdG_isIn C hP mF_X11_85 dX11_climber_60 ?_
          refine lv_aload_n hx hb dX11_climber_63 rfl (lv_at hl 0 rfl) ?_
          refine mdG_climbers C hP mF_X11_313 dX11_climber_64 ?_
          show W p l e (gRm 1 21) s m args below meth c _ _ 0 0 Q (F0 m 67 ls [.int (iI (v 22)), .ref (ad 22)])
          refine lv_iconst (v := iI 1) hx hb dX11_climber_67 rfl ?_
          refine mdS_isIn (f1 := (va_up (va_up (va_up (va_up f 21 (u1 (f 21) (v 22) 1)) 22 (f 22)) 23 (f 23)) 34 (f 34))) C hP hD hS (by omega) (by omega) (by decide) (by decide) rfl (Or.inr (gF_up (V := mdV) (F := mdF) (gF_up (V := mdV) (F := mdF) (gF_up (V := mdV) (F := mdF) (gF_up (V := mdV) (F := mdF) (gR_up (V := mdV) (F := mdF) (gR_up (V := mdV) (F := mdF) (gR_up (V := mdV) (F := mdF) (gR_up (V := mdV) (F := mdF) ⟨hok.1, hok.2⟩ 0 (hP.2.1 0)) 1 (hP.2.1 1)) 22 (hP.2.1 22)) 23 (hP.2.1 23)) 21 (u1_rng (hP.2.2 21) (show 0 ≤ 1 ∧ 1 ≤ 1 from (by decide)))) 22 (hP.2.2 22)) 23 (hP.2.2 23)) 34 (hP.2.2 34))) dX11_climber_68 (fun H locs hP hS => ?_)
          refine lv_aload_n hx hb dX11_climber_69 rfl (lv_at hl 0 rfl) ?_
          refine mdG_order C hP mF_X11_88 dX11_climber_70 ?_
          refine lv_aload_n hx hb dX11_climber_73 rfl (lv_at hl 0 rfl) ?_
          refine mdG_climbers C hP mF_X11_313 dX11_climber_74 ?_
          show W p l e (gRm 1 21) s m args below meth c _ _ 0 0 Q (F0 m 77 ls [.int (iI (v 22)), .ref (ad 23)])
          refine lv_aload_n hx hb dX11_climber_77 rfl (lv_at hl 0 rfl) ?_
          refine mdG_climbers C hP mF_X11_313 dX11_climber_78 ?_
          show W p l e (gRm 1 21) s m args below meth c _ _ 0 0 Q (F0 m 81 ls [.int (iI (v 22)), .int (iI (v 22)), .ref (ad 23)])
          refine mdS_order (f1 := (va_up (va_up (va_up (va_up f 21 (u1 (f 21) (v 22) 1)) 22 (u1 (f 22) (v 22) (v 22))) 23 (f 23)) 34 (f 34))) C hP hD hS (by omega) (by omega) (by omega) rfl (Or.inr (gF_up (V := mdV) (F := mdF) (gF_up (V := mdV) (F := mdF) (gF_up (V := mdV) (F := mdF) (gF_up (V := mdV) (F := mdF) (gR_up (V := mdV) (F := mdF) (gR_up (V := mdV) (F := mdF) (gR_up (V := mdV) (F := mdF) (gR_up (V := mdV) (F := mdF) ⟨hok.1, hok.2⟩ 0 (hP.2.1 0)) 1 (hP.2.1 1)) 22 (hP.2.1 22)) 23 (hP.2.1 23)) 21 (hP.2.2 21)) 22 (u1_rng (hP.2.2 22) (show 0 ≤ (v 22) ∧ (v 22) ≤ 15 from (by omega)))) 23 (hP.2.2 23)) 34 (hP.2.2 34))) dX11_climber_81 (fun H locs hP hS => ?_)
          refine lv_aload_n hx hb dX11_climber_82 rfl (lv_at hl 0 rfl) ?_
          refine mdG_outs C hP mF_X11_124 dX11_climber_83 ?_
          refine lv_aload_n hx hb dX11_climber_86 rfl (lv_at hl 0 rfl) ?_
          refine mdG_climbers C hP mF_X11_313 dX11_climber_87 ?_
          show W p l e (gRm 1 21) s m args below meth c _ _ 0 0 Q (F0 m 90 ls [.int (iI (v 22)), .ref (ad 35)])
          refine lv_iconst (v := iI 0) hx hb dX11_climber_90 rfl ?_
          refine mdS_outs (f1 := (va_up (va_up (va_up (va_up f 21 (u1 (f 21) (v 22) 1)) 22 (u1 (f 22) (v 22) (v 22))) 23 (f 23)) 34 (u1 (f 34) (v 22) 0))) C hP hD hS (by omega) (by omega) (by decide) rfl (Or.inr (gF_up (V := mdV) (F := mdF) (gF_up (V := mdV) (F := mdF) (gF_up (V := mdV) (F := mdF) (gF_up (V := mdV) (F := mdF) (gR_up (V := mdV) (F := mdF) (gR_up (V := mdV) (F := mdF) (gR_up (V := mdV) (F := mdF) (gR_up (V := mdV) (F := mdF) ⟨hok.1, hok.2⟩ 0 (hP.2.1 0)) 1 (hP.2.1 1)) 22 (hP.2.1 22)) 23 (hP.2.1 23)) 21 (hP.2.2 21)) 22 (hP.2.2 22)) 23 (hP.2.2 23)) 34 (u1_rng (hP.2.2 34) (show 0 ≤ 0 ∧ 0 ≤ 20 from (by decide))))) dX11_climber_91 (fun H locs hP hS => ?_)
          refine lv_aload_n hx hb dX11_climber_92 rfl (lv_at hl 0 rfl) ?_
          refine lv_dup hx hb dX11_climber_93 rfl ?_
          refine mdG_climbers C hP mF_X11_313 dX11_climber_94 ?_
          show W p l e (gRm 1 21) s m args below meth c _ _ 0 0 Q (F0 m 97 ls [.int (iI (v 22)), .ref (ad 0)])
          refine lv_iconst (v := iI 1) hx hb dX11_climber_97 rfl ?_
          refine gi_add (z := ((v 22) + 1)) hx hb dX11_climber_98 rfl ?_
          refine mdP_climbers (v1 := (va_up (va_up (va_up (va_up v 0 0) 1 0) 22 ((v 22) + 1)) 23 (v 23))) C hP hD hS mF_X11_313 (by omega) rfl (Or.inr (gF_up (V := mdV) (F := mdF) (gF_up (V := mdV) (F := mdF) (gF_up (V := mdV) (F := mdF) (gF_up (V := mdV) (F := mdF) (gR_up (V := mdV) (F := mdF) (gR_up (V := mdV) (F := mdF) (gR_up (V := mdV) (F := mdF) (gR_up (V := mdV) (F := mdF) ⟨hok.1, hok.2⟩ 0 (hP.2.1 0)) 1 (hP.2.1 1)) 22 (show 0 ≤ ((v 22) + 1) ∧ ((v 22) + 1) ≤ 16 from by omega)) 23 (hP.2.1 23)) 21 (hP.2.2 21)) 22 (hP.2.2 22)) 23 (hP.2.2 23)) 34 (hP.2.2 34))) dX11_climber_99 (fun H locs hP hS => ?_)
          refine lv_aload_n hx hb dX11_climber_102 rfl (lv_at hl 0 rfl) ?_
          refine mdG_orderMany C hP mF_X11_91 dX11_climber_103 ?_
          refine lv_iconst (v := iI 0) hx hb dX11_climber_106 rfl ?_
          refine lv_aload_n hx hb dX11_climber_107 rfl (lv_at hl 0 rfl) ?_
          refine mdG_climbers C hP mF_X11_313 dX11_climber_108 ?_
          show W p l e (gRm 1 21) s m args below meth c _ _ 0 0 Q (F0 m 111 ls [.int (iI ((v 22) + 1)), .int (iI 0), .ref (ad 24)])
          have r_10 : 0 ≤ ((v 22) + 1) ∧ ((v 22) + 1) ≤ 16 := hP.2.1 22
          refine mdS_orderMany (f1 := (va_up (va_up (va_up (va_up f 21 (u1 (f 21) (v 22) 1)) 22 (u1 (f 22) (v 22) (v 22))) 23 (u1 (f 23) 0 ((v 22) + 1))) 34 (u1 (f 34) (v 22) 0))) C hP hD hS (by decide) (by decide) (by omega) rfl (Or.inr (gF_up (V := mdV) (F := mdF) (gF_up (V := mdV) (F := mdF) (gF_up (V := mdV) (F := mdF) (gF_up (V := mdV) (F := mdF) (gR_up (V := mdV) (F := mdF) (gR_up (V := mdV) (F := mdF) (gR_up (V := mdV) (F := mdF) (gR_up (V := mdV) (F := mdF) ⟨hok.1, hok.2⟩ 0 (hP.2.1 0)) 1 (hP.2.1 1)) 22 (hP.2.1 22)) 23 (hP.2.1 23)) 21 (hP.2.2 21)) 22 (hP.2.2 22)) 23 (u1_rng (hP.2.2 23) (show 0 ≤ ((v 22) + 1) ∧ ((v 22) + 1) ≤ 16 from (by omega)))) 34 (hP.2.2 34))) dX11_climber_111 (fun H locs hP hS => ?_)
          refine lv_aload_n hx hb dX11_climber_112 rfl (lv_at hl 0 rfl) ?_
          refine lv_iconst (v := iI 0) hx hb dX11_climber_113 rfl ?_
          refine mdP_open (v1 := (va_up (va_up (va_up (va_up v 0 0) 1 0) 22 ((v 22) + 1)) 23 0)) C hP hD hS mF_X11_82 (by decide) rfl (Or.inr (gF_up (V := mdV) (F := mdF) (gF_up (V := mdV) (F := mdF) (gF_up (V := mdV) (F := mdF) (gF_up (V := mdV) (F := mdF) (gR_up (V := mdV) (F := mdF) (gR_up (V := mdV) (F := mdF) (gR_up (V := mdV) (F := mdF) (gR_up (V := mdV) (F := mdF) ⟨hok.1, hok.2⟩ 0 (hP.2.1 0)) 1 (hP.2.1 1)) 22 (hP.2.1 22)) 23 (show (-1) ≤ 0 ∧ 0 ≤ 3 from by decide)) 21 (hP.2.2 21)) 22 (hP.2.2 22)) 23 (hP.2.2 23)) 34 (hP.2.2 34))) dX11_climber_114 (fun H locs hP hS => ?_)
          refine lv_aload_n hx hb dX11_climber_117 rfl (lv_at hl 0 rfl) ?_
          refine mdG_climbers C hP mF_X11_313 dX11_climber_118 ?_
          show W p l e (gRm 1 21) s m args below meth c _ _ 0 0 Q (F0 m 121 ls [.int (iI ((v 22) + 1))])
          refine lv_iconst (v := iI 1) hx hb dX11_climber_121 rfl ?_
          refine gi_sub (z := (((v 22) + 1) - 1)) hx hb dX11_climber_122 rfl ?_
          exact g_iret hQ C hr hlocks hP hS dX11_climber_123 ⟨(((v 22) + 1) - 1), 0, 0, ((v 22) + 1), 0, (u1 (f 21) (v 22) 1), (u1 (f 22) (v 22) (v 22)), (u1 (f 23) 0 ((v 22) + 1)), (u1 (f 34) (v 22) 0), rfl, rfl, rfl, rfl, (by first | omega | (split <;> omega))⟩
        · refine lv_aload_n hx hb dX11_climber_52 rfl (lv_at hl 0 rfl) ?_
          refine lv_bipush (v := iI 10) hx hb dX11_climber_53 (by decide) ?_
          refine g_cv (As := [.int (iI 10)]) (rest := []) (n := 1) C hml (m_X11_refuse l D k A ad hD (va_up (va_up (va_up (va_up v 0 0) 1 0) 22 (v 22)) 23 (v 23)) (va_up (va_up (va_up (va_up f 21 (f 21)) 22 (f 22)) 23 (f 23)) 34 (f 34)) g 10 (by decide) (show 0 ≤ (10 : Int) ∧ (10 : Int) ≤ 10 from by omega)) mM_X11_295 mI_X11_refuse mE_X11_refuse mN_X11 mC_X11_refuse (by decide +kernel) 0 (ci := 11) rfl rfl hP hS (fun _ h => h) ⟨Nat.le_of_ble_eq_true rfl, Nat.le_of_ble_eq_true rfl⟩ ⟨Nat.zero_le _, Nat.zero_le _⟩ hl.1 rfl rfl (Nat.le_of_ble_eq_true rfl) dX11_climber_55 (fun r_11 v_11 f_11 g_11 H locs hq_11 hP _ hS => ?_)
          obtain ⟨rfl, rfl, rfl, rfl⟩ := hq_11
          show W p l e (gRm 1 21) s m args below meth c _ _ 0 0 Q (F0 m 58 ls [.int (iI (-1))])
          have hP : gWd D (mdT k ad) (va_up (va_up (va_up (va_up v 0 (10 : Int)) 1 0) 22 (v 22)) 23 (v 23)) (va_up (va_up (va_up (va_up f 21 (f 21)) 22 (f 22)) 23 (f 23)) 34 (f 34)) g H := ⟨hP.1, (gF_up (V := mdV) (F := mdF) (gF_up (V := mdV) (F := mdF) (gF_up (V := mdV) (F := mdF) (gF_up (V := mdV) (F := mdF) (gR_up (V := mdV) (F := mdF) (gR_up (V := mdV) (F := mdF) (gR_up (V := mdV) (F := mdF) (gR_up (V := mdV) (F := mdF) ⟨hok.1, hok.2⟩ 0 (hP.2.1 0)) 1 (hP.2.1 1)) 22 (hP.2.1 22)) 23 (hP.2.1 23)) 21 (hP.2.2 21)) 22 (hP.2.2 22)) 23 (hP.2.2 23)) 34 (hP.2.2 34))⟩
          exact g_iret hQ C hr hlocks hP hS dX11_climber_58 ⟨(-1), (10 : Int), 0, (v 22), (v 23), (f 21), (f 22), (f 23), (f 34), rfl, rfl, rfl, rfl, (by first | omega | (split <;> omega))⟩
    · refine lv_aload_n hx hb dX11_climber_32 rfl (lv_at hl 0 rfl) ?_
      refine lv_iconst (v := iI 3) hx hb dX11_climber_33 rfl ?_
      refine g_cv (As := [.int (iI 3)]) (rest := []) (n := 1) C hml (m_X11_refuse l D k A ad hD (va_up (va_up (va_up (va_up v 0 0) 1 0) 22 (v 22)) 23 (v 23)) (va_up (va_up (va_up (va_up f 21 (f 21)) 22 (f 22)) 23 (f 23)) 34 (f 34)) g 3 (by decide) (show 0 ≤ (3 : Int) ∧ (3 : Int) ≤ 10 from by omega)) mM_X11_295 mI_X11_refuse mE_X11_refuse mN_X11 mC_X11_refuse (by decide +kernel) 0 (ci := 11) rfl rfl hP hS (fun _ h => h) ⟨Nat.le_of_ble_eq_true rfl, Nat.le_of_ble_eq_true rfl⟩ ⟨Nat.zero_le _, Nat.zero_le _⟩ hl.1 rfl rfl (Nat.le_of_ble_eq_true rfl) dX11_climber_34 (fun r_12 v_12 f_12 g_12 H locs hq_12 hP _ hS => ?_)
      obtain ⟨rfl, rfl, rfl, rfl⟩ := hq_12
      show W p l e (gRm 1 21) s m args below meth c _ _ 0 0 Q (F0 m 37 ls [.int (iI (-1))])
      have hP : gWd D (mdT k ad) (va_up (va_up (va_up (va_up v 0 (3 : Int)) 1 0) 22 (v 22)) 23 (v 23)) (va_up (va_up (va_up (va_up f 21 (f 21)) 22 (f 22)) 23 (f 23)) 34 (f 34)) g H := ⟨hP.1, (gF_up (V := mdV) (F := mdF) (gF_up (V := mdV) (F := mdF) (gF_up (V := mdV) (F := mdF) (gF_up (V := mdV) (F := mdF) (gR_up (V := mdV) (F := mdF) (gR_up (V := mdV) (F := mdF) (gR_up (V := mdV) (F := mdF) (gR_up (V := mdV) (F := mdF) ⟨hok.1, hok.2⟩ 0 (hP.2.1 0)) 1 (hP.2.1 1)) 22 (hP.2.1 22)) 23 (hP.2.1 23)) 21 (hP.2.2 21)) 22 (hP.2.2 22)) 23 (hP.2.2 23)) 34 (hP.2.2 34))⟩
      exact g_iret hQ C hr hlocks hP hS dX11_climber_37 ⟨(-1), (3 : Int), 0, (v 22), (v 23), (f 21), (f 22), (f 23), (f 34), rfl, rfl, rfl, rfl, (by first | omega | (split <;> omega))⟩
  · refine lv_aload_n hx hb dX11_climber_17 rfl (lv_at hl 0 rfl) ?_
    refine lv_iconst (v := iI 1) hx hb dX11_climber_18 rfl ?_
    refine g_cv (As := [.int (iI 1)]) (rest := []) (n := 1) C hml (m_X11_refuse l D k A ad hD (va_up (va_up (va_up (va_up v 0 0) 1 0) 22 (v 22)) 23 (v 23)) (va_up (va_up (va_up (va_up f 21 (f 21)) 22 (f 22)) 23 (f 23)) 34 (f 34)) g 1 (by decide) (show 0 ≤ (1 : Int) ∧ (1 : Int) ≤ 10 from by omega)) mM_X11_295 mI_X11_refuse mE_X11_refuse mN_X11 mC_X11_refuse (by decide +kernel) 0 (ci := 11) rfl rfl hP hS (fun _ h => h) ⟨Nat.le_of_ble_eq_true rfl, Nat.le_of_ble_eq_true rfl⟩ ⟨Nat.zero_le _, Nat.zero_le _⟩ hl.1 rfl rfl (Nat.le_of_ble_eq_true rfl) dX11_climber_19 (fun r_13 v_13 f_13 g_13 H locs hq_13 hP _ hS => ?_)
    obtain ⟨rfl, rfl, rfl, rfl⟩ := hq_13
    show W p l e (gRm 1 21) s m args below meth c _ _ 0 0 Q (F0 m 22 ls [.int (iI (-1))])
    have hP : gWd D (mdT k ad) (va_up (va_up (va_up (va_up v 0 (1 : Int)) 1 0) 22 (v 22)) 23 (v 23)) (va_up (va_up (va_up (va_up f 21 (f 21)) 22 (f 22)) 23 (f 23)) 34 (f 34)) g H := ⟨hP.1, (gF_up (V := mdV) (F := mdF) (gF_up (V := mdV) (F := mdF) (gF_up (V := mdV) (F := mdF) (gF_up (V := mdV) (F := mdF) (gR_up (V := mdV) (F := mdF) (gR_up (V := mdV) (F := mdF) (gR_up (V := mdV) (F := mdF) (gR_up (V := mdV) (F := mdF) ⟨hok.1, hok.2⟩ 0 (hP.2.1 0)) 1 (hP.2.1 1)) 22 (hP.2.1 22)) 23 (hP.2.1 23)) 21 (hP.2.2 21)) 22 (hP.2.2 22)) 23 (hP.2.2 23)) 34 (hP.2.2 34))⟩
    exact g_iret hQ C hr hlocks hP hS dX11_climber_22 ⟨(-1), (1 : Int), 0, (v 22), (v 23), (f 21), (f 22), (f 23), (f 34), rfl, rfl, rfl, rfl, (by first | omega | (split <;> omega))⟩

set_option maxHeartbeats 4000000 in
set_option maxRecDepth 100000 in
theorem m_X11_route (l : Launch) (D : va_G) (k : Nat → ClassId) (A : Nat → Prop) (ad : Nat → Nat) (hD : mdD A k ad) (v : gV) (f g : gF) (a1 : Int) (a2 : Int) (a3 : Int) (a4 : Int) (a5 : Int) (a6 : Int) (h_a1 : inR a1) (h_a2 : inR a2) (h_a3 : inR a3) (h_a4 : inR a4) (h_a5 : inR a5) (h_a6 : inR a6) : GM l D k A (mdT k ad) yX11_route cX11_route 9 (some .boolean) 2 43 [.ref (ad 0), .int (iI a1), .int (iI a2), .int (iI a3), .int (iI a4), .int (iI a5), .int (iI a6)] v f g (fun r v1 f1 g1 => ∃ (z : Int) (w0 : Int) (w1 : Int) (a18_ : Int → Int) (a19_ : Int → Int), r = some (.int (iI z)) ∧ (va_up (va_up v 0 w0) 1 w1) = v1 ∧ (va_up (va_up f 18 a18_) 19 a19_) = f1 ∧ g = g1 ∧ (0 ≤ z ∧ z ≤ 1)) := by
  refine GM.of (by decide) (Nat.le_of_ble_eq_true rfl) ?_
  intro p e s m args below meth c Q ls hQ C hml hr hlocks hP hl
  have hx := C.1
  have hb := C.2.1
  have hok := hP.2
  have hS : va_S A s.heap s.heap [] := va_S.rf
  have hl : lv_has ls 9 [(0, .ref (ad 0)), (1, .int (iI a1)), (2, .int (iI a2)), (3, .int (iI a3)), (4, .int (iI a4)), (5, .int (iI a5)), (6, .int (iI a6))] := hl
  have hP : gWd D (mdT k ad) (va_up (va_up v 0 (v 0)) 1 (v 1)) (va_up (va_up f 18 (f 18)) 19 (f 19)) g s.heap := by rw [va_id, va_id, va_id, va_id]; exact hP
  refine lv_aload_n hx hb dX11_route_0 rfl (lv_at hl 0 rfl) ?_
  refine lv_iconst (v := iI 0) hx hb dX11_route_1 rfl ?_
  refine mdP_thrown (v1 := (va_up (va_up v 0 (v 0)) 1 0)) C hP hD hS mF_X11_146 (by decide) rfl (Or.inr (gF_up (V := mdV) (F := mdF) (gF_up (V := mdV) (F := mdF) (gR_up (V := mdV) (F := mdF) (gR_up (V := mdV) (F := mdF) ⟨hok.1, hok.2⟩ 0 (hP.2.1 0)) 1 (show 0 ≤ 0 ∧ 0 ≤ 0 from by decide)) 18 (hP.2.2 18)) 19 (hP.2.2 19))) dX11_route_2 (fun H locs hP hS => ?_)
  refine lv_aload_n hx hb dX11_route_5 rfl (lv_at hl 0 rfl) ?_
  refine lv_iconst (v := iI 0) hx hb dX11_route_6 rfl ?_
  refine mdP_status (v1 := (va_up (va_up v 0 0) 1 0)) C hP hD hS mF_X11_149 (by decide) rfl (Or.inr (gF_up (V := mdV) (F := mdF) (gF_up (V := mdV) (F := mdF) (gR_up (V := mdV) (F := mdF) (gR_up (V := mdV) (F := mdF) ⟨hok.1, hok.2⟩ 0 (show 0 ≤ 0 ∧ 0 ≤ 10 from by decide)) 1 (hP.2.1 1)) 18 (hP.2.2 18)) 19 (hP.2.2 19))) dX11_route_7 (fun H locs hP hS => ?_)
  refine lv_aload_n hx hb dX11_route_10 rfl (lv_at hl 0 rfl) ?_
  refine lv_iload_n hx hb dX11_route_11 rfl (lv_at hl 1 rfl) ?_
  refine lv_iload_n hx hb dX11_route_12 rfl (lv_at hl 2 rfl) ?_
  refine g_cv (As := [.int (iI a1), .int (iI a2)]) (rest := []) (n := 2) C hml (m_X11_isRoute l D k A ad hD (va_up (va_up v 0 0) 1 0) (va_up (va_up f 18 (f 18)) 19 (f 19)) g a1 a2 (by omega) (by omega)) mM_X11_328 mI_X11_isRoute mE_X11_isRoute mN_X11 mC_X11_isRoute (by decide +kernel) 0 (ci := 11) rfl rfl hP hS (fun _ h => h) ⟨Nat.le_of_ble_eq_true rfl, Nat.le_of_ble_eq_true rfl⟩ ⟨Nat.zero_le _, Nat.zero_le _⟩ hl.1 rfl rfl (Nat.le_of_ble_eq_true rfl) dX11_route_13 (fun r_1 v_1 f_1 g_1 H locs hq_1 hP _ hS => ?_)
  obtain ⟨z_1, rfl, rfl, rfl, rfl, p0_1, p1_1⟩ := hq_1
  show W p l e (gRm 2 43) s m args below meth c _ _ 0 0 Q (F0 m 16 ls [.int (iI z_1)])
  replace p0_1 : z_1 = (if (0 ≤ a1 ∧ a1 < (v 12)) ∧ 0 ≤ a2 ∧ a2 < (f 1) a1 then 1 else 0) := p0_1
  have w_1 := gif (P := (0 ≤ a1 ∧ a1 < (v 12)) ∧ 0 ≤ a2 ∧ a2 < (f 1) a1) p0_1
  replace p1_1 : z_1 = 1 → a2 ≤ 4 ∧ a1 ≤ 3 := p1_1
  have hz_1 : inR z_1 := (by first | omega | (rw [p0_1]; split <;> omega))
  refine gi_zne (tgt := 25) hx hb dX11_route_16 (by decide) (by omega) (fun c_2 => ?_) (fun c_2 => ?_)
  · refine lv_iload_n hx hb dX11_route_25 rfl (lv_at hl 3 rfl) ?_
    refine lv_iconst (v := iI 2) hx hb dX11_route_26 rfl ?_
    refine gi_clt (tgt := 73) hx hb dX11_route_27 (by decide) (by omega) (by decide) (fun c_3 => ?_) (fun c_3 => ?_)
    · refine lv_iconst (v := iI 0) hx hb dX11_route_73 rfl ?_
      refine lv_istore (lv' := [(7, .int (iI 0)), (0, .ref (ad 0)), (1, .int (iI a1)), (2, .int (iI a2)), (3, .int (iI a3)), (4, .int (iI a4)), (5, .int (iI a5)), (6, .int (iI a6))]) hx hb dX11_route_74 hl (by decide) rfl (fun ls hl => ?_)
      refine lv_iload hx hb dX11_route_76 (lv_at hl 0 rfl) ?_
      refine gi_zeq (tgt := 135) hx hb dX11_route_78 (by decide) (by decide) (fun c_4 => ?_) (fun c_4 => ?_)
      · refine lv_iconst (v := iI 0) hx hb dX11_route_135 rfl ?_
        refine lv_istore (lv' := [(7, .int (iI 0)), (0, .ref (ad 0)), (1, .int (iI a1)), (2, .int (iI a2)), (3, .int (iI a3)), (4, .int (iI a4)), (5, .int (iI a5)), (6, .int (iI a6))]) hx hb dX11_route_136 hl (by decide) rfl (fun ls hl => ?_)
        refine lv_iload hx hb dX11_route_138 (lv_at hl 0 rfl) ?_
        refine gi_zne (tgt := 149) hx hb dX11_route_140 (by decide) (by decide) (fun c_5 => ?_) (fun c_5 => ?_)
        · exfalso; omega
        · refine lv_aload_n hx hb dX11_route_143 rfl (lv_at hl 1 rfl) ?_
          refine lv_iconst (v := iI 2) hx hb dX11_route_144 rfl ?_
          refine g_cv (As := [.int (iI 2)]) (rest := []) (n := 1) C hml (m_X11_no l D k A ad hD (va_up (va_up v 0 0) 1 0) (va_up (va_up f 18 (f 18)) 19 (f 19)) g 2 (by decide) (show 0 ≤ (2 : Int) ∧ (2 : Int) ≤ 10 from by omega)) mM_X11_332 mI_X11_no mE_X11_no mN_X11 mC_X11_no (by decide +kernel) 0 (ci := 11) rfl rfl hP hS (fun _ h => h) ⟨Nat.le_of_ble_eq_true rfl, Nat.le_of_ble_eq_true rfl⟩ ⟨Nat.zero_le _, Nat.zero_le _⟩ hl.1 rfl rfl (Nat.le_of_ble_eq_true rfl) dX11_route_145 (fun r_6 v_6 f_6 g_6 H locs hq_6 hP _ hS => ?_)
          obtain ⟨rfl, rfl, rfl, rfl⟩ := hq_6
          show W p l e (gRm 2 43) s m args below meth c _ _ 0 0 Q (F0 m 148 ls [.int (iI 0)])
          have hP : gWd D (mdT k ad) (va_up (va_up v 0 (2 : Int)) 1 0) (va_up (va_up f 18 (f 18)) 19 (f 19)) g H := ⟨hP.1, (gF_up (V := mdV) (F := mdF) (gF_up (V := mdV) (F := mdF) (gR_up (V := mdV) (F := mdF) (gR_up (V := mdV) (F := mdF) ⟨hok.1, hok.2⟩ 0 (hP.2.1 0)) 1 (hP.2.1 1)) 18 (hP.2.2 18)) 19 (hP.2.2 19))⟩
          exact g_zret hQ C hr hlocks (by decide) hP hS dX11_route_148 ⟨0, (2 : Int), 0, (f 18), (f 19), rfl, rfl, rfl, rfl, (by first | omega | (split <;> omega))⟩
      · exfalso; omega
    · refine lv_iload_n hx hb dX11_route_30 rfl (lv_at hl 3 rfl) ?_
      refine lv_bipush (v := iI 60) hx hb dX11_route_31 (by decide) ?_
      refine gi_cgt (tgt := 73) hx hb dX11_route_33 (by decide) (by omega) (by decide) (fun c_7 => ?_) (fun c_7 => ?_)
      · refine lv_iconst (v := iI 0) hx hb dX11_route_73 rfl ?_
        refine lv_istore (lv' := [(7, .int (iI 0)), (0, .ref (ad 0)), (1, .int (iI a1)), (2, .int (iI a2)), (3, .int (iI a3)), (4, .int (iI a4)), (5, .int (iI a5)), (6, .int (iI a6))]) hx hb dX11_route_74 hl (by decide) rfl (fun ls hl => ?_)
        refine lv_iload hx hb dX11_route_76 (lv_at hl 0 rfl) ?_
        refine gi_zeq (tgt := 135) hx hb dX11_route_78 (by decide) (by decide) (fun c_8 => ?_) (fun c_8 => ?_)
        · refine lv_iconst (v := iI 0) hx hb dX11_route_135 rfl ?_
          refine lv_istore (lv' := [(7, .int (iI 0)), (0, .ref (ad 0)), (1, .int (iI a1)), (2, .int (iI a2)), (3, .int (iI a3)), (4, .int (iI a4)), (5, .int (iI a5)), (6, .int (iI a6))]) hx hb dX11_route_136 hl (by decide) rfl (fun ls hl => ?_)
          refine lv_iload hx hb dX11_route_138 (lv_at hl 0 rfl) ?_
          refine gi_zne (tgt := 149) hx hb dX11_route_140 (by decide) (by decide) (fun c_9 => ?_) (fun c_9 => ?_)
          · exfalso; omega
          · refine lv_aload_n hx hb dX11_route_143 rfl (lv_at hl 1 rfl) ?_
            refine lv_iconst (v := iI 2) hx hb dX11_route_144 rfl ?_
            refine g_cv (As := [.int (iI 2)]) (rest := []) (n := 1) C hml (m_X11_no l D k A ad hD (va_up (va_up v 0 0) 1 0) (va_up (va_up f 18 (f 18)) 19 (f 19)) g 2 (by decide) (show 0 ≤ (2 : Int) ∧ (2 : Int) ≤ 10 from by omega)) mM_X11_332 mI_X11_no mE_X11_no mN_X11 mC_X11_no (by decide +kernel) 0 (ci := 11) rfl rfl hP hS (fun _ h => h) ⟨Nat.le_of_ble_eq_true rfl, Nat.le_of_ble_eq_true rfl⟩ ⟨Nat.zero_le _, Nat.zero_le _⟩ hl.1 rfl rfl (Nat.le_of_ble_eq_true rfl) dX11_route_145 (fun r_10 v_10 f_10 g_10 H locs hq_10 hP _ hS => ?_)
            obtain ⟨rfl, rfl, rfl, rfl⟩ := hq_10
            show W p l e (gRm 2 43) s m args below meth c _ _ 0 0 Q (F0 m 148 ls [.int (iI 0)])
            have hP : gWd D (mdT k ad) (va_up (va_up v 0 (2 : Int)) 1 0) (va_up (va_up f 18 (f 18)) 19 (f 19)) g H := ⟨hP.1, (gF_up (V := mdV) (F := mdF) (gF_up (V := mdV) (F := mdF) (gR_up (V := mdV) (F := mdF) (gR_up (V := mdV) (F := mdF) ⟨hok.1, hok.2⟩ 0 (hP.2.1 0)) 1 (hP.2.1 1)) 18 (hP.2.2 18)) 19 (hP.2.2 19))⟩
            exact g_zret hQ C hr hlocks (by decide) hP hS dX11_route_148 ⟨0, (2 : Int), 0, (f 18), (f 19), rfl, rfl, rfl, rfl, (by first | omega | (split <;> omega))⟩
        · exfalso; omega
      · refine lv_iload hx hb dX11_route_36 (lv_at hl 4 rfl) ?_
        refine gi_zlt (tgt := 73) hx hb dX11_route_38 (by decide) (by omega) (fun c_11 => ?_) (fun c_11 => ?_)
        · refine lv_iconst (v := iI 0) hx hb dX11_route_73 rfl ?_
          refine lv_istore (lv' := [(7, .int (iI 0)), (0, .ref (ad 0)), (1, .int (iI a1)), (2, .int (iI a2)), (3, .int (iI a3)), (4, .int (iI a4)), (5, .int (iI a5)), (6, .int (iI a6))]) hx hb dX11_route_74 hl (by decide) rfl (fun ls hl => ?_)
          refine lv_iload hx hb dX11_route_76 (lv_at hl 0 rfl) ?_
          refine gi_zeq (tgt := 135) hx hb dX11_route_78 (by decide) (by decide) (fun c_12 => ?_) (fun c_12 => ?_)
          · refine lv_iconst (v := iI 0) hx hb dX11_route_135 rfl ?_
            refine lv_istore (lv' := [(7, .int (iI 0)), (0, .ref (ad 0)), (1, .int (iI a1)), (2, .int (iI a2)), (3, .int (iI a3)), (4, .int (iI a4)), (5, .int (iI a5)), (6, .int (iI a6))]) hx hb dX11_route_136 hl (by decide) rfl (fun ls hl => ?_)
            refine lv_iload hx hb dX11_route_138 (lv_at hl 0 rfl) ?_
            refine gi_zne (tgt := 149) hx hb dX11_route_140 (by decide) (by decide) (fun c_13 => ?_) (fun c_13 => ?_)
            · exfalso; omega
            · refine lv_aload_n hx hb dX11_route_143 rfl (lv_at hl 1 rfl) ?_
              refine lv_iconst (v := iI 2) hx hb dX11_route_144 rfl ?_
              refine g_cv (As := [.int (iI 2)]) (rest := []) (n := 1) C hml (m_X11_no l D k A ad hD (va_up (va_up v 0 0) 1 0) (va_up (va_up f 18 (f 18)) 19 (f 19)) g 2 (by decide) (show 0 ≤ (2 : Int) ∧ (2 : Int) ≤ 10 from by omega)) mM_X11_332 mI_X11_no mE_X11_no mN_X11 mC_X11_no (by decide +kernel) 0 (ci := 11) rfl rfl hP hS (fun _ h => h) ⟨Nat.le_of_ble_eq_true rfl, Nat.le_of_ble_eq_true rfl⟩ ⟨Nat.zero_le _, Nat.zero_le _⟩ hl.1 rfl rfl (Nat.le_of_ble_eq_true rfl) dX11_route_145 (fun r_14 v_14 f_14 g_14 H locs hq_14 hP _ hS => ?_)
              obtain ⟨rfl, rfl, rfl, rfl⟩ := hq_14
              show W p l e (gRm 2 43) s m args below meth c _ _ 0 0 Q (F0 m 148 ls [.int (iI 0)])
              have hP : gWd D (mdT k ad) (va_up (va_up v 0 (2 : Int)) 1 0) (va_up (va_up f 18 (f 18)) 19 (f 19)) g H := ⟨hP.1, (gF_up (V := mdV) (F := mdF) (gF_up (V := mdV) (F := mdF) (gR_up (V := mdV) (F := mdF) (gR_up (V := mdV) (F := mdF) ⟨hok.1, hok.2⟩ 0 (hP.2.1 0)) 1 (hP.2.1 1)) 18 (hP.2.2 18)) 19 (hP.2.2 19))⟩
              exact g_zret hQ C hr hlocks (by decide) hP hS dX11_route_148 ⟨0, (2 : Int), 0, (f 18), (f 19), rfl, rfl, rfl, rfl, (by first | omega | (split <;> omega))⟩
          · exfalso; omega
        · refine lv_iload hx hb dX11_route_41 (lv_at hl 5 rfl) ?_
          refine gi_zlt (tgt := 73) hx hb dX11_route_43 (by decide) (by omega) (fun c_15 => ?_) (fun c_15 => ?_)
          · refine lv_iconst (v := iI 0) hx hb dX11_route_73 rfl ?_
            refine lv_istore (lv' := [(7, .int (iI 0)), (0, .ref (ad 0)), (1, .int (iI a1)), (2, .int (iI a2)), (3, .int (iI a3)), (4, .int (iI a4)), (5, .int (iI a5)), (6, .int (iI a6))]) hx hb dX11_route_74 hl (by decide) rfl (fun ls hl => ?_)
            refine lv_iload hx hb dX11_route_76 (lv_at hl 0 rfl) ?_
            refine gi_zeq (tgt := 135) hx hb dX11_route_78 (by decide) (by decide) (fun c_16 => ?_) (fun c_16 => ?_)
            · refine lv_iconst (v := iI 0) hx hb dX11_route_135 rfl ?_
              refine lv_istore (lv' := [(7, .int (iI 0)), (0, .ref (ad 0)), (1, .int (iI a1)), (2, .int (iI a2)), (3, .int (iI a3)), (4, .int (iI a4)), (5, .int (iI a5)), (6, .int (iI a6))]) hx hb dX11_route_136 hl (by decide) rfl (fun ls hl => ?_)
              refine lv_iload hx hb dX11_route_138 (lv_at hl 0 rfl) ?_
              refine gi_zne (tgt := 149) hx hb dX11_route_140 (by decide) (by decide) (fun c_17 => ?_) (fun c_17 => ?_)
              · exfalso; omega
              · refine lv_aload_n hx hb dX11_route_143 rfl (lv_at hl 1 rfl) ?_
                refine lv_iconst (v := iI 2) hx hb dX11_route_144 rfl ?_
                refine g_cv (As := [.int (iI 2)]) (rest := []) (n := 1) C hml (m_X11_no l D k A ad hD (va_up (va_up v 0 0) 1 0) (va_up (va_up f 18 (f 18)) 19 (f 19)) g 2 (by decide) (show 0 ≤ (2 : Int) ∧ (2 : Int) ≤ 10 from by omega)) mM_X11_332 mI_X11_no mE_X11_no mN_X11 mC_X11_no (by decide +kernel) 0 (ci := 11) rfl rfl hP hS (fun _ h => h) ⟨Nat.le_of_ble_eq_true rfl, Nat.le_of_ble_eq_true rfl⟩ ⟨Nat.zero_le _, Nat.zero_le _⟩ hl.1 rfl rfl (Nat.le_of_ble_eq_true rfl) dX11_route_145 (fun r_18 v_18 f_18 g_18 H locs hq_18 hP _ hS => ?_)
                obtain ⟨rfl, rfl, rfl, rfl⟩ := hq_18
                show W p l e (gRm 2 43) s m args below meth c _ _ 0 0 Q (F0 m 148 ls [.int (iI 0)])
                have hP : gWd D (mdT k ad) (va_up (va_up v 0 (2 : Int)) 1 0) (va_up (va_up f 18 (f 18)) 19 (f 19)) g H := ⟨hP.1, (gF_up (V := mdV) (F := mdF) (gF_up (V := mdV) (F := mdF) (gR_up (V := mdV) (F := mdF) (gR_up (V := mdV) (F := mdF) ⟨hok.1, hok.2⟩ 0 (hP.2.1 0)) 1 (hP.2.1 1)) 18 (hP.2.2 18)) 19 (hP.2.2 19))⟩
                exact g_zret hQ C hr hlocks (by decide) hP hS dX11_route_148 ⟨0, (2 : Int), 0, (f 18), (f 19), rfl, rfl, rfl, rfl, (by first | omega | (split <;> omega))⟩
            · exfalso; omega
          · refine lv_iload hx hb dX11_route_46 (lv_at hl 6 rfl) ?_
            refine gi_zlt (tgt := 73) hx hb dX11_route_48 (by decide) (by omega) (fun c_19 => ?_) (fun c_19 => ?_)
            · refine lv_iconst (v := iI 0) hx hb dX11_route_73 rfl ?_
              refine lv_istore (lv' := [(7, .int (iI 0)), (0, .ref (ad 0)), (1, .int (iI a1)), (2, .int (iI a2)), (3, .int (iI a3)), (4, .int (iI a4)), (5, .int (iI a5)), (6, .int (iI a6))]) hx hb dX11_route_74 hl (by decide) rfl (fun ls hl => ?_)
              refine lv_iload hx hb dX11_route_76 (lv_at hl 0 rfl) ?_
              refine gi_zeq (tgt := 135) hx hb dX11_route_78 (by decide) (by decide) (fun c_20 => ?_) (fun c_20 => ?_)
              · refine lv_iconst (v := iI 0) hx hb dX11_route_135 rfl ?_
                refine lv_istore (lv' := [(7, .int (iI 0)), (0, .ref (ad 0)), (1, .int (iI a1)), (2, .int (iI a2)), (3, .int (iI a3)), (4, .int (iI a4)), (5, .int (iI a5)), (6, .int (iI a6))]) hx hb dX11_route_136 hl (by decide) rfl (fun ls hl => ?_)
                refine lv_iload hx hb dX11_route_138 (lv_at hl 0 rfl) ?_
                refine gi_zne (tgt := 149) hx hb dX11_route_140 (by decide) (by decide) (fun c_21 => ?_) (fun c_21 => ?_)
                · exfalso; omega
                · refine lv_aload_n hx hb dX11_route_143 rfl (lv_at hl 1 rfl) ?_
                  refine lv_iconst (v := iI 2) hx hb dX11_route_144 rfl ?_
                  refine g_cv (As := [.int (iI 2)]) (rest := []) (n := 1) C hml (m_X11_no l D k A ad hD (va_up (va_up v 0 0) 1 0) (va_up (va_up f 18 (f 18)) 19 (f 19)) g 2 (by decide) (show 0 ≤ (2 : Int) ∧ (2 : Int) ≤ 10 from by omega)) mM_X11_332 mI_X11_no mE_X11_no mN_X11 mC_X11_no (by decide +kernel) 0 (ci := 11) rfl rfl hP hS (fun _ h => h) ⟨Nat.le_of_ble_eq_true rfl, Nat.le_of_ble_eq_true rfl⟩ ⟨Nat.zero_le _, Nat.zero_le _⟩ hl.1 rfl rfl (Nat.le_of_ble_eq_true rfl) dX11_route_145 (fun r_22 v_22 f_22 g_22 H locs hq_22 hP _ hS => ?_)
                  obtain ⟨rfl, rfl, rfl, rfl⟩ := hq_22
                  show W p l e (gRm 2 43) s m args below meth c _ _ 0 0 Q (F0 m 148 ls [.int (iI 0)])
                  have hP : gWd D (mdT k ad) (va_up (va_up v 0 (2 : Int)) 1 0) (va_up (va_up f 18 (f 18)) 19 (f 19)) g H := ⟨hP.1, (gF_up (V := mdV) (F := mdF) (gF_up (V := mdV) (F := mdF) (gR_up (V := mdV) (F := mdF) (gR_up (V := mdV) (F := mdF) ⟨hok.1, hok.2⟩ 0 (hP.2.1 0)) 1 (hP.2.1 1)) 18 (hP.2.2 18)) 19 (hP.2.2 19))⟩
                  exact g_zret hQ C hr hlocks (by decide) hP hS dX11_route_148 ⟨0, (2 : Int), 0, (f 18), (f 19), rfl, rfl, rfl, rfl, (by first | omega | (split <;> omega))⟩
              · exfalso; omega
            · refine lv_iload hx hb dX11_route_51 (lv_at hl 4 rfl) ?_
              refine lv_iload_n hx hb dX11_route_53 rfl (lv_at hl 3 rfl) ?_
              refine gi_cgt (tgt := 73) hx hb dX11_route_54 (by decide) (by omega) (by omega) (fun c_23 => ?_) (fun c_23 => ?_)
              · refine lv_iconst (v := iI 0) hx hb dX11_route_73 rfl ?_
                refine lv_istore (lv' := [(7, .int (iI 0)), (0, .ref (ad 0)), (1, .int (iI a1)), (2, .int (iI a2)), (3, .int (iI a3)), (4, .int (iI a4)), (5, .int (iI a5)), (6, .int (iI a6))]) hx hb dX11_route_74 hl (by decide) rfl (fun ls hl => ?_)
                refine lv_iload hx hb dX11_route_76 (lv_at hl 0 rfl) ?_
                refine gi_zeq (tgt := 135) hx hb dX11_route_78 (by decide) (by decide) (fun c_24 => ?_) (fun c_24 => ?_)
                · refine lv_iconst (v := iI 0) hx hb dX11_route_135 rfl ?_
                  refine lv_istore (lv' := [(7, .int (iI 0)), (0, .ref (ad 0)), (1, .int (iI a1)), (2, .int (iI a2)), (3, .int (iI a3)), (4, .int (iI a4)), (5, .int (iI a5)), (6, .int (iI a6))]) hx hb dX11_route_136 hl (by decide) rfl (fun ls hl => ?_)
                  refine lv_iload hx hb dX11_route_138 (lv_at hl 0 rfl) ?_
                  refine gi_zne (tgt := 149) hx hb dX11_route_140 (by decide) (by decide) (fun c_25 => ?_) (fun c_25 => ?_)
                  · exfalso; omega
                  · refine lv_aload_n hx hb dX11_route_143 rfl (lv_at hl 1 rfl) ?_
                    refine lv_iconst (v := iI 2) hx hb dX11_route_144 rfl ?_
                    refine g_cv (As := [.int (iI 2)]) (rest := []) (n := 1) C hml (m_X11_no l D k A ad hD (va_up (va_up v 0 0) 1 0) (va_up (va_up f 18 (f 18)) 19 (f 19)) g 2 (by decide) (show 0 ≤ (2 : Int) ∧ (2 : Int) ≤ 10 from by omega)) mM_X11_332 mI_X11_no mE_X11_no mN_X11 mC_X11_no (by decide +kernel) 0 (ci := 11) rfl rfl hP hS (fun _ h => h) ⟨Nat.le_of_ble_eq_true rfl, Nat.le_of_ble_eq_true rfl⟩ ⟨Nat.zero_le _, Nat.zero_le _⟩ hl.1 rfl rfl (Nat.le_of_ble_eq_true rfl) dX11_route_145 (fun r_26 v_26 f_26 g_26 H locs hq_26 hP _ hS => ?_)
                    obtain ⟨rfl, rfl, rfl, rfl⟩ := hq_26
                    show W p l e (gRm 2 43) s m args below meth c _ _ 0 0 Q (F0 m 148 ls [.int (iI 0)])
                    have hP : gWd D (mdT k ad) (va_up (va_up v 0 (2 : Int)) 1 0) (va_up (va_up f 18 (f 18)) 19 (f 19)) g H := ⟨hP.1, (gF_up (V := mdV) (F := mdF) (gF_up (V := mdV) (F := mdF) (gR_up (V := mdV) (F := mdF) (gR_up (V := mdV) (F := mdF) ⟨hok.1, hok.2⟩ 0 (hP.2.1 0)) 1 (hP.2.1 1)) 18 (hP.2.2 18)) 19 (hP.2.2 19))⟩
                    exact g_zret hQ C hr hlocks (by decide) hP hS dX11_route_148 ⟨0, (2 : Int), 0, (f 18), (f 19), rfl, rfl, rfl, rfl, (by first | omega | (split <;> omega))⟩
                · exfalso; omega
              · refine lv_iload hx hb dX11_route_57 (lv_at hl 5 rfl) ?_
                refine lv_iload_n hx hb dX11_route_59 rfl (lv_at hl 3 rfl) ?_
                refine gi_cgt (tgt := 73) hx hb dX11_route_60 (by decide) (by omega) (by omega) (fun c_27 => ?_) (fun c_27 => ?_)
                · refine lv_iconst (v := iI 0) hx hb dX11_route_73 rfl ?_
                  refine lv_istore (lv' := [(7, .int (iI 0)), (0, .ref (ad 0)), (1, .int (iI a1)), (2, .int (iI a2)), (3, .int (iI a3)), (4, .int (iI a4)), (5, .int (iI a5)), (6, .int (iI a6))]) hx hb dX11_route_74 hl (by decide) rfl (fun ls hl => ?_)
                  refine lv_iload hx hb dX11_route_76 (lv_at hl 0 rfl) ?_
                  refine gi_zeq (tgt := 135) hx hb dX11_route_78 (by decide) (by decide) (fun c_28 => ?_) (fun c_28 => ?_)
                  · refine lv_iconst (v := iI 0) hx hb dX11_route_135 rfl ?_
                    refine lv_istore (lv' := [(7, .int (iI 0)), (0, .ref (ad 0)), (1, .int (iI a1)), (2, .int (iI a2)), (3, .int (iI a3)), (4, .int (iI a4)), (5, .int (iI a5)), (6, .int (iI a6))]) hx hb dX11_route_136 hl (by decide) rfl (fun ls hl => ?_)
                    refine lv_iload hx hb dX11_route_138 (lv_at hl 0 rfl) ?_
                    refine gi_zne (tgt := 149) hx hb dX11_route_140 (by decide) (by decide) (fun c_29 => ?_) (fun c_29 => ?_)
                    · exfalso; omega
                    · refine lv_aload_n hx hb dX11_route_143 rfl (lv_at hl 1 rfl) ?_
                      refine lv_iconst (v := iI 2) hx hb dX11_route_144 rfl ?_
                      refine g_cv (As := [.int (iI 2)]) (rest := []) (n := 1) C hml (m_X11_no l D k A ad hD (va_up (va_up v 0 0) 1 0) (va_up (va_up f 18 (f 18)) 19 (f 19)) g 2 (by decide) (show 0 ≤ (2 : Int) ∧ (2 : Int) ≤ 10 from by omega)) mM_X11_332 mI_X11_no mE_X11_no mN_X11 mC_X11_no (by decide +kernel) 0 (ci := 11) rfl rfl hP hS (fun _ h => h) ⟨Nat.le_of_ble_eq_true rfl, Nat.le_of_ble_eq_true rfl⟩ ⟨Nat.zero_le _, Nat.zero_le _⟩ hl.1 rfl rfl (Nat.le_of_ble_eq_true rfl) dX11_route_145 (fun r_30 v_30 f_30 g_30 H locs hq_30 hP _ hS => ?_)
                      obtain ⟨rfl, rfl, rfl, rfl⟩ := hq_30
                      show W p l e (gRm 2 43) s m args below meth c _ _ 0 0 Q (F0 m 148 ls [.int (iI 0)])
                      have hP : gWd D (mdT k ad) (va_up (va_up v 0 (2 : Int)) 1 0) (va_up (va_up f 18 (f 18)) 19 (f 19)) g H := ⟨hP.1, (gF_up (V := mdV) (F := mdF) (gF_up (V := mdV) (F := mdF) (gR_up (V := mdV) (F := mdF) (gR_up (V := mdV) (F := mdF) ⟨hok.1, hok.2⟩ 0 (hP.2.1 0)) 1 (hP.2.1 1)) 18 (hP.2.2 18)) 19 (hP.2.2 19))⟩
                      exact g_zret hQ C hr hlocks (by decide) hP hS dX11_route_148 ⟨0, (2 : Int), 0, (f 18), (f 19), rfl, rfl, rfl, rfl, (by first | omega | (split <;> omega))⟩
                  · exfalso; omega
                · refine lv_iload hx hb dX11_route_63 (lv_at hl 6 rfl) ?_
                  refine lv_iload_n hx hb dX11_route_65 rfl (lv_at hl 3 rfl) ?_
                  refine gi_cgt (tgt := 73) hx hb dX11_route_66 (by decide) (by omega) (by omega) (fun c_31 => ?_) (fun c_31 => ?_)
                  · refine lv_iconst (v := iI 0) hx hb dX11_route_73 rfl ?_
                    refine lv_istore (lv' := [(7, .int (iI 0)), (0, .ref (ad 0)), (1, .int (iI a1)), (2, .int (iI a2)), (3, .int (iI a3)), (4, .int (iI a4)), (5, .int (iI a5)), (6, .int (iI a6))]) hx hb dX11_route_74 hl (by decide) rfl (fun ls hl => ?_)
                    refine lv_iload hx hb dX11_route_76 (lv_at hl 0 rfl) ?_
                    refine gi_zeq (tgt := 135) hx hb dX11_route_78 (by decide) (by decide) (fun c_32 => ?_) (fun c_32 => ?_)
                    · refine lv_iconst (v := iI 0) hx hb dX11_route_135 rfl ?_
                      refine lv_istore (lv' := [(7, .int (iI 0)), (0, .ref (ad 0)), (1, .int (iI a1)), (2, .int (iI a2)), (3, .int (iI a3)), (4, .int (iI a4)), (5, .int (iI a5)), (6, .int (iI a6))]) hx hb dX11_route_136 hl (by decide) rfl (fun ls hl => ?_)
                      refine lv_iload hx hb dX11_route_138 (lv_at hl 0 rfl) ?_
                      refine gi_zne (tgt := 149) hx hb dX11_route_140 (by decide) (by decide) (fun c_33 => ?_) (fun c_33 => ?_)
                      · exfalso; omega
                      · refine lv_aload_n hx hb dX11_route_143 rfl (lv_at hl 1 rfl) ?_
                        refine lv_iconst (v := iI 2) hx hb dX11_route_144 rfl ?_
                        refine g_cv (As := [.int (iI 2)]) (rest := []) (n := 1) C hml (m_X11_no l D k A ad hD (va_up (va_up v 0 0) 1 0) (va_up (va_up f 18 (f 18)) 19 (f 19)) g 2 (by decide) (show 0 ≤ (2 : Int) ∧ (2 : Int) ≤ 10 from by omega)) mM_X11_332 mI_X11_no mE_X11_no mN_X11 mC_X11_no (by decide +kernel) 0 (ci := 11) rfl rfl hP hS (fun _ h => h) ⟨Nat.le_of_ble_eq_true rfl, Nat.le_of_ble_eq_true rfl⟩ ⟨Nat.zero_le _, Nat.zero_le _⟩ hl.1 rfl rfl (Nat.le_of_ble_eq_true rfl) dX11_route_145 (fun r_34 v_34 f_34 g_34 H locs hq_34 hP _ hS => ?_)
                        obtain ⟨rfl, rfl, rfl, rfl⟩ := hq_34
                        show W p l e (gRm 2 43) s m args below meth c _ _ 0 0 Q (F0 m 148 ls [.int (iI 0)])
                        have hP : gWd D (mdT k ad) (va_up (va_up v 0 (2 : Int)) 1 0) (va_up (va_up f 18 (f 18)) 19 (f 19)) g H := ⟨hP.1, (gF_up (V := mdV) (F := mdF) (gF_up (V := mdV) (F := mdF) (gR_up (V := mdV) (F := mdF) (gR_up (V := mdV) (F := mdF) ⟨hok.1, hok.2⟩ 0 (hP.2.1 0)) 1 (hP.2.1 1)) 18 (hP.2.2 18)) 19 (hP.2.2 19))⟩
                        exact g_zret hQ C hr hlocks (by decide) hP hS dX11_route_148 ⟨0, (2 : Int), 0, (f 18), (f 19), rfl, rfl, rfl, rfl, (by first | omega | (split <;> omega))⟩
                    · exfalso; omega
                  · refine lv_iconst (v := iI 1) hx hb dX11_route_69 rfl ?_
                    refine lv_goto (tgt := 74) hx hb dX11_route_70 (by decide) ?_
                    refine lv_istore (lv' := [(7, .int (iI 1)), (0, .ref (ad 0)), (1, .int (iI a1)), (2, .int (iI a2)), (3, .int (iI a3)), (4, .int (iI a4)), (5, .int (iI a5)), (6, .int (iI a6))]) hx hb dX11_route_74 hl (by decide) rfl (fun ls hl => ?_)
                    refine lv_iload hx hb dX11_route_76 (lv_at hl 0 rfl) ?_
                    refine gi_zeq (tgt := 135) hx hb dX11_route_78 (by decide) (by decide) (fun c_35 => ?_) (fun c_35 => ?_)
                    · exfalso; omega
                    · refine lv_iload hx hb dX11_route_81 (lv_at hl 5 rfl) ?_
                      refine gi_zne (tgt := 94) hx hb dX11_route_83 (by decide) (by omega) (fun c_36 => ?_) (fun c_36 => ?_)
                      · refine lv_iload hx hb dX11_route_94 (lv_at hl 6 rfl) ?_
                        refine gi_zeq (tgt := 106) hx hb dX11_route_96 (by decide) (by omega) (fun c_37 => ?_) (fun c_37 => ?_)
                        · refine lv_iload hx hb dX11_route_106 (lv_at hl 6 rfl) ?_
                          refine gi_zne (tgt := 119) hx hb dX11_route_108 (by decide) (by omega) (fun c_38 => ?_) (fun c_38 => ?_)
                          · refine lv_iload hx hb dX11_route_119 (lv_at hl 7 rfl) ?_
                            refine gi_zeq (tgt := 131) hx hb dX11_route_121 (by decide) (by omega) (fun c_39 => ?_) (fun c_39 => ?_)
                            · refine lv_iconst (v := iI 1) hx hb dX11_route_131 rfl ?_
                              refine lv_goto (tgt := 136) hx hb dX11_route_132 (by decide) ?_
                              refine lv_istore (lv' := [(7, .int (iI 1)), (0, .ref (ad 0)), (1, .int (iI a1)), (2, .int (iI a2)), (3, .int (iI a3)), (4, .int (iI a4)), (5, .int (iI a5)), (6, .int (iI a6))]) hx hb dX11_route_136 hl (by decide) rfl (fun ls hl => ?_)
                              refine lv_iload hx hb dX11_route_138 (lv_at hl 0 rfl) ?_
                              refine gi_zne (tgt := 149) hx hb dX11_route_140 (by decide) (by decide) (fun c_40 => ?_) (fun c_40 => ?_)
                              · refine lv_iload_n hx hb dX11_route_149 rfl (lv_at hl 2 rfl) ?_
                                refine lv_iload_n hx hb dX11_route_150 rfl (lv_at hl 3 rfl) ?_
                                refine g_cs (As := [.int (iI a1), .int (iI a2)]) (rest := []) (n := 2) C hml (m_X11_at l D k A ad hD (va_up (va_up v 0 0) 1 0) (va_up (va_up f 18 (f 18)) 19 (f 19)) g a1 a2 (by omega) (by omega) (show 0 ≤ a1 ∧ a1 ≤ 3 from by omega) (show 0 ≤ a2 ∧ a2 ≤ 4 from by omega)) mM_X11_335 mS_X11_at mN_X11 mC_X11_at (by decide +kernel) hP hS (fun _ h => h) ⟨Nat.le_of_ble_eq_true rfl, Nat.le_of_ble_eq_true rfl⟩ ⟨Nat.zero_le _, Nat.zero_le _⟩ hl.1 rfl rfl (Nat.le_of_ble_eq_true rfl) dX11_route_151 (fun r_41 v_41 f_41 g_41 H locs hq_41 hP _ hS => ?_)
                                obtain ⟨z_41, rfl, rfl, rfl, rfl, p0_41⟩ := hq_41
                                show W p l e (gRm 2 43) s m args below meth c _ _ 0 0 Q (F0 m 154 ls [.int (iI z_41)])
                                replace p0_41 : z_41 = (5 * a1 + a2) := p0_41
                                have hz_41 : inR z_41 := (by first | omega | (rw [p0_41]; split <;> omega))
                                refine lv_istore (lv' := [(8, .int (iI z_41)), (7, .int (iI 1)), (0, .ref (ad 0)), (1, .int (iI a1)), (2, .int (iI a2)), (3, .int (iI a3)), (4, .int (iI a4)), (5, .int (iI a5)), (6, .int (iI a6))]) hx hb dX11_route_154 hl (by decide) rfl (fun ls hl => ?_)
                                refine lv_aload_n hx hb dX11_route_156 rfl (lv_at hl 2 rfl) ?_
                                refine mdG_begun C hP mF_X11_79 dX11_route_157 ?_
                                refine lv_iload hx hb dX11_route_160 (lv_at hl 0 rfl) ?_
                                refine mdL_begun C hP (by omega) (by omega) dX11_route_162 ?_
                                show W p l e (gRm 2 43) s m args below meth c _ _ 0 0 Q (F0 m 163 ls [.int (iI (f 20 z_41))])
                                have r_42 : 0 ≤ (f 20 z_41) ∧ (f 20 z_41) ≤ 300 := hP.2.2 20 z_41
                                refine gi_zle (tgt := 173) hx hb dX11_route_163 (by decide) (by omega) (fun c_43 => ?_) (fun c_43 => ?_)
                                · refine lv_aload_n hx hb dX11_route_173 rfl (lv_at hl 2 rfl) ?_
                                  refine mdG_holds C hP mF_X11_73 dX11_route_174 ?_
                                  refine lv_iload hx hb dX11_route_177 (lv_at hl 0 rfl) ?_
                                  refine lv_iload_n hx hb dX11_route_179 rfl (lv_at hl 5 rfl) ?_
                                  refine mdS_holds (f1 := (va_up (va_up f 18 (u1 (f 18) z_41 a3)) 19 (f 19))) C hP hD hS (by omega) (by omega) (by omega) rfl (Or.inr (gF_up (V := mdV) (F := mdF) (gF_up (V := mdV) (F := mdF) (gR_up (V := mdV) (F := mdF) (gR_up (V := mdV) (F := mdF) ⟨hok.1, hok.2⟩ 0 (hP.2.1 0)) 1 (hP.2.1 1)) 18 (u1_rng (hP.2.2 18) (show 0 ≤ a3 ∧ a3 ≤ 60 from (by omega)))) 19 (hP.2.2 19))) dX11_route_180 (fun H locs hP hS => ?_)
                                  refine lv_aload_n hx hb dX11_route_181 rfl (lv_at hl 2 rfl) ?_
                                  refine mdG_zones C hP mF_X11_76 dX11_route_182 ?_
                                  refine lv_iconst (v := iI 3) hx hb dX11_route_185 rfl ?_
                                  refine lv_iload hx hb dX11_route_186 (lv_at hl 0 rfl) ?_
                                  refine gi_mul (z := (3 * z_41)) hx hb dX11_route_188 rfl ?_
                                  refine lv_iload hx hb dX11_route_189 (lv_at hl 6 rfl) ?_
                                  refine mdS_zones (f1 := (va_up (va_up f 18 (u1 (f 18) z_41 a3)) 19 (u1 (f 19) (3 * z_41) a4))) C hP hD hS (by omega) (by omega) (by omega) rfl (Or.inr (gF_up (V := mdV) (F := mdF) (gF_up (V := mdV) (F := mdF) (gR_up (V := mdV) (F := mdF) (gR_up (V := mdV) (F := mdF) ⟨hok.1, hok.2⟩ 0 (hP.2.1 0)) 1 (hP.2.1 1)) 18 (hP.2.2 18)) 19 (u1_rng (hP.2.2 19) (show 0 ≤ a4 ∧ a4 ≤ 60 from (by omega))))) dX11_route_191 (fun H locs hP hS => ?_)
                                  refine lv_aload_n hx hb dX11_route_192 rfl (lv_at hl 2 rfl) ?_
                                  refine mdG_zones C hP mF_X11_76 dX11_route_193 ?_
                                  refine lv_iconst (v := iI 3) hx hb dX11_route_196 rfl ?_
                                  refine lv_iload hx hb dX11_route_197 (lv_at hl 0 rfl) ?_
                                  refine gi_mul (z := (3 * z_41)) hx hb dX11_route_199 rfl ?_
                                  refine lv_iconst (v := iI 1) hx hb dX11_route_200 rfl ?_
                                  refine gi_add (z := ((3 * z_41) + 1)) hx hb dX11_route_201 rfl ?_
                                  refine lv_iload hx hb dX11_route_202 (lv_at hl 7 rfl) ?_
                                  refine mdS_zones (f1 := (va_up (va_up f 18 (u1 (f 18) z_41 a3)) 19 (u1 (u1 (f 19) (3 * z_41) a4) ((3 * z_41) + 1) a5))) C hP hD hS (by omega) (by omega) (by omega) rfl (Or.inr (gF_up (V := mdV) (F := mdF) (gF_up (V := mdV) (F := mdF) (gR_up (V := mdV) (F := mdF) (gR_up (V := mdV) (F := mdF) ⟨hok.1, hok.2⟩ 0 (hP.2.1 0)) 1 (hP.2.1 1)) 18 (hP.2.2 18)) 19 (u1_rng (hP.2.2 19) (show 0 ≤ a5 ∧ a5 ≤ 60 from (by omega))))) dX11_route_204 (fun H locs hP hS => ?_)
                                  refine lv_aload_n hx hb dX11_route_205 rfl (lv_at hl 2 rfl) ?_
                                  refine mdG_zones C hP mF_X11_76 dX11_route_206 ?_
                                  refine lv_iconst (v := iI 3) hx hb dX11_route_209 rfl ?_
                                  refine lv_iload hx hb dX11_route_210 (lv_at hl 0 rfl) ?_
                                  refine gi_mul (z := (3 * z_41)) hx hb dX11_route_212 rfl ?_
                                  refine lv_iconst (v := iI 2) hx hb dX11_route_213 rfl ?_
                                  refine gi_add (z := ((3 * z_41) + 2)) hx hb dX11_route_214 rfl ?_
                                  refine lv_iload hx hb dX11_route_215 (lv_at hl 8 rfl) ?_
                                  refine mdS_zones (f1 := (va_up (va_up f 18 (u1 (f 18) z_41 a3)) 19 (u1 (u1 (u1 (f 19) (3 * z_41) a4) ((3 * z_41) + 1) a5) ((3 * z_41) + 2) a6))) C hP hD hS (by omega) (by omega) (by omega) rfl (Or.inr (gF_up (V := mdV) (F := mdF) (gF_up (V := mdV) (F := mdF) (gR_up (V := mdV) (F := mdF) (gR_up (V := mdV) (F := mdF) ⟨hok.1, hok.2⟩ 0 (hP.2.1 0)) 1 (hP.2.1 1)) 18 (hP.2.2 18)) 19 (u1_rng (hP.2.2 19) (show 0 ≤ a6 ∧ a6 ≤ 60 from (by omega))))) dX11_route_217 (fun H locs hP hS => ?_)
                                  refine lv_iconst (v := iI 1) hx hb dX11_route_218 rfl ?_
                                  exact g_zret hQ C hr hlocks (by decide) hP hS dX11_route_219 ⟨1, 0, 0, (u1 (f 18) z_41 a3), (u1 (u1 (u1 (f 19) (3 * z_41) a4) ((3 * z_41) + 1) a5) ((3 * z_41) + 2) a6), rfl, rfl, rfl, rfl, (by first | omega | (split <;> omega))⟩
                                · refine lv_aload_n hx hb dX11_route_166 rfl (lv_at hl 2 rfl) ?_
                                  refine lv_bipush (v := iI 10) hx hb dX11_route_167 (by decide) ?_
                                  refine g_cv (As := [.int (iI 10)]) (rest := []) (n := 1) C hml (m_X11_no l D k A ad hD (va_up (va_up v 0 0) 1 0) (va_up (va_up f 18 (f 18)) 19 (f 19)) g 10 (by decide) (show 0 ≤ (10 : Int) ∧ (10 : Int) ≤ 10 from by omega)) mM_X11_332 mI_X11_no mE_X11_no mN_X11 mC_X11_no (by decide +kernel) 0 (ci := 11) rfl rfl hP hS (fun _ h => h) ⟨Nat.le_of_ble_eq_true rfl, Nat.le_of_ble_eq_true rfl⟩ ⟨Nat.zero_le _, Nat.zero_le _⟩ hl.1 rfl rfl (Nat.le_of_ble_eq_true rfl) dX11_route_169 (fun r_44 v_44 f_44 g_44 H locs hq_44 hP _ hS => ?_)
                                  obtain ⟨rfl, rfl, rfl, rfl⟩ := hq_44
                                  show W p l e (gRm 2 43) s m args below meth c _ _ 0 0 Q (F0 m 172 ls [.int (iI 0)])
                                  have hP : gWd D (mdT k ad) (va_up (va_up v 0 (10 : Int)) 1 0) (va_up (va_up f 18 (f 18)) 19 (f 19)) g H := ⟨hP.1, (gF_up (V := mdV) (F := mdF) (gF_up (V := mdV) (F := mdF) (gR_up (V := mdV) (F := mdF) (gR_up (V := mdV) (F := mdF) ⟨hok.1, hok.2⟩ 0 (hP.2.1 0)) 1 (hP.2.1 1)) 18 (hP.2.2 18)) 19 (hP.2.2 19))⟩
                                  exact g_zret hQ C hr hlocks (by decide) hP hS dX11_route_172 ⟨0, (10 : Int), 0, (f 18), (f 19), rfl, rfl, rfl, rfl, (by first | omega | (split <;> omega))⟩
                              · exfalso; omega
                            · refine lv_iload hx hb dX11_route_124 (lv_at hl 7 rfl) ?_
                              refine lv_iload hx hb dX11_route_126 (lv_at hl 6 rfl) ?_
                              refine gi_cle (tgt := 135) hx hb dX11_route_128 (by decide) (by omega) (by omega) (fun c_45 => ?_) (fun c_45 => ?_)
                              · refine lv_iconst (v := iI 0) hx hb dX11_route_135 rfl ?_
                                refine lv_istore (lv' := [(7, .int (iI 0)), (0, .ref (ad 0)), (1, .int (iI a1)), (2, .int (iI a2)), (3, .int (iI a3)), (4, .int (iI a4)), (5, .int (iI a5)), (6, .int (iI a6))]) hx hb dX11_route_136 hl (by decide) rfl (fun ls hl => ?_)
                                refine lv_iload hx hb dX11_route_138 (lv_at hl 0 rfl) ?_
                                refine gi_zne (tgt := 149) hx hb dX11_route_140 (by decide) (by decide) (fun c_46 => ?_) (fun c_46 => ?_)
                                · exfalso; omega
                                · refine lv_aload_n hx hb dX11_route_143 rfl (lv_at hl 1 rfl) ?_
                                  refine lv_iconst (v := iI 2) hx hb dX11_route_144 rfl ?_
                                  refine g_cv (As := [.int (iI 2)]) (rest := []) (n := 1) C hml (m_X11_no l D k A ad hD (va_up (va_up v 0 0) 1 0) (va_up (va_up f 18 (f 18)) 19 (f 19)) g 2 (by decide) (show 0 ≤ (2 : Int) ∧ (2 : Int) ≤ 10 from by omega)) mM_X11_332 mI_X11_no mE_X11_no mN_X11 mC_X11_no (by decide +kernel) 0 (ci := 11) rfl rfl hP hS (fun _ h => h) ⟨Nat.le_of_ble_eq_true rfl, Nat.le_of_ble_eq_true rfl⟩ ⟨Nat.zero_le _, Nat.zero_le _⟩ hl.1 rfl rfl (Nat.le_of_ble_eq_true rfl) dX11_route_145 (fun r_47 v_47 f_47 g_47 H locs hq_47 hP _ hS => ?_)
                                  obtain ⟨rfl, rfl, rfl, rfl⟩ := hq_47
                                  show W p l e (gRm 2 43) s m args below meth c _ _ 0 0 Q (F0 m 148 ls [.int (iI 0)])
                                  have hP : gWd D (mdT k ad) (va_up (va_up v 0 (2 : Int)) 1 0) (va_up (va_up f 18 (f 18)) 19 (f 19)) g H := ⟨hP.1, (gF_up (V := mdV) (F := mdF) (gF_up (V := mdV) (F := mdF) (gR_up (V := mdV) (F := mdF) (gR_up (V := mdV) (F := mdF) ⟨hok.1, hok.2⟩ 0 (hP.2.1 0)) 1 (hP.2.1 1)) 18 (hP.2.2 18)) 19 (hP.2.2 19))⟩
                                  exact g_zret hQ C hr hlocks (by decide) hP hS dX11_route_148 ⟨0, (2 : Int), 0, (f 18), (f 19), rfl, rfl, rfl, rfl, (by first | omega | (split <;> omega))⟩
                              · refine lv_iconst (v := iI 1) hx hb dX11_route_131 rfl ?_
                                refine lv_goto (tgt := 136) hx hb dX11_route_132 (by decide) ?_
                                refine lv_istore (lv' := [(7, .int (iI 1)), (0, .ref (ad 0)), (1, .int (iI a1)), (2, .int (iI a2)), (3, .int (iI a3)), (4, .int (iI a4)), (5, .int (iI a5)), (6, .int (iI a6))]) hx hb dX11_route_136 hl (by decide) rfl (fun ls hl => ?_)
                                refine lv_iload hx hb dX11_route_138 (lv_at hl 0 rfl) ?_
                                refine gi_zne (tgt := 149) hx hb dX11_route_140 (by decide) (by decide) (fun c_48 => ?_) (fun c_48 => ?_)
                                · refine lv_iload_n hx hb dX11_route_149 rfl (lv_at hl 2 rfl) ?_
                                  refine lv_iload_n hx hb dX11_route_150 rfl (lv_at hl 3 rfl) ?_
                                  refine g_cs (As := [.int (iI a1), .int (iI a2)]) (rest := []) (n := 2) C hml (m_X11_at l D k A ad hD (va_up (va_up v 0 0) 1 0) (va_up (va_up f 18 (f 18)) 19 (f 19)) g a1 a2 (by omega) (by omega) (show 0 ≤ a1 ∧ a1 ≤ 3 from by omega) (show 0 ≤ a2 ∧ a2 ≤ 4 from by omega)) mM_X11_335 mS_X11_at mN_X11 mC_X11_at (by decide +kernel) hP hS (fun _ h => h) ⟨Nat.le_of_ble_eq_true rfl, Nat.le_of_ble_eq_true rfl⟩ ⟨Nat.zero_le _, Nat.zero_le _⟩ hl.1 rfl rfl (Nat.le_of_ble_eq_true rfl) dX11_route_151 (fun r_49 v_49 f_49 g_49 H locs hq_49 hP _ hS => ?_)
                                  obtain ⟨z_49, rfl, rfl, rfl, rfl, p0_49⟩ := hq_49
                                  show W p l e (gRm 2 43) s m args below meth c _ _ 0 0 Q (F0 m 154 ls [.int (iI z_49)])
                                  replace p0_49 : z_49 = (5 * a1 + a2) := p0_49
                                  have hz_49 : inR z_49 := (by first | omega | (rw [p0_49]; split <;> omega))
                                  refine lv_istore (lv' := [(8, .int (iI z_49)), (7, .int (iI 1)), (0, .ref (ad 0)), (1, .int (iI a1)), (2, .int (iI a2)), (3, .int (iI a3)), (4, .int (iI a4)), (5, .int (iI a5)), (6, .int (iI a6))]) hx hb dX11_route_154 hl (by decide) rfl (fun ls hl => ?_)
                                  refine lv_aload_n hx hb dX11_route_156 rfl (lv_at hl 2 rfl) ?_
                                  refine mdG_begun C hP mF_X11_79 dX11_route_157 ?_
                                  refine lv_iload hx hb dX11_route_160 (lv_at hl 0 rfl) ?_
                                  refine mdL_begun C hP (by omega) (by omega) dX11_route_162 ?_
                                  show W p l e (gRm 2 43) s m args below meth c _ _ 0 0 Q (F0 m 163 ls [.int (iI (f 20 z_49))])
                                  have r_50 : 0 ≤ (f 20 z_49) ∧ (f 20 z_49) ≤ 300 := hP.2.2 20 z_49
                                  refine gi_zle (tgt := 173) hx hb dX11_route_163 (by decide) (by omega) (fun c_51 => ?_) (fun c_51 => ?_)
                                  · refine lv_aload_n hx hb dX11_route_173 rfl (lv_at hl 2 rfl) ?_
                                    refine mdG_holds C hP mF_X11_73 dX11_route_174 ?_
                                    refine lv_iload hx hb dX11_route_177 (lv_at hl 0 rfl) ?_
                                    refine lv_iload_n hx hb dX11_route_179 rfl (lv_at hl 5 rfl) ?_
                                    refine mdS_holds (f1 := (va_up (va_up f 18 (u1 (f 18) z_49 a3)) 19 (f 19))) C hP hD hS (by omega) (by omega) (by omega) rfl (Or.inr (gF_up (V := mdV) (F := mdF) (gF_up (V := mdV) (F := mdF) (gR_up (V := mdV) (F := mdF) (gR_up (V := mdV) (F := mdF) ⟨hok.1, hok.2⟩ 0 (hP.2.1 0)) 1 (hP.2.1 1)) 18 (u1_rng (hP.2.2 18) (show 0 ≤ a3 ∧ a3 ≤ 60 from (by omega)))) 19 (hP.2.2 19))) dX11_route_180 (fun H locs hP hS => ?_)
                                    refine lv_aload_n hx hb dX11_route_181 rfl (lv_at hl 2 rfl) ?_
                                    refine mdG_zones C hP mF_X11_76 dX11_route_182 ?_
                                    refine lv_iconst (v := iI 3) hx hb dX11_route_185 rfl ?_
                                    refine lv_iload hx hb dX11_route_186 (lv_at hl 0 rfl) ?_
                                    refine gi_mul (z := (3 * z_49)) hx hb dX11_route_188 rfl ?_
                                    refine lv_iload hx hb dX11_route_189 (lv_at hl 6 rfl) ?_
                                    refine mdS_zones (f1 := (va_up (va_up f 18 (u1 (f 18) z_49 a3)) 19 (u1 (f 19) (3 * z_49) a4))) C hP hD hS (by omega) (by omega) (by omega) rfl (Or.inr (gF_up (V := mdV) (F := mdF) (gF_up (V := mdV) (F := mdF) (gR_up (V := mdV) (F := mdF) (gR_up (V := mdV) (F := mdF) ⟨hok.1, hok.2⟩ 0 (hP.2.1 0)) 1 (hP.2.1 1)) 18 (hP.2.2 18)) 19 (u1_rng (hP.2.2 19) (show 0 ≤ a4 ∧ a4 ≤ 60 from (by omega))))) dX11_route_191 (fun H locs hP hS => ?_)
                                    refine lv_aload_n hx hb dX11_route_192 rfl (lv_at hl 2 rfl) ?_
                                    refine mdG_zones C hP mF_X11_76 dX11_route_193 ?_
                                    refine lv_iconst (v := iI 3) hx hb dX11_route_196 rfl ?_
                                    refine lv_iload hx hb dX11_route_197 (lv_at hl 0 rfl) ?_
                                    refine gi_mul (z := (3 * z_49)) hx hb dX11_route_199 rfl ?_
                                    refine lv_iconst (v := iI 1) hx hb dX11_route_200 rfl ?_
                                    refine gi_add (z := ((3 * z_49) + 1)) hx hb dX11_route_201 rfl ?_
                                    refine lv_iload hx hb dX11_route_202 (lv_at hl 7 rfl) ?_
                                    refine mdS_zones (f1 := (va_up (va_up f 18 (u1 (f 18) z_49 a3)) 19 (u1 (u1 (f 19) (3 * z_49) a4) ((3 * z_49) + 1) a5))) C hP hD hS (by omega) (by omega) (by omega) rfl (Or.inr (gF_up (V := mdV) (F := mdF) (gF_up (V := mdV) (F := mdF) (gR_up (V := mdV) (F := mdF) (gR_up (V := mdV) (F := mdF) ⟨hok.1, hok.2⟩ 0 (hP.2.1 0)) 1 (hP.2.1 1)) 18 (hP.2.2 18)) 19 (u1_rng (hP.2.2 19) (show 0 ≤ a5 ∧ a5 ≤ 60 from (by omega))))) dX11_route_204 (fun H locs hP hS => ?_)
                                    refine lv_aload_n hx hb dX11_route_205 rfl (lv_at hl 2 rfl) ?_
                                    refine mdG_zones C hP mF_X11_76 dX11_route_206 ?_
                                    refine lv_iconst (v := iI 3) hx hb dX11_route_209 rfl ?_
                                    refine lv_iload hx hb dX11_route_210 (lv_at hl 0 rfl) ?_
                                    refine gi_mul (z := (3 * z_49)) hx hb dX11_route_212 rfl ?_
                                    refine lv_iconst (v := iI 2) hx hb dX11_route_213 rfl ?_
                                    refine gi_add (z := ((3 * z_49) + 2)) hx hb dX11_route_214 rfl ?_
                                    refine lv_iload hx hb dX11_route_215 (lv_at hl 8 rfl) ?_
                                    refine mdS_zones (f1 := (va_up (va_up f 18 (u1 (f 18) z_49 a3)) 19 (u1 (u1 (u1 (f 19) (3 * z_49) a4) ((3 * z_49) + 1) a5) ((3 * z_49) + 2) a6))) C hP hD hS (by omega) (by omega) (by omega) rfl (Or.inr (gF_up (V := mdV) (F := mdF) (gF_up (V := mdV) (F := mdF) (gR_up (V := mdV) (F := mdF) (gR_up (V := mdV) (F := mdF) ⟨hok.1, hok.2⟩ 0 (hP.2.1 0)) 1 (hP.2.1 1)) 18 (hP.2.2 18)) 19 (u1_rng (hP.2.2 19) (show 0 ≤ a6 ∧ a6 ≤ 60 from (by omega))))) dX11_route_217 (fun H locs hP hS => ?_)
                                    refine lv_iconst (v := iI 1) hx hb dX11_route_218 rfl ?_
                                    exact g_zret hQ C hr hlocks (by decide) hP hS dX11_route_219 ⟨1, 0, 0, (u1 (f 18) z_49 a3), (u1 (u1 (u1 (f 19) (3 * z_49) a4) ((3 * z_49) + 1) a5) ((3 * z_49) + 2) a6), rfl, rfl, rfl, rfl, (by first | omega | (split <;> omega))⟩
                                  · refine lv_aload_n hx hb dX11_route_166 rfl (lv_at hl 2 rfl) ?_
                                    refine lv_bipush (v := iI 10) hx hb dX11_route_167 (by decide) ?_
                                    refine g_cv (As := [.int (iI 10)]) (rest := []) (n := 1) C hml (m_X11_no l D k A ad hD (va_up (va_up v 0 0) 1 0) (va_up (va_up f 18 (f 18)) 19 (f 19)) g 10 (by decide) (show 0 ≤ (10 : Int) ∧ (10 : Int) ≤ 10 from by omega)) mM_X11_332 mI_X11_no mE_X11_no mN_X11 mC_X11_no (by decide +kernel) 0 (ci := 11) rfl rfl hP hS (fun _ h => h) ⟨Nat.le_of_ble_eq_true rfl, Nat.le_of_ble_eq_true rfl⟩ ⟨Nat.zero_le _, Nat.zero_le _⟩ hl.1 rfl rfl (Nat.le_of_ble_eq_true rfl) dX11_route_169 (fun r_52 v_52 f_52 g_52 H locs hq_52 hP _ hS => ?_)
                                    obtain ⟨rfl, rfl, rfl, rfl⟩ := hq_52
                                    show W p l e (gRm 2 43) s m args below meth c _ _ 0 0 Q (F0 m 172 ls [.int (iI 0)])
                                    have hP : gWd D (mdT k ad) (va_up (va_up v 0 (10 : Int)) 1 0) (va_up (va_up f 18 (f 18)) 19 (f 19)) g H := ⟨hP.1, (gF_up (V := mdV) (F := mdF) (gF_up (V := mdV) (F := mdF) (gR_up (V := mdV) (F := mdF) (gR_up (V := mdV) (F := mdF) ⟨hok.1, hok.2⟩ 0 (hP.2.1 0)) 1 (hP.2.1 1)) 18 (hP.2.2 18)) 19 (hP.2.2 19))⟩
                                    exact g_zret hQ C hr hlocks (by decide) hP hS dX11_route_172 ⟨0, (10 : Int), 0, (f 18), (f 19), rfl, rfl, rfl, rfl, (by first | omega | (split <;> omega))⟩
                                · exfalso; omega
                          · refine lv_iload hx hb dX11_route_111 (lv_at hl 7 rfl) ?_
                            refine gi_zne (tgt := 135) hx hb dX11_route_113 (by decide) (by omega) (fun c_53 => ?_) (fun c_53 => ?_)
                            · refine lv_iconst (v := iI 0) hx hb dX11_route_135 rfl ?_
                              refine lv_istore (lv' := [(7, .int (iI 0)), (0, .ref (ad 0)), (1, .int (iI a1)), (2, .int (iI a2)), (3, .int (iI a3)), (4, .int (iI a4)), (5, .int (iI a5)), (6, .int (iI a6))]) hx hb dX11_route_136 hl (by decide) rfl (fun ls hl => ?_)
                              refine lv_iload hx hb dX11_route_138 (lv_at hl 0 rfl) ?_
                              refine gi_zne (tgt := 149) hx hb dX11_route_140 (by decide) (by decide) (fun c_54 => ?_) (fun c_54 => ?_)
                              · exfalso; omega
                              · refine lv_aload_n hx hb dX11_route_143 rfl (lv_at hl 1 rfl) ?_
                                refine lv_iconst (v := iI 2) hx hb dX11_route_144 rfl ?_
                                refine g_cv (As := [.int (iI 2)]) (rest := []) (n := 1) C hml (m_X11_no l D k A ad hD (va_up (va_up v 0 0) 1 0) (va_up (va_up f 18 (f 18)) 19 (f 19)) g 2 (by decide) (show 0 ≤ (2 : Int) ∧ (2 : Int) ≤ 10 from by omega)) mM_X11_332 mI_X11_no mE_X11_no mN_X11 mC_X11_no (by decide +kernel) 0 (ci := 11) rfl rfl hP hS (fun _ h => h) ⟨Nat.le_of_ble_eq_true rfl, Nat.le_of_ble_eq_true rfl⟩ ⟨Nat.zero_le _, Nat.zero_le _⟩ hl.1 rfl rfl (Nat.le_of_ble_eq_true rfl) dX11_route_145 (fun r_55 v_55 f_55 g_55 H locs hq_55 hP _ hS => ?_)
                                obtain ⟨rfl, rfl, rfl, rfl⟩ := hq_55
                                show W p l e (gRm 2 43) s m args below meth c _ _ 0 0 Q (F0 m 148 ls [.int (iI 0)])
                                have hP : gWd D (mdT k ad) (va_up (va_up v 0 (2 : Int)) 1 0) (va_up (va_up f 18 (f 18)) 19 (f 19)) g H := ⟨hP.1, (gF_up (V := mdV) (F := mdF) (gF_up (V := mdV) (F := mdF) (gR_up (V := mdV) (F := mdF) (gR_up (V := mdV) (F := mdF) ⟨hok.1, hok.2⟩ 0 (hP.2.1 0)) 1 (hP.2.1 1)) 18 (hP.2.2 18)) 19 (hP.2.2 19))⟩
                                exact g_zret hQ C hr hlocks (by decide) hP hS dX11_route_148 ⟨0, (2 : Int), 0, (f 18), (f 19), rfl, rfl, rfl, rfl, (by first | omega | (split <;> omega))⟩
                            · refine lv_goto (tgt := 131) hx hb dX11_route_116 (by decide) ?_
                              refine lv_iconst (v := iI 1) hx hb dX11_route_131 rfl ?_
                              refine lv_goto (tgt := 136) hx hb dX11_route_132 (by decide) ?_
                              refine lv_istore (lv' := [(7, .int (iI 1)), (0, .ref (ad 0)), (1, .int (iI a1)), (2, .int (iI a2)), (3, .int (iI a3)), (4, .int (iI a4)), (5, .int (iI a5)), (6, .int (iI a6))]) hx hb dX11_route_136 hl (by decide) rfl (fun ls hl => ?_)
                              refine lv_iload hx hb dX11_route_138 (lv_at hl 0 rfl) ?_
                              refine gi_zne (tgt := 149) hx hb dX11_route_140 (by decide) (by decide) (fun c_56 => ?_) (fun c_56 => ?_)
                              · refine lv_iload_n hx hb dX11_route_149 rfl (lv_at hl 2 rfl) ?_
                                refine lv_iload_n hx hb dX11_route_150 rfl (lv_at hl 3 rfl) ?_
                                refine g_cs (As := [.int (iI a1), .int (iI a2)]) (rest := []) (n := 2) C hml (m_X11_at l D k A ad hD (va_up (va_up v 0 0) 1 0) (va_up (va_up f 18 (f 18)) 19 (f 19)) g a1 a2 (by omega) (by omega) (show 0 ≤ a1 ∧ a1 ≤ 3 from by omega) (show 0 ≤ a2 ∧ a2 ≤ 4 from by omega)) mM_X11_335 mS_X11_at mN_X11 mC_X11_at (by decide +kernel) hP hS (fun _ h => h) ⟨Nat.le_of_ble_eq_true rfl, Nat.le_of_ble_eq_true rfl⟩ ⟨Nat.zero_le _, Nat.zero_le _⟩ hl.1 rfl rfl (Nat.le_of_ble_eq_true rfl) dX11_route_151 (fun r_57 v_57 f_57 g_57 H locs hq_57 hP _ hS => ?_)
                                obtain ⟨z_57, rfl, rfl, rfl, rfl, p0_57⟩ := hq_57
                                show W p l e (gRm 2 43) s m args below meth c _ _ 0 0 Q (F0 m 154 ls [.int (iI z_57)])
                                replace p0_57 : z_57 = (5 * a1 + a2) := p0_57
                                have hz_57 : inR z_57 := (by first | omega | (rw [p0_57]; split <;> omega))
                                refine lv_istore (lv' := [(8, .int (iI z_57)), (7, .int (iI 1)), (0, .ref (ad 0)), (1, .int (iI a1)), (2, .int (iI a2)), (3, .int (iI a3)), (4, .int (iI a4)), (5, .int (iI a5)), (6, .int (iI a6))]) hx hb dX11_route_154 hl (by decide) rfl (fun ls hl => ?_)
                                refine lv_aload_n hx hb dX11_route_156 rfl (lv_at hl 2 rfl) ?_
                                refine mdG_begun C hP mF_X11_79 dX11_route_157 ?_
                                refine lv_iload hx hb dX11_route_160 (lv_at hl 0 rfl) ?_
                                refine mdL_begun C hP (by omega) (by omega) dX11_route_162 ?_
                                show W p l e (gRm 2 43) s m args below meth c _ _ 0 0 Q (F0 m 163 ls [.int (iI (f 20 z_57))])
                                have r_58 : 0 ≤ (f 20 z_57) ∧ (f 20 z_57) ≤ 300 := hP.2.2 20 z_57
                                refine gi_zle (tgt := 173) hx hb dX11_route_163 (by decide) (by omega) (fun c_59 => ?_) (fun c_59 => ?_)
                                · refine lv_aload_n hx hb dX11_route_173 rfl (lv_at hl 2 rfl) ?_
                                  refine mdG_holds C hP mF_X11_73 dX11_route_174 ?_
                                  refine lv_iload hx hb dX11_route_177 (lv_at hl 0 rfl) ?_
                                  refine lv_iload_n hx hb dX11_route_179 rfl (lv_at hl 5 rfl) ?_
                                  refine mdS_holds (f1 := (va_up (va_up f 18 (u1 (f 18) z_57 a3)) 19 (f 19))) C hP hD hS (by omega) (by omega) (by omega) rfl (Or.inr (gF_up (V := mdV) (F := mdF) (gF_up (V := mdV) (F := mdF) (gR_up (V := mdV) (F := mdF) (gR_up (V := mdV) (F := mdF) ⟨hok.1, hok.2⟩ 0 (hP.2.1 0)) 1 (hP.2.1 1)) 18 (u1_rng (hP.2.2 18) (show 0 ≤ a3 ∧ a3 ≤ 60 from (by omega)))) 19 (hP.2.2 19))) dX11_route_180 (fun H locs hP hS => ?_)
                                  refine lv_aload_n hx hb dX11_route_181 rfl (lv_at hl 2 rfl) ?_
                                  refine mdG_zones C hP mF_X11_76 dX11_route_182 ?_
                                  refine lv_iconst (v := iI 3) hx hb dX11_route_185 rfl ?_
                                  refine lv_iload hx hb dX11_route_186 (lv_at hl 0 rfl) ?_
                                  refine gi_mul (z := (3 * z_57)) hx hb dX11_route_188 rfl ?_
                                  refine lv_iload hx hb dX11_route_189 (lv_at hl 6 rfl) ?_
                                  refine mdS_zones (f1 := (va_up (va_up f 18 (u1 (f 18) z_57 a3)) 19 (u1 (f 19) (3 * z_57) a4))) C hP hD hS (by omega) (by omega) (by omega) rfl (Or.inr (gF_up (V := mdV) (F := mdF) (gF_up (V := mdV) (F := mdF) (gR_up (V := mdV) (F := mdF) (gR_up (V := mdV) (F := mdF) ⟨hok.1, hok.2⟩ 0 (hP.2.1 0)) 1 (hP.2.1 1)) 18 (hP.2.2 18)) 19 (u1_rng (hP.2.2 19) (show 0 ≤ a4 ∧ a4 ≤ 60 from (by omega))))) dX11_route_191 (fun H locs hP hS => ?_)
                                  refine lv_aload_n hx hb dX11_route_192 rfl (lv_at hl 2 rfl) ?_
                                  refine mdG_zones C hP mF_X11_76 dX11_route_193 ?_
                                  refine lv_iconst (v := iI 3) hx hb dX11_route_196 rfl ?_
                                  refine lv_iload hx hb dX11_route_197 (lv_at hl 0 rfl) ?_
                                  refine gi_mul (z := (3 * z_57)) hx hb dX11_route_199 rfl ?_
                                  refine lv_iconst (v := iI 1) hx hb dX11_route_200 rfl ?_
                                  refine gi_add (z := ((3 * z_57) + 1)) hx hb dX11_route_201 rfl ?_
                                  refine lv_iload hx hb dX11_route_202 (lv_at hl 7 rfl) ?_
                                  refine mdS_zones (f1 := (va_up (va_up f 18 (u1 (f 18) z_57 a3)) 19 (u1 (u1 (f 19) (3 * z_57) a4) ((3 * z_57) + 1) a5))) C hP hD hS (by omega) (by omega) (by omega) rfl (Or.inr (gF_up (V := mdV) (F := mdF) (gF_up (V := mdV) (F := mdF) (gR_up (V := mdV) (F := mdF) (gR_up (V := mdV) (F := mdF) ⟨hok.1, hok.2⟩ 0 (hP.2.1 0)) 1 (hP.2.1 1)) 18 (hP.2.2 18)) 19 (u1_rng (hP.2.2 19) (show 0 ≤ a5 ∧ a5 ≤ 60 from (by omega))))) dX11_route_204 (fun H locs hP hS => ?_)
                                  refine lv_aload_n hx hb dX11_route_205 rfl (lv_at hl 2 rfl) ?_
                                  refine mdG_zones C hP mF_X11_76 dX11_route_206 ?_
                                  refine lv_iconst (v := iI 3) hx hb dX11_route_209 rfl ?_
                                  refine lv_iload hx hb dX11_route_210 (lv_at hl 0 rfl) ?_
                                  refine gi_mul (z := (3 * z_57)) hx hb dX11_route_212 rfl ?_
                                  refine lv_iconst (v := iI 2) hx hb dX11_route_213 rfl ?_
                                  refine gi_add (z := ((3 * z_57) + 2)) hx hb dX11_route_214 rfl ?_
                                  refine lv_iload hx hb dX11_route_215 (lv_at hl 8 rfl) ?_
                                  refine mdS_zones (f1 := (va_up (va_up f 18 (u1 (f 18) z_57 a3)) 19 (u1 (u1 (u1 (f 19) (3 * z_57) a4) ((3 * z_57) + 1) a5) ((3 * z_57) + 2) a6))) C hP hD hS (by omega) (by omega) (by omega) rfl (Or.inr (gF_up (V := mdV) (F := mdF) (gF_up (V := mdV) (F := mdF) (gR_up (V := mdV) (F := mdF) (gR_up (V := mdV) (F := mdF) ⟨hok.1, hok.2⟩ 0 (hP.2.1 0)) 1 (hP.2.1 1)) 18 (hP.2.2 18)) 19 (u1_rng (hP.2.2 19) (show 0 ≤ a6 ∧ a6 ≤ 60 from (by omega))))) dX11_route_217 (fun H locs hP hS => ?_)
                                  refine lv_iconst (v := iI 1) hx hb dX11_route_218 rfl ?_
                                  exact g_zret hQ C hr hlocks (by decide) hP hS dX11_route_219 ⟨1, 0, 0, (u1 (f 18) z_57 a3), (u1 (u1 (u1 (f 19) (3 * z_57) a4) ((3 * z_57) + 1) a5) ((3 * z_57) + 2) a6), rfl, rfl, rfl, rfl, (by first | omega | (split <;> omega))⟩
                                · refine lv_aload_n hx hb dX11_route_166 rfl (lv_at hl 2 rfl) ?_
                                  refine lv_bipush (v := iI 10) hx hb dX11_route_167 (by decide) ?_
                                  refine g_cv (As := [.int (iI 10)]) (rest := []) (n := 1) C hml (m_X11_no l D k A ad hD (va_up (va_up v 0 0) 1 0) (va_up (va_up f 18 (f 18)) 19 (f 19)) g 10 (by decide) (show 0 ≤ (10 : Int) ∧ (10 : Int) ≤ 10 from by omega)) mM_X11_332 mI_X11_no mE_X11_no mN_X11 mC_X11_no (by decide +kernel) 0 (ci := 11) rfl rfl hP hS (fun _ h => h) ⟨Nat.le_of_ble_eq_true rfl, Nat.le_of_ble_eq_true rfl⟩ ⟨Nat.zero_le _, Nat.zero_le _⟩ hl.1 rfl rfl (Nat.le_of_ble_eq_true rfl) dX11_route_169 (fun r_60 v_60 f_60 g_60 H locs hq_60 hP _ hS => ?_)
                                  obtain ⟨rfl, rfl, rfl, rfl⟩ := hq_60
                                  show W p l e (gRm 2 43) s m args below meth c _ _ 0 0 Q (F0 m 172 ls [.int (iI 0)])
                                  have hP : gWd D (mdT k ad) (va_up (va_up v 0 (10 : Int)) 1 0) (va_up (va_up f 18 (f 18)) 19 (f 19)) g H := ⟨hP.1, (gF_up (V := mdV) (F := mdF) (gF_up (V := mdV) (F := mdF) (gR_up (V := mdV) (F := mdF) (gR_up (V := mdV) (F := mdF) ⟨hok.1, hok.2⟩ 0 (hP.2.1 0)) 1 (hP.2.1 1)) 18 (hP.2.2 18)) 19 (hP.2.2 19))⟩
                                  exact g_zret hQ C hr hlocks (by decide) hP hS dX11_route_172 ⟨0, (10 : Int), 0, (f 18), (f 19), rfl, rfl, rfl, rfl, (by first | omega | (split <;> omega))⟩
                              · exfalso; omega
                        · refine lv_iload hx hb dX11_route_99 (lv_at hl 6 rfl) ?_
                          refine lv_iload hx hb dX11_route_101 (lv_at hl 5 rfl) ?_
                          refine gi_cle (tgt := 135) hx hb dX11_route_103 (by decide) (by omega) (by omega) (fun c_61 => ?_) (fun c_61 => ?_)
                          · refine lv_iconst (v := iI 0) hx hb dX11_route_135 rfl ?_
                            refine lv_istore (lv' := [(7, .int (iI 0)), (0, .ref (ad 0)), (1, .int (iI a1)), (2, .int (iI a2)), (3, .int (iI a3)), (4, .int (iI a4)), (5, .int (iI a5)), (6, .int (iI a6))]) hx hb dX11_route_136 hl (by decide) rfl (fun ls hl => ?_)
                            refine lv_iload hx hb dX11_route_138 (lv_at hl 0 rfl) ?_
                            refine gi_zne (tgt := 149) hx hb dX11_route_140 (by decide) (by decide) (fun c_62 => ?_) (fun c_62 => ?_)
                            · exfalso; omega
                            · refine lv_aload_n hx hb dX11_route_143 rfl (lv_at hl 1 rfl) ?_
                              refine lv_iconst (v := iI 2) hx hb dX11_route_144 rfl ?_
                              refine g_cv (As := [.int (iI 2)]) (rest := []) (n := 1) C hml (m_X11_no l D k A ad hD (va_up (va_up v 0 0) 1 0) (va_up (va_up f 18 (f 18)) 19 (f 19)) g 2 (by decide) (show 0 ≤ (2 : Int) ∧ (2 : Int) ≤ 10 from by omega)) mM_X11_332 mI_X11_no mE_X11_no mN_X11 mC_X11_no (by decide +kernel) 0 (ci := 11) rfl rfl hP hS (fun _ h => h) ⟨Nat.le_of_ble_eq_true rfl, Nat.le_of_ble_eq_true rfl⟩ ⟨Nat.zero_le _, Nat.zero_le _⟩ hl.1 rfl rfl (Nat.le_of_ble_eq_true rfl) dX11_route_145 (fun r_63 v_63 f_63 g_63 H locs hq_63 hP _ hS => ?_)
                              obtain ⟨rfl, rfl, rfl, rfl⟩ := hq_63
                              show W p l e (gRm 2 43) s m args below meth c _ _ 0 0 Q (F0 m 148 ls [.int (iI 0)])
                              have hP : gWd D (mdT k ad) (va_up (va_up v 0 (2 : Int)) 1 0) (va_up (va_up f 18 (f 18)) 19 (f 19)) g H := ⟨hP.1, (gF_up (V := mdV) (F := mdF) (gF_up (V := mdV) (F := mdF) (gR_up (V := mdV) (F := mdF) (gR_up (V := mdV) (F := mdF) ⟨hok.1, hok.2⟩ 0 (hP.2.1 0)) 1 (hP.2.1 1)) 18 (hP.2.2 18)) 19 (hP.2.2 19))⟩
                              exact g_zret hQ C hr hlocks (by decide) hP hS dX11_route_148 ⟨0, (2 : Int), 0, (f 18), (f 19), rfl, rfl, rfl, rfl, (by first | omega | (split <;> omega))⟩
                          · refine lv_iload hx hb dX11_route_106 (lv_at hl 6 rfl) ?_
                            refine gi_zne (tgt := 119) hx hb dX11_route_108 (by decide) (by omega) (fun c_64 => ?_) (fun c_64 => ?_)
                            · refine lv_iload hx hb dX11_route_119 (lv_at hl 7 rfl) ?_
                              refine gi_zeq (tgt := 131) hx hb dX11_route_121 (by decide) (by omega) (fun c_65 => ?_) (fun c_65 => ?_)
                              · refine lv_iconst (v := iI 1) hx hb dX11_route_131 rfl ?_
                                refine lv_goto (tgt := 136) hx hb dX11_route_132 (by decide) ?_
                                refine lv_istore (lv' := [(7, .int (iI 1)), (0, .ref (ad 0)), (1, .int (iI a1)), (2, .int (iI a2)), (3, .int (iI a3)), (4, .int (iI a4)), (5, .int (iI a5)), (6, .int (iI a6))]) hx hb dX11_route_136 hl (by decide) rfl (fun ls hl => ?_)
                                refine lv_iload hx hb dX11_route_138 (lv_at hl 0 rfl) ?_
                                refine gi_zne (tgt := 149) hx hb dX11_route_140 (by decide) (by decide) (fun c_66 => ?_) (fun c_66 => ?_)
                                · refine lv_iload_n hx hb dX11_route_149 rfl (lv_at hl 2 rfl) ?_
                                  refine lv_iload_n hx hb dX11_route_150 rfl (lv_at hl 3 rfl) ?_
                                  refine g_cs (As := [.int (iI a1), .int (iI a2)]) (rest := []) (n := 2) C hml (m_X11_at l D k A ad hD (va_up (va_up v 0 0) 1 0) (va_up (va_up f 18 (f 18)) 19 (f 19)) g a1 a2 (by omega) (by omega) (show 0 ≤ a1 ∧ a1 ≤ 3 from by omega) (show 0 ≤ a2 ∧ a2 ≤ 4 from by omega)) mM_X11_335 mS_X11_at mN_X11 mC_X11_at (by decide +kernel) hP hS (fun _ h => h) ⟨Nat.le_of_ble_eq_true rfl, Nat.le_of_ble_eq_true rfl⟩ ⟨Nat.zero_le _, Nat.zero_le _⟩ hl.1 rfl rfl (Nat.le_of_ble_eq_true rfl) dX11_route_151 (fun r_67 v_67 f_67 g_67 H locs hq_67 hP _ hS => ?_)
                                  obtain ⟨z_67, rfl, rfl, rfl, rfl, p0_67⟩ := hq_67
                                  show W p l e (gRm 2 43) s m args below meth c _ _ 0 0 Q (F0 m 154 ls [.int (iI z_67)])
                                  replace p0_67 : z_67 = (5 * a1 + a2) := p0_67
                                  have hz_67 : inR z_67 := (by first | omega | (rw [p0_67]; split <;> omega))
                                  refine lv_istore (lv' := [(8, .int (iI z_67)), (7, .int (iI 1)), (0, .ref (ad 0)), (1, .int (iI a1)), (2, .int (iI a2)), (3, .int (iI a3)), (4, .int (iI a4)), (5, .int (iI a5)), (6, .int (iI a6))]) hx hb dX11_route_154 hl (by decide) rfl (fun ls hl => ?_)
                                  refine lv_aload_n hx hb dX11_route_156 rfl (lv_at hl 2 rfl) ?_
                                  refine mdG_begun C hP mF_X11_79 dX11_route_157 ?_
                                  refine lv_iload hx hb dX11_route_160 (lv_at hl 0 rfl) ?_
                                  refine mdL_begun C hP (by omega) (by omega) dX11_route_162 ?_
                                  show W p l e (gRm 2 43) s m args below meth c _ _ 0 0 Q (F0 m 163 ls [.int (iI (f 20 z_67))])
                                  have r_68 : 0 ≤ (f 20 z_67) ∧ (f 20 z_67) ≤ 300 := hP.2.2 20 z_67
                                  refine gi_zle (tgt := 173) hx hb dX11_route_163 (by decide) (by omega) (fun c_69 => ?_) (fun c_69 => ?_)
                                  · refine lv_aload_n hx hb dX11_route_173 rfl (lv_at hl 2 rfl) ?_
                                    refine mdG_holds C hP mF_X11_73 dX11_route_174 ?_
                                    refine lv_iload hx hb dX11_route_177 (lv_at hl 0 rfl) ?_
                                    refine lv_iload_n hx hb dX11_route_179 rfl (lv_at hl 5 rfl) ?_
                                    refine mdS_holds (f1 := (va_up (va_up f 18 (u1 (f 18) z_67 a3)) 19 (f 19))) C hP hD hS (by omega) (by omega) (by omega) rfl (Or.inr (gF_up (V := mdV) (F := mdF) (gF_up (V := mdV) (F := mdF) (gR_up (V := mdV) (F := mdF) (gR_up (V := mdV) (F := mdF) ⟨hok.1, hok.2⟩ 0 (hP.2.1 0)) 1 (hP.2.1 1)) 18 (u1_rng (hP.2.2 18) (show 0 ≤ a3 ∧ a3 ≤ 60 from (by omega)))) 19 (hP.2.2 19))) dX11_route_180 (fun H locs hP hS => ?_)
                                    refine lv_aload_n hx hb dX11_route_181 rfl (lv_at hl 2 rfl) ?_
                                    refine mdG_zones C hP mF_X11_76 dX11_route_182 ?_
                                    refine lv_iconst (v := iI 3) hx hb dX11_route_185 rfl ?_
                                    refine lv_iload hx hb dX11_route_186 (lv_at hl 0 rfl) ?_
                                    refine gi_mul (z := (3 * z_67)) hx hb dX11_route_188 rfl ?_
                                    refine lv_iload hx hb dX11_route_189 (lv_at hl 6 rfl) ?_
                                    refine mdS_zones (f1 := (va_up (va_up f 18 (u1 (f 18) z_67 a3)) 19 (u1 (f 19) (3 * z_67) a4))) C hP hD hS (by omega) (by omega) (by omega) rfl (Or.inr (gF_up (V := mdV) (F := mdF) (gF_up (V := mdV) (F := mdF) (gR_up (V := mdV) (F := mdF) (gR_up (V := mdV) (F := mdF) ⟨hok.1, hok.2⟩ 0 (hP.2.1 0)) 1 (hP.2.1 1)) 18 (hP.2.2 18)) 19 (u1_rng (hP.2.2 19) (show 0 ≤ a4 ∧ a4 ≤ 60 from (by omega))))) dX11_route_191 (fun H locs hP hS => ?_)
                                    refine lv_aload_n hx hb dX11_route_192 rfl (lv_at hl 2 rfl) ?_
                                    refine mdG_zones C hP mF_X11_76 dX11_route_193 ?_
                                    refine lv_iconst (v := iI 3) hx hb dX11_route_196 rfl ?_
                                    refine lv_iload hx hb dX11_route_197 (lv_at hl 0 rfl) ?_
                                    refine gi_mul (z := (3 * z_67)) hx hb dX11_route_199 rfl ?_
                                    refine lv_iconst (v := iI 1) hx hb dX11_route_200 rfl ?_
                                    refine gi_add (z := ((3 * z_67) + 1)) hx hb dX11_route_201 rfl ?_
                                    refine lv_iload hx hb dX11_route_202 (lv_at hl 7 rfl) ?_
                                    refine mdS_zones (f1 := (va_up (va_up f 18 (u1 (f 18) z_67 a3)) 19 (u1 (u1 (f 19) (3 * z_67) a4) ((3 * z_67) + 1) a5))) C hP hD hS (by omega) (by omega) (by omega) rfl (Or.inr (gF_up (V := mdV) (F := mdF) (gF_up (V := mdV) (F := mdF) (gR_up (V := mdV) (F := mdF) (gR_up (V := mdV) (F := mdF) ⟨hok.1, hok.2⟩ 0 (hP.2.1 0)) 1 (hP.2.1 1)) 18 (hP.2.2 18)) 19 (u1_rng (hP.2.2 19) (show 0 ≤ a5 ∧ a5 ≤ 60 from (by omega))))) dX11_route_204 (fun H locs hP hS => ?_)
                                    refine lv_aload_n hx hb dX11_route_205 rfl (lv_at hl 2 rfl) ?_
                                    refine mdG_zones C hP mF_X11_76 dX11_route_206 ?_
                                    refine lv_iconst (v := iI 3) hx hb dX11_route_209 rfl ?_
                                    refine lv_iload hx hb dX11_route_210 (lv_at hl 0 rfl) ?_
                                    refine gi_mul (z := (3 * z_67)) hx hb dX11_route_212 rfl ?_
                                    refine lv_iconst (v := iI 2) hx hb dX11_route_213 rfl ?_
                                    refine gi_add (z := ((3 * z_67) + 2)) hx hb dX11_route_214 rfl ?_
                                    refine lv_iload hx hb dX11_route_215 (lv_at hl 8 rfl) ?_
                                    refine mdS_zones (f1 := (va_up (va_up f 18 (u1 (f 18) z_67 a3)) 19 (u1 (u1 (u1 (f 19) (3 * z_67) a4) ((3 * z_67) + 1) a5) ((3 * z_67) + 2) a6))) C hP hD hS (by omega) (by omega) (by omega) rfl (Or.inr (gF_up (V := mdV) (F := mdF) (gF_up (V := mdV) (F := mdF) (gR_up (V := mdV) (F := mdF) (gR_up (V := mdV) (F := mdF) ⟨hok.1, hok.2⟩ 0 (hP.2.1 0)) 1 (hP.2.1 1)) 18 (hP.2.2 18)) 19 (u1_rng (hP.2.2 19) (show 0 ≤ a6 ∧ a6 ≤ 60 from (by omega))))) dX11_route_217 (fun H locs hP hS => ?_)
                                    refine lv_iconst (v := iI 1) hx hb dX11_route_218 rfl ?_
                                    exact g_zret hQ C hr hlocks (by decide) hP hS dX11_route_219 ⟨1, 0, 0, (u1 (f 18) z_67 a3), (u1 (u1 (u1 (f 19) (3 * z_67) a4) ((3 * z_67) + 1) a5) ((3 * z_67) + 2) a6), rfl, rfl, rfl, rfl, (by first | omega | (split <;> omega))⟩
                                  · refine lv_aload_n hx hb dX11_route_166 rfl (lv_at hl 2 rfl) ?_
                                    refine lv_bipush (v := iI 10) hx hb dX11_route_167 (by decide) ?_
                                    refine g_cv (As := [.int (iI 10)]) (rest := []) (n := 1) C hml (m_X11_no l D k A ad hD (va_up (va_up v 0 0) 1 0) (va_up (va_up f 18 (f 18)) 19 (f 19)) g 10 (by decide) (show 0 ≤ (10 : Int) ∧ (10 : Int) ≤ 10 from by omega)) mM_X11_332 mI_X11_no mE_X11_no mN_X11 mC_X11_no (by decide +kernel) 0 (ci := 11) rfl rfl hP hS (fun _ h => h) ⟨Nat.le_of_ble_eq_true rfl, Nat.le_of_ble_eq_true rfl⟩ ⟨Nat.zero_le _, Nat.zero_le _⟩ hl.1 rfl rfl (Nat.le_of_ble_eq_true rfl) dX11_route_169 (fun r_70 v_70 f_70 g_70 H locs hq_70 hP _ hS => ?_)
                                    obtain ⟨rfl, rfl, rfl, rfl⟩ := hq_70
                                    show W p l e (gRm 2 43) s m args below meth c _ _ 0 0 Q (F0 m 172 ls [.int (iI 0)])
                                    have hP : gWd D (mdT k ad) (va_up (va_up v 0 (10 : Int)) 1 0) (va_up (va_up f 18 (f 18)) 19 (f 19)) g H := ⟨hP.1, (gF_up (V := mdV) (F := mdF) (gF_up (V := mdV) (F := mdF) (gR_up (V := mdV) (F := mdF) (gR_up (V := mdV) (F := mdF) ⟨hok.1, hok.2⟩ 0 (hP.2.1 0)) 1 (hP.2.1 1)) 18 (hP.2.2 18)) 19 (hP.2.2 19))⟩
                                    exact g_zret hQ C hr hlocks (by decide) hP hS dX11_route_172 ⟨0, (10 : Int), 0, (f 18), (f 19), rfl, rfl, rfl, rfl, (by first | omega | (split <;> omega))⟩
                                · exfalso; omega
                              · refine lv_iload hx hb dX11_route_124 (lv_at hl 7 rfl) ?_
                                refine lv_iload hx hb dX11_route_126 (lv_at hl 6 rfl) ?_
                                refine gi_cle (tgt := 135) hx hb dX11_route_128 (by decide) (by omega) (by omega) (fun c_71 => ?_) (fun c_71 => ?_)
                                · refine lv_iconst (v := iI 0) hx hb dX11_route_135 rfl ?_
                                  refine lv_istore (lv' := [(7, .int (iI 0)), (0, .ref (ad 0)), (1, .int (iI a1)), (2, .int (iI a2)), (3, .int (iI a3)), (4, .int (iI a4)), (5, .int (iI a5)), (6, .int (iI a6))]) hx hb dX11_route_136 hl (by decide) rfl (fun ls hl => ?_)
                                  refine lv_iload hx hb dX11_route_138 (lv_at hl 0 rfl) ?_
                                  refine gi_zne (tgt := 149) hx hb dX11_route_140 (by decide) (by decide) (fun c_72 => ?_) (fun c_72 => ?_)
                                  · exfalso; omega
                                  · refine lv_aload_n hx hb dX11_route_143 rfl (lv_at hl 1 rfl) ?_
                                    refine lv_iconst (v := iI 2) hx hb dX11_route_144 rfl ?_
                                    refine g_cv (As := [.int (iI 2)]) (rest := []) (n := 1) C hml (m_X11_no l D k A ad hD (va_up (va_up v 0 0) 1 0) (va_up (va_up f 18 (f 18)) 19 (f 19)) g 2 (by decide) (show 0 ≤ (2 : Int) ∧ (2 : Int) ≤ 10 from by omega)) mM_X11_332 mI_X11_no mE_X11_no mN_X11 mC_X11_no (by decide +kernel) 0 (ci := 11) rfl rfl hP hS (fun _ h => h) ⟨Nat.le_of_ble_eq_true rfl, Nat.le_of_ble_eq_true rfl⟩ ⟨Nat.zero_le _, Nat.zero_le _⟩ hl.1 rfl rfl (Nat.le_of_ble_eq_true rfl) dX11_route_145 (fun r_73 v_73 f_73 g_73 H locs hq_73 hP _ hS => ?_)
                                    obtain ⟨rfl, rfl, rfl, rfl⟩ := hq_73
                                    show W p l e (gRm 2 43) s m args below meth c _ _ 0 0 Q (F0 m 148 ls [.int (iI 0)])
                                    have hP : gWd D (mdT k ad) (va_up (va_up v 0 (2 : Int)) 1 0) (va_up (va_up f 18 (f 18)) 19 (f 19)) g H := ⟨hP.1, (gF_up (V := mdV) (F := mdF) (gF_up (V := mdV) (F := mdF) (gR_up (V := mdV) (F := mdF) (gR_up (V := mdV) (F := mdF) ⟨hok.1, hok.2⟩ 0 (hP.2.1 0)) 1 (hP.2.1 1)) 18 (hP.2.2 18)) 19 (hP.2.2 19))⟩
                                    exact g_zret hQ C hr hlocks (by decide) hP hS dX11_route_148 ⟨0, (2 : Int), 0, (f 18), (f 19), rfl, rfl, rfl, rfl, (by first | omega | (split <;> omega))⟩
                                · refine lv_iconst (v := iI 1) hx hb dX11_route_131 rfl ?_
                                  refine lv_goto (tgt := 136) hx hb dX11_route_132 (by decide) ?_
                                  refine lv_istore (lv' := [(7, .int (iI 1)), (0, .ref (ad 0)), (1, .int (iI a1)), (2, .int (iI a2)), (3, .int (iI a3)), (4, .int (iI a4)), (5, .int (iI a5)), (6, .int (iI a6))]) hx hb dX11_route_136 hl (by decide) rfl (fun ls hl => ?_)
                                  refine lv_iload hx hb dX11_route_138 (lv_at hl 0 rfl) ?_
                                  refine gi_zne (tgt := 149) hx hb dX11_route_140 (by decide) (by decide) (fun c_74 => ?_) (fun c_74 => ?_)
                                  · refine lv_iload_n hx hb dX11_route_149 rfl (lv_at hl 2 rfl) ?_
                                    refine lv_iload_n hx hb dX11_route_150 rfl (lv_at hl 3 rfl) ?_
                                    refine g_cs (As := [.int (iI a1), .int (iI a2)]) (rest := []) (n := 2) C hml (m_X11_at l D k A ad hD (va_up (va_up v 0 0) 1 0) (va_up (va_up f 18 (f 18)) 19 (f 19)) g a1 a2 (by omega) (by omega) (show 0 ≤ a1 ∧ a1 ≤ 3 from by omega) (show 0 ≤ a2 ∧ a2 ≤ 4 from by omega)) mM_X11_335 mS_X11_at mN_X11 mC_X11_at (by decide +kernel) hP hS (fun _ h => h) ⟨Nat.le_of_ble_eq_true rfl, Nat.le_of_ble_eq_true rfl⟩ ⟨Nat.zero_le _, Nat.zero_le _⟩ hl.1 rfl rfl (Nat.le_of_ble_eq_true rfl) dX11_route_151 (fun r_75 v_75 f_75 g_75 H locs hq_75 hP _ hS => ?_)
                                    obtain ⟨z_75, rfl, rfl, rfl, rfl, p0_75⟩ := hq_75
                                    show W p l e (gRm 2 43) s m args below meth c _ _ 0 0 Q (F0 m 154 ls [.int (iI z_75)])
                                    replace p0_75 : z_75 = (5 * a1 + a2) := p0_75
                                    have hz_75 : inR z_75 := (by first | omega | (rw [p0_75]; split <;> omega))
                                    refine lv_istore (lv' := [(8, .int (iI z_75)), (7, .int (iI 1)), (0, .ref (ad 0)), (1, .int (iI a1)), (2, .int (iI a2)), (3, .int (iI a3)), (4, .int (iI a4)), (5, .int (iI a5)), (6, .int (iI a6))]) hx hb dX11_route_154 hl (by decide) rfl (fun ls hl => ?_)
                                    refine lv_aload_n hx hb dX11_route_156 rfl (lv_at hl 2 rfl) ?_
                                    refine mdG_begun C hP mF_X11_79 dX11_route_157 ?_
                                    refine lv_iload hx hb dX11_route_160 (lv_at hl 0 rfl) ?_
                                    refine mdL_begun C hP (by omega) (by omega) dX11_route_162 ?_
                                    show W p l e (gRm 2 43) s m args below meth c _ _ 0 0 Q (F0 m 163 ls [.int (iI (f 20 z_75))])
                                    have r_76 : 0 ≤ (f 20 z_75) ∧ (f 20 z_75) ≤ 300 := hP.2.2 20 z_75
                                    refine gi_zle (tgt := 173) hx hb dX11_route_163 (by decide) (by omega) (fun c_77 => ?_) (fun c_77 => ?_)
                                    · refine lv_aload_n hx hb dX11_route_173 rfl (lv_at hl 2 rfl) ?_
                                      refine mdG_holds C hP mF_X11_73 dX11_route_174 ?_
                                      refine lv_iload hx hb dX11_route_177 (lv_at hl 0 rfl) ?_
                                      refine lv_iload_n hx hb dX11_route_179 rfl (lv_at hl 5 rfl) ?_
                                      refine mdS_holds (f1 := (va_up (va_up f 18 (u1 (f 18) z_75 a3)) 19 (f 19))) C hP hD hS (by omega) (by omega) (by omega) rfl (Or.inr (gF_up (V := mdV) (F := mdF) (gF_up (V := mdV) (F := mdF) (gR_up (V := mdV) (F := mdF) (gR_up (V := mdV) (F := mdF) ⟨hok.1, hok.2⟩ 0 (hP.2.1 0)) 1 (hP.2.1 1)) 18 (u1_rng (hP.2.2 18) (show 0 ≤ a3 ∧ a3 ≤ 60 from (by omega)))) 19 (hP.2.2 19))) dX11_route_180 (fun H locs hP hS => ?_)
                                      refine lv_aload_n hx hb dX11_route_181 rfl (lv_at hl 2 rfl) ?_
                                      refine mdG_zones C hP mF_X11_76 dX11_route_182 ?_
                                      refine lv_iconst (v := iI 3) hx hb dX11_route_185 rfl ?_
                                      refine lv_iload hx hb dX11_route_186 (lv_at hl 0 rfl) ?_
                                      refine gi_mul (z := (3 * z_75)) hx hb dX11_route_188 rfl ?_
                                      refine lv_iload hx hb dX11_route_189 (lv_at hl 6 rfl) ?_
                                      refine mdS_zones (f1 := (va_up (va_up f 18 (u1 (f 18) z_75 a3)) 19 (u1 (f 19) (3 * z_75) a4))) C hP hD hS (by omega) (by omega) (by omega) rfl (Or.inr (gF_up (V := mdV) (F := mdF) (gF_up (V := mdV) (F := mdF) (gR_up (V := mdV) (F := mdF) (gR_up (V := mdV) (F := mdF) ⟨hok.1, hok.2⟩ 0 (hP.2.1 0)) 1 (hP.2.1 1)) 18 (hP.2.2 18)) 19 (u1_rng (hP.2.2 19) (show 0 ≤ a4 ∧ a4 ≤ 60 from (by omega))))) dX11_route_191 (fun H locs hP hS => ?_)
                                      refine lv_aload_n hx hb dX11_route_192 rfl (lv_at hl 2 rfl) ?_
                                      refine mdG_zones C hP mF_X11_76 dX11_route_193 ?_
                                      refine lv_iconst (v := iI 3) hx hb dX11_route_196 rfl ?_
                                      refine lv_iload hx hb dX11_route_197 (lv_at hl 0 rfl) ?_
                                      refine gi_mul (z := (3 * z_75)) hx hb dX11_route_199 rfl ?_
                                      refine lv_iconst (v := iI 1) hx hb dX11_route_200 rfl ?_
                                      refine gi_add (z := ((3 * z_75) + 1)) hx hb dX11_route_201 rfl ?_
                                      refine lv_iload hx hb dX11_route_202 (lv_at hl 7 rfl) ?_
                                      refine mdS_zones (f1 := (va_up (va_up f 18 (u1 (f 18) z_75 a3)) 19 (u1 (u1 (f 19) (3 * z_75) a4) ((3 * z_75) + 1) a5))) C hP hD hS (by omega) (by omega) (by omega) rfl (Or.inr (gF_up (V := mdV) (F := mdF) (gF_up (V := mdV) (F := mdF) (gR_up (V := mdV) (F := mdF) (gR_up (V := mdV) (F := mdF) ⟨hok.1, hok.2⟩ 0 (hP.2.1 0)) 1 (hP.2.1 1)) 18 (hP.2.2 18)) 19 (u1_rng (hP.2.2 19) (show 0 ≤ a5 ∧ a5 ≤ 60 from (by omega))))) dX11_route_204 (fun H locs hP hS => ?_)
                                      refine lv_aload_n hx hb dX11_route_205 rfl (lv_at hl 2 rfl) ?_
                                      refine mdG_zones C hP mF_X11_76 dX11_route_206 ?_
                                      refine lv_iconst (v := iI 3) hx hb dX11_route_209 rfl ?_
                                      refine lv_iload hx hb dX11_route_210 (lv_at hl 0 rfl) ?_
                                      refine gi_mul (z := (3 * z_75)) hx hb dX11_route_212 rfl ?_
                                      refine lv_iconst (v := iI 2) hx hb dX11_route_213 rfl ?_
                                      refine gi_add (z := ((3 * z_75) + 2)) hx hb dX11_route_214 rfl ?_
                                      refine lv_iload hx hb dX11_route_215 (lv_at hl 8 rfl) ?_
                                      refine mdS_zones (f1 := (va_up (va_up f 18 (u1 (f 18) z_75 a3)) 19 (u1 (u1 (u1 (f 19) (3 * z_75) a4) ((3 * z_75) + 1) a5) ((3 * z_75) + 2) a6))) C hP hD hS (by omega) (by omega) (by omega) rfl (Or.inr (gF_up (V := mdV) (F := mdF) (gF_up (V := mdV) (F := mdF) (gR_up (V := mdV) (F := mdF) (gR_up (V := mdV) (F := mdF) ⟨hok.1, hok.2⟩ 0 (hP.2.1 0)) 1 (hP.2.1 1)) 18 (hP.2.2 18)) 19 (u1_rng (hP.2.2 19) (show 0 ≤ a6 ∧ a6 ≤ 60 from (by omega))))) dX11_route_217 (fun H locs hP hS => ?_)
                                      refine lv_iconst (v := iI 1) hx hb dX11_route_218 rfl ?_
                                      exact g_zret hQ C hr hlocks (by decide) hP hS dX11_route_219 ⟨1, 0, 0, (u1 (f 18) z_75 a3), (u1 (u1 (u1 (f 19) (3 * z_75) a4) ((3 * z_75) + 1) a5) ((3 * z_75) + 2) a6), rfl, rfl, rfl, rfl, (by first | omega | (split <;> omega))⟩
                                    · refine lv_aload_n hx hb dX11_route_166 rfl (lv_at hl 2 rfl) ?_
                                      refine lv_bipush (v := iI 10) hx hb dX11_route_167 (by decide) ?_
                                      refine g_cv (As := [.int (iI 10)]) (rest := []) (n := 1) C hml (m_X11_no l D k A ad hD (va_up (va_up v 0 0) 1 0) (va_up (va_up f 18 (f 18)) 19 (f 19)) g 10 (by decide) (show 0 ≤ (10 : Int) ∧ (10 : Int) ≤ 10 from by omega)) mM_X11_332 mI_X11_no mE_X11_no mN_X11 mC_X11_no (by decide +kernel) 0 (ci := 11) rfl rfl hP hS (fun _ h => h) ⟨Nat.le_of_ble_eq_true rfl, Nat.le_of_ble_eq_true rfl⟩ ⟨Nat.zero_le _, Nat.zero_le _⟩ hl.1 rfl rfl (Nat.le_of_ble_eq_true rfl) dX11_route_169 (fun r_78 v_78 f_78 g_78 H locs hq_78 hP _ hS => ?_)
                                      obtain ⟨rfl, rfl, rfl, rfl⟩ := hq_78
                                      show W p l e (gRm 2 43) s m args below meth c _ _ 0 0 Q (F0 m 172 ls [.int (iI 0)])
                                      have hP : gWd D (mdT k ad) (va_up (va_up v 0 (10 : Int)) 1 0) (va_up (va_up f 18 (f 18)) 19 (f 19)) g H := ⟨hP.1, (gF_up (V := mdV) (F := mdF) (gF_up (V := mdV) (F := mdF) (gR_up (V := mdV) (F := mdF) (gR_up (V := mdV) (F := mdF) ⟨hok.1, hok.2⟩ 0 (hP.2.1 0)) 1 (hP.2.1 1)) 18 (hP.2.2 18)) 19 (hP.2.2 19))⟩
                                      exact g_zret hQ C hr hlocks (by decide) hP hS dX11_route_172 ⟨0, (10 : Int), 0, (f 18), (f 19), rfl, rfl, rfl, rfl, (by first | omega | (split <;> omega))⟩
                                  · exfalso; omega
                            · refine lv_iload hx hb dX11_route_111 (lv_at hl 7 rfl) ?_
                              refine gi_zne (tgt := 135) hx hb dX11_route_113 (by decide) (by omega) (fun c_79 => ?_) (fun c_79 => ?_)
                              · refine lv_iconst (v := iI 0) hx hb dX11_route_135 rfl ?_
                                refine lv_istore (lv' := [(7, .int (iI 0)), (0, .ref (ad 0)), (1, .int (iI a1)), (2, .int (iI a2)), (3, .int (iI a3)), (4, .int (iI a4)), (5, .int (iI a5)), (6, .int (iI a6))]) hx hb dX11_route_136 hl (by decide) rfl (fun ls hl => ?_)
                                refine lv_iload hx hb dX11_route_138 (lv_at hl 0 rfl) ?_
                                refine gi_zne (tgt := 149) hx hb dX11_route_140 (by decide) (by decide) (fun c_80 => ?_) (fun c_80 => ?_)
                                · exfalso; omega
                                · refine lv_aload_n hx hb dX11_route_143 rfl (lv_at hl 1 rfl) ?_
                                  refine lv_iconst (v := iI 2) hx hb dX11_route_144 rfl ?_
                                  refine g_cv (As := [.int (iI 2)]) (rest := []) (n := 1) C hml (m_X11_no l D k A ad hD (va_up (va_up v 0 0) 1 0) (va_up (va_up f 18 (f 18)) 19 (f 19)) g 2 (by decide) (show 0 ≤ (2 : Int) ∧ (2 : Int) ≤ 10 from by omega)) mM_X11_332 mI_X11_no mE_X11_no mN_X11 mC_X11_no (by decide +kernel) 0 (ci := 11) rfl rfl hP hS (fun _ h => h) ⟨Nat.le_of_ble_eq_true rfl, Nat.le_of_ble_eq_true rfl⟩ ⟨Nat.zero_le _, Nat.zero_le _⟩ hl.1 rfl rfl (Nat.le_of_ble_eq_true rfl) dX11_route_145 (fun r_81 v_81 f_81 g_81 H locs hq_81 hP _ hS => ?_)
                                  obtain ⟨rfl, rfl, rfl, rfl⟩ := hq_81
                                  show W p l e (gRm 2 43) s m args below meth c _ _ 0 0 Q (F0 m 148 ls [.int (iI 0)])
                                  have hP : gWd D (mdT k ad) (va_up (va_up v 0 (2 : Int)) 1 0) (va_up (va_up f 18 (f 18)) 19 (f 19)) g H := ⟨hP.1, (gF_up (V := mdV) (F := mdF) (gF_up (V := mdV) (F := mdF) (gR_up (V := mdV) (F := mdF) (gR_up (V := mdV) (F := mdF) ⟨hok.1, hok.2⟩ 0 (hP.2.1 0)) 1 (hP.2.1 1)) 18 (hP.2.2 18)) 19 (hP.2.2 19))⟩
                                  exact g_zret hQ C hr hlocks (by decide) hP hS dX11_route_148 ⟨0, (2 : Int), 0, (f 18), (f 19), rfl, rfl, rfl, rfl, (by first | omega | (split <;> omega))⟩
                              · refine lv_goto (tgt := 131) hx hb dX11_route_116 (by decide) ?_
                                refine lv_iconst (v := iI 1) hx hb dX11_route_131 rfl ?_
                                refine lv_goto (tgt := 136) hx hb dX11_route_132 (by decide) ?_
                                refine lv_istore (lv' := [(7, .int (iI 1)), (0, .ref (ad 0)), (1, .int (iI a1)), (2, .int (iI a2)), (3, .int (iI a3)), (4, .int (iI a4)), (5, .int (iI a5)), (6, .int (iI a6))]) hx hb dX11_route_136 hl (by decide) rfl (fun ls hl => ?_)
                                refine lv_iload hx hb dX11_route_138 (lv_at hl 0 rfl) ?_
                                refine gi_zne (tgt := 149) hx hb dX11_route_140 (by decide) (by decide) (fun c_82 => ?_) (fun c_82 => ?_)
                                · refine lv_iload_n hx hb dX11_route_149 rfl (lv_at hl 2 rfl) ?_
                                  refine lv_iload_n hx hb dX11_route_150 rfl (lv_at hl 3 rfl) ?_
                                  refine g_cs (As := [.int (iI a1), .int (iI a2)]) (rest := []) (n := 2) C hml (m_X11_at l D k A ad hD (va_up (va_up v 0 0) 1 0) (va_up (va_up f 18 (f 18)) 19 (f 19)) g a1 a2 (by omega) (by omega) (show 0 ≤ a1 ∧ a1 ≤ 3 from by omega) (show 0 ≤ a2 ∧ a2 ≤ 4 from by omega)) mM_X11_335 mS_X11_at mN_X11 mC_X11_at (by decide +kernel) hP hS (fun _ h => h) ⟨Nat.le_of_ble_eq_true rfl, Nat.le_of_ble_eq_true rfl⟩ ⟨Nat.zero_le _, Nat.zero_le _⟩ hl.1 rfl rfl (Nat.le_of_ble_eq_true rfl) dX11_route_151 (fun r_83 v_83 f_83 g_83 H locs hq_83 hP _ hS => ?_)
                                  obtain ⟨z_83, rfl, rfl, rfl, rfl, p0_83⟩ := hq_83
                                  show W p l e (gRm 2 43) s m args below meth c _ _ 0 0 Q (F0 m 154 ls [.int (iI z_83)])
                                  replace p0_83 : z_83 = (5 * a1 + a2) := p0_83
                                  have hz_83 : inR z_83 := (by first | omega | (rw [p0_83]; split <;> omega))
                                  refine lv_istore (lv' := [(8, .int (iI z_83)), (7, .int (iI 1)), (0, .ref (ad 0)), (1, .int (iI a1)), (2, .int (iI a2)), (3, .int (iI a3)), (4, .int (iI a4)), (5, .int (iI a5)), (6, .int (iI a6))]) hx hb dX11_route_154 hl (by decide) rfl (fun ls hl => ?_)
                                  refine lv_aload_n hx hb dX11_route_156 rfl (lv_at hl 2 rfl) ?_
                                  refine mdG_begun C hP mF_X11_79 dX11_route_157 ?_
                                  refine lv_iload hx hb dX11_route_160 (lv_at hl 0 rfl) ?_
                                  refine mdL_begun C hP (by omega) (by omega) dX11_route_162 ?_
                                  show W p l e (gRm 2 43) s m args below meth c _ _ 0 0 Q (F0 m 163 ls [.int (iI (f 20 z_83))])
                                  have r_84 : 0 ≤ (f 20 z_83) ∧ (f 20 z_83) ≤ 300 := hP.2.2 20 z_83
                                  refine gi_zle (tgt := 173) hx hb dX11_route_163 (by decide) (by omega) (fun c_85 => ?_) (fun c_85 => ?_)
                                  · refine lv_aload_n hx hb dX11_route_173 rfl (lv_at hl 2 rfl) ?_
                                    refine mdG_holds C hP mF_X11_73 dX11_route_174 ?_
                                    refine lv_iload hx hb dX11_route_177 (lv_at hl 0 rfl) ?_
                                    refine lv_iload_n hx hb dX11_route_179 rfl (lv_at hl 5 rfl) ?_
                                    refine mdS_holds (f1 := (va_up (va_up f 18 (u1 (f 18) z_83 a3)) 19 (f 19))) C hP hD hS (by omega) (by omega) (by omega) rfl (Or.inr (gF_up (V := mdV) (F := mdF) (gF_up (V := mdV) (F := mdF) (gR_up (V := mdV) (F := mdF) (gR_up (V := mdV) (F := mdF) ⟨hok.1, hok.2⟩ 0 (hP.2.1 0)) 1 (hP.2.1 1)) 18 (u1_rng (hP.2.2 18) (show 0 ≤ a3 ∧ a3 ≤ 60 from (by omega)))) 19 (hP.2.2 19))) dX11_route_180 (fun H locs hP hS => ?_)
                                    refine lv_aload_n hx hb dX11_route_181 rfl (lv_at hl 2 rfl) ?_
                                    refine mdG_zones C hP mF_X11_76 dX11_route_182 ?_
                                    refine lv_iconst (v := iI 3) hx hb dX11_route_185 rfl ?_
                                    refine lv_iload hx hb dX11_route_186 (lv_at hl 0 rfl) ?_
                                    refine gi_mul (z := (3 * z_83)) hx hb dX11_route_188 rfl ?_
                                    refine lv_iload hx hb dX11_route_189 (lv_at hl 6 rfl) ?_
                                    refine mdS_zones (f1 := (va_up (va_up f 18 (u1 (f 18) z_83 a3)) 19 (u1 (f 19) (3 * z_83) a4))) C hP hD hS (by omega) (by omega) (by omega) rfl (Or.inr (gF_up (V := mdV) (F := mdF) (gF_up (V := mdV) (F := mdF) (gR_up (V := mdV) (F := mdF) (gR_up (V := mdV) (F := mdF) ⟨hok.1, hok.2⟩ 0 (hP.2.1 0)) 1 (hP.2.1 1)) 18 (hP.2.2 18)) 19 (u1_rng (hP.2.2 19) (show 0 ≤ a4 ∧ a4 ≤ 60 from (by omega))))) dX11_route_191 (fun H locs hP hS => ?_)
                                    refine lv_aload_n hx hb dX11_route_192 rfl (lv_at hl 2 rfl) ?_
                                    refine mdG_zones C hP mF_X11_76 dX11_route_193 ?_
                                    refine lv_iconst (v := iI 3) hx hb dX11_route_196 rfl ?_
                                    refine lv_iload hx hb dX11_route_197 (lv_at hl 0 rfl) ?_
                                    refine gi_mul (z := (3 * z_83)) hx hb dX11_route_199 rfl ?_
                                    refine lv_iconst (v := iI 1) hx hb dX11_route_200 rfl ?_
                                    refine gi_add (z := ((3 * z_83) + 1)) hx hb dX11_route_201 rfl ?_
                                    refine lv_iload hx hb dX11_route_202 (lv_at hl 7 rfl) ?_
                                    refine mdS_zones (f1 := (va_up (va_up f 18 (u1 (f 18) z_83 a3)) 19 (u1 (u1 (f 19) (3 * z_83) a4) ((3 * z_83) + 1) a5))) C hP hD hS (by omega) (by omega) (by omega) rfl (Or.inr (gF_up (V := mdV) (F := mdF) (gF_up (V := mdV) (F := mdF) (gR_up (V := mdV) (F := mdF) (gR_up (V := mdV) (F := mdF) ⟨hok.1, hok.2⟩ 0 (hP.2.1 0)) 1 (hP.2.1 1)) 18 (hP.2.2 18)) 19 (u1_rng (hP.2.2 19) (show 0 ≤ a5 ∧ a5 ≤ 60 from (by omega))))) dX11_route_204 (fun H locs hP hS => ?_)
                                    refine lv_aload_n hx hb dX11_route_205 rfl (lv_at hl 2 rfl) ?_
                                    refine mdG_zones C hP mF_X11_76 dX11_route_206 ?_
                                    refine lv_iconst (v := iI 3) hx hb dX11_route_209 rfl ?_
                                    refine lv_iload hx hb dX11_route_210 (lv_at hl 0 rfl) ?_
                                    refine gi_mul (z := (3 * z_83)) hx hb dX11_route_212 rfl ?_
                                    refine lv_iconst (v := iI 2) hx hb dX11_route_213 rfl ?_
                                    refine gi_add (z := ((3 * z_83) + 2)) hx hb dX11_route_214 rfl ?_
                                    refine lv_iload hx hb dX11_route_215 (lv_at hl 8 rfl) ?_
                                    refine mdS_zones (f1 := (va_up (va_up f 18 (u1 (f 18) z_83 a3)) 19 (u1 (u1 (u1 (f 19) (3 * z_83) a4) ((3 * z_83) + 1) a5) ((3 * z_83) + 2) a6))) C hP hD hS (by omega) (by omega) (by omega) rfl (Or.inr (gF_up (V := mdV) (F := mdF) (gF_up (V := mdV) (F := mdF) (gR_up (V := mdV) (F := mdF) (gR_up (V := mdV) (F := mdF) ⟨hok.1, hok.2⟩ 0 (hP.2.1 0)) 1 (hP.2.1 1)) 18 (hP.2.2 18)) 19 (u1_rng (hP.2.2 19) (show 0 ≤ a6 ∧ a6 ≤ 60 from (by omega))))) dX11_route_217 (fun H locs hP hS => ?_)
                                    refine lv_iconst (v := iI 1) hx hb dX11_route_218 rfl ?_
                                    exact g_zret hQ C hr hlocks (by decide) hP hS dX11_route_219 ⟨1, 0, 0, (u1 (f 18) z_83 a3), (u1 (u1 (u1 (f 19) (3 * z_83) a4) ((3 * z_83) + 1) a5) ((3 * z_83) + 2) a6), rfl, rfl, rfl, rfl, (by first | omega | (split <;> omega))⟩
                                  · refine lv_aload_n hx hb dX11_route_166 rfl (lv_at hl 2 rfl) ?_
                                    refine lv_bipush (v := iI 10) hx hb dX11_route_167 (by decide) ?_
                                    refine g_cv (As := [.int (iI 10)]) (rest := []) (n := 1) C hml (m_X11_no l D k A ad hD (va_up (va_up v 0 0) 1 0) (va_up (va_up f 18 (f 18)) 19 (f 19)) g 10 (by decide) (show 0 ≤ (10 : Int) ∧ (10 : Int) ≤ 10 from by omega)) mM_X11_332 mI_X11_no mE_X11_no mN_X11 mC_X11_no (by decide +kernel) 0 (ci := 11) rfl rfl hP hS (fun _ h => h) ⟨Nat.le_of_ble_eq_true rfl, Nat.le_of_ble_eq_true rfl⟩ ⟨Nat.zero_le _, Nat.zero_le _⟩ hl.1 rfl rfl (Nat.le_of_ble_eq_true rfl) dX11_route_169 (fun r_86 v_86 f_86 g_86 H locs hq_86 hP _ hS => ?_)
                                    obtain ⟨rfl, rfl, rfl, rfl⟩ := hq_86
                                    show W p l e (gRm 2 43) s m args below meth c _ _ 0 0 Q (F0 m 172 ls [.int (iI 0)])
                                    have hP : gWd D (mdT k ad) (va_up (va_up v 0 (10 : Int)) 1 0) (va_up (va_up f 18 (f 18)) 19 (f 19)) g H := ⟨hP.1, (gF_up (V := mdV) (F := mdF) (gF_up (V := mdV) (F := mdF) (gR_up (V := mdV) (F := mdF) (gR_up (V := mdV) (F := mdF) ⟨hok.1, hok.2⟩ 0 (hP.2.1 0)) 1 (hP.2.1 1)) 18 (hP.2.2 18)) 19 (hP.2.2 19))⟩
                                    exact g_zret hQ C hr hlocks (by decide) hP hS dX11_route_172 ⟨0, (10 : Int), 0, (f 18), (f 19), rfl, rfl, rfl, rfl, (by first | omega | (split <;> omega))⟩
                                · exfalso; omega
                      · refine lv_iload hx hb dX11_route_86 (lv_at hl 6 rfl) ?_
                        refine gi_zne (tgt := 135) hx hb dX11_route_88 (by decide) (by omega) (fun c_87 => ?_) (fun c_87 => ?_)
                        · refine lv_iconst (v := iI 0) hx hb dX11_route_135 rfl ?_
                          refine lv_istore (lv' := [(7, .int (iI 0)), (0, .ref (ad 0)), (1, .int (iI a1)), (2, .int (iI a2)), (3, .int (iI a3)), (4, .int (iI a4)), (5, .int (iI a5)), (6, .int (iI a6))]) hx hb dX11_route_136 hl (by decide) rfl (fun ls hl => ?_)
                          refine lv_iload hx hb dX11_route_138 (lv_at hl 0 rfl) ?_
                          refine gi_zne (tgt := 149) hx hb dX11_route_140 (by decide) (by decide) (fun c_88 => ?_) (fun c_88 => ?_)
                          · exfalso; omega
                          · refine lv_aload_n hx hb dX11_route_143 rfl (lv_at hl 1 rfl) ?_
                            refine lv_iconst (v := iI 2) hx hb dX11_route_144 rfl ?_
                            refine g_cv (As := [.int (iI 2)]) (rest := []) (n := 1) C hml (m_X11_no l D k A ad hD (va_up (va_up v 0 0) 1 0) (va_up (va_up f 18 (f 18)) 19 (f 19)) g 2 (by decide) (show 0 ≤ (2 : Int) ∧ (2 : Int) ≤ 10 from by omega)) mM_X11_332 mI_X11_no mE_X11_no mN_X11 mC_X11_no (by decide +kernel) 0 (ci := 11) rfl rfl hP hS (fun _ h => h) ⟨Nat.le_of_ble_eq_true rfl, Nat.le_of_ble_eq_true rfl⟩ ⟨Nat.zero_le _, Nat.zero_le _⟩ hl.1 rfl rfl (Nat.le_of_ble_eq_true rfl) dX11_route_145 (fun r_89 v_89 f_89 g_89 H locs hq_89 hP _ hS => ?_)
                            obtain ⟨rfl, rfl, rfl, rfl⟩ := hq_89
                            show W p l e (gRm 2 43) s m args below meth c _ _ 0 0 Q (F0 m 148 ls [.int (iI 0)])
                            have hP : gWd D (mdT k ad) (va_up (va_up v 0 (2 : Int)) 1 0) (va_up (va_up f 18 (f 18)) 19 (f 19)) g H := ⟨hP.1, (gF_up (V := mdV) (F := mdF) (gF_up (V := mdV) (F := mdF) (gR_up (V := mdV) (F := mdF) (gR_up (V := mdV) (F := mdF) ⟨hok.1, hok.2⟩ 0 (hP.2.1 0)) 1 (hP.2.1 1)) 18 (hP.2.2 18)) 19 (hP.2.2 19))⟩
                            exact g_zret hQ C hr hlocks (by decide) hP hS dX11_route_148 ⟨0, (2 : Int), 0, (f 18), (f 19), rfl, rfl, rfl, rfl, (by first | omega | (split <;> omega))⟩
                        · refine lv_goto (tgt := 106) hx hb dX11_route_91 (by decide) ?_
                          refine lv_iload hx hb dX11_route_106 (lv_at hl 6 rfl) ?_
                          refine gi_zne (tgt := 119) hx hb dX11_route_108 (by decide) (by omega) (fun c_90 => ?_) (fun c_90 => ?_)
                          · refine lv_iload hx hb dX11_route_119 (lv_at hl 7 rfl) ?_
                            refine gi_zeq (tgt := 131) hx hb dX11_route_121 (by decide) (by omega) (fun c_91 => ?_) (fun c_91 => ?_)
                            · refine lv_iconst (v := iI 1) hx hb dX11_route_131 rfl ?_
                              refine lv_goto (tgt := 136) hx hb dX11_route_132 (by decide) ?_
                              refine lv_istore (lv' := [(7, .int (iI 1)), (0, .ref (ad 0)), (1, .int (iI a1)), (2, .int (iI a2)), (3, .int (iI a3)), (4, .int (iI a4)), (5, .int (iI a5)), (6, .int (iI a6))]) hx hb dX11_route_136 hl (by decide) rfl (fun ls hl => ?_)
                              refine lv_iload hx hb dX11_route_138 (lv_at hl 0 rfl) ?_
                              refine gi_zne (tgt := 149) hx hb dX11_route_140 (by decide) (by decide) (fun c_92 => ?_) (fun c_92 => ?_)
                              · refine lv_iload_n hx hb dX11_route_149 rfl (lv_at hl 2 rfl) ?_
                                refine lv_iload_n hx hb dX11_route_150 rfl (lv_at hl 3 rfl) ?_
                                refine g_cs (As := [.int (iI a1), .int (iI a2)]) (rest := []) (n := 2) C hml (m_X11_at l D k A ad hD (va_up (va_up v 0 0) 1 0) (va_up (va_up f 18 (f 18)) 19 (f 19)) g a1 a2 (by omega) (by omega) (show 0 ≤ a1 ∧ a1 ≤ 3 from by omega) (show 0 ≤ a2 ∧ a2 ≤ 4 from by omega)) mM_X11_335 mS_X11_at mN_X11 mC_X11_at (by decide +kernel) hP hS (fun _ h => h) ⟨Nat.le_of_ble_eq_true rfl, Nat.le_of_ble_eq_true rfl⟩ ⟨Nat.zero_le _, Nat.zero_le _⟩ hl.1 rfl rfl (Nat.le_of_ble_eq_true rfl) dX11_route_151 (fun r_93 v_93 f_93 g_93 H locs hq_93 hP _ hS => ?_)
                                obtain ⟨z_93, rfl, rfl, rfl, rfl, p0_93⟩ := hq_93
                                show W p l e (gRm 2 43) s m args below meth c _ _ 0 0 Q (F0 m 154 ls [.int (iI z_93)])
                                replace p0_93 : z_93 = (5 * a1 + a2) := p0_93
                                have hz_93 : inR z_93 := (by first | omega | (rw [p0_93]; split <;> omega))
                                refine lv_istore (lv' := [(8, .int (iI z_93)), (7, .int (iI 1)), (0, .ref (ad 0)), (1, .int (iI a1)), (2, .int (iI a2)), (3, .int (iI a3)), (4, .int (iI a4)), (5, .int (iI a5)), (6, .int (iI a6))]) hx hb dX11_route_154 hl (by decide) rfl (fun ls hl => ?_)
                                refine lv_aload_n hx hb dX11_route_156 rfl (lv_at hl 2 rfl) ?_
                                refine mdG_begun C hP mF_X11_79 dX11_route_157 ?_
                                refine lv_iload hx hb dX11_route_160 (lv_at hl 0 rfl) ?_
                                refine mdL_begun C hP (by omega) (by omega) dX11_route_162 ?_
                                show W p l e (gRm 2 43) s m args below meth c _ _ 0 0 Q (F0 m 163 ls [.int (iI (f 20 z_93))])
                                have r_94 : 0 ≤ (f 20 z_93) ∧ (f 20 z_93) ≤ 300 := hP.2.2 20 z_93
                                refine gi_zle (tgt := 173) hx hb dX11_route_163 (by decide) (by omega) (fun c_95 => ?_) (fun c_95 => ?_)
                                · refine lv_aload_n hx hb dX11_route_173 rfl (lv_at hl 2 rfl) ?_
                                  refine mdG_holds C hP mF_X11_73 dX11_route_174 ?_
                                  refine lv_iload hx hb dX11_route_177 (lv_at hl 0 rfl) ?_
                                  refine lv_iload_n hx hb dX11_route_179 rfl (lv_at hl 5 rfl) ?_
                                  refine mdS_holds (f1 := (va_up (va_up f 18 (u1 (f 18) z_93 a3)) 19 (f 19))) C hP hD hS (by omega) (by omega) (by omega) rfl (Or.inr (gF_up (V := mdV) (F := mdF) (gF_up (V := mdV) (F := mdF) (gR_up (V := mdV) (F := mdF) (gR_up (V := mdV) (F := mdF) ⟨hok.1, hok.2⟩ 0 (hP.2.1 0)) 1 (hP.2.1 1)) 18 (u1_rng (hP.2.2 18) (show 0 ≤ a3 ∧ a3 ≤ 60 from (by omega)))) 19 (hP.2.2 19))) dX11_route_180 (fun H locs hP hS => ?_)
                                  refine lv_aload_n hx hb dX11_route_181 rfl (lv_at hl 2 rfl) ?_
                                  refine mdG_zones C hP mF_X11_76 dX11_route_182 ?_
                                  refine lv_iconst (v := iI 3) hx hb dX11_route_185 rfl ?_
                                  refine lv_iload hx hb dX11_route_186 (lv_at hl 0 rfl) ?_
                                  refine gi_mul (z := (3 * z_93)) hx hb dX11_route_188 rfl ?_
                                  refine lv_iload hx hb dX11_route_189 (lv_at hl 6 rfl) ?_
                                  refine mdS_zones (f1 := (va_up (va_up f 18 (u1 (f 18) z_93 a3)) 19 (u1 (f 19) (3 * z_93) a4))) C hP hD hS (by omega) (by omega) (by omega) rfl (Or.inr (gF_up (V := mdV) (F := mdF) (gF_up (V := mdV) (F := mdF) (gR_up (V := mdV) (F := mdF) (gR_up (V := mdV) (F := mdF) ⟨hok.1, hok.2⟩ 0 (hP.2.1 0)) 1 (hP.2.1 1)) 18 (hP.2.2 18)) 19 (u1_rng (hP.2.2 19) (show 0 ≤ a4 ∧ a4 ≤ 60 from (by omega))))) dX11_route_191 (fun H locs hP hS => ?_)
                                  refine lv_aload_n hx hb dX11_route_192 rfl (lv_at hl 2 rfl) ?_
                                  refine mdG_zones C hP mF_X11_76 dX11_route_193 ?_
                                  refine lv_iconst (v := iI 3) hx hb dX11_route_196 rfl ?_
                                  refine lv_iload hx hb dX11_route_197 (lv_at hl 0 rfl) ?_
                                  refine gi_mul (z := (3 * z_93)) hx hb dX11_route_199 rfl ?_
                                  refine lv_iconst (v := iI 1) hx hb dX11_route_200 rfl ?_
                                  refine gi_add (z := ((3 * z_93) + 1)) hx hb dX11_route_201 rfl ?_
                                  refine lv_iload hx hb dX11_route_202 (lv_at hl 7 rfl) ?_
                                  refine mdS_zones (f1 := (va_up (va_up f 18 (u1 (f 18) z_93 a3)) 19 (u1 (u1 (f 19) (3 * z_93) a4) ((3 * z_93) + 1) a5))) C hP hD hS (by omega) (by omega) (by omega) rfl (Or.inr (gF_up (V := mdV) (F := mdF) (gF_up (V := mdV) (F := mdF) (gR_up (V := mdV) (F := mdF) (gR_up (V := mdV) (F := mdF) ⟨hok.1, hok.2⟩ 0 (hP.2.1 0)) 1 (hP.2.1 1)) 18 (hP.2.2 18)) 19 (u1_rng (hP.2.2 19) (show 0 ≤ a5 ∧ a5 ≤ 60 from (by omega))))) dX11_route_204 (fun H locs hP hS => ?_)
                                  refine lv_aload_n hx hb dX11_route_205 rfl (lv_at hl 2 rfl) ?_
                                  refine mdG_zones C hP mF_X11_76 dX11_route_206 ?_
                                  refine lv_iconst (v := iI 3) hx hb dX11_route_209 rfl ?_
                                  refine lv_iload hx hb dX11_route_210 (lv_at hl 0 rfl) ?_
                                  refine gi_mul (z := (3 * z_93)) hx hb dX11_route_212 rfl ?_
                                  refine lv_iconst (v := iI 2) hx hb dX11_route_213 rfl ?_
                                  refine gi_add (z := ((3 * z_93) + 2)) hx hb dX11_route_214 rfl ?_
                                  refine lv_iload hx hb dX11_route_215 (lv_at hl 8 rfl) ?_
                                  refine mdS_zones (f1 := (va_up (va_up f 18 (u1 (f 18) z_93 a3)) 19 (u1 (u1 (u1 (f 19) (3 * z_93) a4) ((3 * z_93) + 1) a5) ((3 * z_93) + 2) a6))) C hP hD hS (by omega) (by omega) (by omega) rfl (Or.inr (gF_up (V := mdV) (F := mdF) (gF_up (V := mdV) (F := mdF) (gR_up (V := mdV) (F := mdF) (gR_up (V := mdV) (F := mdF) ⟨hok.1, hok.2⟩ 0 (hP.2.1 0)) 1 (hP.2.1 1)) 18 (hP.2.2 18)) 19 (u1_rng (hP.2.2 19) (show 0 ≤ a6 ∧ a6 ≤ 60 from (by omega))))) dX11_route_217 (fun H locs hP hS => ?_)
                                  refine lv_iconst (v := iI 1) hx hb dX11_route_218 rfl ?_
                                  exact g_zret hQ C hr hlocks (by decide) hP hS dX11_route_219 ⟨1, 0, 0, (u1 (f 18) z_93 a3), (u1 (u1 (u1 (f 19) (3 * z_93) a4) ((3 * z_93) + 1) a5) ((3 * z_93) + 2) a6), rfl, rfl, rfl, rfl, (by first | omega | (split <;> omega))⟩
                                · refine lv_aload_n hx hb dX11_route_166 rfl (lv_at hl 2 rfl) ?_
                                  refine lv_bipush (v := iI 10) hx hb dX11_route_167 (by decide) ?_
                                  refine g_cv (As := [.int (iI 10)]) (rest := []) (n := 1) C hml (m_X11_no l D k A ad hD (va_up (va_up v 0 0) 1 0) (va_up (va_up f 18 (f 18)) 19 (f 19)) g 10 (by decide) (show 0 ≤ (10 : Int) ∧ (10 : Int) ≤ 10 from by omega)) mM_X11_332 mI_X11_no mE_X11_no mN_X11 mC_X11_no (by decide +kernel) 0 (ci := 11) rfl rfl hP hS (fun _ h => h) ⟨Nat.le_of_ble_eq_true rfl, Nat.le_of_ble_eq_true rfl⟩ ⟨Nat.zero_le _, Nat.zero_le _⟩ hl.1 rfl rfl (Nat.le_of_ble_eq_true rfl) dX11_route_169 (fun r_96 v_96 f_96 g_96 H locs hq_96 hP _ hS => ?_)
                                  obtain ⟨rfl, rfl, rfl, rfl⟩ := hq_96
                                  show W p l e (gRm 2 43) s m args below meth c _ _ 0 0 Q (F0 m 172 ls [.int (iI 0)])
                                  have hP : gWd D (mdT k ad) (va_up (va_up v 0 (10 : Int)) 1 0) (va_up (va_up f 18 (f 18)) 19 (f 19)) g H := ⟨hP.1, (gF_up (V := mdV) (F := mdF) (gF_up (V := mdV) (F := mdF) (gR_up (V := mdV) (F := mdF) (gR_up (V := mdV) (F := mdF) ⟨hok.1, hok.2⟩ 0 (hP.2.1 0)) 1 (hP.2.1 1)) 18 (hP.2.2 18)) 19 (hP.2.2 19))⟩
                                  exact g_zret hQ C hr hlocks (by decide) hP hS dX11_route_172 ⟨0, (10 : Int), 0, (f 18), (f 19), rfl, rfl, rfl, rfl, (by first | omega | (split <;> omega))⟩
                              · exfalso; omega
                            · refine lv_iload hx hb dX11_route_124 (lv_at hl 7 rfl) ?_
                              refine lv_iload hx hb dX11_route_126 (lv_at hl 6 rfl) ?_
                              refine gi_cle (tgt := 135) hx hb dX11_route_128 (by decide) (by omega) (by omega) (fun c_97 => ?_) (fun c_97 => ?_)
                              · refine lv_iconst (v := iI 0) hx hb dX11_route_135 rfl ?_
                                refine lv_istore (lv' := [(7, .int (iI 0)), (0, .ref (ad 0)), (1, .int (iI a1)), (2, .int (iI a2)), (3, .int (iI a3)), (4, .int (iI a4)), (5, .int (iI a5)), (6, .int (iI a6))]) hx hb dX11_route_136 hl (by decide) rfl (fun ls hl => ?_)
                                refine lv_iload hx hb dX11_route_138 (lv_at hl 0 rfl) ?_
                                refine gi_zne (tgt := 149) hx hb dX11_route_140 (by decide) (by decide) (fun c_98 => ?_) (fun c_98 => ?_)
                                · exfalso; omega
                                · refine lv_aload_n hx hb dX11_route_143 rfl (lv_at hl 1 rfl) ?_
                                  refine lv_iconst (v := iI 2) hx hb dX11_route_144 rfl ?_
                                  refine g_cv (As := [.int (iI 2)]) (rest := []) (n := 1) C hml (m_X11_no l D k A ad hD (va_up (va_up v 0 0) 1 0) (va_up (va_up f 18 (f 18)) 19 (f 19)) g 2 (by decide) (show 0 ≤ (2 : Int) ∧ (2 : Int) ≤ 10 from by omega)) mM_X11_332 mI_X11_no mE_X11_no mN_X11 mC_X11_no (by decide +kernel) 0 (ci := 11) rfl rfl hP hS (fun _ h => h) ⟨Nat.le_of_ble_eq_true rfl, Nat.le_of_ble_eq_true rfl⟩ ⟨Nat.zero_le _, Nat.zero_le _⟩ hl.1 rfl rfl (Nat.le_of_ble_eq_true rfl) dX11_route_145 (fun r_99 v_99 f_99 g_99 H locs hq_99 hP _ hS => ?_)
                                  obtain ⟨rfl, rfl, rfl, rfl⟩ := hq_99
                                  show W p l e (gRm 2 43) s m args below meth c _ _ 0 0 Q (F0 m 148 ls [.int (iI 0)])
                                  have hP : gWd D (mdT k ad) (va_up (va_up v 0 (2 : Int)) 1 0) (va_up (va_up f 18 (f 18)) 19 (f 19)) g H := ⟨hP.1, (gF_up (V := mdV) (F := mdF) (gF_up (V := mdV) (F := mdF) (gR_up (V := mdV) (F := mdF) (gR_up (V := mdV) (F := mdF) ⟨hok.1, hok.2⟩ 0 (hP.2.1 0)) 1 (hP.2.1 1)) 18 (hP.2.2 18)) 19 (hP.2.2 19))⟩
                                  exact g_zret hQ C hr hlocks (by decide) hP hS dX11_route_148 ⟨0, (2 : Int), 0, (f 18), (f 19), rfl, rfl, rfl, rfl, (by first | omega | (split <;> omega))⟩
                              · refine lv_iconst (v := iI 1) hx hb dX11_route_131 rfl ?_
                                refine lv_goto (tgt := 136) hx hb dX11_route_132 (by decide) ?_
                                refine lv_istore (lv' := [(7, .int (iI 1)), (0, .ref (ad 0)), (1, .int (iI a1)), (2, .int (iI a2)), (3, .int (iI a3)), (4, .int (iI a4)), (5, .int (iI a5)), (6, .int (iI a6))]) hx hb dX11_route_136 hl (by decide) rfl (fun ls hl => ?_)
                                refine lv_iload hx hb dX11_route_138 (lv_at hl 0 rfl) ?_
                                refine gi_zne (tgt := 149) hx hb dX11_route_140 (by decide) (by decide) (fun c_100 => ?_) (fun c_100 => ?_)
                                · refine lv_iload_n hx hb dX11_route_149 rfl (lv_at hl 2 rfl) ?_
                                  refine lv_iload_n hx hb dX11_route_150 rfl (lv_at hl 3 rfl) ?_
                                  refine g_cs (As := [.int (iI a1), .int (iI a2)]) (rest := []) (n := 2) C hml (m_X11_at l D k A ad hD (va_up (va_up v 0 0) 1 0) (va_up (va_up f 18 (f 18)) 19 (f 19)) g a1 a2 (by omega) (by omega) (show 0 ≤ a1 ∧ a1 ≤ 3 from by omega) (show 0 ≤ a2 ∧ a2 ≤ 4 from by omega)) mM_X11_335 mS_X11_at mN_X11 mC_X11_at (by decide +kernel) hP hS (fun _ h => h) ⟨Nat.le_of_ble_eq_true rfl, Nat.le_of_ble_eq_true rfl⟩ ⟨Nat.zero_le _, Nat.zero_le _⟩ hl.1 rfl rfl (Nat.le_of_ble_eq_true rfl) dX11_route_151 (fun r_101 v_101 f_101 g_101 H locs hq_101 hP _ hS => ?_)
                                  obtain ⟨z_101, rfl, rfl, rfl, rfl, p0_101⟩ := hq_101
                                  show W p l e (gRm 2 43) s m args below meth c _ _ 0 0 Q (F0 m 154 ls [.int (iI z_101)])
                                  replace p0_101 : z_101 = (5 * a1 + a2) := p0_101
                                  have hz_101 : inR z_101 := (by first | omega | (rw [p0_101]; split <;> omega))
                                  refine lv_istore (lv' := [(8, .int (iI z_101)), (7, .int (iI 1)), (0, .ref (ad 0)), (1, .int (iI a1)), (2, .int (iI a2)), (3, .int (iI a3)), (4, .int (iI a4)), (5, .int (iI a5)), (6, .int (iI a6))]) hx hb dX11_route_154 hl (by decide) rfl (fun ls hl => ?_)
                                  refine lv_aload_n hx hb dX11_route_156 rfl (lv_at hl 2 rfl) ?_
                                  refine mdG_begun C hP mF_X11_79 dX11_route_157 ?_
                                  refine lv_iload hx hb dX11_route_160 (lv_at hl 0 rfl) ?_
                                  refine mdL_begun C hP (by omega) (by omega) dX11_route_162 ?_
                                  show W p l e (gRm 2 43) s m args below meth c _ _ 0 0 Q (F0 m 163 ls [.int (iI (f 20 z_101))])
                                  have r_102 : 0 ≤ (f 20 z_101) ∧ (f 20 z_101) ≤ 300 := hP.2.2 20 z_101
                                  refine gi_zle (tgt := 173) hx hb dX11_route_163 (by decide) (by omega) (fun c_103 => ?_) (fun c_103 => ?_)
                                  · refine lv_aload_n hx hb dX11_route_173 rfl (lv_at hl 2 rfl) ?_
                                    refine mdG_holds C hP mF_X11_73 dX11_route_174 ?_
                                    refine lv_iload hx hb dX11_route_177 (lv_at hl 0 rfl) ?_
                                    refine lv_iload_n hx hb dX11_route_179 rfl (lv_at hl 5 rfl) ?_
                                    refine mdS_holds (f1 := (va_up (va_up f 18 (u1 (f 18) z_101 a3)) 19 (f 19))) C hP hD hS (by omega) (by omega) (by omega) rfl (Or.inr (gF_up (V := mdV) (F := mdF) (gF_up (V := mdV) (F := mdF) (gR_up (V := mdV) (F := mdF) (gR_up (V := mdV) (F := mdF) ⟨hok.1, hok.2⟩ 0 (hP.2.1 0)) 1 (hP.2.1 1)) 18 (u1_rng (hP.2.2 18) (show 0 ≤ a3 ∧ a3 ≤ 60 from (by omega)))) 19 (hP.2.2 19))) dX11_route_180 (fun H locs hP hS => ?_)
                                    refine lv_aload_n hx hb dX11_route_181 rfl (lv_at hl 2 rfl) ?_
                                    refine mdG_zones C hP mF_X11_76 dX11_route_182 ?_
                                    refine lv_iconst (v := iI 3) hx hb dX11_route_185 rfl ?_
                                    refine lv_iload hx hb dX11_route_186 (lv_at hl 0 rfl) ?_
                                    refine gi_mul (z := (3 * z_101)) hx hb dX11_route_188 rfl ?_
                                    refine lv_iload hx hb dX11_route_189 (lv_at hl 6 rfl) ?_
                                    refine mdS_zones (f1 := (va_up (va_up f 18 (u1 (f 18) z_101 a3)) 19 (u1 (f 19) (3 * z_101) a4))) C hP hD hS (by omega) (by omega) (by omega) rfl (Or.inr (gF_up (V := mdV) (F := mdF) (gF_up (V := mdV) (F := mdF) (gR_up (V := mdV) (F := mdF) (gR_up (V := mdV) (F := mdF) ⟨hok.1, hok.2⟩ 0 (hP.2.1 0)) 1 (hP.2.1 1)) 18 (hP.2.2 18)) 19 (u1_rng (hP.2.2 19) (show 0 ≤ a4 ∧ a4 ≤ 60 from (by omega))))) dX11_route_191 (fun H locs hP hS => ?_)
                                    refine lv_aload_n hx hb dX11_route_192 rfl (lv_at hl 2 rfl) ?_
                                    refine mdG_zones C hP mF_X11_76 dX11_route_193 ?_
                                    refine lv_iconst (v := iI 3) hx hb dX11_route_196 rfl ?_
                                    refine lv_iload hx hb dX11_route_197 (lv_at hl 0 rfl) ?_
                                    refine gi_mul (z := (3 * z_101)) hx hb dX11_route_199 rfl ?_
                                    refine lv_iconst (v := iI 1) hx hb dX11_route_200 rfl ?_
                                    refine gi_add (z := ((3 * z_101) + 1)) hx hb dX11_route_201 rfl ?_
                                    refine lv_iload hx hb dX11_route_202 (lv_at hl 7 rfl) ?_
                                    refine mdS_zones (f1 := (va_up (va_up f 18 (u1 (f 18) z_101 a3)) 19 (u1 (u1 (f 19) (3 * z_101) a4) ((3 * z_101) + 1) a5))) C hP hD hS (by omega) (by omega) (by omega) rfl (Or.inr (gF_up (V := mdV) (F := mdF) (gF_up (V := mdV) (F := mdF) (gR_up (V := mdV) (F := mdF) (gR_up (V := mdV) (F := mdF) ⟨hok.1, hok.2⟩ 0 (hP.2.1 0)) 1 (hP.2.1 1)) 18 (hP.2.2 18)) 19 (u1_rng (hP.2.2 19) (show 0 ≤ a5 ∧ a5 ≤ 60 from (by omega))))) dX11_route_204 (fun H locs hP hS => ?_)
                                    refine lv_aload_n hx hb dX11_route_205 rfl (lv_at hl 2 rfl) ?_
                                    refine mdG_zones C hP mF_X11_76 dX11_route_206 ?_
                                    refine lv_iconst (v := iI 3) hx hb dX11_route_209 rfl ?_
                                    refine lv_iload hx hb dX11_route_210 (lv_at hl 0 rfl) ?_
                                    refine gi_mul (z := (3 * z_101)) hx hb dX11_route_212 rfl ?_
                                    refine lv_iconst (v := iI 2) hx hb dX11_route_213 rfl ?_
                                    refine gi_add (z := ((3 * z_101) + 2)) hx hb dX11_route_214 rfl ?_
                                    refine lv_iload hx hb dX11_route_215 (lv_at hl 8 rfl) ?_
                                    refine mdS_zones (f1 := (va_up (va_up f 18 (u1 (f 18) z_101 a3)) 19 (u1 (u1 (u1 (f 19) (3 * z_101) a4) ((3 * z_101) + 1) a5) ((3 * z_101) + 2) a6))) C hP hD hS (by omega) (by omega) (by omega) rfl (Or.inr (gF_up (V := mdV) (F := mdF) (gF_up (V := mdV) (F := mdF) (gR_up (V := mdV) (F := mdF) (gR_up (V := mdV) (F := mdF) ⟨hok.1, hok.2⟩ 0 (hP.2.1 0)) 1 (hP.2.1 1)) 18 (hP.2.2 18)) 19 (u1_rng (hP.2.2 19) (show 0 ≤ a6 ∧ a6 ≤ 60 from (by omega))))) dX11_route_217 (fun H locs hP hS => ?_)
                                    refine lv_iconst (v := iI 1) hx hb dX11_route_218 rfl ?_
                                    exact g_zret hQ C hr hlocks (by decide) hP hS dX11_route_219 ⟨1, 0, 0, (u1 (f 18) z_101 a3), (u1 (u1 (u1 (f 19) (3 * z_101) a4) ((3 * z_101) + 1) a5) ((3 * z_101) + 2) a6), rfl, rfl, rfl, rfl, (by first | omega | (split <;> omega))⟩
                                  · refine lv_aload_n hx hb dX11_route_166 rfl (lv_at hl 2 rfl) ?_
                                    refine lv_bipush (v := iI 10) hx hb dX11_route_167 (by decide) ?_
                                    refine g_cv (As := [.int (iI 10)]) (rest := []) (n := 1) C hml (m_X11_no l D k A ad hD (va_up (va_up v 0 0) 1 0) (va_up (va_up f 18 (f 18)) 19 (f 19)) g 10 (by decide) (show 0 ≤ (10 : Int) ∧ (10 : Int) ≤ 10 from by omega)) mM_X11_332 mI_X11_no mE_X11_no mN_X11 mC_X11_no (by decide +kernel) 0 (ci := 11) rfl rfl hP hS (fun _ h => h) ⟨Nat.le_of_ble_eq_true rfl, Nat.le_of_ble_eq_true rfl⟩ ⟨Nat.zero_le _, Nat.zero_le _⟩ hl.1 rfl rfl (Nat.le_of_ble_eq_true rfl) dX11_route_169 (fun r_104 v_104 f_104 g_104 H locs hq_104 hP _ hS => ?_)
                                    obtain ⟨rfl, rfl, rfl, rfl⟩ := hq_104
                                    show W p l e (gRm 2 43) s m args below meth c _ _ 0 0 Q (F0 m 172 ls [.int (iI 0)])
                                    have hP : gWd D (mdT k ad) (va_up (va_up v 0 (10 : Int)) 1 0) (va_up (va_up f 18 (f 18)) 19 (f 19)) g H := ⟨hP.1, (gF_up (V := mdV) (F := mdF) (gF_up (V := mdV) (F := mdF) (gR_up (V := mdV) (F := mdF) (gR_up (V := mdV) (F := mdF) ⟨hok.1, hok.2⟩ 0 (hP.2.1 0)) 1 (hP.2.1 1)) 18 (hP.2.2 18)) 19 (hP.2.2 19))⟩
                                    exact g_zret hQ C hr hlocks (by decide) hP hS dX11_route_172 ⟨0, (10 : Int), 0, (f 18), (f 19), rfl, rfl, rfl, rfl, (by first | omega | (split <;> omega))⟩
                                · exfalso; omega
                          · refine lv_iload hx hb dX11_route_111 (lv_at hl 7 rfl) ?_
                            refine gi_zne (tgt := 135) hx hb dX11_route_113 (by decide) (by omega) (fun c_105 => ?_) (fun c_105 => ?_)
                            · refine lv_iconst (v := iI 0) hx hb dX11_route_135 rfl ?_
                              refine lv_istore (lv' := [(7, .int (iI 0)), (0, .ref (ad 0)), (1, .int (iI a1)), (2, .int (iI a2)), (3, .int (iI a3)), (4, .int (iI a4)), (5, .int (iI a5)), (6, .int (iI a6))]) hx hb dX11_route_136 hl (by decide) rfl (fun ls hl => ?_)
                              refine lv_iload hx hb dX11_route_138 (lv_at hl 0 rfl) ?_
                              refine gi_zne (tgt := 149) hx hb dX11_route_140 (by decide) (by decide) (fun c_106 => ?_) (fun c_106 => ?_)
                              · exfalso; omega
                              · refine lv_aload_n hx hb dX11_route_143 rfl (lv_at hl 1 rfl) ?_
                                refine lv_iconst (v := iI 2) hx hb dX11_route_144 rfl ?_
                                refine g_cv (As := [.int (iI 2)]) (rest := []) (n := 1) C hml (m_X11_no l D k A ad hD (va_up (va_up v 0 0) 1 0) (va_up (va_up f 18 (f 18)) 19 (f 19)) g 2 (by decide) (show 0 ≤ (2 : Int) ∧ (2 : Int) ≤ 10 from by omega)) mM_X11_332 mI_X11_no mE_X11_no mN_X11 mC_X11_no (by decide +kernel) 0 (ci := 11) rfl rfl hP hS (fun _ h => h) ⟨Nat.le_of_ble_eq_true rfl, Nat.le_of_ble_eq_true rfl⟩ ⟨Nat.zero_le _, Nat.zero_le _⟩ hl.1 rfl rfl (Nat.le_of_ble_eq_true rfl) dX11_route_145 (fun r_107 v_107 f_107 g_107 H locs hq_107 hP _ hS => ?_)
                                obtain ⟨rfl, rfl, rfl, rfl⟩ := hq_107
                                show W p l e (gRm 2 43) s m args below meth c _ _ 0 0 Q (F0 m 148 ls [.int (iI 0)])
                                have hP : gWd D (mdT k ad) (va_up (va_up v 0 (2 : Int)) 1 0) (va_up (va_up f 18 (f 18)) 19 (f 19)) g H := ⟨hP.1, (gF_up (V := mdV) (F := mdF) (gF_up (V := mdV) (F := mdF) (gR_up (V := mdV) (F := mdF) (gR_up (V := mdV) (F := mdF) ⟨hok.1, hok.2⟩ 0 (hP.2.1 0)) 1 (hP.2.1 1)) 18 (hP.2.2 18)) 19 (hP.2.2 19))⟩
                                exact g_zret hQ C hr hlocks (by decide) hP hS dX11_route_148 ⟨0, (2 : Int), 0, (f 18), (f 19), rfl, rfl, rfl, rfl, (by first | omega | (split <;> omega))⟩
                            · refine lv_goto (tgt := 131) hx hb dX11_route_116 (by decide) ?_
                              refine lv_iconst (v := iI 1) hx hb dX11_route_131 rfl ?_
                              refine lv_goto (tgt := 136) hx hb dX11_route_132 (by decide) ?_
                              refine lv_istore (lv' := [(7, .int (iI 1)), (0, .ref (ad 0)), (1, .int (iI a1)), (2, .int (iI a2)), (3, .int (iI a3)), (4, .int (iI a4)), (5, .int (iI a5)), (6, .int (iI a6))]) hx hb dX11_route_136 hl (by decide) rfl (fun ls hl => ?_)
                              refine lv_iload hx hb dX11_route_138 (lv_at hl 0 rfl) ?_
                              refine gi_zne (tgt := 149) hx hb dX11_route_140 (by decide) (by decide) (fun c_108 => ?_) (fun c_108 => ?_)
                              · refine lv_iload_n hx hb dX11_route_149 rfl (lv_at hl 2 rfl) ?_
                                refine lv_iload_n hx hb dX11_route_150 rfl (lv_at hl 3 rfl) ?_
                                refine g_cs (As := [.int (iI a1), .int (iI a2)]) (rest := []) (n := 2) C hml (m_X11_at l D k A ad hD (va_up (va_up v 0 0) 1 0) (va_up (va_up f 18 (f 18)) 19 (f 19)) g a1 a2 (by omega) (by omega) (show 0 ≤ a1 ∧ a1 ≤ 3 from by omega) (show 0 ≤ a2 ∧ a2 ≤ 4 from by omega)) mM_X11_335 mS_X11_at mN_X11 mC_X11_at (by decide +kernel) hP hS (fun _ h => h) ⟨Nat.le_of_ble_eq_true rfl, Nat.le_of_ble_eq_true rfl⟩ ⟨Nat.zero_le _, Nat.zero_le _⟩ hl.1 rfl rfl (Nat.le_of_ble_eq_true rfl) dX11_route_151 (fun r_109 v_109 f_109 g_109 H locs hq_109 hP _ hS => ?_)
                                obtain ⟨z_109, rfl, rfl, rfl, rfl, p0_109⟩ := hq_109
                                show W p l e (gRm 2 43) s m args below meth c _ _ 0 0 Q (F0 m 154 ls [.int (iI z_109)])
                                replace p0_109 : z_109 = (5 * a1 + a2) := p0_109
                                have hz_109 : inR z_109 := (by first | omega | (rw [p0_109]; split <;> omega))
                                refine lv_istore (lv' := [(8, .int (iI z_109)), (7, .int (iI 1)), (0, .ref (ad 0)), (1, .int (iI a1)), (2, .int (iI a2)), (3, .int (iI a3)), (4, .int (iI a4)), (5, .int (iI a5)), (6, .int (iI a6))]) hx hb dX11_route_154 hl (by decide) rfl (fun ls hl => ?_)
                                refine lv_aload_n hx hb dX11_route_156 rfl (lv_at hl 2 rfl) ?_
                                refine mdG_begun C hP mF_X11_79 dX11_route_157 ?_
                                refine lv_iload hx hb dX11_route_160 (lv_at hl 0 rfl) ?_
                                refine mdL_begun C hP (by omega) (by omega) dX11_route_162 ?_
                                show W p l e (gRm 2 43) s m args below meth c _ _ 0 0 Q (F0 m 163 ls [.int (iI (f 20 z_109))])
                                have r_110 : 0 ≤ (f 20 z_109) ∧ (f 20 z_109) ≤ 300 := hP.2.2 20 z_109
                                refine gi_zle (tgt := 173) hx hb dX11_route_163 (by decide) (by omega) (fun c_111 => ?_) (fun c_111 => ?_)
                                · refine lv_aload_n hx hb dX11_route_173 rfl (lv_at hl 2 rfl) ?_
                                  refine mdG_holds C hP mF_X11_73 dX11_route_174 ?_
                                  refine lv_iload hx hb dX11_route_177 (lv_at hl 0 rfl) ?_
                                  refine lv_iload_n hx hb dX11_route_179 rfl (lv_at hl 5 rfl) ?_
                                  refine mdS_holds (f1 := (va_up (va_up f 18 (u1 (f 18) z_109 a3)) 19 (f 19))) C hP hD hS (by omega) (by omega) (by omega) rfl (Or.inr (gF_up (V := mdV) (F := mdF) (gF_up (V := mdV) (F := mdF) (gR_up (V := mdV) (F := mdF) (gR_up (V := mdV) (F := mdF) ⟨hok.1, hok.2⟩ 0 (hP.2.1 0)) 1 (hP.2.1 1)) 18 (u1_rng (hP.2.2 18) (show 0 ≤ a3 ∧ a3 ≤ 60 from (by omega)))) 19 (hP.2.2 19))) dX11_route_180 (fun H locs hP hS => ?_)
                                  refine lv_aload_n hx hb dX11_route_181 rfl (lv_at hl 2 rfl) ?_
                                  refine mdG_zones C hP mF_X11_76 dX11_route_182 ?_
                                  refine lv_iconst (v := iI 3) hx hb dX11_route_185 rfl ?_
                                  refine lv_iload hx hb dX11_route_186 (lv_at hl 0 rfl) ?_
                                  refine gi_mul (z := (3 * z_109)) hx hb dX11_route_188 rfl ?_
                                  refine lv_iload hx hb dX11_route_189 (lv_at hl 6 rfl) ?_
                                  refine mdS_zones (f1 := (va_up (va_up f 18 (u1 (f 18) z_109 a3)) 19 (u1 (f 19) (3 * z_109) a4))) C hP hD hS (by omega) (by omega) (by omega) rfl (Or.inr (gF_up (V := mdV) (F := mdF) (gF_up (V := mdV) (F := mdF) (gR_up (V := mdV) (F := mdF) (gR_up (V := mdV) (F := mdF) ⟨hok.1, hok.2⟩ 0 (hP.2.1 0)) 1 (hP.2.1 1)) 18 (hP.2.2 18)) 19 (u1_rng (hP.2.2 19) (show 0 ≤ a4 ∧ a4 ≤ 60 from (by omega))))) dX11_route_191 (fun H locs hP hS => ?_)
                                  refine lv_aload_n hx hb dX11_route_192 rfl (lv_at hl 2 rfl) ?_
                                  refine mdG_zones C hP mF_X11_76 dX11_route_193 ?_
                                  refine lv_iconst (v := iI 3) hx hb dX11_route_196 rfl ?_
                                  refine lv_iload hx hb dX11_route_197 (lv_at hl 0 rfl) ?_
                                  refine gi_mul (z := (3 * z_109)) hx hb dX11_route_199 rfl ?_
                                  refine lv_iconst (v := iI 1) hx hb dX11_route_200 rfl ?_
                                  refine gi_add (z := ((3 * z_109) + 1)) hx hb dX11_route_201 rfl ?_
                                  refine lv_iload hx hb dX11_route_202 (lv_at hl 7 rfl) ?_
                                  refine mdS_zones (f1 := (va_up (va_up f 18 (u1 (f 18) z_109 a3)) 19 (u1 (u1 (f 19) (3 * z_109) a4) ((3 * z_109) + 1) a5))) C hP hD hS (by omega) (by omega) (by omega) rfl (Or.inr (gF_up (V := mdV) (F := mdF) (gF_up (V := mdV) (F := mdF) (gR_up (V := mdV) (F := mdF) (gR_up (V := mdV) (F := mdF) ⟨hok.1, hok.2⟩ 0 (hP.2.1 0)) 1 (hP.2.1 1)) 18 (hP.2.2 18)) 19 (u1_rng (hP.2.2 19) (show 0 ≤ a5 ∧ a5 ≤ 60 from (by omega))))) dX11_route_204 (fun H locs hP hS => ?_)
                                  refine lv_aload_n hx hb dX11_route_205 rfl (lv_at hl 2 rfl) ?_
                                  refine mdG_zones C hP mF_X11_76 dX11_route_206 ?_
                                  refine lv_iconst (v := iI 3) hx hb dX11_route_209 rfl ?_
                                  refine lv_iload hx hb dX11_route_210 (lv_at hl 0 rfl) ?_
                                  refine gi_mul (z := (3 * z_109)) hx hb dX11_route_212 rfl ?_
                                  refine lv_iconst (v := iI 2) hx hb dX11_route_213 rfl ?_
                                  refine gi_add (z := ((3 * z_109) + 2)) hx hb dX11_route_214 rfl ?_
                                  refine lv_iload hx hb dX11_route_215 (lv_at hl 8 rfl) ?_
                                  refine mdS_zones (f1 := (va_up (va_up f 18 (u1 (f 18) z_109 a3)) 19 (u1 (u1 (u1 (f 19) (3 * z_109) a4) ((3 * z_109) + 1) a5) ((3 * z_109) + 2) a6))) C hP hD hS (by omega) (by omega) (by omega) rfl (Or.inr (gF_up (V := mdV) (F := mdF) (gF_up (V := mdV) (F := mdF) (gR_up (V := mdV) (F := mdF) (gR_up (V := mdV) (F := mdF) ⟨hok.1, hok.2⟩ 0 (hP.2.1 0)) 1 (hP.2.1 1)) 18 (hP.2.2 18)) 19 (u1_rng (hP.2.2 19) (show 0 ≤ a6 ∧ a6 ≤ 60 from (by omega))))) dX11_route_217 (fun H locs hP hS => ?_)
                                  refine lv_iconst (v := iI 1) hx hb dX11_route_218 rfl ?_
                                  exact g_zret hQ C hr hlocks (by decide) hP hS dX11_route_219 ⟨1, 0, 0, (u1 (f 18) z_109 a3), (u1 (u1 (u1 (f 19) (3 * z_109) a4) ((3 * z_109) + 1) a5) ((3 * z_109) + 2) a6), rfl, rfl, rfl, rfl, (by first | omega | (split <;> omega))⟩
                                · refine lv_aload_n hx hb dX11_route_166 rfl (lv_at hl 2 rfl) ?_
                                  refine lv_bipush (v := iI 10) hx hb dX11_route_167 (by decide) ?_
                                  refine g_cv (As := [.int (iI 10)]) (rest := []) (n := 1) C hml (m_X11_no l D k A ad hD (va_up (va_up v 0 0) 1 0) (va_up (va_up f 18 (f 18)) 19 (f 19)) g 10 (by decide) (show 0 ≤ (10 : Int) ∧ (10 : Int) ≤ 10 from by omega)) mM_X11_332 mI_X11_no mE_X11_no mN_X11 mC_X11_no (by decide +kernel) 0 (ci := 11) rfl rfl hP hS (fun _ h => h) ⟨Nat.le_of_ble_eq_true rfl, Nat.le_of_ble_eq_true rfl⟩ ⟨Nat.zero_le _, Nat.zero_le _⟩ hl.1 rfl rfl (Nat.le_of_ble_eq_true rfl) dX11_route_169 (fun r_112 v_112 f_112 g_112 H locs hq_112 hP _ hS => ?_)
                                  obtain ⟨rfl, rfl, rfl, rfl⟩ := hq_112
                                  show W p l e (gRm 2 43) s m args below meth c _ _ 0 0 Q (F0 m 172 ls [.int (iI 0)])
                                  have hP : gWd D (mdT k ad) (va_up (va_up v 0 (10 : Int)) 1 0) (va_up (va_up f 18 (f 18)) 19 (f 19)) g H := ⟨hP.1, (gF_up (V := mdV) (F := mdF) (gF_up (V := mdV) (F := mdF) (gR_up (V := mdV) (F := mdF) (gR_up (V := mdV) (F := mdF) ⟨hok.1, hok.2⟩ 0 (hP.2.1 0)) 1 (hP.2.1 1)) 18 (hP.2.2 18)) 19 (hP.2.2 19))⟩
                                  exact g_zret hQ C hr hlocks (by decide) hP hS dX11_route_172 ⟨0, (10 : Int), 0, (f 18), (f 19), rfl, rfl, rfl, rfl, (by first | omega | (split <;> omega))⟩
                              · exfalso; omega
  · refine lv_aload_n hx hb dX11_route_19 rfl (lv_at hl 0 rfl) ?_
    refine lv_iconst (v := iI 1) hx hb dX11_route_20 rfl ?_
    refine g_cv (As := [.int (iI 1)]) (rest := []) (n := 1) C hml (m_X11_no l D k A ad hD (va_up (va_up v 0 0) 1 0) (va_up (va_up f 18 (f 18)) 19 (f 19)) g 1 (by decide) (show 0 ≤ (1 : Int) ∧ (1 : Int) ≤ 10 from by omega)) mM_X11_332 mI_X11_no mE_X11_no mN_X11 mC_X11_no (by decide +kernel) 0 (ci := 11) rfl rfl hP hS (fun _ h => h) ⟨Nat.le_of_ble_eq_true rfl, Nat.le_of_ble_eq_true rfl⟩ ⟨Nat.zero_le _, Nat.zero_le _⟩ hl.1 rfl rfl (Nat.le_of_ble_eq_true rfl) dX11_route_21 (fun r_113 v_113 f_113 g_113 H locs hq_113 hP _ hS => ?_)
    obtain ⟨rfl, rfl, rfl, rfl⟩ := hq_113
    show W p l e (gRm 2 43) s m args below meth c _ _ 0 0 Q (F0 m 24 ls [.int (iI 0)])
    have hP : gWd D (mdT k ad) (va_up (va_up v 0 (1 : Int)) 1 0) (va_up (va_up f 18 (f 18)) 19 (f 19)) g H := ⟨hP.1, (gF_up (V := mdV) (F := mdF) (gF_up (V := mdV) (F := mdF) (gR_up (V := mdV) (F := mdF) (gR_up (V := mdV) (F := mdF) ⟨hok.1, hok.2⟩ 0 (hP.2.1 0)) 1 (hP.2.1 1)) 18 (hP.2.2 18)) 19 (hP.2.2 19))⟩
    exact g_zret hQ C hr hlocks (by decide) hP hS dX11_route_24 ⟨0, (1 : Int), 0, (f 18), (f 19), rfl, rfl, rfl, rfl, (by first | omega | (split <;> omega))⟩

set_option maxHeartbeats 4000000 in
set_option maxRecDepth 100000 in
theorem m_X11_told (l : Launch) (D : va_G) (k : Nat → ClassId) (A : Nat → Prop) (ad : Nat → Nat) (hD : mdD A k ad) (v : gV) (f g : gF) (a1 : Int) (a2 : Int) (a3 : Int) (h_a1 : inR a1) (h_a2 : inR a2) (h_a3 : inR a3) : GM l D k A (mdT k ad) yX11_told cX11_told 5 (some .int) 2 43 [.ref (ad 0), .int (iI a1), .int (iI a2), .int (iI a3)] v f g (fun r v1 f1 g1 => ∃ (z : Int) (w0 : Int) (w1 : Int), r = some (.int (iI z)) ∧ (va_up (va_up v 0 w0) 1 w1) = v1 ∧ f = f1 ∧ g = g1 ∧ ((-1) ≤ z ∧ z ≤ 999)) := by
  refine GM.of (by decide) (Nat.le_of_ble_eq_true rfl) ?_
  intro p e s m args below meth c Q ls hQ C hml hr hlocks hP hl
  have hx := C.1
  have hb := C.2.1
  have hok := hP.2
  have hS : va_S A s.heap s.heap [] := va_S.rf
  have hl : lv_has ls 5 [(0, .ref (ad 0)), (1, .int (iI a1)), (2, .int (iI a2)), (3, .int (iI a3))] := hl
  have hP : gWd D (mdT k ad) (va_up (va_up v 0 (v 0)) 1 (v 1)) f g s.heap := by rw [va_id, va_id]; exact hP
  have r_1 : 0 ≤ (v 12) ∧ (v 12) ≤ 4 := hok.1 12
  refine lv_aload_n hx hb dX11_told_0 rfl (lv_at hl 0 rfl) ?_
  refine lv_iconst (v := iI 0) hx hb dX11_told_1 rfl ?_
  refine mdP_thrown (v1 := (va_up (va_up v 0 (v 0)) 1 0)) C hP hD hS mF_X11_146 (by decide) rfl (Or.inr (gR_up (V := mdV) (F := mdF) (gR_up (V := mdV) (F := mdF) ⟨hok.1, hok.2⟩ 0 (hP.2.1 0)) 1 (show 0 ≤ 0 ∧ 0 ≤ 0 from by decide))) dX11_told_2 (fun H locs hP hS => ?_)
  refine lv_aload_n hx hb dX11_told_5 rfl (lv_at hl 0 rfl) ?_
  refine lv_iconst (v := iI 0) hx hb dX11_told_6 rfl ?_
  refine mdP_status (v1 := (va_up (va_up v 0 0) 1 0)) C hP hD hS mF_X11_149 (by decide) rfl (Or.inr (gR_up (V := mdV) (F := mdF) (gR_up (V := mdV) (F := mdF) ⟨hok.1, hok.2⟩ 0 (show 0 ≤ 0 ∧ 0 ≤ 10 from by decide)) 1 (hP.2.1 1))) dX11_told_7 (fun H locs hP hS => ?_)
  refine lv_aload_n hx hb dX11_told_10 rfl (lv_at hl 0 rfl) ?_
  refine lv_iload_n hx hb dX11_told_11 rfl (lv_at hl 1 rfl) ?_
  refine g_cv (As := [.int (iI a1)]) (rest := []) (n := 1) C hml (m_X11_isRound l D k A ad hD (va_up (va_up v 0 0) 1 0) f g a1 (by omega)) mM_X11_325 mI_X11_isRound mE_X11_isRound mN_X11 mC_X11_isRound (by decide +kernel) 0 (ci := 11) rfl rfl hP hS (fun _ h => h) ⟨Nat.le_of_ble_eq_true rfl, Nat.le_of_ble_eq_true rfl⟩ ⟨Nat.zero_le _, Nat.zero_le _⟩ hl.1 rfl rfl (Nat.le_of_ble_eq_true rfl) dX11_told_12 (fun r_2 v_2 f_2 g_2 H locs hq_2 hP _ hS => ?_)
  obtain ⟨z_2, rfl, rfl, rfl, rfl, p0_2⟩ := hq_2
  show W p l e (gRm 2 43) s m args below meth c _ _ 0 0 Q (F0 m 15 ls [.int (iI z_2)])
  replace p0_2 : z_2 = (if 0 ≤ a1 ∧ a1 < (v 12) then 1 else 0) := p0_2
  have w_2 := gif (P := 0 ≤ a1 ∧ a1 < (v 12)) p0_2
  have hz_2 : inR z_2 := (by first | omega | (rw [p0_2]; split <;> omega))
  refine gi_zeq (tgt := 32) hx hb dX11_told_15 (by decide) (by omega) (fun c_3 => ?_) (fun c_3 => ?_)
  · refine lv_aload_n hx hb dX11_told_32 rfl (lv_at hl 0 rfl) ?_
    refine lv_iconst (v := iI 1) hx hb dX11_told_33 rfl ?_
    refine g_cv (As := [.int (iI 1)]) (rest := []) (n := 1) C hml (m_X11_refuse l D k A ad hD (va_up (va_up v 0 0) 1 0) f g 1 (by decide) (show 0 ≤ (1 : Int) ∧ (1 : Int) ≤ 10 from by omega)) mM_X11_295 mI_X11_refuse mE_X11_refuse mN_X11 mC_X11_refuse (by decide +kernel) 0 (ci := 11) rfl rfl hP hS (fun _ h => h) ⟨Nat.le_of_ble_eq_true rfl, Nat.le_of_ble_eq_true rfl⟩ ⟨Nat.zero_le _, Nat.zero_le _⟩ hl.1 rfl rfl (Nat.le_of_ble_eq_true rfl) dX11_told_34 (fun r_4 v_4 f_4 g_4 H locs hq_4 hP _ hS => ?_)
    obtain ⟨rfl, rfl, rfl, rfl⟩ := hq_4
    show W p l e (gRm 2 43) s m args below meth c _ _ 0 0 Q (F0 m 37 ls [.int (iI (-1))])
    have hP : gWd D (mdT k ad) (va_up (va_up v 0 (1 : Int)) 1 0) f g H := ⟨hP.1, (gR_up (V := mdV) (F := mdF) (gR_up (V := mdV) (F := mdF) ⟨hok.1, hok.2⟩ 0 (hP.2.1 0)) 1 (hP.2.1 1))⟩
    exact g_iret hQ C hr hlocks hP hS dX11_told_37 ⟨(-1), (1 : Int), 0, rfl, rfl, rfl, rfl, (by first | omega | (split <;> omega))⟩
  · refine lv_iload_n hx hb dX11_told_18 rfl (lv_at hl 2 rfl) ?_
    refine lv_iconst (v := iI (-1)) hx hb dX11_told_19 rfl ?_
    refine gi_ceq (tgt := 38) hx hb dX11_told_20 (by decide) (by omega) (by decide) (fun c_5 => ?_) (fun c_5 => ?_)
    · refine lv_iload_n hx hb dX11_told_38 rfl (lv_at hl 3 rfl) ?_
      refine gi_zlt (tgt := 47) hx hb dX11_told_39 (by decide) (by omega) (fun c_6 => ?_) (fun c_6 => ?_)
      · refine lv_aload_n hx hb dX11_told_47 rfl (lv_at hl 0 rfl) ?_
        refine lv_iconst (v := iI 2) hx hb dX11_told_48 rfl ?_
        refine g_cv (As := [.int (iI 2)]) (rest := []) (n := 1) C hml (m_X11_refuse l D k A ad hD (va_up (va_up v 0 0) 1 0) f g 2 (by decide) (show 0 ≤ (2 : Int) ∧ (2 : Int) ≤ 10 from by omega)) mM_X11_295 mI_X11_refuse mE_X11_refuse mN_X11 mC_X11_refuse (by decide +kernel) 0 (ci := 11) rfl rfl hP hS (fun _ h => h) ⟨Nat.le_of_ble_eq_true rfl, Nat.le_of_ble_eq_true rfl⟩ ⟨Nat.zero_le _, Nat.zero_le _⟩ hl.1 rfl rfl (Nat.le_of_ble_eq_true rfl) dX11_told_49 (fun r_7 v_7 f_7 g_7 H locs hq_7 hP _ hS => ?_)
        obtain ⟨rfl, rfl, rfl, rfl⟩ := hq_7
        show W p l e (gRm 2 43) s m args below meth c _ _ 0 0 Q (F0 m 52 ls [.int (iI (-1))])
        have hP : gWd D (mdT k ad) (va_up (va_up v 0 (2 : Int)) 1 0) f g H := ⟨hP.1, (gR_up (V := mdV) (F := mdF) (gR_up (V := mdV) (F := mdF) ⟨hok.1, hok.2⟩ 0 (hP.2.1 0)) 1 (hP.2.1 1))⟩
        exact g_iret hQ C hr hlocks hP hS dX11_told_52 ⟨(-1), (2 : Int), 0, rfl, rfl, rfl, rfl, (by first | omega | (split <;> omega))⟩
      · refine lv_iload_n hx hb dX11_told_42 rfl (lv_at hl 3 rfl) ?_
        refine lv_iconst (v := iI 4) hx hb dX11_told_43 rfl ?_
        refine gi_cle (tgt := 53) hx hb dX11_told_44 (by decide) (by omega) (by decide) (fun c_8 => ?_) (fun c_8 => ?_)
        · refine lv_iload_n hx hb dX11_told_53 rfl (lv_at hl 2 rfl) ?_
          refine lv_iconst (v := iI (-1)) hx hb dX11_told_54 rfl ?_
          refine gi_cne (tgt := 120) hx hb dX11_told_55 (by decide) (by omega) (by decide) (fun c_9 => ?_) (fun c_9 => ?_)
          · refine lv_iload_n hx hb dX11_told_120 rfl (lv_at hl 1 rfl) ?_
            refine lv_iload_n hx hb dX11_told_121 rfl (lv_at hl 2 rfl) ?_
            refine g_cs (As := [.int (iI a1), .int (iI a2)]) (rest := []) (n := 2) C hml (m_X11_at l D k A ad hD (va_up (va_up v 0 0) 1 0) f g a1 a2 (by omega) (by omega) (show 0 ≤ a1 ∧ a1 ≤ 3 from by omega) (show 0 ≤ a2 ∧ a2 ≤ 4 from by omega)) mM_X11_335 mS_X11_at mN_X11 mC_X11_at (by decide +kernel) hP hS (fun _ h => h) ⟨Nat.le_of_ble_eq_true rfl, Nat.le_of_ble_eq_true rfl⟩ ⟨Nat.zero_le _, Nat.zero_le _⟩ hl.1 rfl rfl (Nat.le_of_ble_eq_true rfl) dX11_told_122 (fun r_10 v_10 f_10 g_10 H locs hq_10 hP _ hS => ?_)
            obtain ⟨z_10, rfl, rfl, rfl, rfl, p0_10⟩ := hq_10
            show W p l e (gRm 2 43) s m args below meth c _ _ 0 0 Q (F0 m 125 ls [.int (iI z_10)])
            replace p0_10 : z_10 = (5 * a1 + a2) := p0_10
            have hz_10 : inR z_10 := (by first | omega | (rw [p0_10]; split <;> omega))
            refine lv_istore (lv' := [(4, .int (iI z_10)), (0, .ref (ad 0)), (1, .int (iI a1)), (2, .int (iI a2)), (3, .int (iI a3))]) hx hb dX11_told_125 hl (by decide) rfl (fun ls hl => ?_)
            refine lv_iload_n hx hb dX11_told_127 rfl (lv_at hl 4 rfl) ?_
            refine gi_zne (tgt := 141) hx hb dX11_told_128 (by decide) (by omega) (fun c_11 => ?_) (fun c_11 => ?_)
            · refine lv_iload_n hx hb dX11_told_141 rfl (lv_at hl 4 rfl) ?_
              refine lv_iconst (v := iI 4) hx hb dX11_told_142 rfl ?_
              refine gi_cne (tgt := 156) hx hb dX11_told_143 (by decide) (by omega) (by decide) (fun c_12 => ?_) (fun c_12 => ?_)
              · refine lv_aload_n hx hb dX11_told_156 rfl (lv_at hl 1 rfl) ?_
                refine mdG_zones C hP mF_X11_76 dX11_told_157 ?_
                refine lv_iconst (v := iI 3) hx hb dX11_told_160 rfl ?_
                refine lv_iload hx hb dX11_told_161 (lv_at hl 0 rfl) ?_
                refine gi_mul (z := (3 * z_10)) hx hb dX11_told_163 rfl ?_
                refine lv_iload_n hx hb dX11_told_164 rfl (lv_at hl 4 rfl) ?_
                refine gi_add (z := ((3 * z_10) + a3)) hx hb dX11_told_165 rfl ?_
                refine lv_iconst (v := iI 1) hx hb dX11_told_166 rfl ?_
                refine gi_sub (z := (((3 * z_10) + a3) - 1)) hx hb dX11_told_167 rfl ?_
                refine mdL_zones C hP (by omega) (by omega) dX11_told_168 ?_
                have r_13 : 0 ≤ (f 19 (((3 * z_10) + a3) - 1)) ∧ (f 19 (((3 * z_10) + a3) - 1)) ≤ 60 := hP.2.2 19 (((3 * z_10) + a3) - 1)
                exact g_iret hQ C hr hlocks hP hS dX11_told_169 ⟨(f 19 (((3 * z_10) + a3) - 1)), 0, 0, rfl, rfl, rfl, rfl, (by first | omega | (split <;> omega))⟩
              · refine lv_aload_n hx hb dX11_told_146 rfl (lv_at hl 1 rfl) ?_
                refine mdG_begun C hP mF_X11_79 dX11_told_147 ?_
                refine lv_iload hx hb dX11_told_150 (lv_at hl 0 rfl) ?_
                refine mdL_begun C hP (by omega) (by omega) dX11_told_152 ?_
                have r_14 : 0 ≤ (f 20 z_10) ∧ (f 20 z_10) ≤ 300 := hP.2.2 20 z_10
                refine lv_goto (tgt := 169) hx hb dX11_told_153 (by decide) ?_
                exact g_iret hQ C hr hlocks hP hS dX11_told_169 ⟨(f 20 z_10), 0, 0, rfl, rfl, rfl, rfl, (by first | omega | (split <;> omega))⟩
            · refine lv_aload_n hx hb dX11_told_131 rfl (lv_at hl 1 rfl) ?_
              refine mdG_holds C hP mF_X11_73 dX11_told_132 ?_
              refine lv_iload hx hb dX11_told_135 (lv_at hl 0 rfl) ?_
              refine mdL_holds C hP (by omega) (by omega) dX11_told_137 ?_
              have r_15 : 0 ≤ (f 18 z_10) ∧ (f 18 z_10) ≤ 60 := hP.2.2 18 z_10
              refine lv_goto (tgt := 169) hx hb dX11_told_138 (by decide) ?_
              exact g_iret hQ C hr hlocks hP hS dX11_told_169 ⟨(f 18 z_10), 0, 0, rfl, rfl, rfl, rfl, (by first | omega | (split <;> omega))⟩
          · refine lv_iload_n hx hb dX11_told_58 rfl (lv_at hl 3 rfl) ?_
            refine gi_zne (tgt := 71) hx hb dX11_told_59 (by decide) (by omega) (fun c_16 => ?_) (fun c_16 => ?_)
            · refine lv_iload_n hx hb dX11_told_71 rfl (lv_at hl 3 rfl) ?_
              refine lv_iconst (v := iI 1) hx hb dX11_told_72 rfl ?_
              refine gi_cne (tgt := 85) hx hb dX11_told_73 (by decide) (by omega) (by decide) (fun c_17 => ?_) (fun c_17 => ?_)
              · refine lv_iload_n hx hb dX11_told_85 rfl (lv_at hl 3 rfl) ?_
                refine lv_iconst (v := iI 2) hx hb dX11_told_86 rfl ?_
                refine gi_cne (tgt := 99) hx hb dX11_told_87 (by decide) (by omega) (by decide) (fun c_18 => ?_) (fun c_18 => ?_)
                · refine lv_iload_n hx hb dX11_told_99 rfl (lv_at hl 3 rfl) ?_
                  refine lv_iconst (v := iI 3) hx hb dX11_told_100 rfl ?_
                  refine gi_cne (tgt := 113) hx hb dX11_told_101 (by decide) (by omega) (by decide) (fun c_19 => ?_) (fun c_19 => ?_)
                  · refine lv_aload_n hx hb dX11_told_113 rfl (lv_at hl 0 rfl) ?_
                    refine mdG_orderMany C hP mF_X11_91 dX11_told_114 ?_
                    refine lv_iload_n hx hb dX11_told_117 rfl (lv_at hl 1 rfl) ?_
                    refine mdL_orderMany C hP (by omega) (by omega) dX11_told_118 ?_
                    have r_20 : 0 ≤ (f 23 a1) ∧ (f 23 a1) ≤ 16 := hP.2.2 23 a1
                    exact g_iret hQ C hr hlocks hP hS dX11_told_119 ⟨(f 23 a1), 0, 0, rfl, rfl, rfl, rfl, (by first | omega | (split <;> omega))⟩
                  · refine lv_aload_n hx hb dX11_told_104 rfl (lv_at hl 0 rfl) ?_
                    refine mdG_rest C hP mF_X11_30 dX11_told_105 ?_
                    refine lv_iload_n hx hb dX11_told_108 rfl (lv_at hl 1 rfl) ?_
                    refine mdL_rest C hP (by omega) (by omega) dX11_told_109 ?_
                    have r_21 : 0 ≤ (f 4 a1) ∧ (f 4 a1) ≤ 999 := hP.2.2 4 a1
                    refine lv_goto (tgt := 119) hx hb dX11_told_110 (by decide) ?_
                    exact g_iret hQ C hr hlocks hP hS dX11_told_119 ⟨(f 4 a1), 0, 0, rfl, rfl, rfl, rfl, (by first | omega | (split <;> omega))⟩
                · refine lv_aload_n hx hb dX11_told_90 rfl (lv_at hl 0 rfl) ?_
                  refine mdG_seconds C hP mF_X11_27 dX11_told_91 ?_
                  refine lv_iload_n hx hb dX11_told_94 rfl (lv_at hl 1 rfl) ?_
                  refine mdL_seconds C hP (by omega) (by omega) dX11_told_95 ?_
                  have r_22 : 0 ≤ (f 3 a1) ∧ (f 3 a1) ≤ 999 := hP.2.2 3 a1
                  refine lv_goto (tgt := 119) hx hb dX11_told_96 (by decide) ?_
                  exact g_iret hQ C hr hlocks hP hS dX11_told_119 ⟨(f 3 a1), 0, 0, rfl, rfl, rfl, rfl, (by first | omega | (split <;> omega))⟩
              · refine lv_aload_n hx hb dX11_told_76 rfl (lv_at hl 0 rfl) ?_
                refine mdG_tries C hP mF_X11_24 dX11_told_77 ?_
                refine lv_iload_n hx hb dX11_told_80 rfl (lv_at hl 1 rfl) ?_
                refine mdL_tries C hP (by omega) (by omega) dX11_told_81 ?_
                have r_23 : 0 ≤ (f 2 a1) ∧ (f 2 a1) ≤ 9 := hP.2.2 2 a1
                refine lv_goto (tgt := 119) hx hb dX11_told_82 (by decide) ?_
                exact g_iret hQ C hr hlocks hP hS dX11_told_119 ⟨(f 2 a1), 0, 0, rfl, rfl, rfl, rfl, (by first | omega | (split <;> omega))⟩
            · refine lv_aload_n hx hb dX11_told_62 rfl (lv_at hl 0 rfl) ?_
              refine mdG_routes C hP mF_X11_20 dX11_told_63 ?_
              refine lv_iload_n hx hb dX11_told_66 rfl (lv_at hl 1 rfl) ?_
              refine mdL_routes C hP (by omega) (by omega) dX11_told_67 ?_
              have r_24 : 0 ≤ (f 1 a1) ∧ (f 1 a1) ≤ 5 := hP.2.2 1 a1
              refine lv_goto (tgt := 119) hx hb dX11_told_68 (by decide) ?_
              exact g_iret hQ C hr hlocks hP hS dX11_told_119 ⟨(f 1 a1), 0, 0, rfl, rfl, rfl, rfl, (by first | omega | (split <;> omega))⟩
        · refine lv_aload_n hx hb dX11_told_47 rfl (lv_at hl 0 rfl) ?_
          refine lv_iconst (v := iI 2) hx hb dX11_told_48 rfl ?_
          refine g_cv (As := [.int (iI 2)]) (rest := []) (n := 1) C hml (m_X11_refuse l D k A ad hD (va_up (va_up v 0 0) 1 0) f g 2 (by decide) (show 0 ≤ (2 : Int) ∧ (2 : Int) ≤ 10 from by omega)) mM_X11_295 mI_X11_refuse mE_X11_refuse mN_X11 mC_X11_refuse (by decide +kernel) 0 (ci := 11) rfl rfl hP hS (fun _ h => h) ⟨Nat.le_of_ble_eq_true rfl, Nat.le_of_ble_eq_true rfl⟩ ⟨Nat.zero_le _, Nat.zero_le _⟩ hl.1 rfl rfl (Nat.le_of_ble_eq_true rfl) dX11_told_49 (fun r_25 v_25 f_25 g_25 H locs hq_25 hP _ hS => ?_)
          obtain ⟨rfl, rfl, rfl, rfl⟩ := hq_25
          show W p l e (gRm 2 43) s m args below meth c _ _ 0 0 Q (F0 m 52 ls [.int (iI (-1))])
          have hP : gWd D (mdT k ad) (va_up (va_up v 0 (2 : Int)) 1 0) f g H := ⟨hP.1, (gR_up (V := mdV) (F := mdF) (gR_up (V := mdV) (F := mdF) ⟨hok.1, hok.2⟩ 0 (hP.2.1 0)) 1 (hP.2.1 1))⟩
          exact g_iret hQ C hr hlocks hP hS dX11_told_52 ⟨(-1), (2 : Int), 0, rfl, rfl, rfl, rfl, (by first | omega | (split <;> omega))⟩
    · refine lv_aload_n hx hb dX11_told_23 rfl (lv_at hl 0 rfl) ?_
      refine lv_iload_n hx hb dX11_told_24 rfl (lv_at hl 1 rfl) ?_
      refine lv_iload_n hx hb dX11_told_25 rfl (lv_at hl 2 rfl) ?_
      refine g_cv (As := [.int (iI a1), .int (iI a2)]) (rest := []) (n := 2) C hml (m_X11_isRoute l D k A ad hD (va_up (va_up v 0 0) 1 0) f g a1 a2 (by omega) (by omega)) mM_X11_328 mI_X11_isRoute mE_X11_isRoute mN_X11 mC_X11_isRoute (by decide +kernel) 0 (ci := 11) rfl rfl hP hS (fun _ h => h) ⟨Nat.le_of_ble_eq_true rfl, Nat.le_of_ble_eq_true rfl⟩ ⟨Nat.zero_le _, Nat.zero_le _⟩ hl.1 rfl rfl (Nat.le_of_ble_eq_true rfl) dX11_told_26 (fun r_26 v_26 f_26 g_26 H locs hq_26 hP _ hS => ?_)
      obtain ⟨z_26, rfl, rfl, rfl, rfl, p0_26, p1_26⟩ := hq_26
      show W p l e (gRm 2 43) s m args below meth c _ _ 0 0 Q (F0 m 29 ls [.int (iI z_26)])
      replace p0_26 : z_26 = (if (0 ≤ a1 ∧ a1 < (v 12)) ∧ 0 ≤ a2 ∧ a2 < (f 1) a1 then 1 else 0) := p0_26
      have w_26 := gif (P := (0 ≤ a1 ∧ a1 < (v 12)) ∧ 0 ≤ a2 ∧ a2 < (f 1) a1) p0_26
      replace p1_26 : z_26 = 1 → a2 ≤ 4 ∧ a1 ≤ 3 := p1_26
      have hz_26 : inR z_26 := (by first | omega | (rw [p0_26]; split <;> omega))
      refine gi_zne (tgt := 38) hx hb dX11_told_29 (by decide) (by omega) (fun c_27 => ?_) (fun c_27 => ?_)
      · refine lv_iload_n hx hb dX11_told_38 rfl (lv_at hl 3 rfl) ?_
        refine gi_zlt (tgt := 47) hx hb dX11_told_39 (by decide) (by omega) (fun c_28 => ?_) (fun c_28 => ?_)
        · refine lv_aload_n hx hb dX11_told_47 rfl (lv_at hl 0 rfl) ?_
          refine lv_iconst (v := iI 2) hx hb dX11_told_48 rfl ?_
          refine g_cv (As := [.int (iI 2)]) (rest := []) (n := 1) C hml (m_X11_refuse l D k A ad hD (va_up (va_up v 0 0) 1 0) f g 2 (by decide) (show 0 ≤ (2 : Int) ∧ (2 : Int) ≤ 10 from by omega)) mM_X11_295 mI_X11_refuse mE_X11_refuse mN_X11 mC_X11_refuse (by decide +kernel) 0 (ci := 11) rfl rfl hP hS (fun _ h => h) ⟨Nat.le_of_ble_eq_true rfl, Nat.le_of_ble_eq_true rfl⟩ ⟨Nat.zero_le _, Nat.zero_le _⟩ hl.1 rfl rfl (Nat.le_of_ble_eq_true rfl) dX11_told_49 (fun r_29 v_29 f_29 g_29 H locs hq_29 hP _ hS => ?_)
          obtain ⟨rfl, rfl, rfl, rfl⟩ := hq_29
          show W p l e (gRm 2 43) s m args below meth c _ _ 0 0 Q (F0 m 52 ls [.int (iI (-1))])
          have hP : gWd D (mdT k ad) (va_up (va_up v 0 (2 : Int)) 1 0) f g H := ⟨hP.1, (gR_up (V := mdV) (F := mdF) (gR_up (V := mdV) (F := mdF) ⟨hok.1, hok.2⟩ 0 (hP.2.1 0)) 1 (hP.2.1 1))⟩
          exact g_iret hQ C hr hlocks hP hS dX11_told_52 ⟨(-1), (2 : Int), 0, rfl, rfl, rfl, rfl, (by first | omega | (split <;> omega))⟩
        · refine lv_iload_n hx hb dX11_told_42 rfl (lv_at hl 3 rfl) ?_
          refine lv_iconst (v := iI 4) hx hb dX11_told_43 rfl ?_
          refine gi_cle (tgt := 53) hx hb dX11_told_44 (by decide) (by omega) (by decide) (fun c_30 => ?_) (fun c_30 => ?_)
          · refine lv_iload_n hx hb dX11_told_53 rfl (lv_at hl 2 rfl) ?_
            refine lv_iconst (v := iI (-1)) hx hb dX11_told_54 rfl ?_
            refine gi_cne (tgt := 120) hx hb dX11_told_55 (by decide) (by omega) (by decide) (fun c_31 => ?_) (fun c_31 => ?_)
            · refine lv_iload_n hx hb dX11_told_120 rfl (lv_at hl 1 rfl) ?_
              refine lv_iload_n hx hb dX11_told_121 rfl (lv_at hl 2 rfl) ?_
              refine g_cs (As := [.int (iI a1), .int (iI a2)]) (rest := []) (n := 2) C hml (m_X11_at l D k A ad hD (va_up (va_up v 0 0) 1 0) f g a1 a2 (by omega) (by omega) (show 0 ≤ a1 ∧ a1 ≤ 3 from by omega) (show 0 ≤ a2 ∧ a2 ≤ 4 from by omega)) mM_X11_335 mS_X11_at mN_X11 mC_X11_at (by decide +kernel) hP hS (fun _ h => h) ⟨Nat.le_of_ble_eq_true rfl, Nat.le_of_ble_eq_true rfl⟩ ⟨Nat.zero_le _, Nat.zero_le _⟩ hl.1 rfl rfl (Nat.le_of_ble_eq_true rfl) dX11_told_122 (fun r_32 v_32 f_32 g_32 H locs hq_32 hP _ hS => ?_)
              obtain ⟨z_32, rfl, rfl, rfl, rfl, p0_32⟩ := hq_32
              show W p l e (gRm 2 43) s m args below meth c _ _ 0 0 Q (F0 m 125 ls [.int (iI z_32)])
              replace p0_32 : z_32 = (5 * a1 + a2) := p0_32
              have hz_32 : inR z_32 := (by first | omega | (rw [p0_32]; split <;> omega))
              refine lv_istore (lv' := [(4, .int (iI z_32)), (0, .ref (ad 0)), (1, .int (iI a1)), (2, .int (iI a2)), (3, .int (iI a3))]) hx hb dX11_told_125 hl (by decide) rfl (fun ls hl => ?_)
              refine lv_iload_n hx hb dX11_told_127 rfl (lv_at hl 4 rfl) ?_
              refine gi_zne (tgt := 141) hx hb dX11_told_128 (by decide) (by omega) (fun c_33 => ?_) (fun c_33 => ?_)
              · refine lv_iload_n hx hb dX11_told_141 rfl (lv_at hl 4 rfl) ?_
                refine lv_iconst (v := iI 4) hx hb dX11_told_142 rfl ?_
                refine gi_cne (tgt := 156) hx hb dX11_told_143 (by decide) (by omega) (by decide) (fun c_34 => ?_) (fun c_34 => ?_)
                · refine lv_aload_n hx hb dX11_told_156 rfl (lv_at hl 1 rfl) ?_
                  refine mdG_zones C hP mF_X11_76 dX11_told_157 ?_
                  refine lv_iconst (v := iI 3) hx hb dX11_told_160 rfl ?_
                  refine lv_iload hx hb dX11_told_161 (lv_at hl 0 rfl) ?_
                  refine gi_mul (z := (3 * z_32)) hx hb dX11_told_163 rfl ?_
                  refine lv_iload_n hx hb dX11_told_164 rfl (lv_at hl 4 rfl) ?_
                  refine gi_add (z := ((3 * z_32) + a3)) hx hb dX11_told_165 rfl ?_
                  refine lv_iconst (v := iI 1) hx hb dX11_told_166 rfl ?_
                  refine gi_sub (z := (((3 * z_32) + a3) - 1)) hx hb dX11_told_167 rfl ?_
                  refine mdL_zones C hP (by omega) (by omega) dX11_told_168 ?_
                  have r_35 : 0 ≤ (f 19 (((3 * z_32) + a3) - 1)) ∧ (f 19 (((3 * z_32) + a3) - 1)) ≤ 60 := hP.2.2 19 (((3 * z_32) + a3) - 1)
                  exact g_iret hQ C hr hlocks hP hS dX11_told_169 ⟨(f 19 (((3 * z_32) + a3) - 1)), 0, 0, rfl, rfl, rfl, rfl, (by first | omega | (split <;> omega))⟩
                · refine lv_aload_n hx hb dX11_told_146 rfl (lv_at hl 1 rfl) ?_
                  refine mdG_begun C hP mF_X11_79 dX11_told_147 ?_
                  refine lv_iload hx hb dX11_told_150 (lv_at hl 0 rfl) ?_
                  refine mdL_begun C hP (by omega) (by omega) dX11_told_152 ?_
                  have r_36 : 0 ≤ (f 20 z_32) ∧ (f 20 z_32) ≤ 300 := hP.2.2 20 z_32
                  refine lv_goto (tgt := 169) hx hb dX11_told_153 (by decide) ?_
                  exact g_iret hQ C hr hlocks hP hS dX11_told_169 ⟨(f 20 z_32), 0, 0, rfl, rfl, rfl, rfl, (by first | omega | (split <;> omega))⟩
              · refine lv_aload_n hx hb dX11_told_131 rfl (lv_at hl 1 rfl) ?_
                refine mdG_holds C hP mF_X11_73 dX11_told_132 ?_
                refine lv_iload hx hb dX11_told_135 (lv_at hl 0 rfl) ?_
                refine mdL_holds C hP (by omega) (by omega) dX11_told_137 ?_
                have r_37 : 0 ≤ (f 18 z_32) ∧ (f 18 z_32) ≤ 60 := hP.2.2 18 z_32
                refine lv_goto (tgt := 169) hx hb dX11_told_138 (by decide) ?_
                exact g_iret hQ C hr hlocks hP hS dX11_told_169 ⟨(f 18 z_32), 0, 0, rfl, rfl, rfl, rfl, (by first | omega | (split <;> omega))⟩
            · refine lv_iload_n hx hb dX11_told_58 rfl (lv_at hl 3 rfl) ?_
              refine gi_zne (tgt := 71) hx hb dX11_told_59 (by decide) (by omega) (fun c_38 => ?_) (fun c_38 => ?_)
              · refine lv_iload_n hx hb dX11_told_71 rfl (lv_at hl 3 rfl) ?_
                refine lv_iconst (v := iI 1) hx hb dX11_told_72 rfl ?_
                refine gi_cne (tgt := 85) hx hb dX11_told_73 (by decide) (by omega) (by decide) (fun c_39 => ?_) (fun c_39 => ?_)
                · refine lv_iload_n hx hb dX11_told_85 rfl (lv_at hl 3 rfl) ?_
                  refine lv_iconst (v := iI 2) hx hb dX11_told_86 rfl ?_
                  refine gi_cne (tgt := 99) hx hb dX11_told_87 (by decide) (by omega) (by decide) (fun c_40 => ?_) (fun c_40 => ?_)
                  · refine lv_iload_n hx hb dX11_told_99 rfl (lv_at hl 3 rfl) ?_
                    refine lv_iconst (v := iI 3) hx hb dX11_told_100 rfl ?_
                    refine gi_cne (tgt := 113) hx hb dX11_told_101 (by decide) (by omega) (by decide) (fun c_41 => ?_) (fun c_41 => ?_)
                    · refine lv_aload_n hx hb dX11_told_113 rfl (lv_at hl 0 rfl) ?_
                      refine mdG_orderMany C hP mF_X11_91 dX11_told_114 ?_
                      refine lv_iload_n hx hb dX11_told_117 rfl (lv_at hl 1 rfl) ?_
                      refine mdL_orderMany C hP (by omega) (by omega) dX11_told_118 ?_
                      have r_42 : 0 ≤ (f 23 a1) ∧ (f 23 a1) ≤ 16 := hP.2.2 23 a1
                      exact g_iret hQ C hr hlocks hP hS dX11_told_119 ⟨(f 23 a1), 0, 0, rfl, rfl, rfl, rfl, (by first | omega | (split <;> omega))⟩
                    · refine lv_aload_n hx hb dX11_told_104 rfl (lv_at hl 0 rfl) ?_
                      refine mdG_rest C hP mF_X11_30 dX11_told_105 ?_
                      refine lv_iload_n hx hb dX11_told_108 rfl (lv_at hl 1 rfl) ?_
                      refine mdL_rest C hP (by omega) (by omega) dX11_told_109 ?_
                      have r_43 : 0 ≤ (f 4 a1) ∧ (f 4 a1) ≤ 999 := hP.2.2 4 a1
                      refine lv_goto (tgt := 119) hx hb dX11_told_110 (by decide) ?_
                      exact g_iret hQ C hr hlocks hP hS dX11_told_119 ⟨(f 4 a1), 0, 0, rfl, rfl, rfl, rfl, (by first | omega | (split <;> omega))⟩
                  · refine lv_aload_n hx hb dX11_told_90 rfl (lv_at hl 0 rfl) ?_
                    refine mdG_seconds C hP mF_X11_27 dX11_told_91 ?_
                    refine lv_iload_n hx hb dX11_told_94 rfl (lv_at hl 1 rfl) ?_
                    refine mdL_seconds C hP (by omega) (by omega) dX11_told_95 ?_
                    have r_44 : 0 ≤ (f 3 a1) ∧ (f 3 a1) ≤ 999 := hP.2.2 3 a1
                    refine lv_goto (tgt := 119) hx hb dX11_told_96 (by decide) ?_
                    exact g_iret hQ C hr hlocks hP hS dX11_told_119 ⟨(f 3 a1), 0, 0, rfl, rfl, rfl, rfl, (by first | omega | (split <;> omega))⟩
                · refine lv_aload_n hx hb dX11_told_76 rfl (lv_at hl 0 rfl) ?_
                  refine mdG_tries C hP mF_X11_24 dX11_told_77 ?_
                  refine lv_iload_n hx hb dX11_told_80 rfl (lv_at hl 1 rfl) ?_
                  refine mdL_tries C hP (by omega) (by omega) dX11_told_81 ?_
                  have r_45 : 0 ≤ (f 2 a1) ∧ (f 2 a1) ≤ 9 := hP.2.2 2 a1
                  refine lv_goto (tgt := 119) hx hb dX11_told_82 (by decide) ?_
                  exact g_iret hQ C hr hlocks hP hS dX11_told_119 ⟨(f 2 a1), 0, 0, rfl, rfl, rfl, rfl, (by first | omega | (split <;> omega))⟩
              · refine lv_aload_n hx hb dX11_told_62 rfl (lv_at hl 0 rfl) ?_
                refine mdG_routes C hP mF_X11_20 dX11_told_63 ?_
                refine lv_iload_n hx hb dX11_told_66 rfl (lv_at hl 1 rfl) ?_
                refine mdL_routes C hP (by omega) (by omega) dX11_told_67 ?_
                have r_46 : 0 ≤ (f 1 a1) ∧ (f 1 a1) ≤ 5 := hP.2.2 1 a1
                refine lv_goto (tgt := 119) hx hb dX11_told_68 (by decide) ?_
                exact g_iret hQ C hr hlocks hP hS dX11_told_119 ⟨(f 1 a1), 0, 0, rfl, rfl, rfl, rfl, (by first | omega | (split <;> omega))⟩
          · refine lv_aload_n hx hb dX11_told_47 rfl (lv_at hl 0 rfl) ?_
            refine lv_iconst (v := iI 2) hx hb dX11_told_48 rfl ?_
            refine g_cv (As := [.int (iI 2)]) (rest := []) (n := 1) C hml (m_X11_refuse l D k A ad hD (va_up (va_up v 0 0) 1 0) f g 2 (by decide) (show 0 ≤ (2 : Int) ∧ (2 : Int) ≤ 10 from by omega)) mM_X11_295 mI_X11_refuse mE_X11_refuse mN_X11 mC_X11_refuse (by decide +kernel) 0 (ci := 11) rfl rfl hP hS (fun _ h => h) ⟨Nat.le_of_ble_eq_true rfl, Nat.le_of_ble_eq_true rfl⟩ ⟨Nat.zero_le _, Nat.zero_le _⟩ hl.1 rfl rfl (Nat.le_of_ble_eq_true rfl) dX11_told_49 (fun r_47 v_47 f_47 g_47 H locs hq_47 hP _ hS => ?_)
            obtain ⟨rfl, rfl, rfl, rfl⟩ := hq_47
            show W p l e (gRm 2 43) s m args below meth c _ _ 0 0 Q (F0 m 52 ls [.int (iI (-1))])
            have hP : gWd D (mdT k ad) (va_up (va_up v 0 (2 : Int)) 1 0) f g H := ⟨hP.1, (gR_up (V := mdV) (F := mdF) (gR_up (V := mdV) (F := mdF) ⟨hok.1, hok.2⟩ 0 (hP.2.1 0)) 1 (hP.2.1 1))⟩
            exact g_iret hQ C hr hlocks hP hS dX11_told_52 ⟨(-1), (2 : Int), 0, rfl, rfl, rfl, rfl, (by first | omega | (split <;> omega))⟩
      · refine lv_aload_n hx hb dX11_told_32 rfl (lv_at hl 0 rfl) ?_
        refine lv_iconst (v := iI 1) hx hb dX11_told_33 rfl ?_
        refine g_cv (As := [.int (iI 1)]) (rest := []) (n := 1) C hml (m_X11_refuse l D k A ad hD (va_up (va_up v 0 0) 1 0) f g 1 (by decide) (show 0 ≤ (1 : Int) ∧ (1 : Int) ≤ 10 from by omega)) mM_X11_295 mI_X11_refuse mE_X11_refuse mN_X11 mC_X11_refuse (by decide +kernel) 0 (ci := 11) rfl rfl hP hS (fun _ h => h) ⟨Nat.le_of_ble_eq_true rfl, Nat.le_of_ble_eq_true rfl⟩ ⟨Nat.zero_le _, Nat.zero_le _⟩ hl.1 rfl rfl (Nat.le_of_ble_eq_true rfl) dX11_told_34 (fun r_48 v_48 f_48 g_48 H locs hq_48 hP _ hS => ?_)
        obtain ⟨rfl, rfl, rfl, rfl⟩ := hq_48
        show W p l e (gRm 2 43) s m args below meth c _ _ 0 0 Q (F0 m 37 ls [.int (iI (-1))])
        have hP : gWd D (mdT k ad) (va_up (va_up v 0 (1 : Int)) 1 0) f g H := ⟨hP.1, (gR_up (V := mdV) (F := mdF) (gR_up (V := mdV) (F := mdF) ⟨hok.1, hok.2⟩ 0 (hP.2.1 0)) 1 (hP.2.1 1))⟩
        exact g_iret hQ C hr hlocks hP hS dX11_told_37 ⟨(-1), (1 : Int), 0, rfl, rfl, rfl, rfl, (by first | omega | (split <;> omega))⟩

set_option maxHeartbeats 4000000 in
set_option maxRecDepth 100000 in
theorem m_X11_begin (l : Launch) (D : va_G) (k : Nat → ClassId) (A : Nat → Prop) (ad : Nat → Nat) (hD : mdD A k ad) (v : gV) (f g : gF) (a1 : Int) (a2 : Int) (a3 : Int) (h_a1 : inR a1) (h_a2 : inR a2) (h_a3 : inR a3) (hbg : ∀ k, 0 ≤ k → k < 20 → (f 20) k ≤ (v 25)) : GM l D k A (mdT k ad) yX11_begin cX11_begin 8 (some .int) 2 56 [.ref (ad 0), .int (iI a1), .int (iI a2), .int (iI a3)] v f g (fun r v1 f1 g1 => ∃ (z : Int) (w0 : Int) (w1 : Int) (w24 : Int) (w25 : Int) (a20_ : Int → Int) (a24_ : Int → Int) (a25_ : Int → Int) (a26_ : Int → Int) (a27_ : Int → Int) (a28_ : Int → Int) (a29_ : Int → Int) (a30_ : Int → Int), r = some (.int (iI z)) ∧ (va_up (va_up (va_up (va_up v 0 w0) 1 w1) 24 w24) 25 w25) = v1 ∧ (va_up (va_up (va_up (va_up (va_up (va_up (va_up (va_up f 20 a20_) 24 a24_) 25 a25_) 26 a26_) 27 a27_) 28 a28_) 29 a29_) 30 a30_) = f1 ∧ g = g1 ∧ ((-1) ≤ z ∧ z ≤ 299) ∧ (∀ k, 0 ≤ k → k < 20 → a20_ k ≤ w25)) := by
  refine GM.of (by decide) (Nat.le_of_ble_eq_true rfl) ?_
  intro p e s m args below meth c Q ls hQ C hml hr hlocks hP hl
  have hx := C.1
  have hb := C.2.1
  have hok := hP.2
  have hS : va_S A s.heap s.heap [] := va_S.rf
  have hl : lv_has ls 8 [(0, .ref (ad 0)), (1, .int (iI a1)), (2, .int (iI a2)), (3, .int (iI a3))] := hl
  have hP : gWd D (mdT k ad) (va_up (va_up (va_up (va_up v 0 (v 0)) 1 (v 1)) 24 (v 24)) 25 (v 25)) (va_up (va_up (va_up (va_up (va_up (va_up (va_up (va_up f 20 (f 20)) 24 (f 24)) 25 (f 25)) 26 (f 26)) 27 (f 27)) 28 (f 28)) 29 (f 29)) 30 (f 30)) g s.heap := by rw [va_id, va_id, va_id, va_id, va_id, va_id, va_id, va_id, va_id, va_id, va_id, va_id]; exact hP
  have r_1 : 0 ≤ (v 25) ∧ (v 25) ≤ 300 := hok.1 25
  have r_2 : (-1) ≤ (v 23) ∧ (v 23) ≤ 3 := hok.1 23
  refine lv_aload_n hx hb dX11_begin_0 rfl (lv_at hl 0 rfl) ?_
  refine lv_iconst (v := iI 0) hx hb dX11_begin_1 rfl ?_
  refine mdP_thrown (v1 := (va_up (va_up (va_up (va_up v 0 (v 0)) 1 0) 24 (v 24)) 25 (v 25))) C hP hD hS mF_X11_146 (by decide) rfl (Or.inr (gF_up (V := mdV) (F := mdF) (gF_up (V := mdV) (F := mdF) (gF_up (V := mdV) (F := mdF) (gF_up (V := mdV) (F := mdF) (gF_up (V := mdV) (F := mdF) (gF_up (V := mdV) (F := mdF) (gF_up (V := mdV) (F := mdF) (gF_up (V := mdV) (F := mdF) (gR_up (V := mdV) (F := mdF) (gR_up (V := mdV) (F := mdF) (gR_up (V := mdV) (F := mdF) (gR_up (V := mdV) (F := mdF) ⟨hok.1, hok.2⟩ 0 (hP.2.1 0)) 1 (show 0 ≤ 0 ∧ 0 ≤ 0 from by decide)) 24 (hP.2.1 24)) 25 (hP.2.1 25)) 20 (hP.2.2 20)) 24 (hP.2.2 24)) 25 (hP.2.2 25)) 26 (hP.2.2 26)) 27 (hP.2.2 27)) 28 (hP.2.2 28)) 29 (hP.2.2 29)) 30 (hP.2.2 30))) dX11_begin_2 (fun H locs hP hS => ?_)
  refine lv_aload_n hx hb dX11_begin_5 rfl (lv_at hl 0 rfl) ?_
  refine lv_iconst (v := iI 0) hx hb dX11_begin_6 rfl ?_
  refine mdP_status (v1 := (va_up (va_up (va_up (va_up v 0 0) 1 0) 24 (v 24)) 25 (v 25))) C hP hD hS mF_X11_149 (by decide) rfl (Or.inr (gF_up (V := mdV) (F := mdF) (gF_up (V := mdV) (F := mdF) (gF_up (V := mdV) (F := mdF) (gF_up (V := mdV) (F := mdF) (gF_up (V := mdV) (F := mdF) (gF_up (V := mdV) (F := mdF) (gF_up (V := mdV) (F := mdF) (gF_up (V := mdV) (F := mdF) (gR_up (V := mdV) (F := mdF) (gR_up (V := mdV) (F := mdF) (gR_up (V := mdV) (F := mdF) (gR_up (V := mdV) (F := mdF) ⟨hok.1, hok.2⟩ 0 (show 0 ≤ 0 ∧ 0 ≤ 10 from by decide)) 1 (hP.2.1 1)) 24 (hP.2.1 24)) 25 (hP.2.1 25)) 20 (hP.2.2 20)) 24 (hP.2.2 24)) 25 (hP.2.2 25)) 26 (hP.2.2 26)) 27 (hP.2.2 27)) 28 (hP.2.2 28)) 29 (hP.2.2 29)) 30 (hP.2.2 30))) dX11_begin_7 (fun H locs hP hS => ?_)
  refine lv_aload_n hx hb dX11_begin_10 rfl (lv_at hl 0 rfl) ?_
  refine lv_iload_n hx hb dX11_begin_11 rfl (lv_at hl 1 rfl) ?_
  refine g_cv (As := [.int (iI a1)]) (rest := []) (n := 1) C hml (m_X11_isClimber l D k A ad hD (va_up (va_up (va_up (va_up v 0 0) 1 0) 24 (v 24)) 25 (v 25)) (va_up (va_up (va_up (va_up (va_up (va_up (va_up (va_up f 20 (f 20)) 24 (f 24)) 25 (f 25)) 26 (f 26)) 27 (f 27)) 28 (f 28)) 29 (f 29)) 30 (f 30)) g a1 (by omega)) mM_X11_349 mI_X11_isClimber mE_X11_isClimber mN_X11 mC_X11_isClimber (by decide +kernel) 0 (ci := 11) rfl rfl hP hS (fun _ h => h) ⟨Nat.le_of_ble_eq_true rfl, Nat.le_of_ble_eq_true rfl⟩ ⟨Nat.zero_le _, Nat.zero_le _⟩ hl.1 rfl rfl (Nat.le_of_ble_eq_true rfl) dX11_begin_12 (fun r_3 v_3 f_3 g_3 H locs hq_3 hP _ hS => ?_)
  obtain ⟨z_3, rfl, rfl, rfl, rfl, p0_3, p1_3⟩ := hq_3
  show W p l e (gRm 2 56) s m args below meth c _ _ 0 0 Q (F0 m 15 ls [.int (iI z_3)])
  replace p0_3 : z_3 = (if 0 ≤ a1 ∧ a1 < (v 22) then 1 else 0) := p0_3
  have w_3 := gif (P := 0 ≤ a1 ∧ a1 < (v 22)) p0_3
  replace p1_3 : z_3 = 1 → 0 ≤ a1 ∧ a1 ≤ 15 := p1_3
  have hz_3 : inR z_3 := (by first | omega | (rw [p0_3]; split <;> omega))
  refine gi_zeq (tgt := 37) hx hb dX11_begin_15 (by decide) (by omega) (fun c_4 => ?_) (fun c_4 => ?_)
  · refine lv_aload_n hx hb dX11_begin_37 rfl (lv_at hl 0 rfl) ?_
    refine lv_iconst (v := iI 1) hx hb dX11_begin_38 rfl ?_
    refine g_cv (As := [.int (iI 1)]) (rest := []) (n := 1) C hml (m_X11_refuse l D k A ad hD (va_up (va_up (va_up (va_up v 0 0) 1 0) 24 (v 24)) 25 (v 25)) (va_up (va_up (va_up (va_up (va_up (va_up (va_up (va_up f 20 (f 20)) 24 (f 24)) 25 (f 25)) 26 (f 26)) 27 (f 27)) 28 (f 28)) 29 (f 29)) 30 (f 30)) g 1 (by decide) (show 0 ≤ (1 : Int) ∧ (1 : Int) ≤ 10 from by omega)) mM_X11_295 mI_X11_refuse mE_X11_refuse mN_X11 mC_X11_refuse (by decide +kernel) 0 (ci := 11) rfl rfl hP hS (fun _ h => h) ⟨Nat.le_of_ble_eq_true rfl, Nat.le_of_ble_eq_true rfl⟩ ⟨Nat.zero_le _, Nat.zero_le _⟩ hl.1 rfl rfl (Nat.le_of_ble_eq_true rfl) dX11_begin_39 (fun r_5 v_5 f_5 g_5 H locs hq_5 hP _ hS => ?_)
    obtain ⟨rfl, rfl, rfl, rfl⟩ := hq_5
    show W p l e (gRm 2 56) s m args below meth c _ _ 0 0 Q (F0 m 42 ls [.int (iI (-1))])
    have hP : gWd D (mdT k ad) (va_up (va_up (va_up (va_up v 0 (1 : Int)) 1 0) 24 (v 24)) 25 (v 25)) (va_up (va_up (va_up (va_up (va_up (va_up (va_up (va_up f 20 (f 20)) 24 (f 24)) 25 (f 25)) 26 (f 26)) 27 (f 27)) 28 (f 28)) 29 (f 29)) 30 (f 30)) g H := ⟨hP.1, (gF_up (V := mdV) (F := mdF) (gF_up (V := mdV) (F := mdF) (gF_up (V := mdV) (F := mdF) (gF_up (V := mdV) (F := mdF) (gF_up (V := mdV) (F := mdF) (gF_up (V := mdV) (F := mdF) (gF_up (V := mdV) (F := mdF) (gF_up (V := mdV) (F := mdF) (gR_up (V := mdV) (F := mdF) (gR_up (V := mdV) (F := mdF) (gR_up (V := mdV) (F := mdF) (gR_up (V := mdV) (F := mdF) ⟨hok.1, hok.2⟩ 0 (hP.2.1 0)) 1 (hP.2.1 1)) 24 (hP.2.1 24)) 25 (hP.2.1 25)) 20 (hP.2.2 20)) 24 (hP.2.2 24)) 25 (hP.2.2 25)) 26 (hP.2.2 26)) 27 (hP.2.2 27)) 28 (hP.2.2 28)) 29 (hP.2.2 29)) 30 (hP.2.2 30))⟩
    exact g_iret hQ C hr hlocks hP hS dX11_begin_42 ⟨(-1), (1 : Int), 0, (v 24), (v 25), (f 20), (f 24), (f 25), (f 26), (f 27), (f 28), (f 29), (f 30), rfl, rfl, rfl, rfl, (by first | omega | (split <;> omega)), (by first | exact hbg | exact cntUp hbg (hbg _ (by omega) (by omega)))⟩
  · refine lv_aload_n hx hb dX11_begin_18 rfl (lv_at hl 0 rfl) ?_
    refine mdG_open C hP mF_X11_82 dX11_begin_19 ?_
    show W p l e (gRm 2 56) s m args below meth c _ _ 0 0 Q (F0 m 22 ls [.int (iI (v 23))])
    refine gi_zlt (tgt := 37) hx hb dX11_begin_22 (by decide) (by omega) (fun c_6 => ?_) (fun c_6 => ?_)
    · refine lv_aload_n hx hb dX11_begin_37 rfl (lv_at hl 0 rfl) ?_
      refine lv_iconst (v := iI 1) hx hb dX11_begin_38 rfl ?_
      refine g_cv (As := [.int (iI 1)]) (rest := []) (n := 1) C hml (m_X11_refuse l D k A ad hD (va_up (va_up (va_up (va_up v 0 0) 1 0) 24 (v 24)) 25 (v 25)) (va_up (va_up (va_up (va_up (va_up (va_up (va_up (va_up f 20 (f 20)) 24 (f 24)) 25 (f 25)) 26 (f 26)) 27 (f 27)) 28 (f 28)) 29 (f 29)) 30 (f 30)) g 1 (by decide) (show 0 ≤ (1 : Int) ∧ (1 : Int) ≤ 10 from by omega)) mM_X11_295 mI_X11_refuse mE_X11_refuse mN_X11 mC_X11_refuse (by decide +kernel) 0 (ci := 11) rfl rfl hP hS (fun _ h => h) ⟨Nat.le_of_ble_eq_true rfl, Nat.le_of_ble_eq_true rfl⟩ ⟨Nat.zero_le _, Nat.zero_le _⟩ hl.1 rfl rfl (Nat.le_of_ble_eq_true rfl) dX11_begin_39 (fun r_7 v_7 f_7 g_7 H locs hq_7 hP _ hS => ?_)
      obtain ⟨rfl, rfl, rfl, rfl⟩ := hq_7
      show W p l e (gRm 2 56) s m args below meth c _ _ 0 0 Q (F0 m 42 ls [.int (iI (-1))])
      have hP : gWd D (mdT k ad) (va_up (va_up (va_up (va_up v 0 (1 : Int)) 1 0) 24 (v 24)) 25 (v 25)) (va_up (va_up (va_up (va_up (va_up (va_up (va_up (va_up f 20 (f 20)) 24 (f 24)) 25 (f 25)) 26 (f 26)) 27 (f 27)) 28 (f 28)) 29 (f 29)) 30 (f 30)) g H := ⟨hP.1, (gF_up (V := mdV) (F := mdF) (gF_up (V := mdV) (F := mdF) (gF_up (V := mdV) (F := mdF) (gF_up (V := mdV) (F := mdF) (gF_up (V := mdV) (F := mdF) (gF_up (V := mdV) (F := mdF) (gF_up (V := mdV) (F := mdF) (gF_up (V := mdV) (F := mdF) (gR_up (V := mdV) (F := mdF) (gR_up (V := mdV) (F := mdF) (gR_up (V := mdV) (F := mdF) (gR_up (V := mdV) (F := mdF) ⟨hok.1, hok.2⟩ 0 (hP.2.1 0)) 1 (hP.2.1 1)) 24 (hP.2.1 24)) 25 (hP.2.1 25)) 20 (hP.2.2 20)) 24 (hP.2.2 24)) 25 (hP.2.2 25)) 26 (hP.2.2 26)) 27 (hP.2.2 27)) 28 (hP.2.2 28)) 29 (hP.2.2 29)) 30 (hP.2.2 30))⟩
      exact g_iret hQ C hr hlocks hP hS dX11_begin_42 ⟨(-1), (1 : Int), 0, (v 24), (v 25), (f 20), (f 24), (f 25), (f 26), (f 27), (f 28), (f 29), (f 30), rfl, rfl, rfl, rfl, (by first | omega | (split <;> omega)), (by first | exact hbg | exact cntUp hbg (hbg _ (by omega) (by omega)))⟩
    · refine lv_aload_n hx hb dX11_begin_25 rfl (lv_at hl 0 rfl) ?_
      refine lv_aload_n hx hb dX11_begin_26 rfl (lv_at hl 0 rfl) ?_
      refine mdG_open C hP mF_X11_82 dX11_begin_27 ?_
      show W p l e (gRm 2 56) s m args below meth c _ _ 0 0 Q (F0 m 30 ls [.int (iI (v 23)), .ref (ad 0)])
      refine lv_iload_n hx hb dX11_begin_30 rfl (lv_at hl 2 rfl) ?_
      refine g_cv (As := [.int (iI (v 23)), .int (iI a2)]) (rest := []) (n := 2) C hml (m_X11_isRoute l D k A ad hD (va_up (va_up (va_up (va_up v 0 0) 1 0) 24 (v 24)) 25 (v 25)) (va_up (va_up (va_up (va_up (va_up (va_up (va_up (va_up f 20 (f 20)) 24 (f 24)) 25 (f 25)) 26 (f 26)) 27 (f 27)) 28 (f 28)) 29 (f 29)) 30 (f 30)) g (v 23) a2 (by omega) (by omega)) mM_X11_328 mI_X11_isRoute mE_X11_isRoute mN_X11 mC_X11_isRoute (by decide +kernel) 0 (ci := 11) rfl rfl hP hS (fun _ h => h) ⟨Nat.le_of_ble_eq_true rfl, Nat.le_of_ble_eq_true rfl⟩ ⟨Nat.zero_le _, Nat.zero_le _⟩ hl.1 rfl rfl (Nat.le_of_ble_eq_true rfl) dX11_begin_31 (fun r_8 v_8 f_8 g_8 H locs hq_8 hP _ hS => ?_)
      obtain ⟨z_8, rfl, rfl, rfl, rfl, p0_8, p1_8⟩ := hq_8
      show W p l e (gRm 2 56) s m args below meth c _ _ 0 0 Q (F0 m 34 ls [.int (iI z_8)])
      replace p0_8 : z_8 = (if (0 ≤ (v 23) ∧ (v 23) < (v 12)) ∧ 0 ≤ a2 ∧ a2 < (f 1) (v 23) then 1 else 0) := p0_8
      have w_8 := gif (P := (0 ≤ (v 23) ∧ (v 23) < (v 12)) ∧ 0 ≤ a2 ∧ a2 < (f 1) (v 23)) p0_8
      replace p1_8 : z_8 = 1 → a2 ≤ 4 ∧ (v 23) ≤ 3 := p1_8
      have hz_8 : inR z_8 := (by first | omega | (rw [p0_8]; split <;> omega))
      refine gi_zne (tgt := 43) hx hb dX11_begin_34 (by decide) (by omega) (fun c_9 => ?_) (fun c_9 => ?_)
      · refine lv_aload_n hx hb dX11_begin_43 rfl (lv_at hl 0 rfl) ?_
        refine lv_iload_n hx hb dX11_begin_44 rfl (lv_at hl 3 rfl) ?_
        refine g_cv (As := [.int (iI a3)]) (rest := []) (n := 1) C hml (m_X11_clocked l D k A ad hD (va_up (va_up (va_up (va_up v 0 0) 1 0) 24 (v 24)) 25 (v 25)) (va_up (va_up (va_up (va_up (va_up (va_up (va_up (va_up f 20 (f 20)) 24 (f 24)) 25 (f 25)) 26 (f 26)) 27 (f 27)) 28 (f 28)) 29 (f 29)) 30 (f 30)) g a3 (by omega)) mM_X11_352 mI_X11_clocked mE_X11_clocked mN_X11 mC_X11_clocked (by decide +kernel) 0 (ci := 11) rfl rfl hP hS (fun _ h => h) ⟨Nat.le_of_ble_eq_true rfl, Nat.le_of_ble_eq_true rfl⟩ ⟨Nat.zero_le _, Nat.zero_le _⟩ hl.1 rfl rfl (Nat.le_of_ble_eq_true rfl) dX11_begin_45 (fun r_10 v_10 f_10 g_10 H locs hq_10 hP _ hS => ?_)
        obtain ⟨z_10, w24_10, a28_10, a30_10, rfl, rfl, rfl, rfl, p0_10, p1_10⟩ := hq_10
        show W p l e (gRm 2 56) s m args below meth c _ _ 0 0 Q (F0 m 48 ls [.int (iI z_10)])
        have hP : gWd D (mdT k ad) (va_up (va_up (va_up (va_up v 0 0) 1 0) 24 w24_10) 25 (v 25)) (va_up (va_up (va_up (va_up (va_up (va_up (va_up (va_up f 20 (f 20)) 24 (f 24)) 25 (f 25)) 26 (f 26)) 27 (f 27)) 28 a28_10) 29 (f 29)) 30 a30_10) g H := ⟨hP.1, (gF_up (V := mdV) (F := mdF) (gF_up (V := mdV) (F := mdF) (gF_up (V := mdV) (F := mdF) (gF_up (V := mdV) (F := mdF) (gF_up (V := mdV) (F := mdF) (gF_up (V := mdV) (F := mdF) (gF_up (V := mdV) (F := mdF) (gF_up (V := mdV) (F := mdF) (gR_up (V := mdV) (F := mdF) (gR_up (V := mdV) (F := mdF) (gR_up (V := mdV) (F := mdF) (gR_up (V := mdV) (F := mdF) ⟨hok.1, hok.2⟩ 0 (hP.2.1 0)) 1 (hP.2.1 1)) 24 (hP.2.1 24)) 25 (hP.2.1 25)) 20 (hP.2.2 20)) 24 (hP.2.2 24)) 25 (hP.2.2 25)) 26 (hP.2.2 26)) 27 (hP.2.2 27)) 28 (hP.2.2 28)) 29 (hP.2.2 29)) 30 (hP.2.2 30))⟩
        replace p0_10 : 0 ≤ z_10 ∧ z_10 ≤ 9 := p0_10
        replace p1_10 : z_10 = 0 → 0 ≤ a3 ∧ a3 ≤ 1000000 := p1_10
        have rw24_10 : 0 ≤ w24_10 ∧ w24_10 ≤ 1000000 := hP.2.1 24
        refine lv_istore (lv' := [(4, .int (iI z_10)), (0, .ref (ad 0)), (1, .int (iI a1)), (2, .int (iI a2)), (3, .int (iI a3))]) hx hb dX11_begin_48 hl (by decide) rfl (fun ls hl => ?_)
        refine lv_iload hx hb dX11_begin_50 (lv_at hl 0 rfl) ?_
        refine gi_zle (tgt := 62) hx hb dX11_begin_52 (by decide) (by omega) (fun c_11 => ?_) (fun c_11 => ?_)
        · refine lv_aload_n hx hb dX11_begin_62 rfl (lv_at hl 1 rfl) ?_
          refine mdG_isIn C hP mF_X11_85 dX11_begin_63 ?_
          refine lv_bipush (v := iI 16) hx hb dX11_begin_66 (by decide) ?_
          refine lv_aload_n hx hb dX11_begin_68 rfl (lv_at hl 1 rfl) ?_
          refine mdG_open C hP mF_X11_82 dX11_begin_69 ?_
          show W p l e (gRm 2 56) s m args below meth c _ _ 0 0 Q (F0 m 72 ls [.int (iI (v 23)), .int (iI 16), .ref (ad 22)])
          refine gi_mul (z := (16 * (v 23))) hx hb dX11_begin_72 rfl ?_
          refine lv_iload_n hx hb dX11_begin_73 rfl (lv_at hl 2 rfl) ?_
          refine gi_add (z := ((16 * (v 23)) + a1)) hx hb dX11_begin_74 rfl ?_
          refine mdL_isIn C hP (by omega) (by omega) dX11_begin_75 ?_
          show W p l e (gRm 2 56) s m args below meth c _ _ 0 0 Q (F0 m 76 ls [.int (iI (f 21 ((16 * (v 23)) + a1)))])
          have r_12 : 0 ≤ (f 21 ((16 * (v 23)) + a1)) ∧ (f 21 ((16 * (v 23)) + a1)) ≤ 1 := hP.2.2 21 ((16 * (v 23)) + a1)
          refine gi_zne (tgt := 85) hx hb dX11_begin_76 (by decide) (by omega) (fun c_13 => ?_) (fun c_13 => ?_)
          · refine lv_aload_n hx hb dX11_begin_85 rfl (lv_at hl 1 rfl) ?_
            refine lv_iload_n hx hb dX11_begin_86 rfl (lv_at hl 2 rfl) ?_
            refine g_cv (As := [.int (iI a1)]) (rest := []) (n := 1) C hml (m_X11_openTry l D k A ad hD (va_up (va_up (va_up (va_up v 0 0) 1 0) 24 w24_10) 25 (v 25)) (va_up (va_up (va_up (va_up (va_up (va_up (va_up (va_up f 20 (f 20)) 24 (f 24)) 25 (f 25)) 26 (f 26)) 27 (f 27)) 28 a28_10) 29 (f 29)) 30 a30_10) g a1 (by omega)) mM_X11_355 mI_X11_openTry mE_X11_openTry mN_X11 mC_X11_openTry (by decide +kernel) 0 (ci := 11) rfl rfl hP hS (fun _ h => h) ⟨Nat.le_of_ble_eq_true rfl, Nat.le_of_ble_eq_true rfl⟩ ⟨Nat.zero_le _, Nat.zero_le _⟩ hl.1 rfl rfl (Nat.le_of_ble_eq_true rfl) dX11_begin_87 (fun r_14 v_14 f_14 g_14 H locs hq_14 hP _ hS => ?_)
            obtain ⟨z_14, rfl, rfl, rfl, rfl, p0_14⟩ := hq_14
            show W p l e (gRm 2 56) s m args below meth c _ _ 0 0 Q (F0 m 90 ls [.int (iI z_14)])
            replace p0_14 : (-1) ≤ z_14 ∧ z_14 ≤ 299 := p0_14
            refine gi_zlt (tgt := 99) hx hb dX11_begin_90 (by decide) (by omega) (fun c_15 => ?_) (fun c_15 => ?_)
            · refine lv_iconst (v := iI 0) hx hb dX11_begin_99 rfl ?_
              refine lv_istore (lv' := [(5, .int (iI 0)), (4, .int (iI z_10)), (0, .ref (ad 0)), (1, .int (iI a1)), (2, .int (iI a2)), (3, .int (iI a3))]) hx hb dX11_begin_100 hl (by decide) rfl (fun ls hl => ?_)
              refine lv_iconst (v := iI 0) hx hb dX11_begin_102 rfl ?_
              refine lv_istore (lv' := [(6, .int (iI 0)), (5, .int (iI 0)), (4, .int (iI z_10)), (0, .ref (ad 0)), (1, .int (iI a1)), (2, .int (iI a2)), (3, .int (iI a3))]) hx hb dX11_begin_103 hl (by decide) rfl (fun ls hl => ?_)
              refine lv_iconst (v := iI 0) hx hb dX11_begin_105 rfl ?_
              refine lv_istore (lv' := [(7, .int (iI 0)), (6, .int (iI 0)), (5, .int (iI 0)), (4, .int (iI z_10)), (0, .ref (ad 0)), (1, .int (iI a1)), (2, .int (iI a2)), (3, .int (iI a3))]) hx hb dX11_begin_106 hl (by decide) rfl (fun ls hl => ?_)
              have L_16 : ∀ (n : Nat) (x5 : Int) (x6 : Int) (x7 : Int) (H : Heap) (locs : List Loc) (ls : Array Slot), 300 - x7 < (n : Int) → (0 ≤ x7 ∧ x7 ≤ (v 25)) → (0 ≤ x5 ∧ x5 ≤ x7) → (0 ≤ x6 ∧ x6 ≤ 1) → gWd D (mdT k ad) (va_up (va_up (va_up (va_up v 0 0) 1 0) 24 w24_10) 25 (v 25)) (va_up (va_up (va_up (va_up (va_up (va_up (va_up (va_up f 20 (f 20)) 24 (f 24)) 25 (f 25)) 26 (f 26)) 27 (f 27)) 28 a28_10) 29 (f 29)) 30 a30_10) g H → va_S A s.heap H locs → lv_has ls 8 [(0, .ref (ad 0)), (1, .int (iI a1)), (2, .int (iI a2)), (3, .int (iI a3)), (4, .int (iI z_10)), (5, .int (iI x5)), (6, .int (iI x6)), (7, .int (iI x7))] → W p l e (gRm 2 56) s m args below meth c H locs 0 0 Q (F0 m 108 ls []) := by
                intro n
                induction n with
                | zero =>
                  intro x5 x6 x7 H locs ls hn_16 i16_0 i16_1 i16_2 hP hS hl
                  exfalso; omega
                | succ n ih_108 =>
                  intro x5 x6 x7 H locs ls hn_16 i16_0 i16_1 i16_2 hP hS hl
                  refine lv_iload hx hb dX11_begin_108 (lv_at hl 7 rfl) ?_
                  refine lv_aload_n hx hb dX11_begin_110 rfl (lv_at hl 0 rfl) ?_
                  refine mdG_tried C hP mF_X11_319 dX11_begin_111 ?_
                  show W p l e (gRm 2 56) s m args below meth c _ _ 0 0 Q (F0 m 114 ls [.int (iI (v 25)), .int (iI x7)])
                  refine gi_cge (tgt := 199) hx hb dX11_begin_114 (by decide) (by omega) (by omega) (fun c_17 => ?_) (fun c_17 => ?_)
                  · refine lv_iload hx hb dX11_begin_199 (lv_at hl 6 rfl) ?_
                    refine gi_zne (tgt := 218) hx hb dX11_begin_201 (by decide) (by omega) (fun c_18 => ?_) (fun c_18 => ?_)
                    · refine lv_aload_n hx hb dX11_begin_218 rfl (lv_at hl 0 rfl) ?_
                      refine lv_bipush (v := iI 6) hx hb dX11_begin_219 (by decide) ?_
                      refine g_cv (As := [.int (iI 6)]) (rest := []) (n := 1) C hml (m_X11_refuse l D k A ad hD (va_up (va_up (va_up (va_up v 0 0) 1 0) 24 w24_10) 25 (v 25)) (va_up (va_up (va_up (va_up (va_up (va_up (va_up (va_up f 20 (f 20)) 24 (f 24)) 25 (f 25)) 26 (f 26)) 27 (f 27)) 28 a28_10) 29 (f 29)) 30 a30_10) g 6 (by decide) (show 0 ≤ (6 : Int) ∧ (6 : Int) ≤ 10 from by omega)) mM_X11_295 mI_X11_refuse mE_X11_refuse mN_X11 mC_X11_refuse (by decide +kernel) 0 (ci := 11) rfl rfl hP hS (fun _ h => h) ⟨Nat.le_of_ble_eq_true rfl, Nat.le_of_ble_eq_true rfl⟩ ⟨Nat.zero_le _, Nat.zero_le _⟩ hl.1 rfl rfl (Nat.le_of_ble_eq_true rfl) dX11_begin_221 (fun r_19 v_19 f_19 g_19 H locs hq_19 hP _ hS => ?_)
                      obtain ⟨rfl, rfl, rfl, rfl⟩ := hq_19
                      show W p l e (gRm 2 56) s m args below meth c _ _ 0 0 Q (F0 m 224 ls [.int (iI (-1))])
                      have hP : gWd D (mdT k ad) (va_up (va_up (va_up (va_up v 0 (6 : Int)) 1 0) 24 w24_10) 25 (v 25)) (va_up (va_up (va_up (va_up (va_up (va_up (va_up (va_up f 20 (f 20)) 24 (f 24)) 25 (f 25)) 26 (f 26)) 27 (f 27)) 28 a28_10) 29 (f 29)) 30 a30_10) g H := ⟨hP.1, (gF_up (V := mdV) (F := mdF) (gF_up (V := mdV) (F := mdF) (gF_up (V := mdV) (F := mdF) (gF_up (V := mdV) (F := mdF) (gF_up (V := mdV) (F := mdF) (gF_up (V := mdV) (F := mdF) (gF_up (V := mdV) (F := mdF) (gF_up (V := mdV) (F := mdF) (gR_up (V := mdV) (F := mdF) (gR_up (V := mdV) (F := mdF) (gR_up (V := mdV) (F := mdF) (gR_up (V := mdV) (F := mdF) ⟨hok.1, hok.2⟩ 0 (hP.2.1 0)) 1 (hP.2.1 1)) 24 (hP.2.1 24)) 25 (hP.2.1 25)) 20 (hP.2.2 20)) 24 (hP.2.2 24)) 25 (hP.2.2 25)) 26 (hP.2.2 26)) 27 (hP.2.2 27)) 28 (hP.2.2 28)) 29 (hP.2.2 29)) 30 (hP.2.2 30))⟩
                      exact g_iret hQ C hr hlocks hP hS dX11_begin_224 ⟨(-1), (6 : Int), 0, w24_10, (v 25), (f 20), (f 24), (f 25), (f 26), (f 27), a28_10, (f 29), a30_10, rfl, rfl, rfl, rfl, (by first | omega | (split <;> omega)), (by first | exact hbg | exact cntUp hbg (hbg _ (by omega) (by omega)))⟩
                    · refine lv_iload hx hb dX11_begin_204 (lv_at hl 5 rfl) ?_
                      refine lv_aload_n hx hb dX11_begin_206 rfl (lv_at hl 0 rfl) ?_
                      refine mdG_tries C hP mF_X11_24 dX11_begin_207 ?_
                      refine lv_aload_n hx hb dX11_begin_210 rfl (lv_at hl 0 rfl) ?_
                      refine mdG_open C hP mF_X11_82 dX11_begin_211 ?_
                      show W p l e (gRm 2 56) s m args below meth c _ _ 0 0 Q (F0 m 214 ls [.int (iI (v 23)), .ref (ad 3), .int (iI x5)])
                      refine mdL_tries C hP (by omega) (by omega) dX11_begin_214 ?_
                      show W p l e (gRm 2 56) s m args below meth c _ _ 0 0 Q (F0 m 215 ls [.int (iI (f 2 (v 23))), .int (iI x5)])
                      have r_20 : 0 ≤ (f 2 (v 23)) ∧ (f 2 (v 23)) ≤ 9 := hP.2.2 2 (v 23)
                      refine gi_clt (tgt := 225) hx hb dX11_begin_215 (by decide) (by omega) (by omega) (fun c_21 => ?_) (fun c_21 => ?_)
                      · refine lv_aload_n hx hb dX11_begin_225 rfl (lv_at hl 0 rfl) ?_
                        refine mdG_tried C hP mF_X11_319 dX11_begin_226 ?_
                        show W p l e (gRm 2 56) s m args below meth c _ _ 0 0 Q (F0 m 229 ls [.int (iI (v 25))])
                        refine lv_sipush (v := iI 300) hx hb dX11_begin_229 (by decide) ?_
                        refine gi_cne (tgt := 241) hx hb dX11_begin_232 (by decide) (by omega) (by decide) (fun c_22 => ?_) (fun c_22 => ?_)
                        · refine lv_aload_n hx hb dX11_begin_241 rfl (lv_at hl 0 rfl) ?_
                          refine lv_iload_n hx hb dX11_begin_242 rfl (lv_at hl 1 rfl) ?_
                          refine lv_iload_n hx hb dX11_begin_243 rfl (lv_at hl 2 rfl) ?_
                          refine g_cv (As := [.int (iI a1), .int (iI a2)]) (rest := []) (n := 2) C hml (m_X11_hasSeen l D k A ad hD (va_up (va_up (va_up (va_up v 0 0) 1 0) 24 w24_10) 25 (v 25)) (va_up (va_up (va_up (va_up (va_up (va_up (va_up (va_up f 20 (f 20)) 24 (f 24)) 25 (f 25)) 26 (f 26)) 27 (f 27)) 28 a28_10) 29 (f 29)) 30 a30_10) g a1 a2 (by omega) (by omega) (show 0 ≤ a1 ∧ a1 ≤ 15 from by omega)) mM_X11_358 mI_X11_hasSeen mE_X11_hasSeen mN_X11 mC_X11_hasSeen (by decide +kernel) 0 (ci := 11) rfl rfl hP hS (fun _ h => h) ⟨Nat.le_of_ble_eq_true rfl, Nat.le_of_ble_eq_true rfl⟩ ⟨Nat.zero_le _, Nat.zero_le _⟩ hl.1 rfl rfl (Nat.le_of_ble_eq_true rfl) dX11_begin_244 (fun r_23 v_23 f_23 g_23 H locs hq_23 hP _ hS => ?_)
                          obtain ⟨z_23, rfl, rfl, rfl, rfl, p0_23⟩ := hq_23
                          show W p l e (gRm 2 56) s m args below meth c _ _ 0 0 Q (F0 m 247 ls [.int (iI z_23)])
                          replace p0_23 : 0 ≤ z_23 ∧ z_23 ≤ 1 := p0_23
                          refine gi_zeq (tgt := 257) hx hb dX11_begin_247 (by decide) (by omega) (fun c_24 => ?_) (fun c_24 => ?_)
                          · refine lv_iload_n hx hb dX11_begin_257 rfl (lv_at hl 3 rfl) ?_
                            refine lv_aload_n hx hb dX11_begin_258 rfl (lv_at hl 0 rfl) ?_
                            refine lv_iload_n hx hb dX11_begin_259 rfl (lv_at hl 1 rfl) ?_
                            refine g_cv (As := [.int (iI a1)]) (rest := [.int (iI a3)]) (n := 1) C hml (m_X11_readyAt l D k A ad hD (va_up (va_up (va_up (va_up v 0 0) 1 0) 24 w24_10) 25 (v 25)) (va_up (va_up (va_up (va_up (va_up (va_up (va_up (va_up f 20 (f 20)) 24 (f 24)) 25 (f 25)) 26 (f 26)) 27 (f 27)) 28 a28_10) 29 (f 29)) 30 a30_10) g a1 (by omega)) mM_X11_361 mI_X11_readyAt mE_X11_readyAt mN_X11 mC_X11_readyAt (by decide +kernel) 0 (ci := 11) rfl rfl hP hS (fun _ h => h) ⟨Nat.le_of_ble_eq_true rfl, Nat.le_of_ble_eq_true rfl⟩ ⟨Nat.zero_le _, Nat.zero_le _⟩ hl.1 rfl rfl (Nat.le_of_ble_eq_true rfl) dX11_begin_260 (fun r_25 v_25 f_25 g_25 H locs hq_25 hP _ hS => ?_)
                            obtain ⟨z_25, rfl, rfl, rfl, rfl, p0_25⟩ := hq_25
                            show W p l e (gRm 2 56) s m args below meth c _ _ 0 0 Q (F0 m 263 ls [.int (iI z_25), .int (iI a3)])
                            replace p0_25 : 0 ≤ z_25 ∧ z_25 ≤ 1001998 := p0_25
                            refine gi_cge (tgt := 273) hx hb dX11_begin_263 (by decide) (by omega) (by omega) (fun c_26 => ?_) (fun c_26 => ?_)
                            · refine lv_aload_n hx hb dX11_begin_273 rfl (lv_at hl 0 rfl) ?_
                              refine mdG_who C hP mF_X11_94 dX11_begin_274 ?_
                              refine lv_aload_n hx hb dX11_begin_277 rfl (lv_at hl 0 rfl) ?_
                              refine mdG_tried C hP mF_X11_319 dX11_begin_278 ?_
                              show W p l e (gRm 2 56) s m args below meth c _ _ 0 0 Q (F0 m 281 ls [.int (iI (v 25)), .ref (ad 25)])
                              refine lv_iload_n hx hb dX11_begin_281 rfl (lv_at hl 1 rfl) ?_
                              refine mdS_who (f1 := (va_up (va_up (va_up (va_up (va_up (va_up (va_up (va_up f 20 (f 20)) 24 (u1 (f 24) (v 25) a1)) 25 (f 25)) 26 (f 26)) 27 (f 27)) 28 a28_10) 29 (f 29)) 30 a30_10)) C hP hD hS (by omega) (by omega) (by omega) rfl (Or.inr (gF_up (V := mdV) (F := mdF) (gF_up (V := mdV) (F := mdF) (gF_up (V := mdV) (F := mdF) (gF_up (V := mdV) (F := mdF) (gF_up (V := mdV) (F := mdF) (gF_up (V := mdV) (F := mdF) (gF_up (V := mdV) (F := mdF) (gF_up (V := mdV) (F := mdF) (gR_up (V := mdV) (F := mdF) (gR_up (V := mdV) (F := mdF) (gR_up (V := mdV) (F := mdF) (gR_up (V := mdV) (F := mdF) ⟨hok.1, hok.2⟩ 0 (hP.2.1 0)) 1 (hP.2.1 1)) 24 (hP.2.1 24)) 25 (hP.2.1 25)) 20 (hP.2.2 20)) 24 (u1_rng (hP.2.2 24) (show 0 ≤ a1 ∧ a1 ≤ 15 from (by omega)))) 25 (hP.2.2 25)) 26 (hP.2.2 26)) 27 (hP.2.2 27)) 28 (hP.2.2 28)) 29 (hP.2.2 29)) 30 (hP.2.2 30))) dX11_begin_282 (fun H locs hP hS => ?_)
                              refine lv_aload_n hx hb dX11_begin_283 rfl (lv_at hl 0 rfl) ?_
                              refine mdG_where C hP mF_X11_97 dX11_begin_284 ?_
                              refine lv_aload_n hx hb dX11_begin_287 rfl (lv_at hl 0 rfl) ?_
                              refine mdG_tried C hP mF_X11_319 dX11_begin_288 ?_
                              show W p l e (gRm 2 56) s m args below meth c _ _ 0 0 Q (F0 m 291 ls [.int (iI (v 25)), .ref (ad 26)])
                              refine lv_aload_n hx hb dX11_begin_291 rfl (lv_at hl 0 rfl) ?_
                              refine mdG_open C hP mF_X11_82 dX11_begin_292 ?_
                              show W p l e (gRm 2 56) s m args below meth c _ _ 0 0 Q (F0 m 295 ls [.int (iI (v 23)), .int (iI (v 25)), .ref (ad 26)])
                              refine mdS_where (f1 := (va_up (va_up (va_up (va_up (va_up (va_up (va_up (va_up f 20 (f 20)) 24 (u1 (f 24) (v 25) a1)) 25 (u1 (f 25) (v 25) (v 23))) 26 (f 26)) 27 (f 27)) 28 a28_10) 29 (f 29)) 30 a30_10)) C hP hD hS (by omega) (by omega) (by omega) rfl (Or.inr (gF_up (V := mdV) (F := mdF) (gF_up (V := mdV) (F := mdF) (gF_up (V := mdV) (F := mdF) (gF_up (V := mdV) (F := mdF) (gF_up (V := mdV) (F := mdF) (gF_up (V := mdV) (F := mdF) (gF_up (V := mdV) (F := mdF) (gF_up (V := mdV) (F := mdF) (gR_up (V := mdV) (F := mdF) (gR_up (V := mdV) (F := mdF) (gR_up (V := mdV) (F := mdF) (gR_up (V := mdV) (F := mdF) ⟨hok.1, hok.2⟩ 0 (hP.2.1 0)) 1 (hP.2.1 1)) 24 (hP.2.1 24)) 25 (hP.2.1 25)) 20 (hP.2.2 20)) 24 (hP.2.2 24)) 25 (u1_rng (hP.2.2 25) (show 0 ≤ (v 23) ∧ (v 23) ≤ 3 from (by omega)))) 26 (hP.2.2 26)) 27 (hP.2.2 27)) 28 (hP.2.2 28)) 29 (hP.2.2 29)) 30 (hP.2.2 30))) dX11_begin_295 (fun H locs hP hS => ?_)
                              refine lv_aload_n hx hb dX11_begin_296 rfl (lv_at hl 0 rfl) ?_
                              refine mdG_which C hP mF_X11_100 dX11_begin_297 ?_
                              refine lv_aload_n hx hb dX11_begin_300 rfl (lv_at hl 0 rfl) ?_
                              refine mdG_tried C hP mF_X11_319 dX11_begin_301 ?_
                              show W p l e (gRm 2 56) s m args below meth c _ _ 0 0 Q (F0 m 304 ls [.int (iI (v 25)), .ref (ad 27)])
                              refine lv_iload_n hx hb dX11_begin_304 rfl (lv_at hl 2 rfl) ?_
                              refine mdS_which (f1 := (va_up (va_up (va_up (va_up (va_up (va_up (va_up (va_up f 20 (f 20)) 24 (u1 (f 24) (v 25) a1)) 25 (u1 (f 25) (v 25) (v 23))) 26 (u1 (f 26) (v 25) a2)) 27 (f 27)) 28 a28_10) 29 (f 29)) 30 a30_10)) C hP hD hS (by omega) (by omega) (by omega) rfl (Or.inr (gF_up (V := mdV) (F := mdF) (gF_up (V := mdV) (F := mdF) (gF_up (V := mdV) (F := mdF) (gF_up (V := mdV) (F := mdF) (gF_up (V := mdV) (F := mdF) (gF_up (V := mdV) (F := mdF) (gF_up (V := mdV) (F := mdF) (gF_up (V := mdV) (F := mdF) (gR_up (V := mdV) (F := mdF) (gR_up (V := mdV) (F := mdF) (gR_up (V := mdV) (F := mdF) (gR_up (V := mdV) (F := mdF) ⟨hok.1, hok.2⟩ 0 (hP.2.1 0)) 1 (hP.2.1 1)) 24 (hP.2.1 24)) 25 (hP.2.1 25)) 20 (hP.2.2 20)) 24 (hP.2.2 24)) 25 (hP.2.2 25)) 26 (u1_rng (hP.2.2 26) (show 0 ≤ a2 ∧ a2 ≤ 4 from (by omega)))) 27 (hP.2.2 27)) 28 (hP.2.2 28)) 29 (hP.2.2 29)) 30 (hP.2.2 30))) dX11_begin_305 (fun H locs hP hS => ?_)
                              refine lv_aload_n hx hb dX11_begin_306 rfl (lv_at hl 0 rfl) ?_
                              refine mdG_from C hP mF_X11_103 dX11_begin_307 ?_
                              refine lv_aload_n hx hb dX11_begin_310 rfl (lv_at hl 0 rfl) ?_
                              refine mdG_tried C hP mF_X11_319 dX11_begin_311 ?_
                              show W p l e (gRm 2 56) s m args below meth c _ _ 0 0 Q (F0 m 314 ls [.int (iI (v 25)), .ref (ad 28)])
                              refine lv_iload_n hx hb dX11_begin_314 rfl (lv_at hl 3 rfl) ?_
                              refine mdS_from (f1 := (va_up (va_up (va_up (va_up (va_up (va_up (va_up (va_up f 20 (f 20)) 24 (u1 (f 24) (v 25) a1)) 25 (u1 (f 25) (v 25) (v 23))) 26 (u1 (f 26) (v 25) a2)) 27 (u1 (f 27) (v 25) a3)) 28 a28_10) 29 (f 29)) 30 a30_10)) C hP hD hS (by omega) (by omega) (by omega) rfl (Or.inr (gF_up (V := mdV) (F := mdF) (gF_up (V := mdV) (F := mdF) (gF_up (V := mdV) (F := mdF) (gF_up (V := mdV) (F := mdF) (gF_up (V := mdV) (F := mdF) (gF_up (V := mdV) (F := mdF) (gF_up (V := mdV) (F := mdF) (gF_up (V := mdV) (F := mdF) (gR_up (V := mdV) (F := mdF) (gR_up (V := mdV) (F := mdF) (gR_up (V := mdV) (F := mdF) (gR_up (V := mdV) (F := mdF) ⟨hok.1, hok.2⟩ 0 (hP.2.1 0)) 1 (hP.2.1 1)) 24 (hP.2.1 24)) 25 (hP.2.1 25)) 20 (hP.2.2 20)) 24 (hP.2.2 24)) 25 (hP.2.2 25)) 26 (hP.2.2 26)) 27 (u1_rng (hP.2.2 27) (show 0 ≤ a3 ∧ a3 ≤ 1000000 from (by omega)))) 28 (hP.2.2 28)) 29 (hP.2.2 29)) 30 (hP.2.2 30))) dX11_begin_315 (fun H locs hP hS => ?_)
                              refine lv_aload_n hx hb dX11_begin_316 rfl (lv_at hl 0 rfl) ?_
                              refine mdG_to C hP mF_X11_106 dX11_begin_317 ?_
                              refine lv_aload_n hx hb dX11_begin_320 rfl (lv_at hl 0 rfl) ?_
                              refine mdG_tried C hP mF_X11_319 dX11_begin_321 ?_
                              show W p l e (gRm 2 56) s m args below meth c _ _ 0 0 Q (F0 m 324 ls [.int (iI (v 25)), .ref (ad 29)])
                              refine lv_iconst (v := iI (-1)) hx hb dX11_begin_324 rfl ?_
                              refine mdS_to (f1 := (va_up (va_up (va_up (va_up (va_up (va_up (va_up (va_up f 20 (f 20)) 24 (u1 (f 24) (v 25) a1)) 25 (u1 (f 25) (v 25) (v 23))) 26 (u1 (f 26) (v 25) a2)) 27 (u1 (f 27) (v 25) a3)) 28 (u1 a28_10 (v 25) (-1))) 29 (f 29)) 30 a30_10)) C hP hD hS (by omega) (by omega) (by decide) rfl (Or.inr (gF_up (V := mdV) (F := mdF) (gF_up (V := mdV) (F := mdF) (gF_up (V := mdV) (F := mdF) (gF_up (V := mdV) (F := mdF) (gF_up (V := mdV) (F := mdF) (gF_up (V := mdV) (F := mdF) (gF_up (V := mdV) (F := mdF) (gF_up (V := mdV) (F := mdF) (gR_up (V := mdV) (F := mdF) (gR_up (V := mdV) (F := mdF) (gR_up (V := mdV) (F := mdF) (gR_up (V := mdV) (F := mdF) ⟨hok.1, hok.2⟩ 0 (hP.2.1 0)) 1 (hP.2.1 1)) 24 (hP.2.1 24)) 25 (hP.2.1 25)) 20 (hP.2.2 20)) 24 (hP.2.2 24)) 25 (hP.2.2 25)) 26 (hP.2.2 26)) 27 (hP.2.2 27)) 28 (u1_rng (hP.2.2 28) (show (-1) ≤ (-1) ∧ (-1) ≤ 1000999 from (by decide)))) 29 (hP.2.2 29)) 30 (hP.2.2 30))) dX11_begin_325 (fun H locs hP hS => ?_)
                              refine lv_aload_n hx hb dX11_begin_326 rfl (lv_at hl 0 rfl) ?_
                              refine mdG_hold C hP mF_X11_109 dX11_begin_327 ?_
                              refine lv_aload_n hx hb dX11_begin_330 rfl (lv_at hl 0 rfl) ?_
                              refine mdG_tried C hP mF_X11_319 dX11_begin_331 ?_
                              show W p l e (gRm 2 56) s m args below meth c _ _ 0 0 Q (F0 m 334 ls [.int (iI (v 25)), .ref (ad 30)])
                              refine lv_iconst (v := iI 0) hx hb dX11_begin_334 rfl ?_
                              refine mdS_hold (f1 := (va_up (va_up (va_up (va_up (va_up (va_up (va_up (va_up f 20 (f 20)) 24 (u1 (f 24) (v 25) a1)) 25 (u1 (f 25) (v 25) (v 23))) 26 (u1 (f 26) (v 25) a2)) 27 (u1 (f 27) (v 25) a3)) 28 (u1 a28_10 (v 25) (-1))) 29 (u1 (f 29) (v 25) 0)) 30 a30_10)) C hP hD hS (by omega) (by omega) (by decide) rfl (Or.inr (gF_up (V := mdV) (F := mdF) (gF_up (V := mdV) (F := mdF) (gF_up (V := mdV) (F := mdF) (gF_up (V := mdV) (F := mdF) (gF_up (V := mdV) (F := mdF) (gF_up (V := mdV) (F := mdF) (gF_up (V := mdV) (F := mdF) (gF_up (V := mdV) (F := mdF) (gR_up (V := mdV) (F := mdF) (gR_up (V := mdV) (F := mdF) (gR_up (V := mdV) (F := mdF) (gR_up (V := mdV) (F := mdF) ⟨hok.1, hok.2⟩ 0 (hP.2.1 0)) 1 (hP.2.1 1)) 24 (hP.2.1 24)) 25 (hP.2.1 25)) 20 (hP.2.2 20)) 24 (hP.2.2 24)) 25 (hP.2.2 25)) 26 (hP.2.2 26)) 27 (hP.2.2 27)) 28 (hP.2.2 28)) 29 (u1_rng (hP.2.2 29) (show 0 ≤ 0 ∧ 0 ≤ 60 from (by decide)))) 30 (hP.2.2 30))) dX11_begin_335 (fun H locs hP hS => ?_)
                              refine lv_aload_n hx hb dX11_begin_336 rfl (lv_at hl 0 rfl) ?_
                              refine mdG_how C hP mF_X11_112 dX11_begin_337 ?_
                              refine lv_aload_n hx hb dX11_begin_340 rfl (lv_at hl 0 rfl) ?_
                              refine mdG_tried C hP mF_X11_319 dX11_begin_341 ?_
                              show W p l e (gRm 2 56) s m args below meth c _ _ 0 0 Q (F0 m 344 ls [.int (iI (v 25)), .ref (ad 31)])
                              refine lv_iconst (v := iI 0) hx hb dX11_begin_344 rfl ?_
                              refine mdS_how (f1 := (va_up (va_up (va_up (va_up (va_up (va_up (va_up (va_up f 20 (f 20)) 24 (u1 (f 24) (v 25) a1)) 25 (u1 (f 25) (v 25) (v 23))) 26 (u1 (f 26) (v 25) a2)) 27 (u1 (f 27) (v 25) a3)) 28 (u1 a28_10 (v 25) (-1))) 29 (u1 (f 29) (v 25) 0)) 30 (u1 a30_10 (v 25) 0))) C hP hD hS (by omega) (by omega) (by decide) rfl (Or.inr (gF_up (V := mdV) (F := mdF) (gF_up (V := mdV) (F := mdF) (gF_up (V := mdV) (F := mdF) (gF_up (V := mdV) (F := mdF) (gF_up (V := mdV) (F := mdF) (gF_up (V := mdV) (F := mdF) (gF_up (V := mdV) (F := mdF) (gF_up (V := mdV) (F := mdF) (gR_up (V := mdV) (F := mdF) (gR_up (V := mdV) (F := mdF) (gR_up (V := mdV) (F := mdF) (gR_up (V := mdV) (F := mdF) ⟨hok.1, hok.2⟩ 0 (hP.2.1 0)) 1 (hP.2.1 1)) 24 (hP.2.1 24)) 25 (hP.2.1 25)) 20 (hP.2.2 20)) 24 (hP.2.2 24)) 25 (hP.2.2 25)) 26 (hP.2.2 26)) 27 (hP.2.2 27)) 28 (hP.2.2 28)) 29 (hP.2.2 29)) 30 (u1_rng (hP.2.2 30) (show 0 ≤ 0 ∧ 0 ≤ 4 from (by decide))))) dX11_begin_345 (fun H locs hP hS => ?_)
                              refine lv_aload_n hx hb dX11_begin_346 rfl (lv_at hl 0 rfl) ?_
                              refine mdG_begun C hP mF_X11_79 dX11_begin_347 ?_
                              refine lv_aload_n hx hb dX11_begin_350 rfl (lv_at hl 0 rfl) ?_
                              refine mdG_open C hP mF_X11_82 dX11_begin_351 ?_
                              show W p l e (gRm 2 56) s m args below meth c _ _ 0 0 Q (F0 m 354 ls [.int (iI (v 23)), .ref (ad 21)])
                              refine lv_iload_n hx hb dX11_begin_354 rfl (lv_at hl 2 rfl) ?_
                              refine g_cs (As := [.int (iI (v 23)), .int (iI a2)]) (rest := [.ref (ad 21)]) (n := 2) C hml (m_X11_at l D k A ad hD (va_up (va_up (va_up (va_up v 0 0) 1 0) 24 w24_10) 25 (v 25)) (va_up (va_up (va_up (va_up (va_up (va_up (va_up (va_up f 20 (f 20)) 24 (u1 (f 24) (v 25) a1)) 25 (u1 (f 25) (v 25) (v 23))) 26 (u1 (f 26) (v 25) a2)) 27 (u1 (f 27) (v 25) a3)) 28 (u1 a28_10 (v 25) (-1))) 29 (u1 (f 29) (v 25) 0)) 30 (u1 a30_10 (v 25) 0)) g (v 23) a2 (by omega) (by omega) (show 0 ≤ (v 23) ∧ (v 23) ≤ 3 from by omega) (show 0 ≤ a2 ∧ a2 ≤ 4 from by omega)) mM_X11_335 mS_X11_at mN_X11 mC_X11_at (by decide +kernel) hP hS (fun _ h => h) ⟨Nat.le_of_ble_eq_true rfl, Nat.le_of_ble_eq_true rfl⟩ ⟨Nat.zero_le _, Nat.zero_le _⟩ hl.1 rfl rfl (Nat.le_of_ble_eq_true rfl) dX11_begin_355 (fun r_27 v_27 f_27 g_27 H locs hq_27 hP _ hS => ?_)
                              obtain ⟨z_27, rfl, rfl, rfl, rfl, p0_27⟩ := hq_27
                              show W p l e (gRm 2 56) s m args below meth c _ _ 0 0 Q (F0 m 358 ls [.int (iI z_27), .ref (ad 21)])
                              replace p0_27 : z_27 = (5 * (v 23) + a2) := p0_27
                              have hz_27 : inR z_27 := (by first | omega | (rw [p0_27]; split <;> omega))
                              refine lv_dup2_11 hx hb dX11_begin_358 rfl rfl ?_
                              refine mdL_begun C hP (by omega) (by omega) dX11_begin_359 ?_
                              show W p l e (gRm 2 56) s m args below meth c _ _ 0 0 Q (F0 m 360 ls [.int (iI (f 20 z_27)), .int (iI z_27), .ref (ad 21)])
                              have r_28 : 0 ≤ (f 20 z_27) ∧ (f 20 z_27) ≤ 300 := hP.2.2 20 z_27
                              have q_29 := hbg z_27 (by omega) (by omega)
                              refine lv_iconst (v := iI 1) hx hb dX11_begin_360 rfl ?_
                              refine gi_add (z := ((f 20 z_27) + 1)) hx hb dX11_begin_361 rfl ?_
                              refine mdS_begun (f1 := (va_up (va_up (va_up (va_up (va_up (va_up (va_up (va_up f 20 (u1 (f 20) z_27 ((f 20 z_27) + 1))) 24 (u1 (f 24) (v 25) a1)) 25 (u1 (f 25) (v 25) (v 23))) 26 (u1 (f 26) (v 25) a2)) 27 (u1 (f 27) (v 25) a3)) 28 (u1 a28_10 (v 25) (-1))) 29 (u1 (f 29) (v 25) 0)) 30 (u1 a30_10 (v 25) 0))) C hP hD hS (by omega) (by omega) (by omega) rfl (Or.inr (gF_up (V := mdV) (F := mdF) (gF_up (V := mdV) (F := mdF) (gF_up (V := mdV) (F := mdF) (gF_up (V := mdV) (F := mdF) (gF_up (V := mdV) (F := mdF) (gF_up (V := mdV) (F := mdF) (gF_up (V := mdV) (F := mdF) (gF_up (V := mdV) (F := mdF) (gR_up (V := mdV) (F := mdF) (gR_up (V := mdV) (F := mdF) (gR_up (V := mdV) (F := mdF) (gR_up (V := mdV) (F := mdF) ⟨hok.1, hok.2⟩ 0 (hP.2.1 0)) 1 (hP.2.1 1)) 24 (hP.2.1 24)) 25 (hP.2.1 25)) 20 (u1_rng (hP.2.2 20) (show 0 ≤ ((f 20 z_27) + 1) ∧ ((f 20 z_27) + 1) ≤ 300 from (by omega)))) 24 (hP.2.2 24)) 25 (hP.2.2 25)) 26 (hP.2.2 26)) 27 (hP.2.2 27)) 28 (hP.2.2 28)) 29 (hP.2.2 29)) 30 (hP.2.2 30))) dX11_begin_362 (fun H locs hP hS => ?_)
                              refine lv_aload_n hx hb dX11_begin_363 rfl (lv_at hl 0 rfl) ?_
                              refine lv_dup hx hb dX11_begin_364 rfl ?_
                              refine mdG_tried C hP mF_X11_319 dX11_begin_365 ?_
                              show W p l e (gRm 2 56) s m args below meth c _ _ 0 0 Q (F0 m 368 ls [.int (iI (v 25)), .ref (ad 0)])
                              refine lv_iconst (v := iI 1) hx hb dX11_begin_368 rfl ?_
                              refine gi_add (z := ((v 25) + 1)) hx hb dX11_begin_369 rfl ?_
                              refine mdP_tried (v1 := (va_up (va_up (va_up (va_up v 0 0) 1 0) 24 w24_10) 25 ((v 25) + 1))) C hP hD hS mF_X11_319 (by omega) rfl (Or.inr (gF_up (V := mdV) (F := mdF) (gF_up (V := mdV) (F := mdF) (gF_up (V := mdV) (F := mdF) (gF_up (V := mdV) (F := mdF) (gF_up (V := mdV) (F := mdF) (gF_up (V := mdV) (F := mdF) (gF_up (V := mdV) (F := mdF) (gF_up (V := mdV) (F := mdF) (gR_up (V := mdV) (F := mdF) (gR_up (V := mdV) (F := mdF) (gR_up (V := mdV) (F := mdF) (gR_up (V := mdV) (F := mdF) ⟨hok.1, hok.2⟩ 0 (hP.2.1 0)) 1 (hP.2.1 1)) 24 (hP.2.1 24)) 25 (show 0 ≤ ((v 25) + 1) ∧ ((v 25) + 1) ≤ 300 from by omega)) 20 (hP.2.2 20)) 24 (hP.2.2 24)) 25 (hP.2.2 25)) 26 (hP.2.2 26)) 27 (hP.2.2 27)) 28 (hP.2.2 28)) 29 (hP.2.2 29)) 30 (hP.2.2 30))) dX11_begin_370 (fun H locs hP hS => ?_)
                              refine lv_aload_n hx hb dX11_begin_373 rfl (lv_at hl 0 rfl) ?_
                              refine mdG_tried C hP mF_X11_319 dX11_begin_374 ?_
                              show W p l e (gRm 2 56) s m args below meth c _ _ 0 0 Q (F0 m 377 ls [.int (iI ((v 25) + 1))])
                              have r_30 : 0 ≤ ((v 25) + 1) ∧ ((v 25) + 1) ≤ 300 := hP.2.1 25
                              refine lv_iconst (v := iI 1) hx hb dX11_begin_377 rfl ?_
                              refine gi_sub (z := (((v 25) + 1) - 1)) hx hb dX11_begin_378 rfl ?_
                              exact g_iret hQ C hr hlocks hP hS dX11_begin_379 ⟨(((v 25) + 1) - 1), 0, 0, w24_10, ((v 25) + 1), (u1 (f 20) z_27 ((f 20 z_27) + 1)), (u1 (f 24) (v 25) a1), (u1 (f 25) (v 25) (v 23)), (u1 (f 26) (v 25) a2), (u1 (f 27) (v 25) a3), (u1 a28_10 (v 25) (-1)), (u1 (f 29) (v 25) 0), (u1 a30_10 (v 25) 0), rfl, rfl, rfl, rfl, (by first | omega | (split <;> omega)), (by first | exact hbg | exact cntUp hbg (hbg _ (by omega) (by omega)))⟩
                            · refine lv_aload_n hx hb dX11_begin_266 rfl (lv_at hl 0 rfl) ?_
                              refine lv_bipush (v := iI 8) hx hb dX11_begin_267 (by decide) ?_
                              refine g_cv (As := [.int (iI 8)]) (rest := []) (n := 1) C hml (m_X11_refuse l D k A ad hD (va_up (va_up (va_up (va_up v 0 0) 1 0) 24 w24_10) 25 (v 25)) (va_up (va_up (va_up (va_up (va_up (va_up (va_up (va_up f 20 (f 20)) 24 (f 24)) 25 (f 25)) 26 (f 26)) 27 (f 27)) 28 a28_10) 29 (f 29)) 30 a30_10) g 8 (by decide) (show 0 ≤ (8 : Int) ∧ (8 : Int) ≤ 10 from by omega)) mM_X11_295 mI_X11_refuse mE_X11_refuse mN_X11 mC_X11_refuse (by decide +kernel) 0 (ci := 11) rfl rfl hP hS (fun _ h => h) ⟨Nat.le_of_ble_eq_true rfl, Nat.le_of_ble_eq_true rfl⟩ ⟨Nat.zero_le _, Nat.zero_le _⟩ hl.1 rfl rfl (Nat.le_of_ble_eq_true rfl) dX11_begin_269 (fun r_31 v_31 f_31 g_31 H locs hq_31 hP _ hS => ?_)
                              obtain ⟨rfl, rfl, rfl, rfl⟩ := hq_31
                              show W p l e (gRm 2 56) s m args below meth c _ _ 0 0 Q (F0 m 272 ls [.int (iI (-1))])
                              have hP : gWd D (mdT k ad) (va_up (va_up (va_up (va_up v 0 (8 : Int)) 1 0) 24 w24_10) 25 (v 25)) (va_up (va_up (va_up (va_up (va_up (va_up (va_up (va_up f 20 (f 20)) 24 (f 24)) 25 (f 25)) 26 (f 26)) 27 (f 27)) 28 a28_10) 29 (f 29)) 30 a30_10) g H := ⟨hP.1, (gF_up (V := mdV) (F := mdF) (gF_up (V := mdV) (F := mdF) (gF_up (V := mdV) (F := mdF) (gF_up (V := mdV) (F := mdF) (gF_up (V := mdV) (F := mdF) (gF_up (V := mdV) (F := mdF) (gF_up (V := mdV) (F := mdF) (gF_up (V := mdV) (F := mdF) (gR_up (V := mdV) (F := mdF) (gR_up (V := mdV) (F := mdF) (gR_up (V := mdV) (F := mdF) (gR_up (V := mdV) (F := mdF) ⟨hok.1, hok.2⟩ 0 (hP.2.1 0)) 1 (hP.2.1 1)) 24 (hP.2.1 24)) 25 (hP.2.1 25)) 20 (hP.2.2 20)) 24 (hP.2.2 24)) 25 (hP.2.2 25)) 26 (hP.2.2 26)) 27 (hP.2.2 27)) 28 (hP.2.2 28)) 29 (hP.2.2 29)) 30 (hP.2.2 30))⟩
                              exact g_iret hQ C hr hlocks hP hS dX11_begin_272 ⟨(-1), (8 : Int), 0, w24_10, (v 25), (f 20), (f 24), (f 25), (f 26), (f 27), a28_10, (f 29), a30_10, rfl, rfl, rfl, rfl, (by first | omega | (split <;> omega)), (by first | exact hbg | exact cntUp hbg (hbg _ (by omega) (by omega)))⟩
                          · refine lv_aload_n hx hb dX11_begin_250 rfl (lv_at hl 0 rfl) ?_
                            refine lv_bipush (v := iI 7) hx hb dX11_begin_251 (by decide) ?_
                            refine g_cv (As := [.int (iI 7)]) (rest := []) (n := 1) C hml (m_X11_refuse l D k A ad hD (va_up (va_up (va_up (va_up v 0 0) 1 0) 24 w24_10) 25 (v 25)) (va_up (va_up (va_up (va_up (va_up (va_up (va_up (va_up f 20 (f 20)) 24 (f 24)) 25 (f 25)) 26 (f 26)) 27 (f 27)) 28 a28_10) 29 (f 29)) 30 a30_10) g 7 (by decide) (show 0 ≤ (7 : Int) ∧ (7 : Int) ≤ 10 from by omega)) mM_X11_295 mI_X11_refuse mE_X11_refuse mN_X11 mC_X11_refuse (by decide +kernel) 0 (ci := 11) rfl rfl hP hS (fun _ h => h) ⟨Nat.le_of_ble_eq_true rfl, Nat.le_of_ble_eq_true rfl⟩ ⟨Nat.zero_le _, Nat.zero_le _⟩ hl.1 rfl rfl (Nat.le_of_ble_eq_true rfl) dX11_begin_253 (fun r_32 v_32 f_32 g_32 H locs hq_32 hP _ hS => ?_)
                            obtain ⟨rfl, rfl, rfl, rfl⟩ := hq_32
                            show W p l e (gRm 2 56) s m args below meth c _ _ 0 0 Q (F0 m 256 ls [.int (iI (-1))])
                            have hP : gWd D (mdT k ad) (va_up (va_up (va_up (va_up v 0 (7 : Int)) 1 0) 24 w24_10) 25 (v 25)) (va_up (va_up (va_up (va_up (va_up (va_up (va_up (va_up f 20 (f 20)) 24 (f 24)) 25 (f 25)) 26 (f 26)) 27 (f 27)) 28 a28_10) 29 (f 29)) 30 a30_10) g H := ⟨hP.1, (gF_up (V := mdV) (F := mdF) (gF_up (V := mdV) (F := mdF) (gF_up (V := mdV) (F := mdF) (gF_up (V := mdV) (F := mdF) (gF_up (V := mdV) (F := mdF) (gF_up (V := mdV) (F := mdF) (gF_up (V := mdV) (F := mdF) (gF_up (V := mdV) (F := mdF) (gR_up (V := mdV) (F := mdF) (gR_up (V := mdV) (F := mdF) (gR_up (V := mdV) (F := mdF) (gR_up (V := mdV) (F := mdF) ⟨hok.1, hok.2⟩ 0 (hP.2.1 0)) 1 (hP.2.1 1)) 24 (hP.2.1 24)) 25 (hP.2.1 25)) 20 (hP.2.2 20)) 24 (hP.2.2 24)) 25 (hP.2.2 25)) 26 (hP.2.2 26)) 27 (hP.2.2 27)) 28 (hP.2.2 28)) 29 (hP.2.2 29)) 30 (hP.2.2 30))⟩
                            exact g_iret hQ C hr hlocks hP hS dX11_begin_256 ⟨(-1), (7 : Int), 0, w24_10, (v 25), (f 20), (f 24), (f 25), (f 26), (f 27), a28_10, (f 29), a30_10, rfl, rfl, rfl, rfl, (by first | omega | (split <;> omega)), (by first | exact hbg | exact cntUp hbg (hbg _ (by omega) (by omega)))⟩
                        · refine lv_aload_n hx hb dX11_begin_235 rfl (lv_at hl 0 rfl) ?_
                          refine lv_iconst (v := iI 3) hx hb dX11_begin_236 rfl ?_
                          refine g_cv (As := [.int (iI 3)]) (rest := []) (n := 1) C hml (m_X11_refuse l D k A ad hD (va_up (va_up (va_up (va_up v 0 0) 1 0) 24 w24_10) 25 (v 25)) (va_up (va_up (va_up (va_up (va_up (va_up (va_up (va_up f 20 (f 20)) 24 (f 24)) 25 (f 25)) 26 (f 26)) 27 (f 27)) 28 a28_10) 29 (f 29)) 30 a30_10) g 3 (by decide) (show 0 ≤ (3 : Int) ∧ (3 : Int) ≤ 10 from by omega)) mM_X11_295 mI_X11_refuse mE_X11_refuse mN_X11 mC_X11_refuse (by decide +kernel) 0 (ci := 11) rfl rfl hP hS (fun _ h => h) ⟨Nat.le_of_ble_eq_true rfl, Nat.le_of_ble_eq_true rfl⟩ ⟨Nat.zero_le _, Nat.zero_le _⟩ hl.1 rfl rfl (Nat.le_of_ble_eq_true rfl) dX11_begin_237 (fun r_33 v_33 f_33 g_33 H locs hq_33 hP _ hS => ?_)
                          obtain ⟨rfl, rfl, rfl, rfl⟩ := hq_33
                          show W p l e (gRm 2 56) s m args below meth c _ _ 0 0 Q (F0 m 240 ls [.int (iI (-1))])
                          have hP : gWd D (mdT k ad) (va_up (va_up (va_up (va_up v 0 (3 : Int)) 1 0) 24 w24_10) 25 (v 25)) (va_up (va_up (va_up (va_up (va_up (va_up (va_up (va_up f 20 (f 20)) 24 (f 24)) 25 (f 25)) 26 (f 26)) 27 (f 27)) 28 a28_10) 29 (f 29)) 30 a30_10) g H := ⟨hP.1, (gF_up (V := mdV) (F := mdF) (gF_up (V := mdV) (F := mdF) (gF_up (V := mdV) (F := mdF) (gF_up (V := mdV) (F := mdF) (gF_up (V := mdV) (F := mdF) (gF_up (V := mdV) (F := mdF) (gF_up (V := mdV) (F := mdF) (gF_up (V := mdV) (F := mdF) (gR_up (V := mdV) (F := mdF) (gR_up (V := mdV) (F := mdF) (gR_up (V := mdV) (F := mdF) (gR_up (V := mdV) (F := mdF) ⟨hok.1, hok.2⟩ 0 (hP.2.1 0)) 1 (hP.2.1 1)) 24 (hP.2.1 24)) 25 (hP.2.1 25)) 20 (hP.2.2 20)) 24 (hP.2.2 24)) 25 (hP.2.2 25)) 26 (hP.2.2 26)) 27 (hP.2.2 27)) 28 (hP.2.2 28)) 29 (hP.2.2 29)) 30 (hP.2.2 30))⟩
                          exact g_iret hQ C hr hlocks hP hS dX11_begin_240 ⟨(-1), (3 : Int), 0, w24_10, (v 25), (f 20), (f 24), (f 25), (f 26), (f 27), a28_10, (f 29), a30_10, rfl, rfl, rfl, rfl, (by first | omega | (split <;> omega)), (by first | exact hbg | exact cntUp hbg (hbg _ (by omega) (by omega)))⟩
                      · refine lv_aload_n hx hb dX11_begin_218 rfl (lv_at hl 0 rfl) ?_
                        refine lv_bipush (v := iI 6) hx hb dX11_begin_219 (by decide) ?_
                        refine g_cv (As := [.int (iI 6)]) (rest := []) (n := 1) C hml (m_X11_refuse l D k A ad hD (va_up (va_up (va_up (va_up v 0 0) 1 0) 24 w24_10) 25 (v 25)) (va_up (va_up (va_up (va_up (va_up (va_up (va_up (va_up f 20 (f 20)) 24 (f 24)) 25 (f 25)) 26 (f 26)) 27 (f 27)) 28 a28_10) 29 (f 29)) 30 a30_10) g 6 (by decide) (show 0 ≤ (6 : Int) ∧ (6 : Int) ≤ 10 from by omega)) mM_X11_295 mI_X11_refuse mE_X11_refuse mN_X11 mC_X11_refuse (by decide +kernel) 0 (ci := 11) rfl rfl hP hS (fun _ h => h) ⟨Nat.le_of_ble_eq_true rfl, Nat.le_of_ble_eq_true rfl⟩ ⟨Nat.zero_le _, Nat.zero_le _⟩ hl.1 rfl rfl (Nat.le_of_ble_eq_true rfl) dX11_begin_221 (fun r_34 v_34 f_34 g_34 H locs hq_34 hP _ hS => ?_)
                        obtain ⟨rfl, rfl, rfl, rfl⟩ := hq_34
                        show W p l e (gRm 2 56) s m args below meth c _ _ 0 0 Q (F0 m 224 ls [.int (iI (-1))])
                        have hP : gWd D (mdT k ad) (va_up (va_up (va_up (va_up v 0 (6 : Int)) 1 0) 24 w24_10) 25 (v 25)) (va_up (va_up (va_up (va_up (va_up (va_up (va_up (va_up f 20 (f 20)) 24 (f 24)) 25 (f 25)) 26 (f 26)) 27 (f 27)) 28 a28_10) 29 (f 29)) 30 a30_10) g H := ⟨hP.1, (gF_up (V := mdV) (F := mdF) (gF_up (V := mdV) (F := mdF) (gF_up (V := mdV) (F := mdF) (gF_up (V := mdV) (F := mdF) (gF_up (V := mdV) (F := mdF) (gF_up (V := mdV) (F := mdF) (gF_up (V := mdV) (F := mdF) (gF_up (V := mdV) (F := mdF) (gR_up (V := mdV) (F := mdF) (gR_up (V := mdV) (F := mdF) (gR_up (V := mdV) (F := mdF) (gR_up (V := mdV) (F := mdF) ⟨hok.1, hok.2⟩ 0 (hP.2.1 0)) 1 (hP.2.1 1)) 24 (hP.2.1 24)) 25 (hP.2.1 25)) 20 (hP.2.2 20)) 24 (hP.2.2 24)) 25 (hP.2.2 25)) 26 (hP.2.2 26)) 27 (hP.2.2 27)) 28 (hP.2.2 28)) 29 (hP.2.2 29)) 30 (hP.2.2 30))⟩
                        exact g_iret hQ C hr hlocks hP hS dX11_begin_224 ⟨(-1), (6 : Int), 0, w24_10, (v 25), (f 20), (f 24), (f 25), (f 26), (f 27), a28_10, (f 29), a30_10, rfl, rfl, rfl, rfl, (by first | omega | (split <;> omega)), (by first | exact hbg | exact cntUp hbg (hbg _ (by omega) (by omega)))⟩
                  · refine lv_aload_n hx hb dX11_begin_117 rfl (lv_at hl 0 rfl) ?_
                    refine mdG_who C hP mF_X11_94 dX11_begin_118 ?_
                    refine lv_iload hx hb dX11_begin_121 (lv_at hl 7 rfl) ?_
                    refine mdL_who C hP (by omega) (by omega) dX11_begin_123 ?_
                    show W p l e (gRm 2 56) s m args below meth c _ _ 0 0 Q (F0 m 124 ls [.int (iI (f 24 x7))])
                    have r_35 : 0 ≤ (f 24 x7) ∧ (f 24 x7) ≤ 15 := hP.2.2 24 x7
                    refine lv_iload_n hx hb dX11_begin_124 rfl (lv_at hl 1 rfl) ?_
                    refine gi_cne (tgt := 193) hx hb dX11_begin_125 (by decide) (by omega) (by omega) (fun c_36 => ?_) (fun c_36 => ?_)
                    · refine lv_iinc (v := iI (x7 + 1)) (lv' := [(7, .int (iI (x7 + 1))), (0, .ref (ad 0)), (1, .int (iI a1)), (2, .int (iI a2)), (3, .int (iI a3)), (4, .int (iI z_10)), (5, .int (iI x5)), (6, .int (iI x6))]) hx hb dX11_begin_193 hl (k := 7) rfl (by show iI _ + iI 1 = _; rw [iI_add]) (by decide) rfl (fun ls hl => ?_)
                      refine lv_goto (tgt := 108) hx hb dX11_begin_196 (by decide) ?_
                      exact ih_108 x5 x6 (x7 + 1) _ _ _ (by omega) (by omega) (by omega) (by omega) hP hS (lv_sub hl [1, 2, 3, 4, 5, 6, 7, 0] rfl)
                    · refine lv_aload_n hx hb dX11_begin_128 rfl (lv_at hl 0 rfl) ?_
                      refine mdG_where C hP mF_X11_97 dX11_begin_129 ?_
                      refine lv_iload hx hb dX11_begin_132 (lv_at hl 7 rfl) ?_
                      refine mdL_where C hP (by omega) (by omega) dX11_begin_134 ?_
                      show W p l e (gRm 2 56) s m args below meth c _ _ 0 0 Q (F0 m 135 ls [.int (iI (f 25 x7))])
                      have r_37 : 0 ≤ (f 25 x7) ∧ (f 25 x7) ≤ 3 := hP.2.2 25 x7
                      refine lv_aload_n hx hb dX11_begin_135 rfl (lv_at hl 0 rfl) ?_
                      refine mdG_open C hP mF_X11_82 dX11_begin_136 ?_
                      show W p l e (gRm 2 56) s m args below meth c _ _ 0 0 Q (F0 m 139 ls [.int (iI (v 23)), .int (iI (f 25 x7))])
                      refine gi_cne (tgt := 193) hx hb dX11_begin_139 (by decide) (by omega) (by omega) (fun c_38 => ?_) (fun c_38 => ?_)
                      · refine lv_iinc (v := iI (x7 + 1)) (lv' := [(7, .int (iI (x7 + 1))), (0, .ref (ad 0)), (1, .int (iI a1)), (2, .int (iI a2)), (3, .int (iI a3)), (4, .int (iI z_10)), (5, .int (iI x5)), (6, .int (iI x6))]) hx hb dX11_begin_193 hl (k := 7) rfl (by show iI _ + iI 1 = _; rw [iI_add]) (by decide) rfl (fun ls hl => ?_)
                        refine lv_goto (tgt := 108) hx hb dX11_begin_196 (by decide) ?_
                        exact ih_108 x5 x6 (x7 + 1) _ _ _ (by omega) (by omega) (by omega) (by omega) hP hS (lv_sub hl [1, 2, 3, 4, 5, 6, 7, 0] rfl)
                      · refine lv_aload_n hx hb dX11_begin_142 rfl (lv_at hl 0 rfl) ?_
                        refine mdG_which C hP mF_X11_100 dX11_begin_143 ?_
                        refine lv_iload hx hb dX11_begin_146 (lv_at hl 7 rfl) ?_
                        refine mdL_which C hP (by omega) (by omega) dX11_begin_148 ?_
                        show W p l e (gRm 2 56) s m args below meth c _ _ 0 0 Q (F0 m 149 ls [.int (iI (f 26 x7))])
                        have r_39 : 0 ≤ (f 26 x7) ∧ (f 26 x7) ≤ 4 := hP.2.2 26 x7
                        refine lv_iload_n hx hb dX11_begin_149 rfl (lv_at hl 2 rfl) ?_
                        refine gi_cne (tgt := 193) hx hb dX11_begin_150 (by decide) (by omega) (by omega) (fun c_40 => ?_) (fun c_40 => ?_)
                        · refine lv_iinc (v := iI (x7 + 1)) (lv' := [(7, .int (iI (x7 + 1))), (0, .ref (ad 0)), (1, .int (iI a1)), (2, .int (iI a2)), (3, .int (iI a3)), (4, .int (iI z_10)), (5, .int (iI x5)), (6, .int (iI x6))]) hx hb dX11_begin_193 hl (k := 7) rfl (by show iI _ + iI 1 = _; rw [iI_add]) (by decide) rfl (fun ls hl => ?_)
                          refine lv_goto (tgt := 108) hx hb dX11_begin_196 (by decide) ?_
                          exact ih_108 x5 x6 (x7 + 1) _ _ _ (by omega) (by omega) (by omega) (by omega) hP hS (lv_sub hl [1, 2, 3, 4, 5, 6, 7, 0] rfl)
                        · refine lv_aload_n hx hb dX11_begin_153 rfl (lv_at hl 0 rfl) ?_
                          refine mdG_how C hP mF_X11_112 dX11_begin_154 ?_
                          refine lv_iload hx hb dX11_begin_157 (lv_at hl 7 rfl) ?_
                          refine mdL_how C hP (by omega) (by omega) dX11_begin_159 ?_
                          show W p l e (gRm 2 56) s m args below meth c _ _ 0 0 Q (F0 m 160 ls [.int (iI (a30_10 x7))])
                          have r_41 : 0 ≤ (a30_10 x7) ∧ (a30_10 x7) ≤ 4 := hP.2.2 30 x7
                          refine lv_iconst (v := iI 4) hx hb dX11_begin_160 rfl ?_
                          refine gi_cne (tgt := 167) hx hb dX11_begin_161 (by decide) (by omega) (by decide) (fun c_42 => ?_) (fun c_42 => ?_)
                          · refine lv_iinc (v := iI (x5 + 1)) (lv' := [(5, .int (iI (x5 + 1))), (0, .ref (ad 0)), (1, .int (iI a1)), (2, .int (iI a2)), (3, .int (iI a3)), (4, .int (iI z_10)), (6, .int (iI x6)), (7, .int (iI x7))]) hx hb dX11_begin_167 hl (k := 5) rfl (by show iI _ + iI 1 = _; rw [iI_add]) (by decide) rfl (fun ls hl => ?_)
                            refine lv_iload hx hb dX11_begin_170 (lv_at hl 6 rfl) ?_
                            refine gi_zne (tgt := 186) hx hb dX11_begin_172 (by decide) (by omega) (fun c_43 => ?_) (fun c_43 => ?_)
                            · refine lv_iconst (v := iI 1) hx hb dX11_begin_186 rfl ?_
                              refine lv_goto (tgt := 191) hx hb dX11_begin_187 (by decide) ?_
                              refine lv_istore (lv' := [(6, .int (iI 1)), (5, .int (iI (x5 + 1))), (0, .ref (ad 0)), (1, .int (iI a1)), (2, .int (iI a2)), (3, .int (iI a3)), (4, .int (iI z_10)), (7, .int (iI x7))]) hx hb dX11_begin_191 hl (by decide) rfl (fun ls hl => ?_)
                              refine lv_iinc (v := iI (x7 + 1)) (lv' := [(7, .int (iI (x7 + 1))), (6, .int (iI 1)), (5, .int (iI (x5 + 1))), (0, .ref (ad 0)), (1, .int (iI a1)), (2, .int (iI a2)), (3, .int (iI a3)), (4, .int (iI z_10))]) hx hb dX11_begin_193 hl (k := 7) rfl (by show iI _ + iI 1 = _; rw [iI_add]) (by decide) rfl (fun ls hl => ?_)
                              refine lv_goto (tgt := 108) hx hb dX11_begin_196 (by decide) ?_
                              exact ih_108 (x5 + 1) 1 (x7 + 1) _ _ _ (by omega) (by omega) (by omega) (by omega) hP hS (lv_sub hl [3, 4, 5, 6, 7, 2, 1, 0] rfl)
                            · refine lv_aload_n hx hb dX11_begin_175 rfl (lv_at hl 1 rfl) ?_
                              refine mdG_how C hP mF_X11_112 dX11_begin_176 ?_
                              refine lv_iload hx hb dX11_begin_179 (lv_at hl 7 rfl) ?_
                              refine mdL_how C hP (by omega) (by omega) dX11_begin_181 ?_
                              show W p l e (gRm 2 56) s m args below meth c _ _ 0 0 Q (F0 m 182 ls [.int (iI (a30_10 x7))])
                              refine lv_iconst (v := iI 1) hx hb dX11_begin_182 rfl ?_
                              refine gi_cne (tgt := 190) hx hb dX11_begin_183 (by decide) (by omega) (by decide) (fun c_44 => ?_) (fun c_44 => ?_)
                              · refine lv_iconst (v := iI 0) hx hb dX11_begin_190 rfl ?_
                                refine lv_istore (lv' := [(6, .int (iI 0)), (5, .int (iI (x5 + 1))), (0, .ref (ad 0)), (1, .int (iI a1)), (2, .int (iI a2)), (3, .int (iI a3)), (4, .int (iI z_10)), (7, .int (iI x7))]) hx hb dX11_begin_191 hl (by decide) rfl (fun ls hl => ?_)
                                refine lv_iinc (v := iI (x7 + 1)) (lv' := [(7, .int (iI (x7 + 1))), (6, .int (iI 0)), (5, .int (iI (x5 + 1))), (0, .ref (ad 0)), (1, .int (iI a1)), (2, .int (iI a2)), (3, .int (iI a3)), (4, .int (iI z_10))]) hx hb dX11_begin_193 hl (k := 7) rfl (by show iI _ + iI 1 = _; rw [iI_add]) (by decide) rfl (fun ls hl => ?_)
                                refine lv_goto (tgt := 108) hx hb dX11_begin_196 (by decide) ?_
                                exact ih_108 (x5 + 1) 0 (x7 + 1) _ _ _ (by omega) (by omega) (by omega) (by omega) hP hS (lv_sub hl [3, 4, 5, 6, 7, 2, 1, 0] rfl)
                              · refine lv_iconst (v := iI 1) hx hb dX11_begin_186 rfl ?_
                                refine lv_goto (tgt := 191) hx hb dX11_begin_187 (by decide) ?_
                                refine lv_istore (lv' := [(6, .int (iI 1)), (5, .int (iI (x5 + 1))), (0, .ref (ad 0)), (1, .int (iI a1)), (2, .int (iI a2)), (3, .int (iI a3)), (4, .int (iI z_10)), (7, .int (iI x7))]) hx hb dX11_begin_191 hl (by decide) rfl (fun ls hl => ?_)
                                refine lv_iinc (v := iI (x7 + 1)) (lv' := [(7, .int (iI (x7 + 1))), (6, .int (iI 1)), (5, .int (iI (x5 + 1))), (0, .ref (ad 0)), (1, .int (iI a1)), (2, .int (iI a2)), (3, .int (iI a3)), (4, .int (iI z_10))]) hx hb dX11_begin_193 hl (k := 7) rfl (by show iI _ + iI 1 = _; rw [iI_add]) (by decide) rfl (fun ls hl => ?_)
                                refine lv_goto (tgt := 108) hx hb dX11_begin_196 (by decide) ?_
                                exact ih_108 (x5 + 1) 1 (x7 + 1) _ _ _ (by omega) (by omega) (by omega) (by omega) hP hS (lv_sub hl [3, 4, 5, 6, 7, 2, 1, 0] rfl)
                          · refine lv_goto (tgt := 193) hx hb dX11_begin_164 (by decide) ?_
                            refine lv_iinc (v := iI (x7 + 1)) (lv' := [(7, .int (iI (x7 + 1))), (0, .ref (ad 0)), (1, .int (iI a1)), (2, .int (iI a2)), (3, .int (iI a3)), (4, .int (iI z_10)), (5, .int (iI x5)), (6, .int (iI x6))]) hx hb dX11_begin_193 hl (k := 7) rfl (by show iI _ + iI 1 = _; rw [iI_add]) (by decide) rfl (fun ls hl => ?_)
                            refine lv_goto (tgt := 108) hx hb dX11_begin_196 (by decide) ?_
                            exact ih_108 x5 x6 (x7 + 1) _ _ _ (by omega) (by omega) (by omega) (by omega) hP hS (lv_sub hl [1, 2, 3, 4, 5, 6, 7, 0] rfl)
              exact L_16 301 0 0 0 _ _ _ (by omega) (by omega) (by omega) (by omega) hP hS (lv_sub hl [4, 5, 6, 7, 3, 2, 1, 0] rfl)
            · refine lv_aload_n hx hb dX11_begin_93 rfl (lv_at hl 1 rfl) ?_
              refine lv_iconst (v := iI 5) hx hb dX11_begin_94 rfl ?_
              refine g_cv (As := [.int (iI 5)]) (rest := []) (n := 1) C hml (m_X11_refuse l D k A ad hD (va_up (va_up (va_up (va_up v 0 0) 1 0) 24 w24_10) 25 (v 25)) (va_up (va_up (va_up (va_up (va_up (va_up (va_up (va_up f 20 (f 20)) 24 (f 24)) 25 (f 25)) 26 (f 26)) 27 (f 27)) 28 a28_10) 29 (f 29)) 30 a30_10) g 5 (by decide) (show 0 ≤ (5 : Int) ∧ (5 : Int) ≤ 10 from by omega)) mM_X11_295 mI_X11_refuse mE_X11_refuse mN_X11 mC_X11_refuse (by decide +kernel) 0 (ci := 11) rfl rfl hP hS (fun _ h => h) ⟨Nat.le_of_ble_eq_true rfl, Nat.le_of_ble_eq_true rfl⟩ ⟨Nat.zero_le _, Nat.zero_le _⟩ hl.1 rfl rfl (Nat.le_of_ble_eq_true rfl) dX11_begin_95 (fun r_45 v_45 f_45 g_45 H locs hq_45 hP _ hS => ?_)
              obtain ⟨rfl, rfl, rfl, rfl⟩ := hq_45
              show W p l e (gRm 2 56) s m args below meth c _ _ 0 0 Q (F0 m 98 ls [.int (iI (-1))])
              have hP : gWd D (mdT k ad) (va_up (va_up (va_up (va_up v 0 (5 : Int)) 1 0) 24 w24_10) 25 (v 25)) (va_up (va_up (va_up (va_up (va_up (va_up (va_up (va_up f 20 (f 20)) 24 (f 24)) 25 (f 25)) 26 (f 26)) 27 (f 27)) 28 a28_10) 29 (f 29)) 30 a30_10) g H := ⟨hP.1, (gF_up (V := mdV) (F := mdF) (gF_up (V := mdV) (F := mdF) (gF_up (V := mdV) (F := mdF) (gF_up (V := mdV) (F := mdF) (gF_up (V := mdV) (F := mdF) (gF_up (V := mdV) (F := mdF) (gF_up (V := mdV) (F := mdF) (gF_up (V := mdV) (F := mdF) (gR_up (V := mdV) (F := mdF) (gR_up (V := mdV) (F := mdF) (gR_up (V := mdV) (F := mdF) (gR_up (V := mdV) (F := mdF) ⟨hok.1, hok.2⟩ 0 (hP.2.1 0)) 1 (hP.2.1 1)) 24 (hP.2.1 24)) 25 (hP.2.1 25)) 20 (hP.2.2 20)) 24 (hP.2.2 24)) 25 (hP.2.2 25)) 26 (hP.2.2 26)) 27 (hP.2.2 27)) 28 (hP.2.2 28)) 29 (hP.2.2 29)) 30 (hP.2.2 30))⟩
              exact g_iret hQ C hr hlocks hP hS dX11_begin_98 ⟨(-1), (5 : Int), 0, w24_10, (v 25), (f 20), (f 24), (f 25), (f 26), (f 27), a28_10, (f 29), a30_10, rfl, rfl, rfl, rfl, (by first | omega | (split <;> omega)), (by first | exact hbg | exact cntUp hbg (hbg _ (by omega) (by omega)))⟩
          · refine lv_aload_n hx hb dX11_begin_79 rfl (lv_at hl 1 rfl) ?_
            refine lv_iconst (v := iI 4) hx hb dX11_begin_80 rfl ?_
            refine g_cv (As := [.int (iI 4)]) (rest := []) (n := 1) C hml (m_X11_refuse l D k A ad hD (va_up (va_up (va_up (va_up v 0 0) 1 0) 24 w24_10) 25 (v 25)) (va_up (va_up (va_up (va_up (va_up (va_up (va_up (va_up f 20 (f 20)) 24 (f 24)) 25 (f 25)) 26 (f 26)) 27 (f 27)) 28 a28_10) 29 (f 29)) 30 a30_10) g 4 (by decide) (show 0 ≤ (4 : Int) ∧ (4 : Int) ≤ 10 from by omega)) mM_X11_295 mI_X11_refuse mE_X11_refuse mN_X11 mC_X11_refuse (by decide +kernel) 0 (ci := 11) rfl rfl hP hS (fun _ h => h) ⟨Nat.le_of_ble_eq_true rfl, Nat.le_of_ble_eq_true rfl⟩ ⟨Nat.zero_le _, Nat.zero_le _⟩ hl.1 rfl rfl (Nat.le_of_ble_eq_true rfl) dX11_begin_81 (fun r_46 v_46 f_46 g_46 H locs hq_46 hP _ hS => ?_)
            obtain ⟨rfl, rfl, rfl, rfl⟩ := hq_46
            show W p l e (gRm 2 56) s m args below meth c _ _ 0 0 Q (F0 m 84 ls [.int (iI (-1))])
            have hP : gWd D (mdT k ad) (va_up (va_up (va_up (va_up v 0 (4 : Int)) 1 0) 24 w24_10) 25 (v 25)) (va_up (va_up (va_up (va_up (va_up (va_up (va_up (va_up f 20 (f 20)) 24 (f 24)) 25 (f 25)) 26 (f 26)) 27 (f 27)) 28 a28_10) 29 (f 29)) 30 a30_10) g H := ⟨hP.1, (gF_up (V := mdV) (F := mdF) (gF_up (V := mdV) (F := mdF) (gF_up (V := mdV) (F := mdF) (gF_up (V := mdV) (F := mdF) (gF_up (V := mdV) (F := mdF) (gF_up (V := mdV) (F := mdF) (gF_up (V := mdV) (F := mdF) (gF_up (V := mdV) (F := mdF) (gR_up (V := mdV) (F := mdF) (gR_up (V := mdV) (F := mdF) (gR_up (V := mdV) (F := mdF) (gR_up (V := mdV) (F := mdF) ⟨hok.1, hok.2⟩ 0 (hP.2.1 0)) 1 (hP.2.1 1)) 24 (hP.2.1 24)) 25 (hP.2.1 25)) 20 (hP.2.2 20)) 24 (hP.2.2 24)) 25 (hP.2.2 25)) 26 (hP.2.2 26)) 27 (hP.2.2 27)) 28 (hP.2.2 28)) 29 (hP.2.2 29)) 30 (hP.2.2 30))⟩
            exact g_iret hQ C hr hlocks hP hS dX11_begin_84 ⟨(-1), (4 : Int), 0, w24_10, (v 25), (f 20), (f 24), (f 25), (f 26), (f 27), a28_10, (f 29), a30_10, rfl, rfl, rfl, rfl, (by first | omega | (split <;> omega)), (by first | exact hbg | exact cntUp hbg (hbg _ (by omega) (by omega)))⟩
        · refine lv_aload_n hx hb dX11_begin_55 rfl (lv_at hl 1 rfl) ?_
          refine lv_iload hx hb dX11_begin_56 (lv_at hl 0 rfl) ?_
          refine g_cv (As := [.int (iI z_10)]) (rest := []) (n := 1) C hml (m_X11_refuse l D k A ad hD (va_up (va_up (va_up (va_up v 0 0) 1 0) 24 w24_10) 25 (v 25)) (va_up (va_up (va_up (va_up (va_up (va_up (va_up (va_up f 20 (f 20)) 24 (f 24)) 25 (f 25)) 26 (f 26)) 27 (f 27)) 28 a28_10) 29 (f 29)) 30 a30_10) g z_10 (by omega) (show 0 ≤ z_10 ∧ z_10 ≤ 10 from by omega)) mM_X11_295 mI_X11_refuse mE_X11_refuse mN_X11 mC_X11_refuse (by decide +kernel) 0 (ci := 11) rfl rfl hP hS (fun _ h => h) ⟨Nat.le_of_ble_eq_true rfl, Nat.le_of_ble_eq_true rfl⟩ ⟨Nat.zero_le _, Nat.zero_le _⟩ hl.1 rfl rfl (Nat.le_of_ble_eq_true rfl) dX11_begin_58 (fun r_47 v_47 f_47 g_47 H locs hq_47 hP _ hS => ?_)
          obtain ⟨rfl, rfl, rfl, rfl⟩ := hq_47
          show W p l e (gRm 2 56) s m args below meth c _ _ 0 0 Q (F0 m 61 ls [.int (iI (-1))])
          have hP : gWd D (mdT k ad) (va_up (va_up (va_up (va_up v 0 z_10) 1 0) 24 w24_10) 25 (v 25)) (va_up (va_up (va_up (va_up (va_up (va_up (va_up (va_up f 20 (f 20)) 24 (f 24)) 25 (f 25)) 26 (f 26)) 27 (f 27)) 28 a28_10) 29 (f 29)) 30 a30_10) g H := ⟨hP.1, (gF_up (V := mdV) (F := mdF) (gF_up (V := mdV) (F := mdF) (gF_up (V := mdV) (F := mdF) (gF_up (V := mdV) (F := mdF) (gF_up (V := mdV) (F := mdF) (gF_up (V := mdV) (F := mdF) (gF_up (V := mdV) (F := mdF) (gF_up (V := mdV) (F := mdF) (gR_up (V := mdV) (F := mdF) (gR_up (V := mdV) (F := mdF) (gR_up (V := mdV) (F := mdF) (gR_up (V := mdV) (F := mdF) ⟨hok.1, hok.2⟩ 0 (hP.2.1 0)) 1 (hP.2.1 1)) 24 (hP.2.1 24)) 25 (hP.2.1 25)) 20 (hP.2.2 20)) 24 (hP.2.2 24)) 25 (hP.2.2 25)) 26 (hP.2.2 26)) 27 (hP.2.2 27)) 28 (hP.2.2 28)) 29 (hP.2.2 29)) 30 (hP.2.2 30))⟩
          exact g_iret hQ C hr hlocks hP hS dX11_begin_61 ⟨(-1), z_10, 0, w24_10, (v 25), (f 20), (f 24), (f 25), (f 26), (f 27), a28_10, (f 29), a30_10, rfl, rfl, rfl, rfl, (by first | omega | (split <;> omega)), (by first | exact hbg | exact cntUp hbg (hbg _ (by omega) (by omega)))⟩
      · refine lv_aload_n hx hb dX11_begin_37 rfl (lv_at hl 0 rfl) ?_
        refine lv_iconst (v := iI 1) hx hb dX11_begin_38 rfl ?_
        refine g_cv (As := [.int (iI 1)]) (rest := []) (n := 1) C hml (m_X11_refuse l D k A ad hD (va_up (va_up (va_up (va_up v 0 0) 1 0) 24 (v 24)) 25 (v 25)) (va_up (va_up (va_up (va_up (va_up (va_up (va_up (va_up f 20 (f 20)) 24 (f 24)) 25 (f 25)) 26 (f 26)) 27 (f 27)) 28 (f 28)) 29 (f 29)) 30 (f 30)) g 1 (by decide) (show 0 ≤ (1 : Int) ∧ (1 : Int) ≤ 10 from by omega)) mM_X11_295 mI_X11_refuse mE_X11_refuse mN_X11 mC_X11_refuse (by decide +kernel) 0 (ci := 11) rfl rfl hP hS (fun _ h => h) ⟨Nat.le_of_ble_eq_true rfl, Nat.le_of_ble_eq_true rfl⟩ ⟨Nat.zero_le _, Nat.zero_le _⟩ hl.1 rfl rfl (Nat.le_of_ble_eq_true rfl) dX11_begin_39 (fun r_48 v_48 f_48 g_48 H locs hq_48 hP _ hS => ?_)
        obtain ⟨rfl, rfl, rfl, rfl⟩ := hq_48
        show W p l e (gRm 2 56) s m args below meth c _ _ 0 0 Q (F0 m 42 ls [.int (iI (-1))])
        have hP : gWd D (mdT k ad) (va_up (va_up (va_up (va_up v 0 (1 : Int)) 1 0) 24 (v 24)) 25 (v 25)) (va_up (va_up (va_up (va_up (va_up (va_up (va_up (va_up f 20 (f 20)) 24 (f 24)) 25 (f 25)) 26 (f 26)) 27 (f 27)) 28 (f 28)) 29 (f 29)) 30 (f 30)) g H := ⟨hP.1, (gF_up (V := mdV) (F := mdF) (gF_up (V := mdV) (F := mdF) (gF_up (V := mdV) (F := mdF) (gF_up (V := mdV) (F := mdF) (gF_up (V := mdV) (F := mdF) (gF_up (V := mdV) (F := mdF) (gF_up (V := mdV) (F := mdF) (gF_up (V := mdV) (F := mdF) (gR_up (V := mdV) (F := mdF) (gR_up (V := mdV) (F := mdF) (gR_up (V := mdV) (F := mdF) (gR_up (V := mdV) (F := mdF) ⟨hok.1, hok.2⟩ 0 (hP.2.1 0)) 1 (hP.2.1 1)) 24 (hP.2.1 24)) 25 (hP.2.1 25)) 20 (hP.2.2 20)) 24 (hP.2.2 24)) 25 (hP.2.2 25)) 26 (hP.2.2 26)) 27 (hP.2.2 27)) 28 (hP.2.2 28)) 29 (hP.2.2 29)) 30 (hP.2.2 30))⟩
        exact g_iret hQ C hr hlocks hP hS dX11_begin_42 ⟨(-1), (1 : Int), 0, (v 24), (v 25), (f 20), (f 24), (f 25), (f 26), (f 27), (f 28), (f 29), (f 30), rfl, rfl, rfl, rfl, (by first | omega | (split <;> omega)), (by first | exact hbg | exact cntUp hbg (hbg _ (by omega) (by omega)))⟩

set_option maxHeartbeats 4000000 in
set_option maxRecDepth 100000 in
theorem m_X11_reach (l : Launch) (D : va_G) (k : Nat → ClassId) (A : Nat → Prop) (ad : Nat → Nat) (hD : mdD A k ad) (v : gV) (f g : gF) (a1 : Int) (a2 : Int) (a3 : Int) (h_a1 : inR a1) (h_a2 : inR a2) (h_a3 : inR a3) : GM l D k A (mdT k ad) yX11_reach cX11_reach 7 (some .int) 2 43 [.ref (ad 0), .int (iI a1), .int (iI a2), .int (iI a3)] v f g (fun r v1 f1 g1 => ∃ (z : Int) (w0 : Int) (w1 : Int) (w24 : Int) (a28_ : Int → Int) (a29_ : Int → Int) (a30_ : Int → Int), r = some (.int (iI z)) ∧ (va_up (va_up (va_up v 0 w0) 1 w1) 24 w24) = v1 ∧ (va_up (va_up (va_up f 28 a28_) 29 a29_) 30 a30_) = f1 ∧ g = g1 ∧ ((-1) ≤ z ∧ z ≤ 1)) := by
  refine GM.of (by decide) (Nat.le_of_ble_eq_true rfl) ?_
  intro p e s m args below meth c Q ls hQ C hml hr hlocks hP hl
  have hx := C.1
  have hb := C.2.1
  have hok := hP.2
  have hS : va_S A s.heap s.heap [] := va_S.rf
  have hl : lv_has ls 7 [(0, .ref (ad 0)), (1, .int (iI a1)), (2, .int (iI a2)), (3, .int (iI a3))] := hl
  have hP : gWd D (mdT k ad) (va_up (va_up (va_up v 0 (v 0)) 1 (v 1)) 24 (v 24)) (va_up (va_up (va_up f 28 (f 28)) 29 (f 29)) 30 (f 30)) g s.heap := by rw [va_id, va_id, va_id, va_id, va_id, va_id]; exact hP
  refine lv_aload_n hx hb dX11_reach_0 rfl (lv_at hl 0 rfl) ?_
  refine lv_iconst (v := iI 0) hx hb dX11_reach_1 rfl ?_
  refine mdP_thrown (v1 := (va_up (va_up (va_up v 0 (v 0)) 1 0) 24 (v 24))) C hP hD hS mF_X11_146 (by decide) rfl (Or.inr (gF_up (V := mdV) (F := mdF) (gF_up (V := mdV) (F := mdF) (gF_up (V := mdV) (F := mdF) (gR_up (V := mdV) (F := mdF) (gR_up (V := mdV) (F := mdF) (gR_up (V := mdV) (F := mdF) ⟨hok.1, hok.2⟩ 0 (hP.2.1 0)) 1 (show 0 ≤ 0 ∧ 0 ≤ 0 from by decide)) 24 (hP.2.1 24)) 28 (hP.2.2 28)) 29 (hP.2.2 29)) 30 (hP.2.2 30))) dX11_reach_2 (fun H locs hP hS => ?_)
  refine lv_aload_n hx hb dX11_reach_5 rfl (lv_at hl 0 rfl) ?_
  refine lv_iconst (v := iI 0) hx hb dX11_reach_6 rfl ?_
  refine mdP_status (v1 := (va_up (va_up (va_up v 0 0) 1 0) 24 (v 24))) C hP hD hS mF_X11_149 (by decide) rfl (Or.inr (gF_up (V := mdV) (F := mdF) (gF_up (V := mdV) (F := mdF) (gF_up (V := mdV) (F := mdF) (gR_up (V := mdV) (F := mdF) (gR_up (V := mdV) (F := mdF) (gR_up (V := mdV) (F := mdF) ⟨hok.1, hok.2⟩ 0 (show 0 ≤ 0 ∧ 0 ≤ 10 from by decide)) 1 (hP.2.1 1)) 24 (hP.2.1 24)) 28 (hP.2.2 28)) 29 (hP.2.2 29)) 30 (hP.2.2 30))) dX11_reach_7 (fun H locs hP hS => ?_)
  refine lv_aload_n hx hb dX11_reach_10 rfl (lv_at hl 0 rfl) ?_
  refine lv_iload_n hx hb dX11_reach_11 rfl (lv_at hl 1 rfl) ?_
  refine g_cv (As := [.int (iI a1)]) (rest := []) (n := 1) C hml (m_X11_isClimber l D k A ad hD (va_up (va_up (va_up v 0 0) 1 0) 24 (v 24)) (va_up (va_up (va_up f 28 (f 28)) 29 (f 29)) 30 (f 30)) g a1 (by omega)) mM_X11_349 mI_X11_isClimber mE_X11_isClimber mN_X11 mC_X11_isClimber (by decide +kernel) 0 (ci := 11) rfl rfl hP hS (fun _ h => h) ⟨Nat.le_of_ble_eq_true rfl, Nat.le_of_ble_eq_true rfl⟩ ⟨Nat.zero_le _, Nat.zero_le _⟩ hl.1 rfl rfl (Nat.le_of_ble_eq_true rfl) dX11_reach_12 (fun r_1 v_1 f_1 g_1 H locs hq_1 hP _ hS => ?_)
  obtain ⟨z_1, rfl, rfl, rfl, rfl, p0_1, p1_1⟩ := hq_1
  show W p l e (gRm 2 43) s m args below meth c _ _ 0 0 Q (F0 m 15 ls [.int (iI z_1)])
  replace p0_1 : z_1 = (if 0 ≤ a1 ∧ a1 < (v 22) then 1 else 0) := p0_1
  have w_1 := gif (P := 0 ≤ a1 ∧ a1 < (v 22)) p0_1
  replace p1_1 : z_1 = 1 → 0 ≤ a1 ∧ a1 ≤ 15 := p1_1
  have hz_1 : inR z_1 := (by first | omega | (rw [p0_1]; split <;> omega))
  refine gi_zne (tgt := 24) hx hb dX11_reach_15 (by decide) (by omega) (fun c_2 => ?_) (fun c_2 => ?_)
  · refine lv_iload_n hx hb dX11_reach_24 rfl (lv_at hl 2 rfl) ?_
    refine lv_iconst (v := iI 1) hx hb dX11_reach_25 rfl ?_
    refine gi_clt (tgt := 35) hx hb dX11_reach_26 (by decide) (by omega) (by decide) (fun c_3 => ?_) (fun c_3 => ?_)
    · refine lv_aload_n hx hb dX11_reach_35 rfl (lv_at hl 0 rfl) ?_
      refine lv_iconst (v := iI 2) hx hb dX11_reach_36 rfl ?_
      refine g_cv (As := [.int (iI 2)]) (rest := []) (n := 1) C hml (m_X11_refuse l D k A ad hD (va_up (va_up (va_up v 0 0) 1 0) 24 (v 24)) (va_up (va_up (va_up f 28 (f 28)) 29 (f 29)) 30 (f 30)) g 2 (by decide) (show 0 ≤ (2 : Int) ∧ (2 : Int) ≤ 10 from by omega)) mM_X11_295 mI_X11_refuse mE_X11_refuse mN_X11 mC_X11_refuse (by decide +kernel) 0 (ci := 11) rfl rfl hP hS (fun _ h => h) ⟨Nat.le_of_ble_eq_true rfl, Nat.le_of_ble_eq_true rfl⟩ ⟨Nat.zero_le _, Nat.zero_le _⟩ hl.1 rfl rfl (Nat.le_of_ble_eq_true rfl) dX11_reach_37 (fun r_4 v_4 f_4 g_4 H locs hq_4 hP _ hS => ?_)
      obtain ⟨rfl, rfl, rfl, rfl⟩ := hq_4
      show W p l e (gRm 2 43) s m args below meth c _ _ 0 0 Q (F0 m 40 ls [.int (iI (-1))])
      have hP : gWd D (mdT k ad) (va_up (va_up (va_up v 0 (2 : Int)) 1 0) 24 (v 24)) (va_up (va_up (va_up f 28 (f 28)) 29 (f 29)) 30 (f 30)) g H := ⟨hP.1, (gF_up (V := mdV) (F := mdF) (gF_up (V := mdV) (F := mdF) (gF_up (V := mdV) (F := mdF) (gR_up (V := mdV) (F := mdF) (gR_up (V := mdV) (F := mdF) (gR_up (V := mdV) (F := mdF) ⟨hok.1, hok.2⟩ 0 (hP.2.1 0)) 1 (hP.2.1 1)) 24 (hP.2.1 24)) 28 (hP.2.2 28)) 29 (hP.2.2 29)) 30 (hP.2.2 30))⟩
      exact g_iret hQ C hr hlocks hP hS dX11_reach_40 ⟨(-1), (2 : Int), 0, (v 24), (f 28), (f 29), (f 30), rfl, rfl, rfl, rfl, (by first | omega | (split <;> omega))⟩
    · refine lv_iload_n hx hb dX11_reach_29 rfl (lv_at hl 2 rfl) ?_
      refine lv_bipush (v := iI 60) hx hb dX11_reach_30 (by decide) ?_
      refine gi_cle (tgt := 41) hx hb dX11_reach_32 (by decide) (by omega) (by decide) (fun c_5 => ?_) (fun c_5 => ?_)
      · refine lv_aload_n hx hb dX11_reach_41 rfl (lv_at hl 0 rfl) ?_
        refine lv_iload_n hx hb dX11_reach_42 rfl (lv_at hl 3 rfl) ?_
        refine g_cv (As := [.int (iI a3)]) (rest := []) (n := 1) C hml (m_X11_clocked l D k A ad hD (va_up (va_up (va_up v 0 0) 1 0) 24 (v 24)) (va_up (va_up (va_up f 28 (f 28)) 29 (f 29)) 30 (f 30)) g a3 (by omega)) mM_X11_352 mI_X11_clocked mE_X11_clocked mN_X11 mC_X11_clocked (by decide +kernel) 0 (ci := 11) rfl rfl hP hS (fun _ h => h) ⟨Nat.le_of_ble_eq_true rfl, Nat.le_of_ble_eq_true rfl⟩ ⟨Nat.zero_le _, Nat.zero_le _⟩ hl.1 rfl rfl (Nat.le_of_ble_eq_true rfl) dX11_reach_43 (fun r_6 v_6 f_6 g_6 H locs hq_6 hP _ hS => ?_)
        obtain ⟨z_6, w24_6, a28_6, a30_6, rfl, rfl, rfl, rfl, p0_6, p1_6⟩ := hq_6
        show W p l e (gRm 2 43) s m args below meth c _ _ 0 0 Q (F0 m 46 ls [.int (iI z_6)])
        have hP : gWd D (mdT k ad) (va_up (va_up (va_up v 0 0) 1 0) 24 w24_6) (va_up (va_up (va_up f 28 a28_6) 29 (f 29)) 30 a30_6) g H := ⟨hP.1, (gF_up (V := mdV) (F := mdF) (gF_up (V := mdV) (F := mdF) (gF_up (V := mdV) (F := mdF) (gR_up (V := mdV) (F := mdF) (gR_up (V := mdV) (F := mdF) (gR_up (V := mdV) (F := mdF) ⟨hok.1, hok.2⟩ 0 (hP.2.1 0)) 1 (hP.2.1 1)) 24 (hP.2.1 24)) 28 (hP.2.2 28)) 29 (hP.2.2 29)) 30 (hP.2.2 30))⟩
        replace p0_6 : 0 ≤ z_6 ∧ z_6 ≤ 9 := p0_6
        replace p1_6 : z_6 = 0 → 0 ≤ a3 ∧ a3 ≤ 1000000 := p1_6
        have rw24_6 : 0 ≤ w24_6 ∧ w24_6 ≤ 1000000 := hP.2.1 24
        refine lv_istore (lv' := [(4, .int (iI z_6)), (0, .ref (ad 0)), (1, .int (iI a1)), (2, .int (iI a2)), (3, .int (iI a3))]) hx hb dX11_reach_46 hl (by decide) rfl (fun ls hl => ?_)
        refine lv_iload hx hb dX11_reach_48 (lv_at hl 0 rfl) ?_
        refine gi_zle (tgt := 60) hx hb dX11_reach_50 (by decide) (by omega) (fun c_7 => ?_) (fun c_7 => ?_)
        · refine lv_aload_n hx hb dX11_reach_60 rfl (lv_at hl 1 rfl) ?_
          refine lv_iload_n hx hb dX11_reach_61 rfl (lv_at hl 2 rfl) ?_
          refine g_cv (As := [.int (iI a1)]) (rest := []) (n := 1) C hml (m_X11_openTry l D k A ad hD (va_up (va_up (va_up v 0 0) 1 0) 24 w24_6) (va_up (va_up (va_up f 28 a28_6) 29 (f 29)) 30 a30_6) g a1 (by omega)) mM_X11_355 mI_X11_openTry mE_X11_openTry mN_X11 mC_X11_openTry (by decide +kernel) 0 (ci := 11) rfl rfl hP hS (fun _ h => h) ⟨Nat.le_of_ble_eq_true rfl, Nat.le_of_ble_eq_true rfl⟩ ⟨Nat.zero_le _, Nat.zero_le _⟩ hl.1 rfl rfl (Nat.le_of_ble_eq_true rfl) dX11_reach_62 (fun r_8 v_8 f_8 g_8 H locs hq_8 hP _ hS => ?_)
          obtain ⟨z_8, rfl, rfl, rfl, rfl, p0_8⟩ := hq_8
          show W p l e (gRm 2 43) s m args below meth c _ _ 0 0 Q (F0 m 65 ls [.int (iI z_8)])
          replace p0_8 : (-1) ≤ z_8 ∧ z_8 ≤ 299 := p0_8
          refine lv_istore (lv' := [(5, .int (iI z_8)), (4, .int (iI z_6)), (0, .ref (ad 0)), (1, .int (iI a1)), (2, .int (iI a2)), (3, .int (iI a3))]) hx hb dX11_reach_65 hl (by decide) rfl (fun ls hl => ?_)
          refine lv_iload hx hb dX11_reach_67 (lv_at hl 0 rfl) ?_
          refine gi_zge (tgt := 78) hx hb dX11_reach_69 (by decide) (by omega) (fun c_9 => ?_) (fun c_9 => ?_)
          · refine lv_aload_n hx hb dX11_reach_78 rfl (lv_at hl 2 rfl) ?_
            refine mdG_holds C hP mF_X11_73 dX11_reach_79 ?_
            refine lv_aload_n hx hb dX11_reach_82 rfl (lv_at hl 2 rfl) ?_
            refine mdG_where C hP mF_X11_97 dX11_reach_83 ?_
            refine lv_iload hx hb dX11_reach_86 (lv_at hl 0 rfl) ?_
            refine mdL_where C hP (by omega) (by omega) dX11_reach_88 ?_
            show W p l e (gRm 2 43) s m args below meth c _ _ 0 0 Q (F0 m 89 ls [.int (iI (f 25 z_8)), .ref (ad 19)])
            have r_10 : 0 ≤ (f 25 z_8) ∧ (f 25 z_8) ≤ 3 := hP.2.2 25 z_8
            refine lv_aload_n hx hb dX11_reach_89 rfl (lv_at hl 2 rfl) ?_
            refine mdG_which C hP mF_X11_100 dX11_reach_90 ?_
            refine lv_iload hx hb dX11_reach_93 (lv_at hl 0 rfl) ?_
            refine mdL_which C hP (by omega) (by omega) dX11_reach_95 ?_
            show W p l e (gRm 2 43) s m args below meth c _ _ 0 0 Q (F0 m 96 ls [.int (iI (f 26 z_8)), .int (iI (f 25 z_8)), .ref (ad 19)])
            have r_11 : 0 ≤ (f 26 z_8) ∧ (f 26 z_8) ≤ 4 := hP.2.2 26 z_8
            refine g_cs (As := [.int (iI (f 25 z_8)), .int (iI (f 26 z_8))]) (rest := [.ref (ad 19)]) (n := 2) C hml (m_X11_at l D k A ad hD (va_up (va_up (va_up v 0 0) 1 0) 24 w24_6) (va_up (va_up (va_up f 28 a28_6) 29 (f 29)) 30 a30_6) g (f 25 z_8) (f 26 z_8) (by omega) (by omega) (show 0 ≤ (f 25 z_8) ∧ (f 25 z_8) ≤ 3 from by omega) (show 0 ≤ (f 26 z_8) ∧ (f 26 z_8) ≤ 4 from by omega)) mM_X11_335 mS_X11_at mN_X11 mC_X11_at (by decide +kernel) hP hS (fun _ h => h) ⟨Nat.le_of_ble_eq_true rfl, Nat.le_of_ble_eq_true rfl⟩ ⟨Nat.zero_le _, Nat.zero_le _⟩ hl.1 rfl rfl (Nat.le_of_ble_eq_true rfl) dX11_reach_96 (fun r_12 v_12 f_12 g_12 H locs hq_12 hP _ hS => ?_)
            obtain ⟨z_12, rfl, rfl, rfl, rfl, p0_12⟩ := hq_12
            show W p l e (gRm 2 43) s m args below meth c _ _ 0 0 Q (F0 m 99 ls [.int (iI z_12), .ref (ad 19)])
            replace p0_12 : z_12 = (5 * (f 25 z_8) + (f 26 z_8)) := p0_12
            have hz_12 : inR z_12 := (by first | omega | (rw [p0_12]; split <;> omega))
            refine mdL_holds C hP (by omega) (by omega) dX11_reach_99 ?_
            show W p l e (gRm 2 43) s m args below meth c _ _ 0 0 Q (F0 m 100 ls [.int (iI (f 18 z_12))])
            have r_13 : 0 ≤ (f 18 z_12) ∧ (f 18 z_12) ≤ 60 := hP.2.2 18 z_12
            refine lv_istore (lv' := [(6, .int (iI (f 18 z_12))), (5, .int (iI z_8)), (4, .int (iI z_6)), (0, .ref (ad 0)), (1, .int (iI a1)), (2, .int (iI a2)), (3, .int (iI a3))]) hx hb dX11_reach_100 hl (by decide) rfl (fun ls hl => ?_)
            refine lv_iload_n hx hb dX11_reach_102 rfl (lv_at hl 5 rfl) ?_
            refine lv_aload_n hx hb dX11_reach_103 rfl (lv_at hl 3 rfl) ?_
            refine mdG_hold C hP mF_X11_109 dX11_reach_104 ?_
            refine lv_iload hx hb dX11_reach_107 (lv_at hl 1 rfl) ?_
            refine mdL_hold C hP (by omega) (by omega) dX11_reach_109 ?_
            show W p l e (gRm 2 43) s m args below meth c _ _ 0 0 Q (F0 m 110 ls [.int (iI (f 29 z_8)), .int (iI a2)])
            have r_14 : 0 ≤ (f 29 z_8) ∧ (f 29 z_8) ≤ 60 := hP.2.2 29 z_8
            refine gi_cle (tgt := 119) hx hb dX11_reach_110 (by decide) (by omega) (by omega) (fun c_15 => ?_) (fun c_15 => ?_)
            · refine lv_aload_n hx hb dX11_reach_119 rfl (lv_at hl 3 rfl) ?_
              refine lv_bipush (v := iI 10) hx hb dX11_reach_120 (by decide) ?_
              refine g_cv (As := [.int (iI 10)]) (rest := []) (n := 1) C hml (m_X11_refuse l D k A ad hD (va_up (va_up (va_up v 0 0) 1 0) 24 w24_6) (va_up (va_up (va_up f 28 a28_6) 29 (f 29)) 30 a30_6) g 10 (by decide) (show 0 ≤ (10 : Int) ∧ (10 : Int) ≤ 10 from by omega)) mM_X11_295 mI_X11_refuse mE_X11_refuse mN_X11 mC_X11_refuse (by decide +kernel) 0 (ci := 11) rfl rfl hP hS (fun _ h => h) ⟨Nat.le_of_ble_eq_true rfl, Nat.le_of_ble_eq_true rfl⟩ ⟨Nat.zero_le _, Nat.zero_le _⟩ hl.1 rfl rfl (Nat.le_of_ble_eq_true rfl) dX11_reach_122 (fun r_16 v_16 f_16 g_16 H locs hq_16 hP _ hS => ?_)
              obtain ⟨rfl, rfl, rfl, rfl⟩ := hq_16
              show W p l e (gRm 2 43) s m args below meth c _ _ 0 0 Q (F0 m 125 ls [.int (iI (-1))])
              have hP : gWd D (mdT k ad) (va_up (va_up (va_up v 0 (10 : Int)) 1 0) 24 w24_6) (va_up (va_up (va_up f 28 a28_6) 29 (f 29)) 30 a30_6) g H := ⟨hP.1, (gF_up (V := mdV) (F := mdF) (gF_up (V := mdV) (F := mdF) (gF_up (V := mdV) (F := mdF) (gR_up (V := mdV) (F := mdF) (gR_up (V := mdV) (F := mdF) (gR_up (V := mdV) (F := mdF) ⟨hok.1, hok.2⟩ 0 (hP.2.1 0)) 1 (hP.2.1 1)) 24 (hP.2.1 24)) 28 (hP.2.2 28)) 29 (hP.2.2 29)) 30 (hP.2.2 30))⟩
              exact g_iret hQ C hr hlocks hP hS dX11_reach_125 ⟨(-1), (10 : Int), 0, w24_6, a28_6, (f 29), a30_6, rfl, rfl, rfl, rfl, (by first | omega | (split <;> omega))⟩
            · refine lv_iload_n hx hb dX11_reach_113 rfl (lv_at hl 5 rfl) ?_
              refine lv_iload hx hb dX11_reach_114 (lv_at hl 0 rfl) ?_
              refine gi_cle (tgt := 126) hx hb dX11_reach_116 (by decide) (by omega) (by omega) (fun c_17 => ?_) (fun c_17 => ?_)
              · refine lv_aload_n hx hb dX11_reach_126 rfl (lv_at hl 3 rfl) ?_
                refine mdG_hold C hP mF_X11_109 dX11_reach_127 ?_
                refine lv_iload hx hb dX11_reach_130 (lv_at hl 1 rfl) ?_
                refine lv_iload_n hx hb dX11_reach_132 rfl (lv_at hl 5 rfl) ?_
                refine mdS_hold (f1 := (va_up (va_up (va_up f 28 a28_6) 29 (u1 (f 29) z_8 a2)) 30 a30_6)) C hP hD hS (by omega) (by omega) (by omega) rfl (Or.inr (gF_up (V := mdV) (F := mdF) (gF_up (V := mdV) (F := mdF) (gF_up (V := mdV) (F := mdF) (gR_up (V := mdV) (F := mdF) (gR_up (V := mdV) (F := mdF) (gR_up (V := mdV) (F := mdF) ⟨hok.1, hok.2⟩ 0 (hP.2.1 0)) 1 (hP.2.1 1)) 24 (hP.2.1 24)) 28 (hP.2.2 28)) 29 (u1_rng (hP.2.2 29) (show 0 ≤ a2 ∧ a2 ≤ 60 from (by omega)))) 30 (hP.2.2 30))) dX11_reach_133 (fun H locs hP hS => ?_)
                refine lv_iload_n hx hb dX11_reach_134 rfl (lv_at hl 5 rfl) ?_
                refine lv_iload hx hb dX11_reach_135 (lv_at hl 0 rfl) ?_
                refine gi_cge (tgt := 142) hx hb dX11_reach_137 (by decide) (by omega) (by omega) (fun c_18 => ?_) (fun c_18 => ?_)
                · refine lv_aload_n hx hb dX11_reach_142 rfl (lv_at hl 3 rfl) ?_
                  refine mdG_how C hP mF_X11_112 dX11_reach_143 ?_
                  refine lv_iload hx hb dX11_reach_146 (lv_at hl 1 rfl) ?_
                  refine lv_iconst (v := iI 1) hx hb dX11_reach_148 rfl ?_
                  refine mdS_how (f1 := (va_up (va_up (va_up f 28 a28_6) 29 (u1 (f 29) z_8 a2)) 30 (u1 a30_6 z_8 1))) C hP hD hS (by omega) (by omega) (by decide) rfl (Or.inr (gF_up (V := mdV) (F := mdF) (gF_up (V := mdV) (F := mdF) (gF_up (V := mdV) (F := mdF) (gR_up (V := mdV) (F := mdF) (gR_up (V := mdV) (F := mdF) (gR_up (V := mdV) (F := mdF) ⟨hok.1, hok.2⟩ 0 (hP.2.1 0)) 1 (hP.2.1 1)) 24 (hP.2.1 24)) 28 (hP.2.2 28)) 29 (hP.2.2 29)) 30 (u1_rng (hP.2.2 30) (show 0 ≤ 1 ∧ 1 ≤ 4 from (by decide))))) dX11_reach_149 (fun H locs hP hS => ?_)
                  refine lv_aload_n hx hb dX11_reach_150 rfl (lv_at hl 3 rfl) ?_
                  refine mdG_to C hP mF_X11_106 dX11_reach_151 ?_
                  refine lv_iload hx hb dX11_reach_154 (lv_at hl 1 rfl) ?_
                  refine lv_iload_n hx hb dX11_reach_156 rfl (lv_at hl 6 rfl) ?_
                  refine mdS_to (f1 := (va_up (va_up (va_up f 28 (u1 a28_6 z_8 a3)) 29 (u1 (f 29) z_8 a2)) 30 (u1 a30_6 z_8 1))) C hP hD hS (by omega) (by omega) (by omega) rfl (Or.inr (gF_up (V := mdV) (F := mdF) (gF_up (V := mdV) (F := mdF) (gF_up (V := mdV) (F := mdF) (gR_up (V := mdV) (F := mdF) (gR_up (V := mdV) (F := mdF) (gR_up (V := mdV) (F := mdF) ⟨hok.1, hok.2⟩ 0 (hP.2.1 0)) 1 (hP.2.1 1)) 24 (hP.2.1 24)) 28 (u1_rng (hP.2.2 28) (show (-1) ≤ a3 ∧ a3 ≤ 1000999 from (by omega)))) 29 (hP.2.2 29)) 30 (hP.2.2 30))) dX11_reach_157 (fun H locs hP hS => ?_)
                  refine lv_iconst (v := iI 1) hx hb dX11_reach_158 rfl ?_
                  exact g_iret hQ C hr hlocks hP hS dX11_reach_159 ⟨1, 0, 0, w24_6, (u1 a28_6 z_8 a3), (u1 (f 29) z_8 a2), (u1 a30_6 z_8 1), rfl, rfl, rfl, rfl, (by first | omega | (split <;> omega))⟩
                · refine lv_iconst (v := iI 0) hx hb dX11_reach_140 rfl ?_
                  exact g_iret hQ C hr hlocks hP hS dX11_reach_141 ⟨0, 0, 0, w24_6, a28_6, (u1 (f 29) z_8 a2), a30_6, rfl, rfl, rfl, rfl, (by first | omega | (split <;> omega))⟩
              · refine lv_aload_n hx hb dX11_reach_119 rfl (lv_at hl 3 rfl) ?_
                refine lv_bipush (v := iI 10) hx hb dX11_reach_120 (by decide) ?_
                refine g_cv (As := [.int (iI 10)]) (rest := []) (n := 1) C hml (m_X11_refuse l D k A ad hD (va_up (va_up (va_up v 0 0) 1 0) 24 w24_6) (va_up (va_up (va_up f 28 a28_6) 29 (f 29)) 30 a30_6) g 10 (by decide) (show 0 ≤ (10 : Int) ∧ (10 : Int) ≤ 10 from by omega)) mM_X11_295 mI_X11_refuse mE_X11_refuse mN_X11 mC_X11_refuse (by decide +kernel) 0 (ci := 11) rfl rfl hP hS (fun _ h => h) ⟨Nat.le_of_ble_eq_true rfl, Nat.le_of_ble_eq_true rfl⟩ ⟨Nat.zero_le _, Nat.zero_le _⟩ hl.1 rfl rfl (Nat.le_of_ble_eq_true rfl) dX11_reach_122 (fun r_19 v_19 f_19 g_19 H locs hq_19 hP _ hS => ?_)
                obtain ⟨rfl, rfl, rfl, rfl⟩ := hq_19
                show W p l e (gRm 2 43) s m args below meth c _ _ 0 0 Q (F0 m 125 ls [.int (iI (-1))])
                have hP : gWd D (mdT k ad) (va_up (va_up (va_up v 0 (10 : Int)) 1 0) 24 w24_6) (va_up (va_up (va_up f 28 a28_6) 29 (f 29)) 30 a30_6) g H := ⟨hP.1, (gF_up (V := mdV) (F := mdF) (gF_up (V := mdV) (F := mdF) (gF_up (V := mdV) (F := mdF) (gR_up (V := mdV) (F := mdF) (gR_up (V := mdV) (F := mdF) (gR_up (V := mdV) (F := mdF) ⟨hok.1, hok.2⟩ 0 (hP.2.1 0)) 1 (hP.2.1 1)) 24 (hP.2.1 24)) 28 (hP.2.2 28)) 29 (hP.2.2 29)) 30 (hP.2.2 30))⟩
                exact g_iret hQ C hr hlocks hP hS dX11_reach_125 ⟨(-1), (10 : Int), 0, w24_6, a28_6, (f 29), a30_6, rfl, rfl, rfl, rfl, (by first | omega | (split <;> omega))⟩
          · refine lv_aload_n hx hb dX11_reach_72 rfl (lv_at hl 2 rfl) ?_
            refine lv_iconst (v := iI 5) hx hb dX11_reach_73 rfl ?_
            refine g_cv (As := [.int (iI 5)]) (rest := []) (n := 1) C hml (m_X11_refuse l D k A ad hD (va_up (va_up (va_up v 0 0) 1 0) 24 w24_6) (va_up (va_up (va_up f 28 a28_6) 29 (f 29)) 30 a30_6) g 5 (by decide) (show 0 ≤ (5 : Int) ∧ (5 : Int) ≤ 10 from by omega)) mM_X11_295 mI_X11_refuse mE_X11_refuse mN_X11 mC_X11_refuse (by decide +kernel) 0 (ci := 11) rfl rfl hP hS (fun _ h => h) ⟨Nat.le_of_ble_eq_true rfl, Nat.le_of_ble_eq_true rfl⟩ ⟨Nat.zero_le _, Nat.zero_le _⟩ hl.1 rfl rfl (Nat.le_of_ble_eq_true rfl) dX11_reach_74 (fun r_20 v_20 f_20 g_20 H locs hq_20 hP _ hS => ?_)
            obtain ⟨rfl, rfl, rfl, rfl⟩ := hq_20
            show W p l e (gRm 2 43) s m args below meth c _ _ 0 0 Q (F0 m 77 ls [.int (iI (-1))])
            have hP : gWd D (mdT k ad) (va_up (va_up (va_up v 0 (5 : Int)) 1 0) 24 w24_6) (va_up (va_up (va_up f 28 a28_6) 29 (f 29)) 30 a30_6) g H := ⟨hP.1, (gF_up (V := mdV) (F := mdF) (gF_up (V := mdV) (F := mdF) (gF_up (V := mdV) (F := mdF) (gR_up (V := mdV) (F := mdF) (gR_up (V := mdV) (F := mdF) (gR_up (V := mdV) (F := mdF) ⟨hok.1, hok.2⟩ 0 (hP.2.1 0)) 1 (hP.2.1 1)) 24 (hP.2.1 24)) 28 (hP.2.2 28)) 29 (hP.2.2 29)) 30 (hP.2.2 30))⟩
            exact g_iret hQ C hr hlocks hP hS dX11_reach_77 ⟨(-1), (5 : Int), 0, w24_6, a28_6, (f 29), a30_6, rfl, rfl, rfl, rfl, (by first | omega | (split <;> omega))⟩
        · refine lv_aload_n hx hb dX11_reach_53 rfl (lv_at hl 1 rfl) ?_
          refine lv_iload hx hb dX11_reach_54 (lv_at hl 0 rfl) ?_
          refine g_cv (As := [.int (iI z_6)]) (rest := []) (n := 1) C hml (m_X11_refuse l D k A ad hD (va_up (va_up (va_up v 0 0) 1 0) 24 w24_6) (va_up (va_up (va_up f 28 a28_6) 29 (f 29)) 30 a30_6) g z_6 (by omega) (show 0 ≤ z_6 ∧ z_6 ≤ 10 from by omega)) mM_X11_295 mI_X11_refuse mE_X11_refuse mN_X11 mC_X11_refuse (by decide +kernel) 0 (ci := 11) rfl rfl hP hS (fun _ h => h) ⟨Nat.le_of_ble_eq_true rfl, Nat.le_of_ble_eq_true rfl⟩ ⟨Nat.zero_le _, Nat.zero_le _⟩ hl.1 rfl rfl (Nat.le_of_ble_eq_true rfl) dX11_reach_56 (fun r_21 v_21 f_21 g_21 H locs hq_21 hP _ hS => ?_)
          obtain ⟨rfl, rfl, rfl, rfl⟩ := hq_21
          show W p l e (gRm 2 43) s m args below meth c _ _ 0 0 Q (F0 m 59 ls [.int (iI (-1))])
          have hP : gWd D (mdT k ad) (va_up (va_up (va_up v 0 z_6) 1 0) 24 w24_6) (va_up (va_up (va_up f 28 a28_6) 29 (f 29)) 30 a30_6) g H := ⟨hP.1, (gF_up (V := mdV) (F := mdF) (gF_up (V := mdV) (F := mdF) (gF_up (V := mdV) (F := mdF) (gR_up (V := mdV) (F := mdF) (gR_up (V := mdV) (F := mdF) (gR_up (V := mdV) (F := mdF) ⟨hok.1, hok.2⟩ 0 (hP.2.1 0)) 1 (hP.2.1 1)) 24 (hP.2.1 24)) 28 (hP.2.2 28)) 29 (hP.2.2 29)) 30 (hP.2.2 30))⟩
          exact g_iret hQ C hr hlocks hP hS dX11_reach_59 ⟨(-1), z_6, 0, w24_6, a28_6, (f 29), a30_6, rfl, rfl, rfl, rfl, (by first | omega | (split <;> omega))⟩
      · refine lv_aload_n hx hb dX11_reach_35 rfl (lv_at hl 0 rfl) ?_
        refine lv_iconst (v := iI 2) hx hb dX11_reach_36 rfl ?_
        refine g_cv (As := [.int (iI 2)]) (rest := []) (n := 1) C hml (m_X11_refuse l D k A ad hD (va_up (va_up (va_up v 0 0) 1 0) 24 (v 24)) (va_up (va_up (va_up f 28 (f 28)) 29 (f 29)) 30 (f 30)) g 2 (by decide) (show 0 ≤ (2 : Int) ∧ (2 : Int) ≤ 10 from by omega)) mM_X11_295 mI_X11_refuse mE_X11_refuse mN_X11 mC_X11_refuse (by decide +kernel) 0 (ci := 11) rfl rfl hP hS (fun _ h => h) ⟨Nat.le_of_ble_eq_true rfl, Nat.le_of_ble_eq_true rfl⟩ ⟨Nat.zero_le _, Nat.zero_le _⟩ hl.1 rfl rfl (Nat.le_of_ble_eq_true rfl) dX11_reach_37 (fun r_22 v_22 f_22 g_22 H locs hq_22 hP _ hS => ?_)
        obtain ⟨rfl, rfl, rfl, rfl⟩ := hq_22
        show W p l e (gRm 2 43) s m args below meth c _ _ 0 0 Q (F0 m 40 ls [.int (iI (-1))])
        have hP : gWd D (mdT k ad) (va_up (va_up (va_up v 0 (2 : Int)) 1 0) 24 (v 24)) (va_up (va_up (va_up f 28 (f 28)) 29 (f 29)) 30 (f 30)) g H := ⟨hP.1, (gF_up (V := mdV) (F := mdF) (gF_up (V := mdV) (F := mdF) (gF_up (V := mdV) (F := mdF) (gR_up (V := mdV) (F := mdF) (gR_up (V := mdV) (F := mdF) (gR_up (V := mdV) (F := mdF) ⟨hok.1, hok.2⟩ 0 (hP.2.1 0)) 1 (hP.2.1 1)) 24 (hP.2.1 24)) 28 (hP.2.2 28)) 29 (hP.2.2 29)) 30 (hP.2.2 30))⟩
        exact g_iret hQ C hr hlocks hP hS dX11_reach_40 ⟨(-1), (2 : Int), 0, (v 24), (f 28), (f 29), (f 30), rfl, rfl, rfl, rfl, (by first | omega | (split <;> omega))⟩
  · refine lv_aload_n hx hb dX11_reach_18 rfl (lv_at hl 0 rfl) ?_
    refine lv_iconst (v := iI 1) hx hb dX11_reach_19 rfl ?_
    refine g_cv (As := [.int (iI 1)]) (rest := []) (n := 1) C hml (m_X11_refuse l D k A ad hD (va_up (va_up (va_up v 0 0) 1 0) 24 (v 24)) (va_up (va_up (va_up f 28 (f 28)) 29 (f 29)) 30 (f 30)) g 1 (by decide) (show 0 ≤ (1 : Int) ∧ (1 : Int) ≤ 10 from by omega)) mM_X11_295 mI_X11_refuse mE_X11_refuse mN_X11 mC_X11_refuse (by decide +kernel) 0 (ci := 11) rfl rfl hP hS (fun _ h => h) ⟨Nat.le_of_ble_eq_true rfl, Nat.le_of_ble_eq_true rfl⟩ ⟨Nat.zero_le _, Nat.zero_le _⟩ hl.1 rfl rfl (Nat.le_of_ble_eq_true rfl) dX11_reach_20 (fun r_23 v_23 f_23 g_23 H locs hq_23 hP _ hS => ?_)
    obtain ⟨rfl, rfl, rfl, rfl⟩ := hq_23
    show W p l e (gRm 2 43) s m args below meth c _ _ 0 0 Q (F0 m 23 ls [.int (iI (-1))])
    have hP : gWd D (mdT k ad) (va_up (va_up (va_up v 0 (1 : Int)) 1 0) 24 (v 24)) (va_up (va_up (va_up f 28 (f 28)) 29 (f 29)) 30 (f 30)) g H := ⟨hP.1, (gF_up (V := mdV) (F := mdF) (gF_up (V := mdV) (F := mdF) (gF_up (V := mdV) (F := mdF) (gR_up (V := mdV) (F := mdF) (gR_up (V := mdV) (F := mdF) (gR_up (V := mdV) (F := mdF) ⟨hok.1, hok.2⟩ 0 (hP.2.1 0)) 1 (hP.2.1 1)) 24 (hP.2.1 24)) 28 (hP.2.2 28)) 29 (hP.2.2 29)) 30 (hP.2.2 30))⟩
    exact g_iret hQ C hr hlocks hP hS dX11_reach_23 ⟨(-1), (1 : Int), 0, (v 24), (f 28), (f 29), (f 30), rfl, rfl, rfl, rfl, (by first | omega | (split <;> omega))⟩

set_option maxHeartbeats 4000000 in
set_option maxRecDepth 100000 in
theorem m_X11_fall (l : Launch) (D : va_G) (k : Nat → ClassId) (A : Nat → Prop) (ad : Nat → Nat) (hD : mdD A k ad) (v : gV) (f g : gF) (a1 : Int) (a2 : Int) (a3 : Int) (h_a1 : inR a1) (h_a2 : inR a2) (h_a3 : inR a3) : GM l D k A (mdT k ad) yX11_fall cX11_fall 6 (some .boolean) 2 43 [.ref (ad 0), .int (iI a1), .int (iI a2), .int (iI a3)] v f g (fun r v1 f1 g1 => ∃ (z : Int) (w0 : Int) (w1 : Int) (w24 : Int) (a28_ : Int → Int) (a30_ : Int → Int), r = some (.int (iI z)) ∧ (va_up (va_up (va_up v 0 w0) 1 w1) 24 w24) = v1 ∧ (va_up (va_up f 28 a28_) 30 a30_) = f1 ∧ g = g1 ∧ (0 ≤ z ∧ z ≤ 1)) := by
  refine GM.of (by decide) (Nat.le_of_ble_eq_true rfl) ?_
  intro p e s m args below meth c Q ls hQ C hml hr hlocks hP hl
  have hx := C.1
  have hb := C.2.1
  have hok := hP.2
  have hS : va_S A s.heap s.heap [] := va_S.rf
  have hl : lv_has ls 6 [(0, .ref (ad 0)), (1, .int (iI a1)), (2, .int (iI a2)), (3, .int (iI a3))] := hl
  have hP : gWd D (mdT k ad) (va_up (va_up (va_up v 0 (v 0)) 1 (v 1)) 24 (v 24)) (va_up (va_up f 28 (f 28)) 30 (f 30)) g s.heap := by rw [va_id, va_id, va_id, va_id, va_id]; exact hP
  refine lv_aload_n hx hb dX11_fall_0 rfl (lv_at hl 0 rfl) ?_
  refine lv_iconst (v := iI 0) hx hb dX11_fall_1 rfl ?_
  refine mdP_thrown (v1 := (va_up (va_up (va_up v 0 (v 0)) 1 0) 24 (v 24))) C hP hD hS mF_X11_146 (by decide) rfl (Or.inr (gF_up (V := mdV) (F := mdF) (gF_up (V := mdV) (F := mdF) (gR_up (V := mdV) (F := mdF) (gR_up (V := mdV) (F := mdF) (gR_up (V := mdV) (F := mdF) ⟨hok.1, hok.2⟩ 0 (hP.2.1 0)) 1 (show 0 ≤ 0 ∧ 0 ≤ 0 from by decide)) 24 (hP.2.1 24)) 28 (hP.2.2 28)) 30 (hP.2.2 30))) dX11_fall_2 (fun H locs hP hS => ?_)
  refine lv_aload_n hx hb dX11_fall_5 rfl (lv_at hl 0 rfl) ?_
  refine lv_iconst (v := iI 0) hx hb dX11_fall_6 rfl ?_
  refine mdP_status (v1 := (va_up (va_up (va_up v 0 0) 1 0) 24 (v 24))) C hP hD hS mF_X11_149 (by decide) rfl (Or.inr (gF_up (V := mdV) (F := mdF) (gF_up (V := mdV) (F := mdF) (gR_up (V := mdV) (F := mdF) (gR_up (V := mdV) (F := mdF) (gR_up (V := mdV) (F := mdF) ⟨hok.1, hok.2⟩ 0 (show 0 ≤ 0 ∧ 0 ≤ 10 from by decide)) 1 (hP.2.1 1)) 24 (hP.2.1 24)) 28 (hP.2.2 28)) 30 (hP.2.2 30))) dX11_fall_7 (fun H locs hP hS => ?_)
  refine lv_aload_n hx hb dX11_fall_10 rfl (lv_at hl 0 rfl) ?_
  refine lv_iload_n hx hb dX11_fall_11 rfl (lv_at hl 1 rfl) ?_
  refine g_cv (As := [.int (iI a1)]) (rest := []) (n := 1) C hml (m_X11_isClimber l D k A ad hD (va_up (va_up (va_up v 0 0) 1 0) 24 (v 24)) (va_up (va_up f 28 (f 28)) 30 (f 30)) g a1 (by omega)) mM_X11_349 mI_X11_isClimber mE_X11_isClimber mN_X11 mC_X11_isClimber (by decide +kernel) 0 (ci := 11) rfl rfl hP hS (fun _ h => h) ⟨Nat.le_of_ble_eq_true rfl, Nat.le_of_ble_eq_true rfl⟩ ⟨Nat.zero_le _, Nat.zero_le _⟩ hl.1 rfl rfl (Nat.le_of_ble_eq_true rfl) dX11_fall_12 (fun r_1 v_1 f_1 g_1 H locs hq_1 hP _ hS => ?_)
  obtain ⟨z_1, rfl, rfl, rfl, rfl, p0_1, p1_1⟩ := hq_1
  show W p l e (gRm 2 43) s m args below meth c _ _ 0 0 Q (F0 m 15 ls [.int (iI z_1)])
  replace p0_1 : z_1 = (if 0 ≤ a1 ∧ a1 < (v 22) then 1 else 0) := p0_1
  have w_1 := gif (P := 0 ≤ a1 ∧ a1 < (v 22)) p0_1
  replace p1_1 : z_1 = 1 → 0 ≤ a1 ∧ a1 ≤ 15 := p1_1
  have hz_1 : inR z_1 := (by first | omega | (rw [p0_1]; split <;> omega))
  refine gi_zne (tgt := 24) hx hb dX11_fall_15 (by decide) (by omega) (fun c_2 => ?_) (fun c_2 => ?_)
  · refine lv_aload_n hx hb dX11_fall_24 rfl (lv_at hl 0 rfl) ?_
    refine lv_iload_n hx hb dX11_fall_25 rfl (lv_at hl 2 rfl) ?_
    refine g_cv (As := [.int (iI a2)]) (rest := []) (n := 1) C hml (m_X11_clocked l D k A ad hD (va_up (va_up (va_up v 0 0) 1 0) 24 (v 24)) (va_up (va_up f 28 (f 28)) 30 (f 30)) g a2 (by omega)) mM_X11_352 mI_X11_clocked mE_X11_clocked mN_X11 mC_X11_clocked (by decide +kernel) 0 (ci := 11) rfl rfl hP hS (fun _ h => h) ⟨Nat.le_of_ble_eq_true rfl, Nat.le_of_ble_eq_true rfl⟩ ⟨Nat.zero_le _, Nat.zero_le _⟩ hl.1 rfl rfl (Nat.le_of_ble_eq_true rfl) dX11_fall_26 (fun r_3 v_3 f_3 g_3 H locs hq_3 hP _ hS => ?_)
    obtain ⟨z_3, w24_3, a28_3, a30_3, rfl, rfl, rfl, rfl, p0_3, p1_3⟩ := hq_3
    show W p l e (gRm 2 43) s m args below meth c _ _ 0 0 Q (F0 m 29 ls [.int (iI z_3)])
    have hP : gWd D (mdT k ad) (va_up (va_up (va_up v 0 0) 1 0) 24 w24_3) (va_up (va_up f 28 a28_3) 30 a30_3) g H := ⟨hP.1, (gF_up (V := mdV) (F := mdF) (gF_up (V := mdV) (F := mdF) (gR_up (V := mdV) (F := mdF) (gR_up (V := mdV) (F := mdF) (gR_up (V := mdV) (F := mdF) ⟨hok.1, hok.2⟩ 0 (hP.2.1 0)) 1 (hP.2.1 1)) 24 (hP.2.1 24)) 28 (hP.2.2 28)) 30 (hP.2.2 30))⟩
    replace p0_3 : 0 ≤ z_3 ∧ z_3 ≤ 9 := p0_3
    replace p1_3 : z_3 = 0 → 0 ≤ a2 ∧ a2 ≤ 1000000 := p1_3
    have rw24_3 : 0 ≤ w24_3 ∧ w24_3 ≤ 1000000 := hP.2.1 24
    refine lv_istore (lv' := [(4, .int (iI z_3)), (0, .ref (ad 0)), (1, .int (iI a1)), (2, .int (iI a2)), (3, .int (iI a3))]) hx hb dX11_fall_29 hl (by decide) rfl (fun ls hl => ?_)
    refine lv_iload hx hb dX11_fall_31 (lv_at hl 0 rfl) ?_
    refine gi_zle (tgt := 43) hx hb dX11_fall_33 (by decide) (by omega) (fun c_4 => ?_) (fun c_4 => ?_)
    · refine lv_aload_n hx hb dX11_fall_43 rfl (lv_at hl 1 rfl) ?_
      refine lv_iload_n hx hb dX11_fall_44 rfl (lv_at hl 2 rfl) ?_
      refine g_cv (As := [.int (iI a1)]) (rest := []) (n := 1) C hml (m_X11_openTry l D k A ad hD (va_up (va_up (va_up v 0 0) 1 0) 24 w24_3) (va_up (va_up f 28 a28_3) 30 a30_3) g a1 (by omega)) mM_X11_355 mI_X11_openTry mE_X11_openTry mN_X11 mC_X11_openTry (by decide +kernel) 0 (ci := 11) rfl rfl hP hS (fun _ h => h) ⟨Nat.le_of_ble_eq_true rfl, Nat.le_of_ble_eq_true rfl⟩ ⟨Nat.zero_le _, Nat.zero_le _⟩ hl.1 rfl rfl (Nat.le_of_ble_eq_true rfl) dX11_fall_45 (fun r_5 v_5 f_5 g_5 H locs hq_5 hP _ hS => ?_)
      obtain ⟨z_5, rfl, rfl, rfl, rfl, p0_5⟩ := hq_5
      show W p l e (gRm 2 43) s m args below meth c _ _ 0 0 Q (F0 m 48 ls [.int (iI z_5)])
      replace p0_5 : (-1) ≤ z_5 ∧ z_5 ≤ 299 := p0_5
      refine lv_istore (lv' := [(5, .int (iI z_5)), (4, .int (iI z_3)), (0, .ref (ad 0)), (1, .int (iI a1)), (2, .int (iI a2)), (3, .int (iI a3))]) hx hb dX11_fall_48 hl (by decide) rfl (fun ls hl => ?_)
      refine lv_iload hx hb dX11_fall_50 (lv_at hl 0 rfl) ?_
      refine gi_zge (tgt := 61) hx hb dX11_fall_52 (by decide) (by omega) (fun c_6 => ?_) (fun c_6 => ?_)
      · refine lv_aload_n hx hb dX11_fall_61 rfl (lv_at hl 2 rfl) ?_
        refine mdG_how C hP mF_X11_112 dX11_fall_62 ?_
        refine lv_iload hx hb dX11_fall_65 (lv_at hl 0 rfl) ?_
        refine lv_iload_n hx hb dX11_fall_67 rfl (lv_at hl 5 rfl) ?_
        refine gi_zeq (tgt := 75) hx hb dX11_fall_68 (by decide) (by omega) (fun c_7 => ?_) (fun c_7 => ?_)
        · refine lv_iconst (v := iI 2) hx hb dX11_fall_75 rfl ?_
          refine mdS_how (f1 := (va_up (va_up f 28 a28_3) 30 (u1 a30_3 z_5 2))) C hP hD hS (by omega) (by omega) (by decide) rfl (Or.inr (gF_up (V := mdV) (F := mdF) (gF_up (V := mdV) (F := mdF) (gR_up (V := mdV) (F := mdF) (gR_up (V := mdV) (F := mdF) (gR_up (V := mdV) (F := mdF) ⟨hok.1, hok.2⟩ 0 (hP.2.1 0)) 1 (hP.2.1 1)) 24 (hP.2.1 24)) 28 (hP.2.2 28)) 30 (u1_rng (hP.2.2 30) (show 0 ≤ 2 ∧ 2 ≤ 4 from (by decide))))) dX11_fall_76 (fun H locs hP hS => ?_)
          refine lv_aload_n hx hb dX11_fall_77 rfl (lv_at hl 2 rfl) ?_
          refine mdG_to C hP mF_X11_106 dX11_fall_78 ?_
          refine lv_iload hx hb dX11_fall_81 (lv_at hl 0 rfl) ?_
          refine lv_iload_n hx hb dX11_fall_83 rfl (lv_at hl 4 rfl) ?_
          refine mdS_to (f1 := (va_up (va_up f 28 (u1 a28_3 z_5 a2)) 30 (u1 a30_3 z_5 2))) C hP hD hS (by omega) (by omega) (by omega) rfl (Or.inr (gF_up (V := mdV) (F := mdF) (gF_up (V := mdV) (F := mdF) (gR_up (V := mdV) (F := mdF) (gR_up (V := mdV) (F := mdF) (gR_up (V := mdV) (F := mdF) ⟨hok.1, hok.2⟩ 0 (hP.2.1 0)) 1 (hP.2.1 1)) 24 (hP.2.1 24)) 28 (u1_rng (hP.2.2 28) (show (-1) ≤ a2 ∧ a2 ≤ 1000999 from (by omega)))) 30 (hP.2.2 30))) dX11_fall_84 (fun H locs hP hS => ?_)
          refine lv_iconst (v := iI 1) hx hb dX11_fall_85 rfl ?_
          exact g_zret hQ C hr hlocks (by decide) hP hS dX11_fall_86 ⟨1, 0, 0, w24_3, (u1 a28_3 z_5 a2), (u1 a30_3 z_5 2), rfl, rfl, rfl, rfl, (by first | omega | (split <;> omega))⟩
        · refine lv_iconst (v := iI 4) hx hb dX11_fall_71 rfl ?_
          refine lv_goto (tgt := 76) hx hb dX11_fall_72 (by decide) ?_
          refine mdS_how (f1 := (va_up (va_up f 28 a28_3) 30 (u1 a30_3 z_5 4))) C hP hD hS (by omega) (by omega) (by decide) rfl (Or.inr (gF_up (V := mdV) (F := mdF) (gF_up (V := mdV) (F := mdF) (gR_up (V := mdV) (F := mdF) (gR_up (V := mdV) (F := mdF) (gR_up (V := mdV) (F := mdF) ⟨hok.1, hok.2⟩ 0 (hP.2.1 0)) 1 (hP.2.1 1)) 24 (hP.2.1 24)) 28 (hP.2.2 28)) 30 (u1_rng (hP.2.2 30) (show 0 ≤ 4 ∧ 4 ≤ 4 from (by decide))))) dX11_fall_76 (fun H locs hP hS => ?_)
          refine lv_aload_n hx hb dX11_fall_77 rfl (lv_at hl 2 rfl) ?_
          refine mdG_to C hP mF_X11_106 dX11_fall_78 ?_
          refine lv_iload hx hb dX11_fall_81 (lv_at hl 0 rfl) ?_
          refine lv_iload_n hx hb dX11_fall_83 rfl (lv_at hl 4 rfl) ?_
          refine mdS_to (f1 := (va_up (va_up f 28 (u1 a28_3 z_5 a2)) 30 (u1 a30_3 z_5 4))) C hP hD hS (by omega) (by omega) (by omega) rfl (Or.inr (gF_up (V := mdV) (F := mdF) (gF_up (V := mdV) (F := mdF) (gR_up (V := mdV) (F := mdF) (gR_up (V := mdV) (F := mdF) (gR_up (V := mdV) (F := mdF) ⟨hok.1, hok.2⟩ 0 (hP.2.1 0)) 1 (hP.2.1 1)) 24 (hP.2.1 24)) 28 (u1_rng (hP.2.2 28) (show (-1) ≤ a2 ∧ a2 ≤ 1000999 from (by omega)))) 30 (hP.2.2 30))) dX11_fall_84 (fun H locs hP hS => ?_)
          refine lv_iconst (v := iI 1) hx hb dX11_fall_85 rfl ?_
          exact g_zret hQ C hr hlocks (by decide) hP hS dX11_fall_86 ⟨1, 0, 0, w24_3, (u1 a28_3 z_5 a2), (u1 a30_3 z_5 4), rfl, rfl, rfl, rfl, (by first | omega | (split <;> omega))⟩
      · refine lv_aload_n hx hb dX11_fall_55 rfl (lv_at hl 2 rfl) ?_
        refine lv_iconst (v := iI 5) hx hb dX11_fall_56 rfl ?_
        refine g_cv (As := [.int (iI 5)]) (rest := []) (n := 1) C hml (m_X11_no l D k A ad hD (va_up (va_up (va_up v 0 0) 1 0) 24 w24_3) (va_up (va_up f 28 a28_3) 30 a30_3) g 5 (by decide) (show 0 ≤ (5 : Int) ∧ (5 : Int) ≤ 10 from by omega)) mM_X11_332 mI_X11_no mE_X11_no mN_X11 mC_X11_no (by decide +kernel) 0 (ci := 11) rfl rfl hP hS (fun _ h => h) ⟨Nat.le_of_ble_eq_true rfl, Nat.le_of_ble_eq_true rfl⟩ ⟨Nat.zero_le _, Nat.zero_le _⟩ hl.1 rfl rfl (Nat.le_of_ble_eq_true rfl) dX11_fall_57 (fun r_8 v_8 f_8 g_8 H locs hq_8 hP _ hS => ?_)
        obtain ⟨rfl, rfl, rfl, rfl⟩ := hq_8
        show W p l e (gRm 2 43) s m args below meth c _ _ 0 0 Q (F0 m 60 ls [.int (iI 0)])
        have hP : gWd D (mdT k ad) (va_up (va_up (va_up v 0 (5 : Int)) 1 0) 24 w24_3) (va_up (va_up f 28 a28_3) 30 a30_3) g H := ⟨hP.1, (gF_up (V := mdV) (F := mdF) (gF_up (V := mdV) (F := mdF) (gR_up (V := mdV) (F := mdF) (gR_up (V := mdV) (F := mdF) (gR_up (V := mdV) (F := mdF) ⟨hok.1, hok.2⟩ 0 (hP.2.1 0)) 1 (hP.2.1 1)) 24 (hP.2.1 24)) 28 (hP.2.2 28)) 30 (hP.2.2 30))⟩
        exact g_zret hQ C hr hlocks (by decide) hP hS dX11_fall_60 ⟨0, (5 : Int), 0, w24_3, a28_3, a30_3, rfl, rfl, rfl, rfl, (by first | omega | (split <;> omega))⟩
    · refine lv_aload_n hx hb dX11_fall_36 rfl (lv_at hl 1 rfl) ?_
      refine lv_iload hx hb dX11_fall_37 (lv_at hl 0 rfl) ?_
      refine g_cv (As := [.int (iI z_3)]) (rest := []) (n := 1) C hml (m_X11_no l D k A ad hD (va_up (va_up (va_up v 0 0) 1 0) 24 w24_3) (va_up (va_up f 28 a28_3) 30 a30_3) g z_3 (by omega) (show 0 ≤ z_3 ∧ z_3 ≤ 10 from by omega)) mM_X11_332 mI_X11_no mE_X11_no mN_X11 mC_X11_no (by decide +kernel) 0 (ci := 11) rfl rfl hP hS (fun _ h => h) ⟨Nat.le_of_ble_eq_true rfl, Nat.le_of_ble_eq_true rfl⟩ ⟨Nat.zero_le _, Nat.zero_le _⟩ hl.1 rfl rfl (Nat.le_of_ble_eq_true rfl) dX11_fall_39 (fun r_9 v_9 f_9 g_9 H locs hq_9 hP _ hS => ?_)
      obtain ⟨rfl, rfl, rfl, rfl⟩ := hq_9
      show W p l e (gRm 2 43) s m args below meth c _ _ 0 0 Q (F0 m 42 ls [.int (iI 0)])
      have hP : gWd D (mdT k ad) (va_up (va_up (va_up v 0 z_3) 1 0) 24 w24_3) (va_up (va_up f 28 a28_3) 30 a30_3) g H := ⟨hP.1, (gF_up (V := mdV) (F := mdF) (gF_up (V := mdV) (F := mdF) (gR_up (V := mdV) (F := mdF) (gR_up (V := mdV) (F := mdF) (gR_up (V := mdV) (F := mdF) ⟨hok.1, hok.2⟩ 0 (hP.2.1 0)) 1 (hP.2.1 1)) 24 (hP.2.1 24)) 28 (hP.2.2 28)) 30 (hP.2.2 30))⟩
      exact g_zret hQ C hr hlocks (by decide) hP hS dX11_fall_42 ⟨0, z_3, 0, w24_3, a28_3, a30_3, rfl, rfl, rfl, rfl, (by first | omega | (split <;> omega))⟩
  · refine lv_aload_n hx hb dX11_fall_18 rfl (lv_at hl 0 rfl) ?_
    refine lv_iconst (v := iI 1) hx hb dX11_fall_19 rfl ?_
    refine g_cv (As := [.int (iI 1)]) (rest := []) (n := 1) C hml (m_X11_no l D k A ad hD (va_up (va_up (va_up v 0 0) 1 0) 24 (v 24)) (va_up (va_up f 28 (f 28)) 30 (f 30)) g 1 (by decide) (show 0 ≤ (1 : Int) ∧ (1 : Int) ≤ 10 from by omega)) mM_X11_332 mI_X11_no mE_X11_no mN_X11 mC_X11_no (by decide +kernel) 0 (ci := 11) rfl rfl hP hS (fun _ h => h) ⟨Nat.le_of_ble_eq_true rfl, Nat.le_of_ble_eq_true rfl⟩ ⟨Nat.zero_le _, Nat.zero_le _⟩ hl.1 rfl rfl (Nat.le_of_ble_eq_true rfl) dX11_fall_20 (fun r_10 v_10 f_10 g_10 H locs hq_10 hP _ hS => ?_)
    obtain ⟨rfl, rfl, rfl, rfl⟩ := hq_10
    show W p l e (gRm 2 43) s m args below meth c _ _ 0 0 Q (F0 m 23 ls [.int (iI 0)])
    have hP : gWd D (mdT k ad) (va_up (va_up (va_up v 0 (1 : Int)) 1 0) 24 (v 24)) (va_up (va_up f 28 (f 28)) 30 (f 30)) g H := ⟨hP.1, (gF_up (V := mdV) (F := mdF) (gF_up (V := mdV) (F := mdF) (gR_up (V := mdV) (F := mdF) (gR_up (V := mdV) (F := mdF) (gR_up (V := mdV) (F := mdF) ⟨hok.1, hok.2⟩ 0 (hP.2.1 0)) 1 (hP.2.1 1)) 24 (hP.2.1 24)) 28 (hP.2.2 28)) 30 (hP.2.2 30))⟩
    exact g_zret hQ C hr hlocks (by decide) hP hS dX11_fall_23 ⟨0, (1 : Int), 0, (v 24), (f 28), (f 30), rfl, rfl, rfl, rfl, (by first | omega | (split <;> omega))⟩

set_option maxHeartbeats 4000000 in
set_option maxRecDepth 100000 in
theorem m_X11_out (l : Launch) (D : va_G) (k : Nat → ClassId) (A : Nat → Prop) (ad : Nat → Nat) (hD : mdD A k ad) (v : gV) (f g : gF) (a1 : Int) (a2 : Int) (a3 : Int) (h_a1 : inR a1) (h_a2 : inR a2) (h_a3 : inR a3) : GM l D k A (mdT k ad) yX11_out cX11_out 7 (some .boolean) 2 43 [.ref (ad 0), .int (iI a1), .int (iI a2), .int (iI a3)] v f g (fun r v1 f1 g1 => ∃ (z : Int) (w0 : Int) (w1 : Int) (w24 : Int) (a28_ : Int → Int) (a30_ : Int → Int) (a34_ : Int → Int) (a35_ : Int → Int) (a36_ : Int → Int), r = some (.int (iI z)) ∧ (va_up (va_up (va_up v 0 w0) 1 w1) 24 w24) = v1 ∧ (va_up (va_up (va_up (va_up (va_up f 28 a28_) 30 a30_) 34 a34_) 35 a35_) 36 a36_) = f1 ∧ g = g1 ∧ (0 ≤ z ∧ z ≤ 1)) := by
  refine GM.of (by decide) (Nat.le_of_ble_eq_true rfl) ?_
  intro p e s m args below meth c Q ls hQ C hml hr hlocks hP hl
  have hx := C.1
  have hb := C.2.1
  have hok := hP.2
  have hS : va_S A s.heap s.heap [] := va_S.rf
  have hl : lv_has ls 7 [(0, .ref (ad 0)), (1, .int (iI a1)), (2, .int (iI a2)), (3, .int (iI a3))] := hl
  have hP : gWd D (mdT k ad) (va_up (va_up (va_up v 0 (v 0)) 1 (v 1)) 24 (v 24)) (va_up (va_up (va_up (va_up (va_up f 28 (f 28)) 30 (f 30)) 34 (f 34)) 35 (f 35)) 36 (f 36)) g s.heap := by rw [va_id, va_id, va_id, va_id, va_id, va_id, va_id, va_id]; exact hP
  refine lv_aload_n hx hb dX11_out_0 rfl (lv_at hl 0 rfl) ?_
  refine lv_iconst (v := iI 0) hx hb dX11_out_1 rfl ?_
  refine mdP_thrown (v1 := (va_up (va_up (va_up v 0 (v 0)) 1 0) 24 (v 24))) C hP hD hS mF_X11_146 (by decide) rfl (Or.inr (gF_up (V := mdV) (F := mdF) (gF_up (V := mdV) (F := mdF) (gF_up (V := mdV) (F := mdF) (gF_up (V := mdV) (F := mdF) (gF_up (V := mdV) (F := mdF) (gR_up (V := mdV) (F := mdF) (gR_up (V := mdV) (F := mdF) (gR_up (V := mdV) (F := mdF) ⟨hok.1, hok.2⟩ 0 (hP.2.1 0)) 1 (show 0 ≤ 0 ∧ 0 ≤ 0 from by decide)) 24 (hP.2.1 24)) 28 (hP.2.2 28)) 30 (hP.2.2 30)) 34 (hP.2.2 34)) 35 (hP.2.2 35)) 36 (hP.2.2 36))) dX11_out_2 (fun H locs hP hS => ?_)
  refine lv_aload_n hx hb dX11_out_5 rfl (lv_at hl 0 rfl) ?_
  refine lv_iconst (v := iI 0) hx hb dX11_out_6 rfl ?_
  refine mdP_status (v1 := (va_up (va_up (va_up v 0 0) 1 0) 24 (v 24))) C hP hD hS mF_X11_149 (by decide) rfl (Or.inr (gF_up (V := mdV) (F := mdF) (gF_up (V := mdV) (F := mdF) (gF_up (V := mdV) (F := mdF) (gF_up (V := mdV) (F := mdF) (gF_up (V := mdV) (F := mdF) (gR_up (V := mdV) (F := mdF) (gR_up (V := mdV) (F := mdF) (gR_up (V := mdV) (F := mdF) ⟨hok.1, hok.2⟩ 0 (show 0 ≤ 0 ∧ 0 ≤ 10 from by decide)) 1 (hP.2.1 1)) 24 (hP.2.1 24)) 28 (hP.2.2 28)) 30 (hP.2.2 30)) 34 (hP.2.2 34)) 35 (hP.2.2 35)) 36 (hP.2.2 36))) dX11_out_7 (fun H locs hP hS => ?_)
  refine lv_aload_n hx hb dX11_out_10 rfl (lv_at hl 0 rfl) ?_
  refine lv_iload_n hx hb dX11_out_11 rfl (lv_at hl 1 rfl) ?_
  refine g_cv (As := [.int (iI a1)]) (rest := []) (n := 1) C hml (m_X11_isClimber l D k A ad hD (va_up (va_up (va_up v 0 0) 1 0) 24 (v 24)) (va_up (va_up (va_up (va_up (va_up f 28 (f 28)) 30 (f 30)) 34 (f 34)) 35 (f 35)) 36 (f 36)) g a1 (by omega)) mM_X11_349 mI_X11_isClimber mE_X11_isClimber mN_X11 mC_X11_isClimber (by decide +kernel) 0 (ci := 11) rfl rfl hP hS (fun _ h => h) ⟨Nat.le_of_ble_eq_true rfl, Nat.le_of_ble_eq_true rfl⟩ ⟨Nat.zero_le _, Nat.zero_le _⟩ hl.1 rfl rfl (Nat.le_of_ble_eq_true rfl) dX11_out_12 (fun r_1 v_1 f_1 g_1 H locs hq_1 hP _ hS => ?_)
  obtain ⟨z_1, rfl, rfl, rfl, rfl, p0_1, p1_1⟩ := hq_1
  show W p l e (gRm 2 43) s m args below meth c _ _ 0 0 Q (F0 m 15 ls [.int (iI z_1)])
  replace p0_1 : z_1 = (if 0 ≤ a1 ∧ a1 < (v 22) then 1 else 0) := p0_1
  have w_1 := gif (P := 0 ≤ a1 ∧ a1 < (v 22)) p0_1
  replace p1_1 : z_1 = 1 → 0 ≤ a1 ∧ a1 ≤ 15 := p1_1
  have hz_1 : inR z_1 := (by first | omega | (rw [p0_1]; split <;> omega))
  refine gi_zne (tgt := 24) hx hb dX11_out_15 (by decide) (by omega) (fun c_2 => ?_) (fun c_2 => ?_)
  · refine lv_aload_n hx hb dX11_out_24 rfl (lv_at hl 0 rfl) ?_
    refine lv_iload_n hx hb dX11_out_25 rfl (lv_at hl 2 rfl) ?_
    refine g_cv (As := [.int (iI a2)]) (rest := []) (n := 1) C hml (m_X11_clocked l D k A ad hD (va_up (va_up (va_up v 0 0) 1 0) 24 (v 24)) (va_up (va_up (va_up (va_up (va_up f 28 (f 28)) 30 (f 30)) 34 (f 34)) 35 (f 35)) 36 (f 36)) g a2 (by omega)) mM_X11_352 mI_X11_clocked mE_X11_clocked mN_X11 mC_X11_clocked (by decide +kernel) 0 (ci := 11) rfl rfl hP hS (fun _ h => h) ⟨Nat.le_of_ble_eq_true rfl, Nat.le_of_ble_eq_true rfl⟩ ⟨Nat.zero_le _, Nat.zero_le _⟩ hl.1 rfl rfl (Nat.le_of_ble_eq_true rfl) dX11_out_26 (fun r_3 v_3 f_3 g_3 H locs hq_3 hP _ hS => ?_)
    obtain ⟨z_3, w24_3, a28_3, a30_3, rfl, rfl, rfl, rfl, p0_3, p1_3⟩ := hq_3
    show W p l e (gRm 2 43) s m args below meth c _ _ 0 0 Q (F0 m 29 ls [.int (iI z_3)])
    have hP : gWd D (mdT k ad) (va_up (va_up (va_up v 0 0) 1 0) 24 w24_3) (va_up (va_up (va_up (va_up (va_up f 28 a28_3) 30 a30_3) 34 (f 34)) 35 (f 35)) 36 (f 36)) g H := ⟨hP.1, (gF_up (V := mdV) (F := mdF) (gF_up (V := mdV) (F := mdF) (gF_up (V := mdV) (F := mdF) (gF_up (V := mdV) (F := mdF) (gF_up (V := mdV) (F := mdF) (gR_up (V := mdV) (F := mdF) (gR_up (V := mdV) (F := mdF) (gR_up (V := mdV) (F := mdF) ⟨hok.1, hok.2⟩ 0 (hP.2.1 0)) 1 (hP.2.1 1)) 24 (hP.2.1 24)) 28 (hP.2.2 28)) 30 (hP.2.2 30)) 34 (hP.2.2 34)) 35 (hP.2.2 35)) 36 (hP.2.2 36))⟩
    replace p0_3 : 0 ≤ z_3 ∧ z_3 ≤ 9 := p0_3
    replace p1_3 : z_3 = 0 → 0 ≤ a2 ∧ a2 ≤ 1000000 := p1_3
    have rw24_3 : 0 ≤ w24_3 ∧ w24_3 ≤ 1000000 := hP.2.1 24
    refine lv_istore (lv' := [(4, .int (iI z_3)), (0, .ref (ad 0)), (1, .int (iI a1)), (2, .int (iI a2)), (3, .int (iI a3))]) hx hb dX11_out_29 hl (by decide) rfl (fun ls hl => ?_)
    refine lv_iload hx hb dX11_out_31 (lv_at hl 0 rfl) ?_
    refine gi_zle (tgt := 43) hx hb dX11_out_33 (by decide) (by omega) (fun c_4 => ?_) (fun c_4 => ?_)
    · refine lv_aload_n hx hb dX11_out_43 rfl (lv_at hl 1 rfl) ?_
      refine mdG_outs C hP mF_X11_124 dX11_out_44 ?_
      refine lv_iload_n hx hb dX11_out_47 rfl (lv_at hl 2 rfl) ?_
      refine mdL_outs C hP (by omega) (by omega) dX11_out_48 ?_
      show W p l e (gRm 2 43) s m args below meth c _ _ 0 0 Q (F0 m 49 ls [.int (iI (f 34 a1))])
      have r_5 : 0 ≤ (f 34 a1) ∧ (f 34 a1) ≤ 20 := hP.2.2 34 a1
      refine lv_istore (lv' := [(5, .int (iI (f 34 a1))), (4, .int (iI z_3)), (0, .ref (ad 0)), (1, .int (iI a1)), (2, .int (iI a2)), (3, .int (iI a3))]) hx hb dX11_out_49 hl (by decide) rfl (fun ls hl => ?_)
      refine lv_iload hx hb dX11_out_51 (lv_at hl 0 rfl) ?_
      refine gi_zle (tgt := 77) hx hb dX11_out_53 (by decide) (by omega) (fun c_6 => ?_) (fun c_6 => ?_)
      · refine lv_iconst (v := iI 0) hx hb dX11_out_77 rfl ?_
        refine lv_istore (lv' := [(6, .int (iI 0)), (5, .int (iI (f 34 a1))), (4, .int (iI z_3)), (0, .ref (ad 0)), (1, .int (iI a1)), (2, .int (iI a2)), (3, .int (iI a3))]) hx hb dX11_out_78 hl (by decide) rfl (fun ls hl => ?_)
        refine lv_iload hx hb dX11_out_80 (lv_at hl 0 rfl) ?_
        refine lv_iload_n hx hb dX11_out_82 rfl (lv_at hl 6 rfl) ?_
        refine gi_cne (tgt := 93) hx hb dX11_out_83 (by decide) (by decide) (by omega) (fun c_7 => ?_) (fun c_7 => ?_)
        · refine lv_iload_n hx hb dX11_out_93 rfl (lv_at hl 6 rfl) ?_
          refine gi_zeq (tgt := 110) hx hb dX11_out_94 (by decide) (by omega) (fun c_8 => ?_) (fun c_8 => ?_)
          · refine lv_iload_n hx hb dX11_out_110 rfl (lv_at hl 6 rfl) ?_
            refine gi_zeq (tgt := 153) hx hb dX11_out_111 (by decide) (by omega) (fun c_9 => ?_) (fun c_9 => ?_)
            · refine lv_aload_n hx hb dX11_out_153 rfl (lv_at hl 3 rfl) ?_
              refine mdG_outTo C hP mF_X11_130 dX11_out_154 ?_
              refine lv_bipush (v := iI 20) hx hb dX11_out_157 (by decide) ?_
              refine lv_iload_n hx hb dX11_out_159 rfl (lv_at hl 4 rfl) ?_
              refine gi_mul (z := (20 * a1)) hx hb dX11_out_160 rfl ?_
              refine lv_iload hx hb dX11_out_161 (lv_at hl 1 rfl) ?_
              refine gi_add (z := ((20 * a1) + (f 34 a1))) hx hb dX11_out_163 rfl ?_
              refine lv_iconst (v := iI 1) hx hb dX11_out_164 rfl ?_
              refine gi_sub (z := (((20 * a1) + (f 34 a1)) - 1)) hx hb dX11_out_165 rfl ?_
              refine lv_iload_n hx hb dX11_out_166 rfl (lv_at hl 5 rfl) ?_
              refine mdS_outTo (f1 := (va_up (va_up (va_up (va_up (va_up f 28 a28_3) 30 a30_3) 34 (f 34)) 35 (f 35)) 36 (u1 (f 36) (((20 * a1) + (f 34 a1)) - 1) a2))) C hP hD hS (by omega) (by omega) (by omega) rfl (Or.inr (gF_up (V := mdV) (F := mdF) (gF_up (V := mdV) (F := mdF) (gF_up (V := mdV) (F := mdF) (gF_up (V := mdV) (F := mdF) (gF_up (V := mdV) (F := mdF) (gR_up (V := mdV) (F := mdF) (gR_up (V := mdV) (F := mdF) (gR_up (V := mdV) (F := mdF) ⟨hok.1, hok.2⟩ 0 (hP.2.1 0)) 1 (hP.2.1 1)) 24 (hP.2.1 24)) 28 (hP.2.2 28)) 30 (hP.2.2 30)) 34 (hP.2.2 34)) 35 (hP.2.2 35)) 36 (u1_rng (hP.2.2 36) (show (-1) ≤ a2 ∧ a2 ≤ 1000000 from (by omega))))) dX11_out_167 (fun H locs hP hS => ?_)
              refine lv_iconst (v := iI 1) hx hb dX11_out_168 rfl ?_
              exact g_zret hQ C hr hlocks (by decide) hP hS dX11_out_169 ⟨1, 0, 0, w24_3, a28_3, a30_3, (f 34), (f 35), (u1 (f 36) (((20 * a1) + (f 34 a1)) - 1) a2), rfl, rfl, rfl, rfl, (by first | omega | (split <;> omega))⟩
            · refine lv_aload_n hx hb dX11_out_114 rfl (lv_at hl 3 rfl) ?_
              refine mdG_outFrom C hP mF_X11_127 dX11_out_115 ?_
              refine lv_bipush (v := iI 20) hx hb dX11_out_118 (by decide) ?_
              refine lv_iload_n hx hb dX11_out_120 rfl (lv_at hl 4 rfl) ?_
              refine gi_mul (z := (20 * a1)) hx hb dX11_out_121 rfl ?_
              refine lv_iload hx hb dX11_out_122 (lv_at hl 1 rfl) ?_
              refine gi_add (z := ((20 * a1) + (f 34 a1))) hx hb dX11_out_124 rfl ?_
              refine lv_iload_n hx hb dX11_out_125 rfl (lv_at hl 5 rfl) ?_
              refine mdS_outFrom (f1 := (va_up (va_up (va_up (va_up (va_up f 28 a28_3) 30 a30_3) 34 (f 34)) 35 (u1 (f 35) ((20 * a1) + (f 34 a1)) a2)) 36 (f 36))) C hP hD hS (by omega) (by omega) (by omega) rfl (Or.inr (gF_up (V := mdV) (F := mdF) (gF_up (V := mdV) (F := mdF) (gF_up (V := mdV) (F := mdF) (gF_up (V := mdV) (F := mdF) (gF_up (V := mdV) (F := mdF) (gR_up (V := mdV) (F := mdF) (gR_up (V := mdV) (F := mdF) (gR_up (V := mdV) (F := mdF) ⟨hok.1, hok.2⟩ 0 (hP.2.1 0)) 1 (hP.2.1 1)) 24 (hP.2.1 24)) 28 (hP.2.2 28)) 30 (hP.2.2 30)) 34 (hP.2.2 34)) 35 (u1_rng (hP.2.2 35) (show 0 ≤ a2 ∧ a2 ≤ 1000000 from (by omega)))) 36 (hP.2.2 36))) dX11_out_126 (fun H locs hP hS => ?_)
              refine lv_aload_n hx hb dX11_out_127 rfl (lv_at hl 3 rfl) ?_
              refine mdG_outTo C hP mF_X11_130 dX11_out_128 ?_
              refine lv_bipush (v := iI 20) hx hb dX11_out_131 (by decide) ?_
              refine lv_iload_n hx hb dX11_out_133 rfl (lv_at hl 4 rfl) ?_
              refine gi_mul (z := (20 * a1)) hx hb dX11_out_134 rfl ?_
              refine lv_iload hx hb dX11_out_135 (lv_at hl 1 rfl) ?_
              refine gi_add (z := ((20 * a1) + (f 34 a1))) hx hb dX11_out_137 rfl ?_
              refine lv_iconst (v := iI (-1)) hx hb dX11_out_138 rfl ?_
              refine mdS_outTo (f1 := (va_up (va_up (va_up (va_up (va_up f 28 a28_3) 30 a30_3) 34 (f 34)) 35 (u1 (f 35) ((20 * a1) + (f 34 a1)) a2)) 36 (u1 (f 36) ((20 * a1) + (f 34 a1)) (-1)))) C hP hD hS (by omega) (by omega) (by decide) rfl (Or.inr (gF_up (V := mdV) (F := mdF) (gF_up (V := mdV) (F := mdF) (gF_up (V := mdV) (F := mdF) (gF_up (V := mdV) (F := mdF) (gF_up (V := mdV) (F := mdF) (gR_up (V := mdV) (F := mdF) (gR_up (V := mdV) (F := mdF) (gR_up (V := mdV) (F := mdF) ⟨hok.1, hok.2⟩ 0 (hP.2.1 0)) 1 (hP.2.1 1)) 24 (hP.2.1 24)) 28 (hP.2.2 28)) 30 (hP.2.2 30)) 34 (hP.2.2 34)) 35 (hP.2.2 35)) 36 (u1_rng (hP.2.2 36) (show (-1) ≤ (-1) ∧ (-1) ≤ 1000000 from (by decide))))) dX11_out_139 (fun H locs hP hS => ?_)
              refine lv_aload_n hx hb dX11_out_140 rfl (lv_at hl 3 rfl) ?_
              refine mdG_outs C hP mF_X11_124 dX11_out_141 ?_
              refine lv_iload_n hx hb dX11_out_144 rfl (lv_at hl 4 rfl) ?_
              refine lv_dup2_11 hx hb dX11_out_145 rfl rfl ?_
              refine mdL_outs C hP (by omega) (by omega) dX11_out_146 ?_
              show W p l e (gRm 2 43) s m args below meth c _ _ 0 0 Q (F0 m 147 ls [.int (iI (f 34 a1)), .int (iI a1), .ref (ad 35)])
              refine lv_iconst (v := iI 1) hx hb dX11_out_147 rfl ?_
              refine gi_add (z := ((f 34 a1) + 1)) hx hb dX11_out_148 rfl ?_
              refine mdS_outs (f1 := (va_up (va_up (va_up (va_up (va_up f 28 a28_3) 30 a30_3) 34 (u1 (f 34) a1 ((f 34 a1) + 1))) 35 (u1 (f 35) ((20 * a1) + (f 34 a1)) a2)) 36 (u1 (f 36) ((20 * a1) + (f 34 a1)) (-1)))) C hP hD hS (by omega) (by omega) (by omega) rfl (Or.inr (gF_up (V := mdV) (F := mdF) (gF_up (V := mdV) (F := mdF) (gF_up (V := mdV) (F := mdF) (gF_up (V := mdV) (F := mdF) (gF_up (V := mdV) (F := mdF) (gR_up (V := mdV) (F := mdF) (gR_up (V := mdV) (F := mdF) (gR_up (V := mdV) (F := mdF) ⟨hok.1, hok.2⟩ 0 (hP.2.1 0)) 1 (hP.2.1 1)) 24 (hP.2.1 24)) 28 (hP.2.2 28)) 30 (hP.2.2 30)) 34 (u1_rng (hP.2.2 34) (show 0 ≤ ((f 34 a1) + 1) ∧ ((f 34 a1) + 1) ≤ 20 from (by omega)))) 35 (hP.2.2 35)) 36 (hP.2.2 36))) dX11_out_149 (fun H locs hP hS => ?_)
              refine lv_goto (tgt := 168) hx hb dX11_out_150 (by decide) ?_
              refine lv_iconst (v := iI 1) hx hb dX11_out_168 rfl ?_
              exact g_zret hQ C hr hlocks (by decide) hP hS dX11_out_169 ⟨1, 0, 0, w24_3, a28_3, a30_3, (u1 (f 34) a1 ((f 34 a1) + 1)), (u1 (f 35) ((20 * a1) + (f 34 a1)) a2), (u1 (f 36) ((20 * a1) + (f 34 a1)) (-1)), rfl, rfl, rfl, rfl, (by first | omega | (split <;> omega))⟩
          · refine lv_iload hx hb dX11_out_97 (lv_at hl 1 rfl) ?_
            refine lv_bipush (v := iI 20) hx hb dX11_out_99 (by decide) ?_
            refine gi_cne (tgt := 110) hx hb dX11_out_101 (by decide) (by omega) (by decide) (fun c_10 => ?_) (fun c_10 => ?_)
            · refine lv_iload_n hx hb dX11_out_110 rfl (lv_at hl 6 rfl) ?_
              refine gi_zeq (tgt := 153) hx hb dX11_out_111 (by decide) (by omega) (fun c_11 => ?_) (fun c_11 => ?_)
              · refine lv_aload_n hx hb dX11_out_153 rfl (lv_at hl 3 rfl) ?_
                refine mdG_outTo C hP mF_X11_130 dX11_out_154 ?_
                refine lv_bipush (v := iI 20) hx hb dX11_out_157 (by decide) ?_
                refine lv_iload_n hx hb dX11_out_159 rfl (lv_at hl 4 rfl) ?_
                refine gi_mul (z := (20 * a1)) hx hb dX11_out_160 rfl ?_
                refine lv_iload hx hb dX11_out_161 (lv_at hl 1 rfl) ?_
                refine gi_add (z := ((20 * a1) + (f 34 a1))) hx hb dX11_out_163 rfl ?_
                refine lv_iconst (v := iI 1) hx hb dX11_out_164 rfl ?_
                refine gi_sub (z := (((20 * a1) + (f 34 a1)) - 1)) hx hb dX11_out_165 rfl ?_
                refine lv_iload_n hx hb dX11_out_166 rfl (lv_at hl 5 rfl) ?_
                refine mdS_outTo (f1 := (va_up (va_up (va_up (va_up (va_up f 28 a28_3) 30 a30_3) 34 (f 34)) 35 (f 35)) 36 (u1 (f 36) (((20 * a1) + (f 34 a1)) - 1) a2))) C hP hD hS (by omega) (by omega) (by omega) rfl (Or.inr (gF_up (V := mdV) (F := mdF) (gF_up (V := mdV) (F := mdF) (gF_up (V := mdV) (F := mdF) (gF_up (V := mdV) (F := mdF) (gF_up (V := mdV) (F := mdF) (gR_up (V := mdV) (F := mdF) (gR_up (V := mdV) (F := mdF) (gR_up (V := mdV) (F := mdF) ⟨hok.1, hok.2⟩ 0 (hP.2.1 0)) 1 (hP.2.1 1)) 24 (hP.2.1 24)) 28 (hP.2.2 28)) 30 (hP.2.2 30)) 34 (hP.2.2 34)) 35 (hP.2.2 35)) 36 (u1_rng (hP.2.2 36) (show (-1) ≤ a2 ∧ a2 ≤ 1000000 from (by omega))))) dX11_out_167 (fun H locs hP hS => ?_)
                refine lv_iconst (v := iI 1) hx hb dX11_out_168 rfl ?_
                exact g_zret hQ C hr hlocks (by decide) hP hS dX11_out_169 ⟨1, 0, 0, w24_3, a28_3, a30_3, (f 34), (f 35), (u1 (f 36) (((20 * a1) + (f 34 a1)) - 1) a2), rfl, rfl, rfl, rfl, (by first | omega | (split <;> omega))⟩
              · refine lv_aload_n hx hb dX11_out_114 rfl (lv_at hl 3 rfl) ?_
                refine mdG_outFrom C hP mF_X11_127 dX11_out_115 ?_
                refine lv_bipush (v := iI 20) hx hb dX11_out_118 (by decide) ?_
                refine lv_iload_n hx hb dX11_out_120 rfl (lv_at hl 4 rfl) ?_
                refine gi_mul (z := (20 * a1)) hx hb dX11_out_121 rfl ?_
                refine lv_iload hx hb dX11_out_122 (lv_at hl 1 rfl) ?_
                refine gi_add (z := ((20 * a1) + (f 34 a1))) hx hb dX11_out_124 rfl ?_
                refine lv_iload_n hx hb dX11_out_125 rfl (lv_at hl 5 rfl) ?_
                refine mdS_outFrom (f1 := (va_up (va_up (va_up (va_up (va_up f 28 a28_3) 30 a30_3) 34 (f 34)) 35 (u1 (f 35) ((20 * a1) + (f 34 a1)) a2)) 36 (f 36))) C hP hD hS (by omega) (by omega) (by omega) rfl (Or.inr (gF_up (V := mdV) (F := mdF) (gF_up (V := mdV) (F := mdF) (gF_up (V := mdV) (F := mdF) (gF_up (V := mdV) (F := mdF) (gF_up (V := mdV) (F := mdF) (gR_up (V := mdV) (F := mdF) (gR_up (V := mdV) (F := mdF) (gR_up (V := mdV) (F := mdF) ⟨hok.1, hok.2⟩ 0 (hP.2.1 0)) 1 (hP.2.1 1)) 24 (hP.2.1 24)) 28 (hP.2.2 28)) 30 (hP.2.2 30)) 34 (hP.2.2 34)) 35 (u1_rng (hP.2.2 35) (show 0 ≤ a2 ∧ a2 ≤ 1000000 from (by omega)))) 36 (hP.2.2 36))) dX11_out_126 (fun H locs hP hS => ?_)
                refine lv_aload_n hx hb dX11_out_127 rfl (lv_at hl 3 rfl) ?_
                refine mdG_outTo C hP mF_X11_130 dX11_out_128 ?_
                refine lv_bipush (v := iI 20) hx hb dX11_out_131 (by decide) ?_
                refine lv_iload_n hx hb dX11_out_133 rfl (lv_at hl 4 rfl) ?_
                refine gi_mul (z := (20 * a1)) hx hb dX11_out_134 rfl ?_
                refine lv_iload hx hb dX11_out_135 (lv_at hl 1 rfl) ?_
                refine gi_add (z := ((20 * a1) + (f 34 a1))) hx hb dX11_out_137 rfl ?_
                refine lv_iconst (v := iI (-1)) hx hb dX11_out_138 rfl ?_
                refine mdS_outTo (f1 := (va_up (va_up (va_up (va_up (va_up f 28 a28_3) 30 a30_3) 34 (f 34)) 35 (u1 (f 35) ((20 * a1) + (f 34 a1)) a2)) 36 (u1 (f 36) ((20 * a1) + (f 34 a1)) (-1)))) C hP hD hS (by omega) (by omega) (by decide) rfl (Or.inr (gF_up (V := mdV) (F := mdF) (gF_up (V := mdV) (F := mdF) (gF_up (V := mdV) (F := mdF) (gF_up (V := mdV) (F := mdF) (gF_up (V := mdV) (F := mdF) (gR_up (V := mdV) (F := mdF) (gR_up (V := mdV) (F := mdF) (gR_up (V := mdV) (F := mdF) ⟨hok.1, hok.2⟩ 0 (hP.2.1 0)) 1 (hP.2.1 1)) 24 (hP.2.1 24)) 28 (hP.2.2 28)) 30 (hP.2.2 30)) 34 (hP.2.2 34)) 35 (hP.2.2 35)) 36 (u1_rng (hP.2.2 36) (show (-1) ≤ (-1) ∧ (-1) ≤ 1000000 from (by decide))))) dX11_out_139 (fun H locs hP hS => ?_)
                refine lv_aload_n hx hb dX11_out_140 rfl (lv_at hl 3 rfl) ?_
                refine mdG_outs C hP mF_X11_124 dX11_out_141 ?_
                refine lv_iload_n hx hb dX11_out_144 rfl (lv_at hl 4 rfl) ?_
                refine lv_dup2_11 hx hb dX11_out_145 rfl rfl ?_
                refine mdL_outs C hP (by omega) (by omega) dX11_out_146 ?_
                show W p l e (gRm 2 43) s m args below meth c _ _ 0 0 Q (F0 m 147 ls [.int (iI (f 34 a1)), .int (iI a1), .ref (ad 35)])
                refine lv_iconst (v := iI 1) hx hb dX11_out_147 rfl ?_
                refine gi_add (z := ((f 34 a1) + 1)) hx hb dX11_out_148 rfl ?_
                refine mdS_outs (f1 := (va_up (va_up (va_up (va_up (va_up f 28 a28_3) 30 a30_3) 34 (u1 (f 34) a1 ((f 34 a1) + 1))) 35 (u1 (f 35) ((20 * a1) + (f 34 a1)) a2)) 36 (u1 (f 36) ((20 * a1) + (f 34 a1)) (-1)))) C hP hD hS (by omega) (by omega) (by omega) rfl (Or.inr (gF_up (V := mdV) (F := mdF) (gF_up (V := mdV) (F := mdF) (gF_up (V := mdV) (F := mdF) (gF_up (V := mdV) (F := mdF) (gF_up (V := mdV) (F := mdF) (gR_up (V := mdV) (F := mdF) (gR_up (V := mdV) (F := mdF) (gR_up (V := mdV) (F := mdF) ⟨hok.1, hok.2⟩ 0 (hP.2.1 0)) 1 (hP.2.1 1)) 24 (hP.2.1 24)) 28 (hP.2.2 28)) 30 (hP.2.2 30)) 34 (u1_rng (hP.2.2 34) (show 0 ≤ ((f 34 a1) + 1) ∧ ((f 34 a1) + 1) ≤ 20 from (by omega)))) 35 (hP.2.2 35)) 36 (hP.2.2 36))) dX11_out_149 (fun H locs hP hS => ?_)
                refine lv_goto (tgt := 168) hx hb dX11_out_150 (by decide) ?_
                refine lv_iconst (v := iI 1) hx hb dX11_out_168 rfl ?_
                exact g_zret hQ C hr hlocks (by decide) hP hS dX11_out_169 ⟨1, 0, 0, w24_3, a28_3, a30_3, (u1 (f 34) a1 ((f 34 a1) + 1)), (u1 (f 35) ((20 * a1) + (f 34 a1)) a2), (u1 (f 36) ((20 * a1) + (f 34 a1)) (-1)), rfl, rfl, rfl, rfl, (by first | omega | (split <;> omega))⟩
            · refine lv_aload_n hx hb dX11_out_104 rfl (lv_at hl 3 rfl) ?_
              refine lv_iconst (v := iI 3) hx hb dX11_out_105 rfl ?_
              refine g_cv (As := [.int (iI 3)]) (rest := []) (n := 1) C hml (m_X11_no l D k A ad hD (va_up (va_up (va_up v 0 0) 1 0) 24 w24_3) (va_up (va_up (va_up (va_up (va_up f 28 a28_3) 30 a30_3) 34 (f 34)) 35 (f 35)) 36 (f 36)) g 3 (by decide) (show 0 ≤ (3 : Int) ∧ (3 : Int) ≤ 10 from by omega)) mM_X11_332 mI_X11_no mE_X11_no mN_X11 mC_X11_no (by decide +kernel) 0 (ci := 11) rfl rfl hP hS (fun _ h => h) ⟨Nat.le_of_ble_eq_true rfl, Nat.le_of_ble_eq_true rfl⟩ ⟨Nat.zero_le _, Nat.zero_le _⟩ hl.1 rfl rfl (Nat.le_of_ble_eq_true rfl) dX11_out_106 (fun r_12 v_12 f_12 g_12 H locs hq_12 hP _ hS => ?_)
              obtain ⟨rfl, rfl, rfl, rfl⟩ := hq_12
              show W p l e (gRm 2 43) s m args below meth c _ _ 0 0 Q (F0 m 109 ls [.int (iI 0)])
              have hP : gWd D (mdT k ad) (va_up (va_up (va_up v 0 (3 : Int)) 1 0) 24 w24_3) (va_up (va_up (va_up (va_up (va_up f 28 a28_3) 30 a30_3) 34 (f 34)) 35 (f 35)) 36 (f 36)) g H := ⟨hP.1, (gF_up (V := mdV) (F := mdF) (gF_up (V := mdV) (F := mdF) (gF_up (V := mdV) (F := mdF) (gF_up (V := mdV) (F := mdF) (gF_up (V := mdV) (F := mdF) (gR_up (V := mdV) (F := mdF) (gR_up (V := mdV) (F := mdF) (gR_up (V := mdV) (F := mdF) ⟨hok.1, hok.2⟩ 0 (hP.2.1 0)) 1 (hP.2.1 1)) 24 (hP.2.1 24)) 28 (hP.2.2 28)) 30 (hP.2.2 30)) 34 (hP.2.2 34)) 35 (hP.2.2 35)) 36 (hP.2.2 36))⟩
              exact g_zret hQ C hr hlocks (by decide) hP hS dX11_out_109 ⟨0, (3 : Int), 0, w24_3, a28_3, a30_3, (f 34), (f 35), (f 36), rfl, rfl, rfl, rfl, (by first | omega | (split <;> omega))⟩
        · refine lv_aload_n hx hb dX11_out_86 rfl (lv_at hl 3 rfl) ?_
          refine lv_bipush (v := iI 10) hx hb dX11_out_87 (by decide) ?_
          refine g_cv (As := [.int (iI 10)]) (rest := []) (n := 1) C hml (m_X11_no l D k A ad hD (va_up (va_up (va_up v 0 0) 1 0) 24 w24_3) (va_up (va_up (va_up (va_up (va_up f 28 a28_3) 30 a30_3) 34 (f 34)) 35 (f 35)) 36 (f 36)) g 10 (by decide) (show 0 ≤ (10 : Int) ∧ (10 : Int) ≤ 10 from by omega)) mM_X11_332 mI_X11_no mE_X11_no mN_X11 mC_X11_no (by decide +kernel) 0 (ci := 11) rfl rfl hP hS (fun _ h => h) ⟨Nat.le_of_ble_eq_true rfl, Nat.le_of_ble_eq_true rfl⟩ ⟨Nat.zero_le _, Nat.zero_le _⟩ hl.1 rfl rfl (Nat.le_of_ble_eq_true rfl) dX11_out_89 (fun r_13 v_13 f_13 g_13 H locs hq_13 hP _ hS => ?_)
          obtain ⟨rfl, rfl, rfl, rfl⟩ := hq_13
          show W p l e (gRm 2 43) s m args below meth c _ _ 0 0 Q (F0 m 92 ls [.int (iI 0)])
          have hP : gWd D (mdT k ad) (va_up (va_up (va_up v 0 (10 : Int)) 1 0) 24 w24_3) (va_up (va_up (va_up (va_up (va_up f 28 a28_3) 30 a30_3) 34 (f 34)) 35 (f 35)) 36 (f 36)) g H := ⟨hP.1, (gF_up (V := mdV) (F := mdF) (gF_up (V := mdV) (F := mdF) (gF_up (V := mdV) (F := mdF) (gF_up (V := mdV) (F := mdF) (gF_up (V := mdV) (F := mdF) (gR_up (V := mdV) (F := mdF) (gR_up (V := mdV) (F := mdF) (gR_up (V := mdV) (F := mdF) ⟨hok.1, hok.2⟩ 0 (hP.2.1 0)) 1 (hP.2.1 1)) 24 (hP.2.1 24)) 28 (hP.2.2 28)) 30 (hP.2.2 30)) 34 (hP.2.2 34)) 35 (hP.2.2 35)) 36 (hP.2.2 36))⟩
          exact g_zret hQ C hr hlocks (by decide) hP hS dX11_out_92 ⟨0, (10 : Int), 0, w24_3, a28_3, a30_3, (f 34), (f 35), (f 36), rfl, rfl, rfl, rfl, (by first | omega | (split <;> omega))⟩
      · refine lv_aload_n hx hb dX11_out_56 rfl (lv_at hl 2 rfl) ?_
        refine mdG_outTo C hP mF_X11_130 dX11_out_57 ?_
        refine lv_bipush (v := iI 20) hx hb dX11_out_60 (by decide) ?_
        refine lv_iload_n hx hb dX11_out_62 rfl (lv_at hl 3 rfl) ?_
        refine gi_mul (z := (20 * a1)) hx hb dX11_out_63 rfl ?_
        refine lv_iload hx hb dX11_out_64 (lv_at hl 0 rfl) ?_
        refine gi_add (z := ((20 * a1) + (f 34 a1))) hx hb dX11_out_66 rfl ?_
        refine lv_iconst (v := iI 1) hx hb dX11_out_67 rfl ?_
        refine gi_sub (z := (((20 * a1) + (f 34 a1)) - 1)) hx hb dX11_out_68 rfl ?_
        refine mdL_outTo C hP (by omega) (by omega) dX11_out_69 ?_
        show W p l e (gRm 2 43) s m args below meth c _ _ 0 0 Q (F0 m 70 ls [.int (iI (f 36 (((20 * a1) + (f 34 a1)) - 1)))])
        have r_14 : (-1) ≤ (f 36 (((20 * a1) + (f 34 a1)) - 1)) ∧ (f 36 (((20 * a1) + (f 34 a1)) - 1)) ≤ 1000000 := hP.2.2 36 (((20 * a1) + (f 34 a1)) - 1)
        refine gi_zge (tgt := 77) hx hb dX11_out_70 (by decide) (by omega) (fun c_15 => ?_) (fun c_15 => ?_)
        · refine lv_iconst (v := iI 0) hx hb dX11_out_77 rfl ?_
          refine lv_istore (lv' := [(6, .int (iI 0)), (5, .int (iI (f 34 a1))), (4, .int (iI z_3)), (0, .ref (ad 0)), (1, .int (iI a1)), (2, .int (iI a2)), (3, .int (iI a3))]) hx hb dX11_out_78 hl (by decide) rfl (fun ls hl => ?_)
          refine lv_iload hx hb dX11_out_80 (lv_at hl 0 rfl) ?_
          refine lv_iload_n hx hb dX11_out_82 rfl (lv_at hl 6 rfl) ?_
          refine gi_cne (tgt := 93) hx hb dX11_out_83 (by decide) (by decide) (by omega) (fun c_16 => ?_) (fun c_16 => ?_)
          · refine lv_iload_n hx hb dX11_out_93 rfl (lv_at hl 6 rfl) ?_
            refine gi_zeq (tgt := 110) hx hb dX11_out_94 (by decide) (by omega) (fun c_17 => ?_) (fun c_17 => ?_)
            · refine lv_iload_n hx hb dX11_out_110 rfl (lv_at hl 6 rfl) ?_
              refine gi_zeq (tgt := 153) hx hb dX11_out_111 (by decide) (by omega) (fun c_18 => ?_) (fun c_18 => ?_)
              · refine lv_aload_n hx hb dX11_out_153 rfl (lv_at hl 3 rfl) ?_
                refine mdG_outTo C hP mF_X11_130 dX11_out_154 ?_
                refine lv_bipush (v := iI 20) hx hb dX11_out_157 (by decide) ?_
                refine lv_iload_n hx hb dX11_out_159 rfl (lv_at hl 4 rfl) ?_
                refine gi_mul (z := (20 * a1)) hx hb dX11_out_160 rfl ?_
                refine lv_iload hx hb dX11_out_161 (lv_at hl 1 rfl) ?_
                refine gi_add (z := ((20 * a1) + (f 34 a1))) hx hb dX11_out_163 rfl ?_
                refine lv_iconst (v := iI 1) hx hb dX11_out_164 rfl ?_
                refine gi_sub (z := (((20 * a1) + (f 34 a1)) - 1)) hx hb dX11_out_165 rfl ?_
                refine lv_iload_n hx hb dX11_out_166 rfl (lv_at hl 5 rfl) ?_
                refine mdS_outTo (f1 := (va_up (va_up (va_up (va_up (va_up f 28 a28_3) 30 a30_3) 34 (f 34)) 35 (f 35)) 36 (u1 (f 36) (((20 * a1) + (f 34 a1)) - 1) a2))) C hP hD hS (by omega) (by omega) (by omega) rfl (Or.inr (gF_up (V := mdV) (F := mdF) (gF_up (V := mdV) (F := mdF) (gF_up (V := mdV) (F := mdF) (gF_up (V := mdV) (F := mdF) (gF_up (V := mdV) (F := mdF) (gR_up (V := mdV) (F := mdF) (gR_up (V := mdV) (F := mdF) (gR_up (V := mdV) (F := mdF) ⟨hok.1, hok.2⟩ 0 (hP.2.1 0)) 1 (hP.2.1 1)) 24 (hP.2.1 24)) 28 (hP.2.2 28)) 30 (hP.2.2 30)) 34 (hP.2.2 34)) 35 (hP.2.2 35)) 36 (u1_rng (hP.2.2 36) (show (-1) ≤ a2 ∧ a2 ≤ 1000000 from (by omega))))) dX11_out_167 (fun H locs hP hS => ?_)
                refine lv_iconst (v := iI 1) hx hb dX11_out_168 rfl ?_
                exact g_zret hQ C hr hlocks (by decide) hP hS dX11_out_169 ⟨1, 0, 0, w24_3, a28_3, a30_3, (f 34), (f 35), (u1 (f 36) (((20 * a1) + (f 34 a1)) - 1) a2), rfl, rfl, rfl, rfl, (by first | omega | (split <;> omega))⟩
              · refine lv_aload_n hx hb dX11_out_114 rfl (lv_at hl 3 rfl) ?_
                refine mdG_outFrom C hP mF_X11_127 dX11_out_115 ?_
                refine lv_bipush (v := iI 20) hx hb dX11_out_118 (by decide) ?_
                refine lv_iload_n hx hb dX11_out_120 rfl (lv_at hl 4 rfl) ?_
                refine gi_mul (z := (20 * a1)) hx hb dX11_out_121 rfl ?_
                refine lv_iload hx hb dX11_out_122 (lv_at hl 1 rfl) ?_
                refine gi_add (z := ((20 * a1) + (f 34 a1))) hx hb dX11_out_124 rfl ?_
                refine lv_iload_n hx hb dX11_out_125 rfl (lv_at hl 5 rfl) ?_
                refine mdS_outFrom (f1 := (va_up (va_up (va_up (va_up (va_up f 28 a28_3) 30 a30_3) 34 (f 34)) 35 (u1 (f 35) ((20 * a1) + (f 34 a1)) a2)) 36 (f 36))) C hP hD hS (by omega) (by omega) (by omega) rfl (Or.inr (gF_up (V := mdV) (F := mdF) (gF_up (V := mdV) (F := mdF) (gF_up (V := mdV) (F := mdF) (gF_up (V := mdV) (F := mdF) (gF_up (V := mdV) (F := mdF) (gR_up (V := mdV) (F := mdF) (gR_up (V := mdV) (F := mdF) (gR_up (V := mdV) (F := mdF) ⟨hok.1, hok.2⟩ 0 (hP.2.1 0)) 1 (hP.2.1 1)) 24 (hP.2.1 24)) 28 (hP.2.2 28)) 30 (hP.2.2 30)) 34 (hP.2.2 34)) 35 (u1_rng (hP.2.2 35) (show 0 ≤ a2 ∧ a2 ≤ 1000000 from (by omega)))) 36 (hP.2.2 36))) dX11_out_126 (fun H locs hP hS => ?_)
                refine lv_aload_n hx hb dX11_out_127 rfl (lv_at hl 3 rfl) ?_
                refine mdG_outTo C hP mF_X11_130 dX11_out_128 ?_
                refine lv_bipush (v := iI 20) hx hb dX11_out_131 (by decide) ?_
                refine lv_iload_n hx hb dX11_out_133 rfl (lv_at hl 4 rfl) ?_
                refine gi_mul (z := (20 * a1)) hx hb dX11_out_134 rfl ?_
                refine lv_iload hx hb dX11_out_135 (lv_at hl 1 rfl) ?_
                refine gi_add (z := ((20 * a1) + (f 34 a1))) hx hb dX11_out_137 rfl ?_
                refine lv_iconst (v := iI (-1)) hx hb dX11_out_138 rfl ?_
                refine mdS_outTo (f1 := (va_up (va_up (va_up (va_up (va_up f 28 a28_3) 30 a30_3) 34 (f 34)) 35 (u1 (f 35) ((20 * a1) + (f 34 a1)) a2)) 36 (u1 (f 36) ((20 * a1) + (f 34 a1)) (-1)))) C hP hD hS (by omega) (by omega) (by decide) rfl (Or.inr (gF_up (V := mdV) (F := mdF) (gF_up (V := mdV) (F := mdF) (gF_up (V := mdV) (F := mdF) (gF_up (V := mdV) (F := mdF) (gF_up (V := mdV) (F := mdF) (gR_up (V := mdV) (F := mdF) (gR_up (V := mdV) (F := mdF) (gR_up (V := mdV) (F := mdF) ⟨hok.1, hok.2⟩ 0 (hP.2.1 0)) 1 (hP.2.1 1)) 24 (hP.2.1 24)) 28 (hP.2.2 28)) 30 (hP.2.2 30)) 34 (hP.2.2 34)) 35 (hP.2.2 35)) 36 (u1_rng (hP.2.2 36) (show (-1) ≤ (-1) ∧ (-1) ≤ 1000000 from (by decide))))) dX11_out_139 (fun H locs hP hS => ?_)
                refine lv_aload_n hx hb dX11_out_140 rfl (lv_at hl 3 rfl) ?_
                refine mdG_outs C hP mF_X11_124 dX11_out_141 ?_
                refine lv_iload_n hx hb dX11_out_144 rfl (lv_at hl 4 rfl) ?_
                refine lv_dup2_11 hx hb dX11_out_145 rfl rfl ?_
                refine mdL_outs C hP (by omega) (by omega) dX11_out_146 ?_
                show W p l e (gRm 2 43) s m args below meth c _ _ 0 0 Q (F0 m 147 ls [.int (iI (f 34 a1)), .int (iI a1), .ref (ad 35)])
                refine lv_iconst (v := iI 1) hx hb dX11_out_147 rfl ?_
                refine gi_add (z := ((f 34 a1) + 1)) hx hb dX11_out_148 rfl ?_
                refine mdS_outs (f1 := (va_up (va_up (va_up (va_up (va_up f 28 a28_3) 30 a30_3) 34 (u1 (f 34) a1 ((f 34 a1) + 1))) 35 (u1 (f 35) ((20 * a1) + (f 34 a1)) a2)) 36 (u1 (f 36) ((20 * a1) + (f 34 a1)) (-1)))) C hP hD hS (by omega) (by omega) (by omega) rfl (Or.inr (gF_up (V := mdV) (F := mdF) (gF_up (V := mdV) (F := mdF) (gF_up (V := mdV) (F := mdF) (gF_up (V := mdV) (F := mdF) (gF_up (V := mdV) (F := mdF) (gR_up (V := mdV) (F := mdF) (gR_up (V := mdV) (F := mdF) (gR_up (V := mdV) (F := mdF) ⟨hok.1, hok.2⟩ 0 (hP.2.1 0)) 1 (hP.2.1 1)) 24 (hP.2.1 24)) 28 (hP.2.2 28)) 30 (hP.2.2 30)) 34 (u1_rng (hP.2.2 34) (show 0 ≤ ((f 34 a1) + 1) ∧ ((f 34 a1) + 1) ≤ 20 from (by omega)))) 35 (hP.2.2 35)) 36 (hP.2.2 36))) dX11_out_149 (fun H locs hP hS => ?_)
                refine lv_goto (tgt := 168) hx hb dX11_out_150 (by decide) ?_
                refine lv_iconst (v := iI 1) hx hb dX11_out_168 rfl ?_
                exact g_zret hQ C hr hlocks (by decide) hP hS dX11_out_169 ⟨1, 0, 0, w24_3, a28_3, a30_3, (u1 (f 34) a1 ((f 34 a1) + 1)), (u1 (f 35) ((20 * a1) + (f 34 a1)) a2), (u1 (f 36) ((20 * a1) + (f 34 a1)) (-1)), rfl, rfl, rfl, rfl, (by first | omega | (split <;> omega))⟩
            · refine lv_iload hx hb dX11_out_97 (lv_at hl 1 rfl) ?_
              refine lv_bipush (v := iI 20) hx hb dX11_out_99 (by decide) ?_
              refine gi_cne (tgt := 110) hx hb dX11_out_101 (by decide) (by omega) (by decide) (fun c_19 => ?_) (fun c_19 => ?_)
              · refine lv_iload_n hx hb dX11_out_110 rfl (lv_at hl 6 rfl) ?_
                refine gi_zeq (tgt := 153) hx hb dX11_out_111 (by decide) (by omega) (fun c_20 => ?_) (fun c_20 => ?_)
                · refine lv_aload_n hx hb dX11_out_153 rfl (lv_at hl 3 rfl) ?_
                  refine mdG_outTo C hP mF_X11_130 dX11_out_154 ?_
                  refine lv_bipush (v := iI 20) hx hb dX11_out_157 (by decide) ?_
                  refine lv_iload_n hx hb dX11_out_159 rfl (lv_at hl 4 rfl) ?_
                  refine gi_mul (z := (20 * a1)) hx hb dX11_out_160 rfl ?_
                  refine lv_iload hx hb dX11_out_161 (lv_at hl 1 rfl) ?_
                  refine gi_add (z := ((20 * a1) + (f 34 a1))) hx hb dX11_out_163 rfl ?_
                  refine lv_iconst (v := iI 1) hx hb dX11_out_164 rfl ?_
                  refine gi_sub (z := (((20 * a1) + (f 34 a1)) - 1)) hx hb dX11_out_165 rfl ?_
                  refine lv_iload_n hx hb dX11_out_166 rfl (lv_at hl 5 rfl) ?_
                  refine mdS_outTo (f1 := (va_up (va_up (va_up (va_up (va_up f 28 a28_3) 30 a30_3) 34 (f 34)) 35 (f 35)) 36 (u1 (f 36) (((20 * a1) + (f 34 a1)) - 1) a2))) C hP hD hS (by omega) (by omega) (by omega) rfl (Or.inr (gF_up (V := mdV) (F := mdF) (gF_up (V := mdV) (F := mdF) (gF_up (V := mdV) (F := mdF) (gF_up (V := mdV) (F := mdF) (gF_up (V := mdV) (F := mdF) (gR_up (V := mdV) (F := mdF) (gR_up (V := mdV) (F := mdF) (gR_up (V := mdV) (F := mdF) ⟨hok.1, hok.2⟩ 0 (hP.2.1 0)) 1 (hP.2.1 1)) 24 (hP.2.1 24)) 28 (hP.2.2 28)) 30 (hP.2.2 30)) 34 (hP.2.2 34)) 35 (hP.2.2 35)) 36 (u1_rng (hP.2.2 36) (show (-1) ≤ a2 ∧ a2 ≤ 1000000 from (by omega))))) dX11_out_167 (fun H locs hP hS => ?_)
                  refine lv_iconst (v := iI 1) hx hb dX11_out_168 rfl ?_
                  exact g_zret hQ C hr hlocks (by decide) hP hS dX11_out_169 ⟨1, 0, 0, w24_3, a28_3, a30_3, (f 34), (f 35), (u1 (f 36) (((20 * a1) + (f 34 a1)) - 1) a2), rfl, rfl, rfl, rfl, (by first | omega | (split <;> omega))⟩
                · refine lv_aload_n hx hb dX11_out_114 rfl (lv_at hl 3 rfl) ?_
                  refine mdG_outFrom C hP mF_X11_127 dX11_out_115 ?_
                  refine lv_bipush (v := iI 20) hx hb dX11_out_118 (by decide) ?_
                  refine lv_iload_n hx hb dX11_out_120 rfl (lv_at hl 4 rfl) ?_
                  refine gi_mul (z := (20 * a1)) hx hb dX11_out_121 rfl ?_
                  refine lv_iload hx hb dX11_out_122 (lv_at hl 1 rfl) ?_
                  refine gi_add (z := ((20 * a1) + (f 34 a1))) hx hb dX11_out_124 rfl ?_
                  refine lv_iload_n hx hb dX11_out_125 rfl (lv_at hl 5 rfl) ?_
                  refine mdS_outFrom (f1 := (va_up (va_up (va_up (va_up (va_up f 28 a28_3) 30 a30_3) 34 (f 34)) 35 (u1 (f 35) ((20 * a1) + (f 34 a1)) a2)) 36 (f 36))) C hP hD hS (by omega) (by omega) (by omega) rfl (Or.inr (gF_up (V := mdV) (F := mdF) (gF_up (V := mdV) (F := mdF) (gF_up (V := mdV) (F := mdF) (gF_up (V := mdV) (F := mdF) (gF_up (V := mdV) (F := mdF) (gR_up (V := mdV) (F := mdF) (gR_up (V := mdV) (F := mdF) (gR_up (V := mdV) (F := mdF) ⟨hok.1, hok.2⟩ 0 (hP.2.1 0)) 1 (hP.2.1 1)) 24 (hP.2.1 24)) 28 (hP.2.2 28)) 30 (hP.2.2 30)) 34 (hP.2.2 34)) 35 (u1_rng (hP.2.2 35) (show 0 ≤ a2 ∧ a2 ≤ 1000000 from (by omega)))) 36 (hP.2.2 36))) dX11_out_126 (fun H locs hP hS => ?_)
                  refine lv_aload_n hx hb dX11_out_127 rfl (lv_at hl 3 rfl) ?_
                  refine mdG_outTo C hP mF_X11_130 dX11_out_128 ?_
                  refine lv_bipush (v := iI 20) hx hb dX11_out_131 (by decide) ?_
                  refine lv_iload_n hx hb dX11_out_133 rfl (lv_at hl 4 rfl) ?_
                  refine gi_mul (z := (20 * a1)) hx hb dX11_out_134 rfl ?_
                  refine lv_iload hx hb dX11_out_135 (lv_at hl 1 rfl) ?_
                  refine gi_add (z := ((20 * a1) + (f 34 a1))) hx hb dX11_out_137 rfl ?_
                  refine lv_iconst (v := iI (-1)) hx hb dX11_out_138 rfl ?_
                  refine mdS_outTo (f1 := (va_up (va_up (va_up (va_up (va_up f 28 a28_3) 30 a30_3) 34 (f 34)) 35 (u1 (f 35) ((20 * a1) + (f 34 a1)) a2)) 36 (u1 (f 36) ((20 * a1) + (f 34 a1)) (-1)))) C hP hD hS (by omega) (by omega) (by decide) rfl (Or.inr (gF_up (V := mdV) (F := mdF) (gF_up (V := mdV) (F := mdF) (gF_up (V := mdV) (F := mdF) (gF_up (V := mdV) (F := mdF) (gF_up (V := mdV) (F := mdF) (gR_up (V := mdV) (F := mdF) (gR_up (V := mdV) (F := mdF) (gR_up (V := mdV) (F := mdF) ⟨hok.1, hok.2⟩ 0 (hP.2.1 0)) 1 (hP.2.1 1)) 24 (hP.2.1 24)) 28 (hP.2.2 28)) 30 (hP.2.2 30)) 34 (hP.2.2 34)) 35 (hP.2.2 35)) 36 (u1_rng (hP.2.2 36) (show (-1) ≤ (-1) ∧ (-1) ≤ 1000000 from (by decide))))) dX11_out_139 (fun H locs hP hS => ?_)
                  refine lv_aload_n hx hb dX11_out_140 rfl (lv_at hl 3 rfl) ?_
                  refine mdG_outs C hP mF_X11_124 dX11_out_141 ?_
                  refine lv_iload_n hx hb dX11_out_144 rfl (lv_at hl 4 rfl) ?_
                  refine lv_dup2_11 hx hb dX11_out_145 rfl rfl ?_
                  refine mdL_outs C hP (by omega) (by omega) dX11_out_146 ?_
                  show W p l e (gRm 2 43) s m args below meth c _ _ 0 0 Q (F0 m 147 ls [.int (iI (f 34 a1)), .int (iI a1), .ref (ad 35)])
                  refine lv_iconst (v := iI 1) hx hb dX11_out_147 rfl ?_
                  refine gi_add (z := ((f 34 a1) + 1)) hx hb dX11_out_148 rfl ?_
                  refine mdS_outs (f1 := (va_up (va_up (va_up (va_up (va_up f 28 a28_3) 30 a30_3) 34 (u1 (f 34) a1 ((f 34 a1) + 1))) 35 (u1 (f 35) ((20 * a1) + (f 34 a1)) a2)) 36 (u1 (f 36) ((20 * a1) + (f 34 a1)) (-1)))) C hP hD hS (by omega) (by omega) (by omega) rfl (Or.inr (gF_up (V := mdV) (F := mdF) (gF_up (V := mdV) (F := mdF) (gF_up (V := mdV) (F := mdF) (gF_up (V := mdV) (F := mdF) (gF_up (V := mdV) (F := mdF) (gR_up (V := mdV) (F := mdF) (gR_up (V := mdV) (F := mdF) (gR_up (V := mdV) (F := mdF) ⟨hok.1, hok.2⟩ 0 (hP.2.1 0)) 1 (hP.2.1 1)) 24 (hP.2.1 24)) 28 (hP.2.2 28)) 30 (hP.2.2 30)) 34 (u1_rng (hP.2.2 34) (show 0 ≤ ((f 34 a1) + 1) ∧ ((f 34 a1) + 1) ≤ 20 from (by omega)))) 35 (hP.2.2 35)) 36 (hP.2.2 36))) dX11_out_149 (fun H locs hP hS => ?_)
                  refine lv_goto (tgt := 168) hx hb dX11_out_150 (by decide) ?_
                  refine lv_iconst (v := iI 1) hx hb dX11_out_168 rfl ?_
                  exact g_zret hQ C hr hlocks (by decide) hP hS dX11_out_169 ⟨1, 0, 0, w24_3, a28_3, a30_3, (u1 (f 34) a1 ((f 34 a1) + 1)), (u1 (f 35) ((20 * a1) + (f 34 a1)) a2), (u1 (f 36) ((20 * a1) + (f 34 a1)) (-1)), rfl, rfl, rfl, rfl, (by first | omega | (split <;> omega))⟩
              · refine lv_aload_n hx hb dX11_out_104 rfl (lv_at hl 3 rfl) ?_
                refine lv_iconst (v := iI 3) hx hb dX11_out_105 rfl ?_
                refine g_cv (As := [.int (iI 3)]) (rest := []) (n := 1) C hml (m_X11_no l D k A ad hD (va_up (va_up (va_up v 0 0) 1 0) 24 w24_3) (va_up (va_up (va_up (va_up (va_up f 28 a28_3) 30 a30_3) 34 (f 34)) 35 (f 35)) 36 (f 36)) g 3 (by decide) (show 0 ≤ (3 : Int) ∧ (3 : Int) ≤ 10 from by omega)) mM_X11_332 mI_X11_no mE_X11_no mN_X11 mC_X11_no (by decide +kernel) 0 (ci := 11) rfl rfl hP hS (fun _ h => h) ⟨Nat.le_of_ble_eq_true rfl, Nat.le_of_ble_eq_true rfl⟩ ⟨Nat.zero_le _, Nat.zero_le _⟩ hl.1 rfl rfl (Nat.le_of_ble_eq_true rfl) dX11_out_106 (fun r_21 v_21 f_21 g_21 H locs hq_21 hP _ hS => ?_)
                obtain ⟨rfl, rfl, rfl, rfl⟩ := hq_21
                show W p l e (gRm 2 43) s m args below meth c _ _ 0 0 Q (F0 m 109 ls [.int (iI 0)])
                have hP : gWd D (mdT k ad) (va_up (va_up (va_up v 0 (3 : Int)) 1 0) 24 w24_3) (va_up (va_up (va_up (va_up (va_up f 28 a28_3) 30 a30_3) 34 (f 34)) 35 (f 35)) 36 (f 36)) g H := ⟨hP.1, (gF_up (V := mdV) (F := mdF) (gF_up (V := mdV) (F := mdF) (gF_up (V := mdV) (F := mdF) (gF_up (V := mdV) (F := mdF) (gF_up (V := mdV) (F := mdF) (gR_up (V := mdV) (F := mdF) (gR_up (V := mdV) (F := mdF) (gR_up (V := mdV) (F := mdF) ⟨hok.1, hok.2⟩ 0 (hP.2.1 0)) 1 (hP.2.1 1)) 24 (hP.2.1 24)) 28 (hP.2.2 28)) 30 (hP.2.2 30)) 34 (hP.2.2 34)) 35 (hP.2.2 35)) 36 (hP.2.2 36))⟩
                exact g_zret hQ C hr hlocks (by decide) hP hS dX11_out_109 ⟨0, (3 : Int), 0, w24_3, a28_3, a30_3, (f 34), (f 35), (f 36), rfl, rfl, rfl, rfl, (by first | omega | (split <;> omega))⟩
          · refine lv_aload_n hx hb dX11_out_86 rfl (lv_at hl 3 rfl) ?_
            refine lv_bipush (v := iI 10) hx hb dX11_out_87 (by decide) ?_
            refine g_cv (As := [.int (iI 10)]) (rest := []) (n := 1) C hml (m_X11_no l D k A ad hD (va_up (va_up (va_up v 0 0) 1 0) 24 w24_3) (va_up (va_up (va_up (va_up (va_up f 28 a28_3) 30 a30_3) 34 (f 34)) 35 (f 35)) 36 (f 36)) g 10 (by decide) (show 0 ≤ (10 : Int) ∧ (10 : Int) ≤ 10 from by omega)) mM_X11_332 mI_X11_no mE_X11_no mN_X11 mC_X11_no (by decide +kernel) 0 (ci := 11) rfl rfl hP hS (fun _ h => h) ⟨Nat.le_of_ble_eq_true rfl, Nat.le_of_ble_eq_true rfl⟩ ⟨Nat.zero_le _, Nat.zero_le _⟩ hl.1 rfl rfl (Nat.le_of_ble_eq_true rfl) dX11_out_89 (fun r_22 v_22 f_22 g_22 H locs hq_22 hP _ hS => ?_)
            obtain ⟨rfl, rfl, rfl, rfl⟩ := hq_22
            show W p l e (gRm 2 43) s m args below meth c _ _ 0 0 Q (F0 m 92 ls [.int (iI 0)])
            have hP : gWd D (mdT k ad) (va_up (va_up (va_up v 0 (10 : Int)) 1 0) 24 w24_3) (va_up (va_up (va_up (va_up (va_up f 28 a28_3) 30 a30_3) 34 (f 34)) 35 (f 35)) 36 (f 36)) g H := ⟨hP.1, (gF_up (V := mdV) (F := mdF) (gF_up (V := mdV) (F := mdF) (gF_up (V := mdV) (F := mdF) (gF_up (V := mdV) (F := mdF) (gF_up (V := mdV) (F := mdF) (gR_up (V := mdV) (F := mdF) (gR_up (V := mdV) (F := mdF) (gR_up (V := mdV) (F := mdF) ⟨hok.1, hok.2⟩ 0 (hP.2.1 0)) 1 (hP.2.1 1)) 24 (hP.2.1 24)) 28 (hP.2.2 28)) 30 (hP.2.2 30)) 34 (hP.2.2 34)) 35 (hP.2.2 35)) 36 (hP.2.2 36))⟩
            exact g_zret hQ C hr hlocks (by decide) hP hS dX11_out_92 ⟨0, (10 : Int), 0, w24_3, a28_3, a30_3, (f 34), (f 35), (f 36), rfl, rfl, rfl, rfl, (by first | omega | (split <;> omega))⟩
        · refine lv_iconst (v := iI 1) hx hb dX11_out_73 rfl ?_
          refine lv_goto (tgt := 78) hx hb dX11_out_74 (by decide) ?_
          refine lv_istore (lv' := [(6, .int (iI 1)), (5, .int (iI (f 34 a1))), (4, .int (iI z_3)), (0, .ref (ad 0)), (1, .int (iI a1)), (2, .int (iI a2)), (3, .int (iI a3))]) hx hb dX11_out_78 hl (by decide) rfl (fun ls hl => ?_)
          refine lv_iload hx hb dX11_out_80 (lv_at hl 0 rfl) ?_
          refine lv_iload_n hx hb dX11_out_82 rfl (lv_at hl 6 rfl) ?_
          refine gi_cne (tgt := 93) hx hb dX11_out_83 (by decide) (by decide) (by omega) (fun c_23 => ?_) (fun c_23 => ?_)
          · refine lv_iload_n hx hb dX11_out_93 rfl (lv_at hl 6 rfl) ?_
            refine gi_zeq (tgt := 110) hx hb dX11_out_94 (by decide) (by omega) (fun c_24 => ?_) (fun c_24 => ?_)
            · refine lv_iload_n hx hb dX11_out_110 rfl (lv_at hl 6 rfl) ?_
              refine gi_zeq (tgt := 153) hx hb dX11_out_111 (by decide) (by omega) (fun c_25 => ?_) (fun c_25 => ?_)
              · refine lv_aload_n hx hb dX11_out_153 rfl (lv_at hl 3 rfl) ?_
                refine mdG_outTo C hP mF_X11_130 dX11_out_154 ?_
                refine lv_bipush (v := iI 20) hx hb dX11_out_157 (by decide) ?_
                refine lv_iload_n hx hb dX11_out_159 rfl (lv_at hl 4 rfl) ?_
                refine gi_mul (z := (20 * a1)) hx hb dX11_out_160 rfl ?_
                refine lv_iload hx hb dX11_out_161 (lv_at hl 1 rfl) ?_
                refine gi_add (z := ((20 * a1) + (f 34 a1))) hx hb dX11_out_163 rfl ?_
                refine lv_iconst (v := iI 1) hx hb dX11_out_164 rfl ?_
                refine gi_sub (z := (((20 * a1) + (f 34 a1)) - 1)) hx hb dX11_out_165 rfl ?_
                refine lv_iload_n hx hb dX11_out_166 rfl (lv_at hl 5 rfl) ?_
                refine mdS_outTo (f1 := (va_up (va_up (va_up (va_up (va_up f 28 a28_3) 30 a30_3) 34 (f 34)) 35 (f 35)) 36 (u1 (f 36) (((20 * a1) + (f 34 a1)) - 1) a2))) C hP hD hS (by omega) (by omega) (by omega) rfl (Or.inr (gF_up (V := mdV) (F := mdF) (gF_up (V := mdV) (F := mdF) (gF_up (V := mdV) (F := mdF) (gF_up (V := mdV) (F := mdF) (gF_up (V := mdV) (F := mdF) (gR_up (V := mdV) (F := mdF) (gR_up (V := mdV) (F := mdF) (gR_up (V := mdV) (F := mdF) ⟨hok.1, hok.2⟩ 0 (hP.2.1 0)) 1 (hP.2.1 1)) 24 (hP.2.1 24)) 28 (hP.2.2 28)) 30 (hP.2.2 30)) 34 (hP.2.2 34)) 35 (hP.2.2 35)) 36 (u1_rng (hP.2.2 36) (show (-1) ≤ a2 ∧ a2 ≤ 1000000 from (by omega))))) dX11_out_167 (fun H locs hP hS => ?_)
                refine lv_iconst (v := iI 1) hx hb dX11_out_168 rfl ?_
                exact g_zret hQ C hr hlocks (by decide) hP hS dX11_out_169 ⟨1, 0, 0, w24_3, a28_3, a30_3, (f 34), (f 35), (u1 (f 36) (((20 * a1) + (f 34 a1)) - 1) a2), rfl, rfl, rfl, rfl, (by first | omega | (split <;> omega))⟩
              · refine lv_aload_n hx hb dX11_out_114 rfl (lv_at hl 3 rfl) ?_
                refine mdG_outFrom C hP mF_X11_127 dX11_out_115 ?_
                refine lv_bipush (v := iI 20) hx hb dX11_out_118 (by decide) ?_
                refine lv_iload_n hx hb dX11_out_120 rfl (lv_at hl 4 rfl) ?_
                refine gi_mul (z := (20 * a1)) hx hb dX11_out_121 rfl ?_
                refine lv_iload hx hb dX11_out_122 (lv_at hl 1 rfl) ?_
                refine gi_add (z := ((20 * a1) + (f 34 a1))) hx hb dX11_out_124 rfl ?_
                refine lv_iload_n hx hb dX11_out_125 rfl (lv_at hl 5 rfl) ?_
                refine mdS_outFrom (f1 := (va_up (va_up (va_up (va_up (va_up f 28 a28_3) 30 a30_3) 34 (f 34)) 35 (u1 (f 35) ((20 * a1) + (f 34 a1)) a2)) 36 (f 36))) C hP hD hS (by omega) (by omega) (by omega) rfl (Or.inr (gF_up (V := mdV) (F := mdF) (gF_up (V := mdV) (F := mdF) (gF_up (V := mdV) (F := mdF) (gF_up (V := mdV) (F := mdF) (gF_up (V := mdV) (F := mdF) (gR_up (V := mdV) (F := mdF) (gR_up (V := mdV) (F := mdF) (gR_up (V := mdV) (F := mdF) ⟨hok.1, hok.2⟩ 0 (hP.2.1 0)) 1 (hP.2.1 1)) 24 (hP.2.1 24)) 28 (hP.2.2 28)) 30 (hP.2.2 30)) 34 (hP.2.2 34)) 35 (u1_rng (hP.2.2 35) (show 0 ≤ a2 ∧ a2 ≤ 1000000 from (by omega)))) 36 (hP.2.2 36))) dX11_out_126 (fun H locs hP hS => ?_)
                refine lv_aload_n hx hb dX11_out_127 rfl (lv_at hl 3 rfl) ?_
                refine mdG_outTo C hP mF_X11_130 dX11_out_128 ?_
                refine lv_bipush (v := iI 20) hx hb dX11_out_131 (by decide) ?_
                refine lv_iload_n hx hb dX11_out_133 rfl (lv_at hl 4 rfl) ?_
                refine gi_mul (z := (20 * a1)) hx hb dX11_out_134 rfl ?_
                refine lv_iload hx hb dX11_out_135 (lv_at hl 1 rfl) ?_
                refine gi_add (z := ((20 * a1) + (f 34 a1))) hx hb dX11_out_137 rfl ?_
                refine lv_iconst (v := iI (-1)) hx hb dX11_out_138 rfl ?_
                refine mdS_outTo (f1 := (va_up (va_up (va_up (va_up (va_up f 28 a28_3) 30 a30_3) 34 (f 34)) 35 (u1 (f 35) ((20 * a1) + (f 34 a1)) a2)) 36 (u1 (f 36) ((20 * a1) + (f 34 a1)) (-1)))) C hP hD hS (by omega) (by omega) (by decide) rfl (Or.inr (gF_up (V := mdV) (F := mdF) (gF_up (V := mdV) (F := mdF) (gF_up (V := mdV) (F := mdF) (gF_up (V := mdV) (F := mdF) (gF_up (V := mdV) (F := mdF) (gR_up (V := mdV) (F := mdF) (gR_up (V := mdV) (F := mdF) (gR_up (V := mdV) (F := mdF) ⟨hok.1, hok.2⟩ 0 (hP.2.1 0)) 1 (hP.2.1 1)) 24 (hP.2.1 24)) 28 (hP.2.2 28)) 30 (hP.2.2 30)) 34 (hP.2.2 34)) 35 (hP.2.2 35)) 36 (u1_rng (hP.2.2 36) (show (-1) ≤ (-1) ∧ (-1) ≤ 1000000 from (by decide))))) dX11_out_139 (fun H locs hP hS => ?_)
                refine lv_aload_n hx hb dX11_out_140 rfl (lv_at hl 3 rfl) ?_
                refine mdG_outs C hP mF_X11_124 dX11_out_141 ?_
                refine lv_iload_n hx hb dX11_out_144 rfl (lv_at hl 4 rfl) ?_
                refine lv_dup2_11 hx hb dX11_out_145 rfl rfl ?_
                refine mdL_outs C hP (by omega) (by omega) dX11_out_146 ?_
                show W p l e (gRm 2 43) s m args below meth c _ _ 0 0 Q (F0 m 147 ls [.int (iI (f 34 a1)), .int (iI a1), .ref (ad 35)])
                refine lv_iconst (v := iI 1) hx hb dX11_out_147 rfl ?_
                refine gi_add (z := ((f 34 a1) + 1)) hx hb dX11_out_148 rfl ?_
                refine mdS_outs (f1 := (va_up (va_up (va_up (va_up (va_up f 28 a28_3) 30 a30_3) 34 (u1 (f 34) a1 ((f 34 a1) + 1))) 35 (u1 (f 35) ((20 * a1) + (f 34 a1)) a2)) 36 (u1 (f 36) ((20 * a1) + (f 34 a1)) (-1)))) C hP hD hS (by omega) (by omega) (by omega) rfl (Or.inr (gF_up (V := mdV) (F := mdF) (gF_up (V := mdV) (F := mdF) (gF_up (V := mdV) (F := mdF) (gF_up (V := mdV) (F := mdF) (gF_up (V := mdV) (F := mdF) (gR_up (V := mdV) (F := mdF) (gR_up (V := mdV) (F := mdF) (gR_up (V := mdV) (F := mdF) ⟨hok.1, hok.2⟩ 0 (hP.2.1 0)) 1 (hP.2.1 1)) 24 (hP.2.1 24)) 28 (hP.2.2 28)) 30 (hP.2.2 30)) 34 (u1_rng (hP.2.2 34) (show 0 ≤ ((f 34 a1) + 1) ∧ ((f 34 a1) + 1) ≤ 20 from (by omega)))) 35 (hP.2.2 35)) 36 (hP.2.2 36))) dX11_out_149 (fun H locs hP hS => ?_)
                refine lv_goto (tgt := 168) hx hb dX11_out_150 (by decide) ?_
                refine lv_iconst (v := iI 1) hx hb dX11_out_168 rfl ?_
                exact g_zret hQ C hr hlocks (by decide) hP hS dX11_out_169 ⟨1, 0, 0, w24_3, a28_3, a30_3, (u1 (f 34) a1 ((f 34 a1) + 1)), (u1 (f 35) ((20 * a1) + (f 34 a1)) a2), (u1 (f 36) ((20 * a1) + (f 34 a1)) (-1)), rfl, rfl, rfl, rfl, (by first | omega | (split <;> omega))⟩
            · refine lv_iload hx hb dX11_out_97 (lv_at hl 1 rfl) ?_
              refine lv_bipush (v := iI 20) hx hb dX11_out_99 (by decide) ?_
              refine gi_cne (tgt := 110) hx hb dX11_out_101 (by decide) (by omega) (by decide) (fun c_26 => ?_) (fun c_26 => ?_)
              · refine lv_iload_n hx hb dX11_out_110 rfl (lv_at hl 6 rfl) ?_
                refine gi_zeq (tgt := 153) hx hb dX11_out_111 (by decide) (by omega) (fun c_27 => ?_) (fun c_27 => ?_)
                · refine lv_aload_n hx hb dX11_out_153 rfl (lv_at hl 3 rfl) ?_
                  refine mdG_outTo C hP mF_X11_130 dX11_out_154 ?_
                  refine lv_bipush (v := iI 20) hx hb dX11_out_157 (by decide) ?_
                  refine lv_iload_n hx hb dX11_out_159 rfl (lv_at hl 4 rfl) ?_
                  refine gi_mul (z := (20 * a1)) hx hb dX11_out_160 rfl ?_
                  refine lv_iload hx hb dX11_out_161 (lv_at hl 1 rfl) ?_
                  refine gi_add (z := ((20 * a1) + (f 34 a1))) hx hb dX11_out_163 rfl ?_
                  refine lv_iconst (v := iI 1) hx hb dX11_out_164 rfl ?_
                  refine gi_sub (z := (((20 * a1) + (f 34 a1)) - 1)) hx hb dX11_out_165 rfl ?_
                  refine lv_iload_n hx hb dX11_out_166 rfl (lv_at hl 5 rfl) ?_
                  refine mdS_outTo (f1 := (va_up (va_up (va_up (va_up (va_up f 28 a28_3) 30 a30_3) 34 (f 34)) 35 (f 35)) 36 (u1 (f 36) (((20 * a1) + (f 34 a1)) - 1) a2))) C hP hD hS (by omega) (by omega) (by omega) rfl (Or.inr (gF_up (V := mdV) (F := mdF) (gF_up (V := mdV) (F := mdF) (gF_up (V := mdV) (F := mdF) (gF_up (V := mdV) (F := mdF) (gF_up (V := mdV) (F := mdF) (gR_up (V := mdV) (F := mdF) (gR_up (V := mdV) (F := mdF) (gR_up (V := mdV) (F := mdF) ⟨hok.1, hok.2⟩ 0 (hP.2.1 0)) 1 (hP.2.1 1)) 24 (hP.2.1 24)) 28 (hP.2.2 28)) 30 (hP.2.2 30)) 34 (hP.2.2 34)) 35 (hP.2.2 35)) 36 (u1_rng (hP.2.2 36) (show (-1) ≤ a2 ∧ a2 ≤ 1000000 from (by omega))))) dX11_out_167 (fun H locs hP hS => ?_)
                  refine lv_iconst (v := iI 1) hx hb dX11_out_168 rfl ?_
                  exact g_zret hQ C hr hlocks (by decide) hP hS dX11_out_169 ⟨1, 0, 0, w24_3, a28_3, a30_3, (f 34), (f 35), (u1 (f 36) (((20 * a1) + (f 34 a1)) - 1) a2), rfl, rfl, rfl, rfl, (by first | omega | (split <;> omega))⟩
                · refine lv_aload_n hx hb dX11_out_114 rfl (lv_at hl 3 rfl) ?_
                  refine mdG_outFrom C hP mF_X11_127 dX11_out_115 ?_
                  refine lv_bipush (v := iI 20) hx hb dX11_out_118 (by decide) ?_
                  refine lv_iload_n hx hb dX11_out_120 rfl (lv_at hl 4 rfl) ?_
                  refine gi_mul (z := (20 * a1)) hx hb dX11_out_121 rfl ?_
                  refine lv_iload hx hb dX11_out_122 (lv_at hl 1 rfl) ?_
                  refine gi_add (z := ((20 * a1) + (f 34 a1))) hx hb dX11_out_124 rfl ?_
                  refine lv_iload_n hx hb dX11_out_125 rfl (lv_at hl 5 rfl) ?_
                  refine mdS_outFrom (f1 := (va_up (va_up (va_up (va_up (va_up f 28 a28_3) 30 a30_3) 34 (f 34)) 35 (u1 (f 35) ((20 * a1) + (f 34 a1)) a2)) 36 (f 36))) C hP hD hS (by omega) (by omega) (by omega) rfl (Or.inr (gF_up (V := mdV) (F := mdF) (gF_up (V := mdV) (F := mdF) (gF_up (V := mdV) (F := mdF) (gF_up (V := mdV) (F := mdF) (gF_up (V := mdV) (F := mdF) (gR_up (V := mdV) (F := mdF) (gR_up (V := mdV) (F := mdF) (gR_up (V := mdV) (F := mdF) ⟨hok.1, hok.2⟩ 0 (hP.2.1 0)) 1 (hP.2.1 1)) 24 (hP.2.1 24)) 28 (hP.2.2 28)) 30 (hP.2.2 30)) 34 (hP.2.2 34)) 35 (u1_rng (hP.2.2 35) (show 0 ≤ a2 ∧ a2 ≤ 1000000 from (by omega)))) 36 (hP.2.2 36))) dX11_out_126 (fun H locs hP hS => ?_)
                  refine lv_aload_n hx hb dX11_out_127 rfl (lv_at hl 3 rfl) ?_
                  refine mdG_outTo C hP mF_X11_130 dX11_out_128 ?_
                  refine lv_bipush (v := iI 20) hx hb dX11_out_131 (by decide) ?_
                  refine lv_iload_n hx hb dX11_out_133 rfl (lv_at hl 4 rfl) ?_
                  refine gi_mul (z := (20 * a1)) hx hb dX11_out_134 rfl ?_
                  refine lv_iload hx hb dX11_out_135 (lv_at hl 1 rfl) ?_
                  refine gi_add (z := ((20 * a1) + (f 34 a1))) hx hb dX11_out_137 rfl ?_
                  refine lv_iconst (v := iI (-1)) hx hb dX11_out_138 rfl ?_
                  refine mdS_outTo (f1 := (va_up (va_up (va_up (va_up (va_up f 28 a28_3) 30 a30_3) 34 (f 34)) 35 (u1 (f 35) ((20 * a1) + (f 34 a1)) a2)) 36 (u1 (f 36) ((20 * a1) + (f 34 a1)) (-1)))) C hP hD hS (by omega) (by omega) (by decide) rfl (Or.inr (gF_up (V := mdV) (F := mdF) (gF_up (V := mdV) (F := mdF) (gF_up (V := mdV) (F := mdF) (gF_up (V := mdV) (F := mdF) (gF_up (V := mdV) (F := mdF) (gR_up (V := mdV) (F := mdF) (gR_up (V := mdV) (F := mdF) (gR_up (V := mdV) (F := mdF) ⟨hok.1, hok.2⟩ 0 (hP.2.1 0)) 1 (hP.2.1 1)) 24 (hP.2.1 24)) 28 (hP.2.2 28)) 30 (hP.2.2 30)) 34 (hP.2.2 34)) 35 (hP.2.2 35)) 36 (u1_rng (hP.2.2 36) (show (-1) ≤ (-1) ∧ (-1) ≤ 1000000 from (by decide))))) dX11_out_139 (fun H locs hP hS => ?_)
                  refine lv_aload_n hx hb dX11_out_140 rfl (lv_at hl 3 rfl) ?_
                  refine mdG_outs C hP mF_X11_124 dX11_out_141 ?_
                  refine lv_iload_n hx hb dX11_out_144 rfl (lv_at hl 4 rfl) ?_
                  refine lv_dup2_11 hx hb dX11_out_145 rfl rfl ?_
                  refine mdL_outs C hP (by omega) (by omega) dX11_out_146 ?_
                  show W p l e (gRm 2 43) s m args below meth c _ _ 0 0 Q (F0 m 147 ls [.int (iI (f 34 a1)), .int (iI a1), .ref (ad 35)])
                  refine lv_iconst (v := iI 1) hx hb dX11_out_147 rfl ?_
                  refine gi_add (z := ((f 34 a1) + 1)) hx hb dX11_out_148 rfl ?_
                  refine mdS_outs (f1 := (va_up (va_up (va_up (va_up (va_up f 28 a28_3) 30 a30_3) 34 (u1 (f 34) a1 ((f 34 a1) + 1))) 35 (u1 (f 35) ((20 * a1) + (f 34 a1)) a2)) 36 (u1 (f 36) ((20 * a1) + (f 34 a1)) (-1)))) C hP hD hS (by omega) (by omega) (by omega) rfl (Or.inr (gF_up (V := mdV) (F := mdF) (gF_up (V := mdV) (F := mdF) (gF_up (V := mdV) (F := mdF) (gF_up (V := mdV) (F := mdF) (gF_up (V := mdV) (F := mdF) (gR_up (V := mdV) (F := mdF) (gR_up (V := mdV) (F := mdF) (gR_up (V := mdV) (F := mdF) ⟨hok.1, hok.2⟩ 0 (hP.2.1 0)) 1 (hP.2.1 1)) 24 (hP.2.1 24)) 28 (hP.2.2 28)) 30 (hP.2.2 30)) 34 (u1_rng (hP.2.2 34) (show 0 ≤ ((f 34 a1) + 1) ∧ ((f 34 a1) + 1) ≤ 20 from (by omega)))) 35 (hP.2.2 35)) 36 (hP.2.2 36))) dX11_out_149 (fun H locs hP hS => ?_)
                  refine lv_goto (tgt := 168) hx hb dX11_out_150 (by decide) ?_
                  refine lv_iconst (v := iI 1) hx hb dX11_out_168 rfl ?_
                  exact g_zret hQ C hr hlocks (by decide) hP hS dX11_out_169 ⟨1, 0, 0, w24_3, a28_3, a30_3, (u1 (f 34) a1 ((f 34 a1) + 1)), (u1 (f 35) ((20 * a1) + (f 34 a1)) a2), (u1 (f 36) ((20 * a1) + (f 34 a1)) (-1)), rfl, rfl, rfl, rfl, (by first | omega | (split <;> omega))⟩
              · refine lv_aload_n hx hb dX11_out_104 rfl (lv_at hl 3 rfl) ?_
                refine lv_iconst (v := iI 3) hx hb dX11_out_105 rfl ?_
                refine g_cv (As := [.int (iI 3)]) (rest := []) (n := 1) C hml (m_X11_no l D k A ad hD (va_up (va_up (va_up v 0 0) 1 0) 24 w24_3) (va_up (va_up (va_up (va_up (va_up f 28 a28_3) 30 a30_3) 34 (f 34)) 35 (f 35)) 36 (f 36)) g 3 (by decide) (show 0 ≤ (3 : Int) ∧ (3 : Int) ≤ 10 from by omega)) mM_X11_332 mI_X11_no mE_X11_no mN_X11 mC_X11_no (by decide +kernel) 0 (ci := 11) rfl rfl hP hS (fun _ h => h) ⟨Nat.le_of_ble_eq_true rfl, Nat.le_of_ble_eq_true rfl⟩ ⟨Nat.zero_le _, Nat.zero_le _⟩ hl.1 rfl rfl (Nat.le_of_ble_eq_true rfl) dX11_out_106 (fun r_28 v_28 f_28 g_28 H locs hq_28 hP _ hS => ?_)
                obtain ⟨rfl, rfl, rfl, rfl⟩ := hq_28
                show W p l e (gRm 2 43) s m args below meth c _ _ 0 0 Q (F0 m 109 ls [.int (iI 0)])
                have hP : gWd D (mdT k ad) (va_up (va_up (va_up v 0 (3 : Int)) 1 0) 24 w24_3) (va_up (va_up (va_up (va_up (va_up f 28 a28_3) 30 a30_3) 34 (f 34)) 35 (f 35)) 36 (f 36)) g H := ⟨hP.1, (gF_up (V := mdV) (F := mdF) (gF_up (V := mdV) (F := mdF) (gF_up (V := mdV) (F := mdF) (gF_up (V := mdV) (F := mdF) (gF_up (V := mdV) (F := mdF) (gR_up (V := mdV) (F := mdF) (gR_up (V := mdV) (F := mdF) (gR_up (V := mdV) (F := mdF) ⟨hok.1, hok.2⟩ 0 (hP.2.1 0)) 1 (hP.2.1 1)) 24 (hP.2.1 24)) 28 (hP.2.2 28)) 30 (hP.2.2 30)) 34 (hP.2.2 34)) 35 (hP.2.2 35)) 36 (hP.2.2 36))⟩
                exact g_zret hQ C hr hlocks (by decide) hP hS dX11_out_109 ⟨0, (3 : Int), 0, w24_3, a28_3, a30_3, (f 34), (f 35), (f 36), rfl, rfl, rfl, rfl, (by first | omega | (split <;> omega))⟩
          · refine lv_aload_n hx hb dX11_out_86 rfl (lv_at hl 3 rfl) ?_
            refine lv_bipush (v := iI 10) hx hb dX11_out_87 (by decide) ?_
            refine g_cv (As := [.int (iI 10)]) (rest := []) (n := 1) C hml (m_X11_no l D k A ad hD (va_up (va_up (va_up v 0 0) 1 0) 24 w24_3) (va_up (va_up (va_up (va_up (va_up f 28 a28_3) 30 a30_3) 34 (f 34)) 35 (f 35)) 36 (f 36)) g 10 (by decide) (show 0 ≤ (10 : Int) ∧ (10 : Int) ≤ 10 from by omega)) mM_X11_332 mI_X11_no mE_X11_no mN_X11 mC_X11_no (by decide +kernel) 0 (ci := 11) rfl rfl hP hS (fun _ h => h) ⟨Nat.le_of_ble_eq_true rfl, Nat.le_of_ble_eq_true rfl⟩ ⟨Nat.zero_le _, Nat.zero_le _⟩ hl.1 rfl rfl (Nat.le_of_ble_eq_true rfl) dX11_out_89 (fun r_29 v_29 f_29 g_29 H locs hq_29 hP _ hS => ?_)
            obtain ⟨rfl, rfl, rfl, rfl⟩ := hq_29
            show W p l e (gRm 2 43) s m args below meth c _ _ 0 0 Q (F0 m 92 ls [.int (iI 0)])
            have hP : gWd D (mdT k ad) (va_up (va_up (va_up v 0 (10 : Int)) 1 0) 24 w24_3) (va_up (va_up (va_up (va_up (va_up f 28 a28_3) 30 a30_3) 34 (f 34)) 35 (f 35)) 36 (f 36)) g H := ⟨hP.1, (gF_up (V := mdV) (F := mdF) (gF_up (V := mdV) (F := mdF) (gF_up (V := mdV) (F := mdF) (gF_up (V := mdV) (F := mdF) (gF_up (V := mdV) (F := mdF) (gR_up (V := mdV) (F := mdF) (gR_up (V := mdV) (F := mdF) (gR_up (V := mdV) (F := mdF) ⟨hok.1, hok.2⟩ 0 (hP.2.1 0)) 1 (hP.2.1 1)) 24 (hP.2.1 24)) 28 (hP.2.2 28)) 30 (hP.2.2 30)) 34 (hP.2.2 34)) 35 (hP.2.2 35)) 36 (hP.2.2 36))⟩
            exact g_zret hQ C hr hlocks (by decide) hP hS dX11_out_92 ⟨0, (10 : Int), 0, w24_3, a28_3, a30_3, (f 34), (f 35), (f 36), rfl, rfl, rfl, rfl, (by first | omega | (split <;> omega))⟩
    · refine lv_aload_n hx hb dX11_out_36 rfl (lv_at hl 1 rfl) ?_
      refine lv_iload hx hb dX11_out_37 (lv_at hl 0 rfl) ?_
      refine g_cv (As := [.int (iI z_3)]) (rest := []) (n := 1) C hml (m_X11_no l D k A ad hD (va_up (va_up (va_up v 0 0) 1 0) 24 w24_3) (va_up (va_up (va_up (va_up (va_up f 28 a28_3) 30 a30_3) 34 (f 34)) 35 (f 35)) 36 (f 36)) g z_3 (by omega) (show 0 ≤ z_3 ∧ z_3 ≤ 10 from by omega)) mM_X11_332 mI_X11_no mE_X11_no mN_X11 mC_X11_no (by decide +kernel) 0 (ci := 11) rfl rfl hP hS (fun _ h => h) ⟨Nat.le_of_ble_eq_true rfl, Nat.le_of_ble_eq_true rfl⟩ ⟨Nat.zero_le _, Nat.zero_le _⟩ hl.1 rfl rfl (Nat.le_of_ble_eq_true rfl) dX11_out_39 (fun r_30 v_30 f_30 g_30 H locs hq_30 hP _ hS => ?_)
      obtain ⟨rfl, rfl, rfl, rfl⟩ := hq_30
      show W p l e (gRm 2 43) s m args below meth c _ _ 0 0 Q (F0 m 42 ls [.int (iI 0)])
      have hP : gWd D (mdT k ad) (va_up (va_up (va_up v 0 z_3) 1 0) 24 w24_3) (va_up (va_up (va_up (va_up (va_up f 28 a28_3) 30 a30_3) 34 (f 34)) 35 (f 35)) 36 (f 36)) g H := ⟨hP.1, (gF_up (V := mdV) (F := mdF) (gF_up (V := mdV) (F := mdF) (gF_up (V := mdV) (F := mdF) (gF_up (V := mdV) (F := mdF) (gF_up (V := mdV) (F := mdF) (gR_up (V := mdV) (F := mdF) (gR_up (V := mdV) (F := mdF) (gR_up (V := mdV) (F := mdF) ⟨hok.1, hok.2⟩ 0 (hP.2.1 0)) 1 (hP.2.1 1)) 24 (hP.2.1 24)) 28 (hP.2.2 28)) 30 (hP.2.2 30)) 34 (hP.2.2 34)) 35 (hP.2.2 35)) 36 (hP.2.2 36))⟩
      exact g_zret hQ C hr hlocks (by decide) hP hS dX11_out_42 ⟨0, z_3, 0, w24_3, a28_3, a30_3, (f 34), (f 35), (f 36), rfl, rfl, rfl, rfl, (by first | omega | (split <;> omega))⟩
  · refine lv_aload_n hx hb dX11_out_18 rfl (lv_at hl 0 rfl) ?_
    refine lv_iconst (v := iI 1) hx hb dX11_out_19 rfl ?_
    refine g_cv (As := [.int (iI 1)]) (rest := []) (n := 1) C hml (m_X11_no l D k A ad hD (va_up (va_up (va_up v 0 0) 1 0) 24 (v 24)) (va_up (va_up (va_up (va_up (va_up f 28 (f 28)) 30 (f 30)) 34 (f 34)) 35 (f 35)) 36 (f 36)) g 1 (by decide) (show 0 ≤ (1 : Int) ∧ (1 : Int) ≤ 10 from by omega)) mM_X11_332 mI_X11_no mE_X11_no mN_X11 mC_X11_no (by decide +kernel) 0 (ci := 11) rfl rfl hP hS (fun _ h => h) ⟨Nat.le_of_ble_eq_true rfl, Nat.le_of_ble_eq_true rfl⟩ ⟨Nat.zero_le _, Nat.zero_le _⟩ hl.1 rfl rfl (Nat.le_of_ble_eq_true rfl) dX11_out_20 (fun r_31 v_31 f_31 g_31 H locs hq_31 hP _ hS => ?_)
    obtain ⟨rfl, rfl, rfl, rfl⟩ := hq_31
    show W p l e (gRm 2 43) s m args below meth c _ _ 0 0 Q (F0 m 23 ls [.int (iI 0)])
    have hP : gWd D (mdT k ad) (va_up (va_up (va_up v 0 (1 : Int)) 1 0) 24 (v 24)) (va_up (va_up (va_up (va_up (va_up f 28 (f 28)) 30 (f 30)) 34 (f 34)) 35 (f 35)) 36 (f 36)) g H := ⟨hP.1, (gF_up (V := mdV) (F := mdF) (gF_up (V := mdV) (F := mdF) (gF_up (V := mdV) (F := mdF) (gF_up (V := mdV) (F := mdF) (gF_up (V := mdV) (F := mdF) (gR_up (V := mdV) (F := mdF) (gR_up (V := mdV) (F := mdF) (gR_up (V := mdV) (F := mdF) ⟨hok.1, hok.2⟩ 0 (hP.2.1 0)) 1 (hP.2.1 1)) 24 (hP.2.1 24)) 28 (hP.2.2 28)) 30 (hP.2.2 30)) 34 (hP.2.2 34)) 35 (hP.2.2 35)) 36 (hP.2.2 36))⟩
    exact g_zret hQ C hr hlocks (by decide) hP hS dX11_out_23 ⟨0, (1 : Int), 0, (v 24), (f 28), (f 30), (f 34), (f 35), (f 36), rfl, rfl, rfl, rfl, (by first | omega | (split <;> omega))⟩

set_option maxHeartbeats 4000000 in
set_option maxRecDepth 100000 in
theorem m_X11_clock (l : Launch) (D : va_G) (k : Nat → ClassId) (A : Nat → Prop) (ad : Nat → Nat) (hD : mdD A k ad) (v : gV) (f g : gF) (a1 : Int) (h_a1 : inR a1) : GM l D k A (mdT k ad) yX11_clock cX11_clock 2 (some .boolean) 2 43 [.ref (ad 0), .int (iI a1)] v f g (fun r v1 f1 g1 => ∃ (z : Int) (w0 : Int) (w1 : Int) (w24 : Int) (a28_ : Int → Int) (a30_ : Int → Int), r = some (.int (iI z)) ∧ (va_up (va_up (va_up v 0 w0) 1 w1) 24 w24) = v1 ∧ (va_up (va_up f 28 a28_) 30 a30_) = f1 ∧ g = g1 ∧ (0 ≤ z ∧ z ≤ 1)) := by
  refine GM.of (by decide) (Nat.le_of_ble_eq_true rfl) ?_
  intro p e s m args below meth c Q ls hQ C hml hr hlocks hP hl
  have hx := C.1
  have hb := C.2.1
  have hok := hP.2
  have hS : va_S A s.heap s.heap [] := va_S.rf
  have hl : lv_has ls 2 [(0, .ref (ad 0)), (1, .int (iI a1))] := hl
  have hP : gWd D (mdT k ad) (va_up (va_up (va_up v 0 (v 0)) 1 (v 1)) 24 (v 24)) (va_up (va_up f 28 (f 28)) 30 (f 30)) g s.heap := by rw [va_id, va_id, va_id, va_id, va_id]; exact hP
  refine lv_aload_n hx hb dX11_clock_0 rfl (lv_at hl 0 rfl) ?_
  refine lv_iconst (v := iI 0) hx hb dX11_clock_1 rfl ?_
  refine mdP_thrown (v1 := (va_up (va_up (va_up v 0 (v 0)) 1 0) 24 (v 24))) C hP hD hS mF_X11_146 (by decide) rfl (Or.inr (gF_up (V := mdV) (F := mdF) (gF_up (V := mdV) (F := mdF) (gR_up (V := mdV) (F := mdF) (gR_up (V := mdV) (F := mdF) (gR_up (V := mdV) (F := mdF) ⟨hok.1, hok.2⟩ 0 (hP.2.1 0)) 1 (show 0 ≤ 0 ∧ 0 ≤ 0 from by decide)) 24 (hP.2.1 24)) 28 (hP.2.2 28)) 30 (hP.2.2 30))) dX11_clock_2 (fun H locs hP hS => ?_)
  refine lv_aload_n hx hb dX11_clock_5 rfl (lv_at hl 0 rfl) ?_
  refine lv_aload_n hx hb dX11_clock_6 rfl (lv_at hl 0 rfl) ?_
  refine lv_iload_n hx hb dX11_clock_7 rfl (lv_at hl 1 rfl) ?_
  refine g_cv (As := [.int (iI a1)]) (rest := [.ref (ad 0)]) (n := 1) C hml (m_X11_clocked l D k A ad hD (va_up (va_up (va_up v 0 (v 0)) 1 0) 24 (v 24)) (va_up (va_up f 28 (f 28)) 30 (f 30)) g a1 (by omega)) mM_X11_352 mI_X11_clocked mE_X11_clocked mN_X11 mC_X11_clocked (by decide +kernel) 0 (ci := 11) rfl rfl hP hS (fun _ h => h) ⟨Nat.le_of_ble_eq_true rfl, Nat.le_of_ble_eq_true rfl⟩ ⟨Nat.zero_le _, Nat.zero_le _⟩ hl.1 rfl rfl (Nat.le_of_ble_eq_true rfl) dX11_clock_8 (fun r_1 v_1 f_1 g_1 H locs hq_1 hP _ hS => ?_)
  obtain ⟨z_1, w24_1, a28_1, a30_1, rfl, rfl, rfl, rfl, p0_1, p1_1⟩ := hq_1
  show W p l e (gRm 2 43) s m args below meth c _ _ 0 0 Q (F0 m 11 ls [.int (iI z_1), .ref (ad 0)])
  have hP : gWd D (mdT k ad) (va_up (va_up (va_up v 0 (v 0)) 1 0) 24 w24_1) (va_up (va_up f 28 a28_1) 30 a30_1) g H := ⟨hP.1, (gF_up (V := mdV) (F := mdF) (gF_up (V := mdV) (F := mdF) (gR_up (V := mdV) (F := mdF) (gR_up (V := mdV) (F := mdF) (gR_up (V := mdV) (F := mdF) ⟨hok.1, hok.2⟩ 0 (hP.2.1 0)) 1 (hP.2.1 1)) 24 (hP.2.1 24)) 28 (hP.2.2 28)) 30 (hP.2.2 30))⟩
  replace p0_1 : 0 ≤ z_1 ∧ z_1 ≤ 9 := p0_1
  replace p1_1 : z_1 = 0 → 0 ≤ a1 ∧ a1 ≤ 1000000 := p1_1
  have rw24_1 : 0 ≤ w24_1 ∧ w24_1 ≤ 1000000 := hP.2.1 24
  refine mdP_status (v1 := (va_up (va_up (va_up v 0 z_1) 1 0) 24 w24_1)) C hP hD hS mF_X11_149 (by omega) rfl (Or.inr (gF_up (V := mdV) (F := mdF) (gF_up (V := mdV) (F := mdF) (gR_up (V := mdV) (F := mdF) (gR_up (V := mdV) (F := mdF) (gR_up (V := mdV) (F := mdF) ⟨hok.1, hok.2⟩ 0 (show 0 ≤ z_1 ∧ z_1 ≤ 10 from by omega)) 1 (hP.2.1 1)) 24 (hP.2.1 24)) 28 (hP.2.2 28)) 30 (hP.2.2 30))) dX11_clock_11 (fun H locs hP hS => ?_)
  refine lv_aload_n hx hb dX11_clock_14 rfl (lv_at hl 0 rfl) ?_
  refine mdG_status C hP mF_X11_149 dX11_clock_15 ?_
  show W p l e (gRm 2 43) s m args below meth c _ _ 0 0 Q (F0 m 18 ls [.int (iI z_1)])
  have r_2 : 0 ≤ z_1 ∧ z_1 ≤ 10 := hP.2.1 0
  refine gi_zne (tgt := 25) hx hb dX11_clock_18 (by decide) (by omega) (fun c_3 => ?_) (fun c_3 => ?_)
  · refine lv_iconst (v := iI 0) hx hb dX11_clock_25 rfl ?_
    exact g_zret hQ C hr hlocks (by decide) hP hS dX11_clock_26 ⟨0, z_1, 0, w24_1, a28_1, a30_1, rfl, rfl, rfl, rfl, (by first | omega | (split <;> omega))⟩
  · refine lv_iconst (v := iI 1) hx hb dX11_clock_21 rfl ?_
    refine lv_goto (tgt := 26) hx hb dX11_clock_22 (by decide) ?_
    exact g_zret hQ C hr hlocks (by decide) hP hS dX11_clock_26 ⟨1, z_1, 0, w24_1, a28_1, a30_1, rfl, rfl, rfl, rfl, (by first | omega | (split <;> omega))⟩

set_option maxHeartbeats 4000000 in
set_option maxRecDepth 100000 in
theorem m_X11_now (l : Launch) (D : va_G) (k : Nat → ClassId) (A : Nat → Prop) (ad : Nat → Nat) (hD : mdD A k ad) (v : gV) (f g : gF) : GM l D k A (mdT k ad) yX11_now cX11_now 1 (some .int) 0 0 [.ref (ad 0)] v f g (fun r v1 f1 g1 => ∃ (z : Int) (w0 : Int) (w1 : Int), r = some (.int (iI z)) ∧ (va_up (va_up v 0 w0) 1 w1) = v1 ∧ f = f1 ∧ g = g1 ∧ (0 ≤ z ∧ z ≤ 1000000)) := by
  refine GM.of (by decide) (Nat.le_of_ble_eq_true rfl) ?_
  intro p e s m args below meth c Q ls hQ C hml hr hlocks hP hl
  have hx := C.1
  have hb := C.2.1
  have hok := hP.2
  have hS : va_S A s.heap s.heap [] := va_S.rf
  have hl : lv_has ls 1 [(0, .ref (ad 0))] := hl
  have hP : gWd D (mdT k ad) (va_up (va_up v 0 (v 0)) 1 (v 1)) f g s.heap := by rw [va_id, va_id]; exact hP
  refine lv_aload_n hx hb dX11_now_0 rfl (lv_at hl 0 rfl) ?_
  refine lv_iconst (v := iI 0) hx hb dX11_now_1 rfl ?_
  refine mdP_thrown (v1 := (va_up (va_up v 0 (v 0)) 1 0)) C hP hD hS mF_X11_146 (by decide) rfl (Or.inr (gR_up (V := mdV) (F := mdF) (gR_up (V := mdV) (F := mdF) ⟨hok.1, hok.2⟩ 0 (hP.2.1 0)) 1 (show 0 ≤ 0 ∧ 0 ≤ 0 from by decide))) dX11_now_2 (fun H locs hP hS => ?_)
  refine lv_aload_n hx hb dX11_now_5 rfl (lv_at hl 0 rfl) ?_
  refine lv_iconst (v := iI 0) hx hb dX11_now_6 rfl ?_
  refine mdP_status (v1 := (va_up (va_up v 0 0) 1 0)) C hP hD hS mF_X11_149 (by decide) rfl (Or.inr (gR_up (V := mdV) (F := mdF) (gR_up (V := mdV) (F := mdF) ⟨hok.1, hok.2⟩ 0 (show 0 ≤ 0 ∧ 0 ≤ 10 from by decide)) 1 (hP.2.1 1))) dX11_now_7 (fun H locs hP hS => ?_)
  refine lv_aload_n hx hb dX11_now_10 rfl (lv_at hl 0 rfl) ?_
  refine mdG_now C hP mF_X11_316 dX11_now_11 ?_
  show W p l e (gRm 0 0) s m args below meth c _ _ 0 0 Q (F0 m 14 ls [.int (iI (v 24))])
  have r_1 : 0 ≤ (v 24) ∧ (v 24) ≤ 1000000 := hok.1 24
  exact g_iret hQ C hr hlocks hP hS dX11_now_14 ⟨(v 24), 0, 0, rfl, rfl, rfl, rfl, (by first | omega | (split <;> omega))⟩

set_option maxHeartbeats 4000000 in
set_option maxRecDepth 100000 in
theorem m_X11_tried (l : Launch) (D : va_G) (k : Nat → ClassId) (A : Nat → Prop) (ad : Nat → Nat) (hD : mdD A k ad) (v : gV) (f g : gF) (a1 : Int) (a2 : Int) (h_a1 : inR a1) (h_a2 : inR a2) : GM l D k A (mdT k ad) yX11_tried cX11_tried 3 (some .int) 1 21 [.ref (ad 0), .int (iI a1), .int (iI a2)] v f g (fun r v1 f1 g1 => ∃ (z : Int) (w0 : Int) (w1 : Int), r = some (.int (iI z)) ∧ (va_up (va_up v 0 w0) 1 w1) = v1 ∧ f = f1 ∧ g = g1 ∧ ((-1) ≤ z ∧ z ≤ 1000999)) := by
  refine GM.of (by decide) (Nat.le_of_ble_eq_true rfl) ?_
  intro p e s m args below meth c Q ls hQ C hml hr hlocks hP hl
  have hx := C.1
  have hb := C.2.1
  have hok := hP.2
  have hS : va_S A s.heap s.heap [] := va_S.rf
  have hl : lv_has ls 3 [(0, .ref (ad 0)), (1, .int (iI a1)), (2, .int (iI a2))] := hl
  have hP : gWd D (mdT k ad) (va_up (va_up v 0 (v 0)) 1 (v 1)) f g s.heap := by rw [va_id, va_id]; exact hP
  have r_1 : 0 ≤ (v 25) ∧ (v 25) ≤ 300 := hok.1 25
  refine lv_aload_n hx hb dX11_tried_0 rfl (lv_at hl 0 rfl) ?_
  refine lv_iconst (v := iI 0) hx hb dX11_tried_1 rfl ?_
  refine mdP_thrown (v1 := (va_up (va_up v 0 (v 0)) 1 0)) C hP hD hS mF_X11_146 (by decide) rfl (Or.inr (gR_up (V := mdV) (F := mdF) (gR_up (V := mdV) (F := mdF) ⟨hok.1, hok.2⟩ 0 (hP.2.1 0)) 1 (show 0 ≤ 0 ∧ 0 ≤ 0 from by decide))) dX11_tried_2 (fun H locs hP hS => ?_)
  refine lv_aload_n hx hb dX11_tried_5 rfl (lv_at hl 0 rfl) ?_
  refine lv_iconst (v := iI 0) hx hb dX11_tried_6 rfl ?_
  refine mdP_status (v1 := (va_up (va_up v 0 0) 1 0)) C hP hD hS mF_X11_149 (by decide) rfl (Or.inr (gR_up (V := mdV) (F := mdF) (gR_up (V := mdV) (F := mdF) ⟨hok.1, hok.2⟩ 0 (show 0 ≤ 0 ∧ 0 ≤ 10 from by decide)) 1 (hP.2.1 1))) dX11_tried_7 (fun H locs hP hS => ?_)
  refine lv_iload_n hx hb dX11_tried_10 rfl (lv_at hl 1 rfl) ?_
  refine gi_zlt (tgt := 22) hx hb dX11_tried_11 (by decide) (by omega) (fun c_2 => ?_) (fun c_2 => ?_)
  · refine lv_aload_n hx hb dX11_tried_22 rfl (lv_at hl 0 rfl) ?_
    refine lv_iconst (v := iI 1) hx hb dX11_tried_23 rfl ?_
    refine g_cv (As := [.int (iI 1)]) (rest := []) (n := 1) C hml (m_X11_refuse l D k A ad hD (va_up (va_up v 0 0) 1 0) f g 1 (by decide) (show 0 ≤ (1 : Int) ∧ (1 : Int) ≤ 10 from by omega)) mM_X11_295 mI_X11_refuse mE_X11_refuse mN_X11 mC_X11_refuse (by decide +kernel) 0 (ci := 11) rfl rfl hP hS (fun _ h => h) ⟨Nat.le_of_ble_eq_true rfl, Nat.le_of_ble_eq_true rfl⟩ ⟨Nat.zero_le _, Nat.zero_le _⟩ hl.1 rfl rfl (Nat.le_of_ble_eq_true rfl) dX11_tried_24 (fun r_3 v_3 f_3 g_3 H locs hq_3 hP _ hS => ?_)
    obtain ⟨rfl, rfl, rfl, rfl⟩ := hq_3
    show W p l e (gRm 1 21) s m args below meth c _ _ 0 0 Q (F0 m 27 ls [.int (iI (-1))])
    have hP : gWd D (mdT k ad) (va_up (va_up v 0 (1 : Int)) 1 0) f g H := ⟨hP.1, (gR_up (V := mdV) (F := mdF) (gR_up (V := mdV) (F := mdF) ⟨hok.1, hok.2⟩ 0 (hP.2.1 0)) 1 (hP.2.1 1))⟩
    exact g_iret hQ C hr hlocks hP hS dX11_tried_27 ⟨(-1), (1 : Int), 0, rfl, rfl, rfl, rfl, (by first | omega | (split <;> omega))⟩
  · refine lv_iload_n hx hb dX11_tried_14 rfl (lv_at hl 1 rfl) ?_
    refine lv_aload_n hx hb dX11_tried_15 rfl (lv_at hl 0 rfl) ?_
    refine mdG_tried C hP mF_X11_319 dX11_tried_16 ?_
    show W p l e (gRm 1 21) s m args below meth c _ _ 0 0 Q (F0 m 19 ls [.int (iI (v 25)), .int (iI a1)])
    refine gi_clt (tgt := 28) hx hb dX11_tried_19 (by decide) (by omega) (by omega) (fun c_4 => ?_) (fun c_4 => ?_)
    · refine lv_iload_n hx hb dX11_tried_28 rfl (lv_at hl 2 rfl) ?_
      by_cases c_5_0 : a2 = 0
      · refine lv_tableIn (off := 43) (tgt := 72) hx hb dX11_tried_29 (by rw [c_5_0]; decide) (by rw [c_5_0]; decide) (by rw [c_5_0]; rfl) (by decide) ?_
        refine lv_aload_n hx hb dX11_tried_72 rfl (lv_at hl 0 rfl) ?_
        refine mdG_who C hP mF_X11_94 dX11_tried_73 ?_
        refine lv_iload_n hx hb dX11_tried_76 rfl (lv_at hl 1 rfl) ?_
        refine mdL_who C hP (by omega) (by omega) dX11_tried_77 ?_
        have r_6 : 0 ≤ (f 24 a1) ∧ (f 24 a1) ≤ 15 := hP.2.2 24 a1
        exact g_iret hQ C hr hlocks hP hS dX11_tried_78 ⟨(f 24 a1), 0, 0, rfl, rfl, rfl, rfl, (by first | omega | (split <;> omega))⟩
      by_cases c_5_1 : a2 = 1
      · refine lv_tableIn (off := 50) (tgt := 79) hx hb dX11_tried_29 (by rw [c_5_1]; decide) (by rw [c_5_1]; decide) (by rw [c_5_1]; rfl) (by decide) ?_
        refine lv_aload_n hx hb dX11_tried_79 rfl (lv_at hl 0 rfl) ?_
        refine mdG_where C hP mF_X11_97 dX11_tried_80 ?_
        refine lv_iload_n hx hb dX11_tried_83 rfl (lv_at hl 1 rfl) ?_
        refine mdL_where C hP (by omega) (by omega) dX11_tried_84 ?_
        have r_7 : 0 ≤ (f 25 a1) ∧ (f 25 a1) ≤ 3 := hP.2.2 25 a1
        exact g_iret hQ C hr hlocks hP hS dX11_tried_85 ⟨(f 25 a1), 0, 0, rfl, rfl, rfl, rfl, (by first | omega | (split <;> omega))⟩
      by_cases c_5_2 : a2 = 2
      · refine lv_tableIn (off := 57) (tgt := 86) hx hb dX11_tried_29 (by rw [c_5_2]; decide) (by rw [c_5_2]; decide) (by rw [c_5_2]; rfl) (by decide) ?_
        refine lv_aload_n hx hb dX11_tried_86 rfl (lv_at hl 0 rfl) ?_
        refine mdG_which C hP mF_X11_100 dX11_tried_87 ?_
        refine lv_iload_n hx hb dX11_tried_90 rfl (lv_at hl 1 rfl) ?_
        refine mdL_which C hP (by omega) (by omega) dX11_tried_91 ?_
        have r_8 : 0 ≤ (f 26 a1) ∧ (f 26 a1) ≤ 4 := hP.2.2 26 a1
        exact g_iret hQ C hr hlocks hP hS dX11_tried_92 ⟨(f 26 a1), 0, 0, rfl, rfl, rfl, rfl, (by first | omega | (split <;> omega))⟩
      by_cases c_5_3 : a2 = 3
      · refine lv_tableIn (off := 64) (tgt := 93) hx hb dX11_tried_29 (by rw [c_5_3]; decide) (by rw [c_5_3]; decide) (by rw [c_5_3]; rfl) (by decide) ?_
        refine lv_aload_n hx hb dX11_tried_93 rfl (lv_at hl 0 rfl) ?_
        refine mdG_from C hP mF_X11_103 dX11_tried_94 ?_
        refine lv_iload_n hx hb dX11_tried_97 rfl (lv_at hl 1 rfl) ?_
        refine mdL_from C hP (by omega) (by omega) dX11_tried_98 ?_
        have r_9 : 0 ≤ (f 27 a1) ∧ (f 27 a1) ≤ 1000000 := hP.2.2 27 a1
        exact g_iret hQ C hr hlocks hP hS dX11_tried_99 ⟨(f 27 a1), 0, 0, rfl, rfl, rfl, rfl, (by first | omega | (split <;> omega))⟩
      by_cases c_5_4 : a2 = 4
      · refine lv_tableIn (off := 71) (tgt := 100) hx hb dX11_tried_29 (by rw [c_5_4]; decide) (by rw [c_5_4]; decide) (by rw [c_5_4]; rfl) (by decide) ?_
        refine lv_aload_n hx hb dX11_tried_100 rfl (lv_at hl 0 rfl) ?_
        refine mdG_to C hP mF_X11_106 dX11_tried_101 ?_
        refine lv_iload_n hx hb dX11_tried_104 rfl (lv_at hl 1 rfl) ?_
        refine mdL_to C hP (by omega) (by omega) dX11_tried_105 ?_
        have r_10 : (-1) ≤ (f 28 a1) ∧ (f 28 a1) ≤ 1000999 := hP.2.2 28 a1
        exact g_iret hQ C hr hlocks hP hS dX11_tried_106 ⟨(f 28 a1), 0, 0, rfl, rfl, rfl, rfl, (by first | omega | (split <;> omega))⟩
      by_cases c_5_5 : a2 = 5
      · refine lv_tableIn (off := 78) (tgt := 107) hx hb dX11_tried_29 (by rw [c_5_5]; decide) (by rw [c_5_5]; decide) (by rw [c_5_5]; rfl) (by decide) ?_
        refine lv_aload_n hx hb dX11_tried_107 rfl (lv_at hl 0 rfl) ?_
        refine mdG_hold C hP mF_X11_109 dX11_tried_108 ?_
        refine lv_iload_n hx hb dX11_tried_111 rfl (lv_at hl 1 rfl) ?_
        refine mdL_hold C hP (by omega) (by omega) dX11_tried_112 ?_
        have r_11 : 0 ≤ (f 29 a1) ∧ (f 29 a1) ≤ 60 := hP.2.2 29 a1
        exact g_iret hQ C hr hlocks hP hS dX11_tried_113 ⟨(f 29 a1), 0, 0, rfl, rfl, rfl, rfl, (by first | omega | (split <;> omega))⟩
      by_cases c_5_6 : a2 = 6
      · refine lv_tableIn (off := 85) (tgt := 114) hx hb dX11_tried_29 (by rw [c_5_6]; decide) (by rw [c_5_6]; decide) (by rw [c_5_6]; rfl) (by decide) ?_
        refine lv_aload_n hx hb dX11_tried_114 rfl (lv_at hl 0 rfl) ?_
        refine mdG_how C hP mF_X11_112 dX11_tried_115 ?_
        refine lv_iload_n hx hb dX11_tried_118 rfl (lv_at hl 1 rfl) ?_
        refine mdL_how C hP (by omega) (by omega) dX11_tried_119 ?_
        have r_12 : 0 ≤ (f 30 a1) ∧ (f 30 a1) ≤ 4 := hP.2.2 30 a1
        exact g_iret hQ C hr hlocks hP hS dX11_tried_120 ⟨(f 30 a1), 0, 0, rfl, rfl, rfl, rfl, (by first | omega | (split <;> omega))⟩
      refine lv_tableOut (tgt := 121) hx hb dX11_tried_29 (by rw [iI_toInt (by omega)]; omega) (by decide) ?_
      refine lv_aload_n hx hb dX11_tried_121 rfl (lv_at hl 0 rfl) ?_
      refine lv_iconst (v := iI 2) hx hb dX11_tried_122 rfl ?_
      refine g_cv (As := [.int (iI 2)]) (rest := []) (n := 1) C hml (m_X11_refuse l D k A ad hD (va_up (va_up v 0 0) 1 0) f g 2 (by decide) (show 0 ≤ (2 : Int) ∧ (2 : Int) ≤ 10 from by omega)) mM_X11_295 mI_X11_refuse mE_X11_refuse mN_X11 mC_X11_refuse (by decide +kernel) 0 (ci := 11) rfl rfl hP hS (fun _ h => h) ⟨Nat.le_of_ble_eq_true rfl, Nat.le_of_ble_eq_true rfl⟩ ⟨Nat.zero_le _, Nat.zero_le _⟩ hl.1 rfl rfl (Nat.le_of_ble_eq_true rfl) dX11_tried_123 (fun r_13 v_13 f_13 g_13 H locs hq_13 hP _ hS => ?_)
      obtain ⟨rfl, rfl, rfl, rfl⟩ := hq_13
      show W p l e (gRm 1 21) s m args below meth c _ _ 0 0 Q (F0 m 126 ls [.int (iI (-1))])
      have hP : gWd D (mdT k ad) (va_up (va_up v 0 (2 : Int)) 1 0) f g H := ⟨hP.1, (gR_up (V := mdV) (F := mdF) (gR_up (V := mdV) (F := mdF) ⟨hok.1, hok.2⟩ 0 (hP.2.1 0)) 1 (hP.2.1 1))⟩
      exact g_iret hQ C hr hlocks hP hS dX11_tried_126 ⟨(-1), (2 : Int), 0, rfl, rfl, rfl, rfl, (by first | omega | (split <;> omega))⟩
    · refine lv_aload_n hx hb dX11_tried_22 rfl (lv_at hl 0 rfl) ?_
      refine lv_iconst (v := iI 1) hx hb dX11_tried_23 rfl ?_
      refine g_cv (As := [.int (iI 1)]) (rest := []) (n := 1) C hml (m_X11_refuse l D k A ad hD (va_up (va_up v 0 0) 1 0) f g 1 (by decide) (show 0 ≤ (1 : Int) ∧ (1 : Int) ≤ 10 from by omega)) mM_X11_295 mI_X11_refuse mE_X11_refuse mN_X11 mC_X11_refuse (by decide +kernel) 0 (ci := 11) rfl rfl hP hS (fun _ h => h) ⟨Nat.le_of_ble_eq_true rfl, Nat.le_of_ble_eq_true rfl⟩ ⟨Nat.zero_le _, Nat.zero_le _⟩ hl.1 rfl rfl (Nat.le_of_ble_eq_true rfl) dX11_tried_24 (fun r_14 v_14 f_14 g_14 H locs hq_14 hP _ hS => ?_)
      obtain ⟨rfl, rfl, rfl, rfl⟩ := hq_14
      show W p l e (gRm 1 21) s m args below meth c _ _ 0 0 Q (F0 m 27 ls [.int (iI (-1))])
      have hP : gWd D (mdT k ad) (va_up (va_up v 0 (1 : Int)) 1 0) f g H := ⟨hP.1, (gR_up (V := mdV) (F := mdF) (gR_up (V := mdV) (F := mdF) ⟨hok.1, hok.2⟩ 0 (hP.2.1 0)) 1 (hP.2.1 1))⟩
      exact g_iret hQ C hr hlocks hP hS dX11_tried_27 ⟨(-1), (1 : Int), 0, rfl, rfl, rfl, rfl, (by first | omega | (split <;> omega))⟩

set_option maxHeartbeats 4000000 in
set_option maxRecDepth 100000 in
theorem m_X11_seen (l : Launch) (D : va_G) (k : Nat → ClassId) (A : Nat → Prop) (ad : Nat → Nat) (hD : mdD A k ad) (v : gV) (f g : gF) (a1 : Int) (a2 : Int) (h_a1 : inR a1) (h_a2 : inR a2) : GM l D k A (mdT k ad) yX11_seen cX11_seen 3 (some .int) 2 56 [.ref (ad 0), .int (iI a1), .int (iI a2)] v f g (fun r v1 f1 g1 => ∃ (z : Int) (w0 : Int) (w1 : Int), r = some (.int (iI z)) ∧ (va_up (va_up v 0 w0) 1 w1) = v1 ∧ f = f1 ∧ g = g1 ∧ ((-1) ≤ z ∧ z ≤ 1)) := by
  refine GM.of (by decide) (Nat.le_of_ble_eq_true rfl) ?_
  intro p e s m args below meth c Q ls hQ C hml hr hlocks hP hl
  have hx := C.1
  have hb := C.2.1
  have hok := hP.2
  have hS : va_S A s.heap s.heap [] := va_S.rf
  have hl : lv_has ls 3 [(0, .ref (ad 0)), (1, .int (iI a1)), (2, .int (iI a2))] := hl
  have hP : gWd D (mdT k ad) (va_up (va_up v 0 (v 0)) 1 (v 1)) f g s.heap := by rw [va_id, va_id]; exact hP
  have r_1 : (-1) ≤ (v 23) ∧ (v 23) ≤ 3 := hok.1 23
  refine lv_aload_n hx hb dX11_seen_0 rfl (lv_at hl 0 rfl) ?_
  refine lv_iconst (v := iI 0) hx hb dX11_seen_1 rfl ?_
  refine mdP_thrown (v1 := (va_up (va_up v 0 (v 0)) 1 0)) C hP hD hS mF_X11_146 (by decide) rfl (Or.inr (gR_up (V := mdV) (F := mdF) (gR_up (V := mdV) (F := mdF) ⟨hok.1, hok.2⟩ 0 (hP.2.1 0)) 1 (show 0 ≤ 0 ∧ 0 ≤ 0 from by decide))) dX11_seen_2 (fun H locs hP hS => ?_)
  refine lv_aload_n hx hb dX11_seen_5 rfl (lv_at hl 0 rfl) ?_
  refine lv_iconst (v := iI 0) hx hb dX11_seen_6 rfl ?_
  refine mdP_status (v1 := (va_up (va_up v 0 0) 1 0)) C hP hD hS mF_X11_149 (by decide) rfl (Or.inr (gR_up (V := mdV) (F := mdF) (gR_up (V := mdV) (F := mdF) ⟨hok.1, hok.2⟩ 0 (show 0 ≤ 0 ∧ 0 ≤ 10 from by decide)) 1 (hP.2.1 1))) dX11_seen_7 (fun H locs hP hS => ?_)
  refine lv_aload_n hx hb dX11_seen_10 rfl (lv_at hl 0 rfl) ?_
  refine lv_iload_n hx hb dX11_seen_11 rfl (lv_at hl 1 rfl) ?_
  refine g_cv (As := [.int (iI a1)]) (rest := []) (n := 1) C hml (m_X11_isClimber l D k A ad hD (va_up (va_up v 0 0) 1 0) f g a1 (by omega)) mM_X11_349 mI_X11_isClimber mE_X11_isClimber mN_X11 mC_X11_isClimber (by decide +kernel) 0 (ci := 11) rfl rfl hP hS (fun _ h => h) ⟨Nat.le_of_ble_eq_true rfl, Nat.le_of_ble_eq_true rfl⟩ ⟨Nat.zero_le _, Nat.zero_le _⟩ hl.1 rfl rfl (Nat.le_of_ble_eq_true rfl) dX11_seen_12 (fun r_2 v_2 f_2 g_2 H locs hq_2 hP _ hS => ?_)
  obtain ⟨z_2, rfl, rfl, rfl, rfl, p0_2, p1_2⟩ := hq_2
  show W p l e (gRm 2 56) s m args below meth c _ _ 0 0 Q (F0 m 15 ls [.int (iI z_2)])
  replace p0_2 : z_2 = (if 0 ≤ a1 ∧ a1 < (v 22) then 1 else 0) := p0_2
  have w_2 := gif (P := 0 ≤ a1 ∧ a1 < (v 22)) p0_2
  replace p1_2 : z_2 = 1 → 0 ≤ a1 ∧ a1 ≤ 15 := p1_2
  have hz_2 : inR z_2 := (by first | omega | (rw [p0_2]; split <;> omega))
  refine gi_zeq (tgt := 37) hx hb dX11_seen_15 (by decide) (by omega) (fun c_3 => ?_) (fun c_3 => ?_)
  · refine lv_aload_n hx hb dX11_seen_37 rfl (lv_at hl 0 rfl) ?_
    refine lv_iconst (v := iI 1) hx hb dX11_seen_38 rfl ?_
    refine g_cv (As := [.int (iI 1)]) (rest := []) (n := 1) C hml (m_X11_refuse l D k A ad hD (va_up (va_up v 0 0) 1 0) f g 1 (by decide) (show 0 ≤ (1 : Int) ∧ (1 : Int) ≤ 10 from by omega)) mM_X11_295 mI_X11_refuse mE_X11_refuse mN_X11 mC_X11_refuse (by decide +kernel) 0 (ci := 11) rfl rfl hP hS (fun _ h => h) ⟨Nat.le_of_ble_eq_true rfl, Nat.le_of_ble_eq_true rfl⟩ ⟨Nat.zero_le _, Nat.zero_le _⟩ hl.1 rfl rfl (Nat.le_of_ble_eq_true rfl) dX11_seen_39 (fun r_4 v_4 f_4 g_4 H locs hq_4 hP _ hS => ?_)
    obtain ⟨rfl, rfl, rfl, rfl⟩ := hq_4
    show W p l e (gRm 2 56) s m args below meth c _ _ 0 0 Q (F0 m 42 ls [.int (iI (-1))])
    have hP : gWd D (mdT k ad) (va_up (va_up v 0 (1 : Int)) 1 0) f g H := ⟨hP.1, (gR_up (V := mdV) (F := mdF) (gR_up (V := mdV) (F := mdF) ⟨hok.1, hok.2⟩ 0 (hP.2.1 0)) 1 (hP.2.1 1))⟩
    exact g_iret hQ C hr hlocks hP hS dX11_seen_42 ⟨(-1), (1 : Int), 0, rfl, rfl, rfl, rfl, (by first | omega | (split <;> omega))⟩
  · refine lv_aload_n hx hb dX11_seen_18 rfl (lv_at hl 0 rfl) ?_
    refine mdG_open C hP mF_X11_82 dX11_seen_19 ?_
    show W p l e (gRm 2 56) s m args below meth c _ _ 0 0 Q (F0 m 22 ls [.int (iI (v 23))])
    refine gi_zlt (tgt := 37) hx hb dX11_seen_22 (by decide) (by omega) (fun c_5 => ?_) (fun c_5 => ?_)
    · refine lv_aload_n hx hb dX11_seen_37 rfl (lv_at hl 0 rfl) ?_
      refine lv_iconst (v := iI 1) hx hb dX11_seen_38 rfl ?_
      refine g_cv (As := [.int (iI 1)]) (rest := []) (n := 1) C hml (m_X11_refuse l D k A ad hD (va_up (va_up v 0 0) 1 0) f g 1 (by decide) (show 0 ≤ (1 : Int) ∧ (1 : Int) ≤ 10 from by omega)) mM_X11_295 mI_X11_refuse mE_X11_refuse mN_X11 mC_X11_refuse (by decide +kernel) 0 (ci := 11) rfl rfl hP hS (fun _ h => h) ⟨Nat.le_of_ble_eq_true rfl, Nat.le_of_ble_eq_true rfl⟩ ⟨Nat.zero_le _, Nat.zero_le _⟩ hl.1 rfl rfl (Nat.le_of_ble_eq_true rfl) dX11_seen_39 (fun r_6 v_6 f_6 g_6 H locs hq_6 hP _ hS => ?_)
      obtain ⟨rfl, rfl, rfl, rfl⟩ := hq_6
      show W p l e (gRm 2 56) s m args below meth c _ _ 0 0 Q (F0 m 42 ls [.int (iI (-1))])
      have hP : gWd D (mdT k ad) (va_up (va_up v 0 (1 : Int)) 1 0) f g H := ⟨hP.1, (gR_up (V := mdV) (F := mdF) (gR_up (V := mdV) (F := mdF) ⟨hok.1, hok.2⟩ 0 (hP.2.1 0)) 1 (hP.2.1 1))⟩
      exact g_iret hQ C hr hlocks hP hS dX11_seen_42 ⟨(-1), (1 : Int), 0, rfl, rfl, rfl, rfl, (by first | omega | (split <;> omega))⟩
    · refine lv_aload_n hx hb dX11_seen_25 rfl (lv_at hl 0 rfl) ?_
      refine lv_aload_n hx hb dX11_seen_26 rfl (lv_at hl 0 rfl) ?_
      refine mdG_open C hP mF_X11_82 dX11_seen_27 ?_
      show W p l e (gRm 2 56) s m args below meth c _ _ 0 0 Q (F0 m 30 ls [.int (iI (v 23)), .ref (ad 0)])
      refine lv_iload_n hx hb dX11_seen_30 rfl (lv_at hl 2 rfl) ?_
      refine g_cv (As := [.int (iI (v 23)), .int (iI a2)]) (rest := []) (n := 2) C hml (m_X11_isRoute l D k A ad hD (va_up (va_up v 0 0) 1 0) f g (v 23) a2 (by omega) (by omega)) mM_X11_328 mI_X11_isRoute mE_X11_isRoute mN_X11 mC_X11_isRoute (by decide +kernel) 0 (ci := 11) rfl rfl hP hS (fun _ h => h) ⟨Nat.le_of_ble_eq_true rfl, Nat.le_of_ble_eq_true rfl⟩ ⟨Nat.zero_le _, Nat.zero_le _⟩ hl.1 rfl rfl (Nat.le_of_ble_eq_true rfl) dX11_seen_31 (fun r_7 v_7 f_7 g_7 H locs hq_7 hP _ hS => ?_)
      obtain ⟨z_7, rfl, rfl, rfl, rfl, p0_7, p1_7⟩ := hq_7
      show W p l e (gRm 2 56) s m args below meth c _ _ 0 0 Q (F0 m 34 ls [.int (iI z_7)])
      replace p0_7 : z_7 = (if (0 ≤ (v 23) ∧ (v 23) < (v 12)) ∧ 0 ≤ a2 ∧ a2 < (f 1) (v 23) then 1 else 0) := p0_7
      have w_7 := gif (P := (0 ≤ (v 23) ∧ (v 23) < (v 12)) ∧ 0 ≤ a2 ∧ a2 < (f 1) (v 23)) p0_7
      replace p1_7 : z_7 = 1 → a2 ≤ 4 ∧ (v 23) ≤ 3 := p1_7
      have hz_7 : inR z_7 := (by first | omega | (rw [p0_7]; split <;> omega))
      refine gi_zne (tgt := 43) hx hb dX11_seen_34 (by decide) (by omega) (fun c_8 => ?_) (fun c_8 => ?_)
      · refine lv_aload_n hx hb dX11_seen_43 rfl (lv_at hl 0 rfl) ?_
        refine lv_iload_n hx hb dX11_seen_44 rfl (lv_at hl 1 rfl) ?_
        refine lv_iload_n hx hb dX11_seen_45 rfl (lv_at hl 2 rfl) ?_
        refine g_cv (As := [.int (iI a1), .int (iI a2)]) (rest := []) (n := 2) C hml (m_X11_hasSeen l D k A ad hD (va_up (va_up v 0 0) 1 0) f g a1 a2 (by omega) (by omega) (show 0 ≤ a1 ∧ a1 ≤ 15 from by omega)) mM_X11_358 mI_X11_hasSeen mE_X11_hasSeen mN_X11 mC_X11_hasSeen (by decide +kernel) 0 (ci := 11) rfl rfl hP hS (fun _ h => h) ⟨Nat.le_of_ble_eq_true rfl, Nat.le_of_ble_eq_true rfl⟩ ⟨Nat.zero_le _, Nat.zero_le _⟩ hl.1 rfl rfl (Nat.le_of_ble_eq_true rfl) dX11_seen_46 (fun r_9 v_9 f_9 g_9 H locs hq_9 hP _ hS => ?_)
        obtain ⟨z_9, rfl, rfl, rfl, rfl, p0_9⟩ := hq_9
        show W p l e (gRm 2 56) s m args below meth c _ _ 0 0 Q (F0 m 49 ls [.int (iI z_9)])
        replace p0_9 : 0 ≤ z_9 ∧ z_9 ≤ 1 := p0_9
        refine gi_zeq (tgt := 56) hx hb dX11_seen_49 (by decide) (by omega) (fun c_10 => ?_) (fun c_10 => ?_)
        · refine lv_iconst (v := iI 0) hx hb dX11_seen_56 rfl ?_
          exact g_iret hQ C hr hlocks hP hS dX11_seen_57 ⟨0, 0, 0, rfl, rfl, rfl, rfl, (by first | omega | (split <;> omega))⟩
        · refine lv_iconst (v := iI 1) hx hb dX11_seen_52 rfl ?_
          refine lv_goto (tgt := 57) hx hb dX11_seen_53 (by decide) ?_
          exact g_iret hQ C hr hlocks hP hS dX11_seen_57 ⟨1, 0, 0, rfl, rfl, rfl, rfl, (by first | omega | (split <;> omega))⟩
      · refine lv_aload_n hx hb dX11_seen_37 rfl (lv_at hl 0 rfl) ?_
        refine lv_iconst (v := iI 1) hx hb dX11_seen_38 rfl ?_
        refine g_cv (As := [.int (iI 1)]) (rest := []) (n := 1) C hml (m_X11_refuse l D k A ad hD (va_up (va_up v 0 0) 1 0) f g 1 (by decide) (show 0 ≤ (1 : Int) ∧ (1 : Int) ≤ 10 from by omega)) mM_X11_295 mI_X11_refuse mE_X11_refuse mN_X11 mC_X11_refuse (by decide +kernel) 0 (ci := 11) rfl rfl hP hS (fun _ h => h) ⟨Nat.le_of_ble_eq_true rfl, Nat.le_of_ble_eq_true rfl⟩ ⟨Nat.zero_le _, Nat.zero_le _⟩ hl.1 rfl rfl (Nat.le_of_ble_eq_true rfl) dX11_seen_39 (fun r_11 v_11 f_11 g_11 H locs hq_11 hP _ hS => ?_)
        obtain ⟨rfl, rfl, rfl, rfl⟩ := hq_11
        show W p l e (gRm 2 56) s m args below meth c _ _ 0 0 Q (F0 m 42 ls [.int (iI (-1))])
        have hP : gWd D (mdT k ad) (va_up (va_up v 0 (1 : Int)) 1 0) f g H := ⟨hP.1, (gR_up (V := mdV) (F := mdF) (gR_up (V := mdV) (F := mdF) ⟨hok.1, hok.2⟩ 0 (hP.2.1 0)) 1 (hP.2.1 1))⟩
        exact g_iret hQ C hr hlocks hP hS dX11_seen_42 ⟨(-1), (1 : Int), 0, rfl, rfl, rfl, rfl, (by first | omega | (split <;> omega))⟩

set_option maxHeartbeats 4000000 in
set_option maxRecDepth 100000 in
theorem m_X11_ready (l : Launch) (D : va_G) (k : Nat → ClassId) (A : Nat → Prop) (ad : Nat → Nat) (hD : mdD A k ad) (v : gV) (f g : gF) (a1 : Int) (h_a1 : inR a1) : GM l D k A (mdT k ad) yX11_ready cX11_ready 2 (some .int) 2 53 [.ref (ad 0), .int (iI a1)] v f g (fun r v1 f1 g1 => ∃ (z : Int) (w0 : Int) (w1 : Int), r = some (.int (iI z)) ∧ (va_up (va_up v 0 w0) 1 w1) = v1 ∧ f = f1 ∧ g = g1 ∧ ((-1) ≤ z ∧ z ≤ 1001998)) := by
  refine GM.of (by decide) (Nat.le_of_ble_eq_true rfl) ?_
  intro p e s m args below meth c Q ls hQ C hml hr hlocks hP hl
  have hx := C.1
  have hb := C.2.1
  have hok := hP.2
  have hS : va_S A s.heap s.heap [] := va_S.rf
  have hl : lv_has ls 2 [(0, .ref (ad 0)), (1, .int (iI a1))] := hl
  have hP : gWd D (mdT k ad) (va_up (va_up v 0 (v 0)) 1 (v 1)) f g s.heap := by rw [va_id, va_id]; exact hP
  refine lv_aload_n hx hb dX11_ready_0 rfl (lv_at hl 0 rfl) ?_
  refine lv_iconst (v := iI 0) hx hb dX11_ready_1 rfl ?_
  refine mdP_thrown (v1 := (va_up (va_up v 0 (v 0)) 1 0)) C hP hD hS mF_X11_146 (by decide) rfl (Or.inr (gR_up (V := mdV) (F := mdF) (gR_up (V := mdV) (F := mdF) ⟨hok.1, hok.2⟩ 0 (hP.2.1 0)) 1 (show 0 ≤ 0 ∧ 0 ≤ 0 from by decide))) dX11_ready_2 (fun H locs hP hS => ?_)
  refine lv_aload_n hx hb dX11_ready_5 rfl (lv_at hl 0 rfl) ?_
  refine lv_iconst (v := iI 0) hx hb dX11_ready_6 rfl ?_
  refine mdP_status (v1 := (va_up (va_up v 0 0) 1 0)) C hP hD hS mF_X11_149 (by decide) rfl (Or.inr (gR_up (V := mdV) (F := mdF) (gR_up (V := mdV) (F := mdF) ⟨hok.1, hok.2⟩ 0 (show 0 ≤ 0 ∧ 0 ≤ 10 from by decide)) 1 (hP.2.1 1))) dX11_ready_7 (fun H locs hP hS => ?_)
  refine lv_aload_n hx hb dX11_ready_10 rfl (lv_at hl 0 rfl) ?_
  refine lv_iload_n hx hb dX11_ready_11 rfl (lv_at hl 1 rfl) ?_
  refine g_cv (As := [.int (iI a1)]) (rest := []) (n := 1) C hml (m_X11_isClimber l D k A ad hD (va_up (va_up v 0 0) 1 0) f g a1 (by omega)) mM_X11_349 mI_X11_isClimber mE_X11_isClimber mN_X11 mC_X11_isClimber (by decide +kernel) 0 (ci := 11) rfl rfl hP hS (fun _ h => h) ⟨Nat.le_of_ble_eq_true rfl, Nat.le_of_ble_eq_true rfl⟩ ⟨Nat.zero_le _, Nat.zero_le _⟩ hl.1 rfl rfl (Nat.le_of_ble_eq_true rfl) dX11_ready_12 (fun r_1 v_1 f_1 g_1 H locs hq_1 hP _ hS => ?_)
  obtain ⟨z_1, rfl, rfl, rfl, rfl, p0_1, p1_1⟩ := hq_1
  show W p l e (gRm 2 53) s m args below meth c _ _ 0 0 Q (F0 m 15 ls [.int (iI z_1)])
  replace p0_1 : z_1 = (if 0 ≤ a1 ∧ a1 < (v 22) then 1 else 0) := p0_1
  have w_1 := gif (P := 0 ≤ a1 ∧ a1 < (v 22)) p0_1
  replace p1_1 : z_1 = 1 → 0 ≤ a1 ∧ a1 ≤ 15 := p1_1
  have hz_1 : inR z_1 := (by first | omega | (rw [p0_1]; split <;> omega))
  refine gi_zne (tgt := 24) hx hb dX11_ready_15 (by decide) (by omega) (fun c_2 => ?_) (fun c_2 => ?_)
  · refine lv_aload_n hx hb dX11_ready_24 rfl (lv_at hl 0 rfl) ?_
    refine lv_iload_n hx hb dX11_ready_25 rfl (lv_at hl 1 rfl) ?_
    refine g_cv (As := [.int (iI a1)]) (rest := []) (n := 1) C hml (m_X11_openTry l D k A ad hD (va_up (va_up v 0 0) 1 0) f g a1 (by omega)) mM_X11_355 mI_X11_openTry mE_X11_openTry mN_X11 mC_X11_openTry (by decide +kernel) 0 (ci := 11) rfl rfl hP hS (fun _ h => h) ⟨Nat.le_of_ble_eq_true rfl, Nat.le_of_ble_eq_true rfl⟩ ⟨Nat.zero_le _, Nat.zero_le _⟩ hl.1 rfl rfl (Nat.le_of_ble_eq_true rfl) dX11_ready_26 (fun r_3 v_3 f_3 g_3 H locs hq_3 hP _ hS => ?_)
    obtain ⟨z_3, rfl, rfl, rfl, rfl, p0_3⟩ := hq_3
    show W p l e (gRm 2 53) s m args below meth c _ _ 0 0 Q (F0 m 29 ls [.int (iI z_3)])
    replace p0_3 : (-1) ≤ z_3 ∧ z_3 ≤ 299 := p0_3
    refine gi_zlt (tgt := 38) hx hb dX11_ready_29 (by decide) (by omega) (fun c_4 => ?_) (fun c_4 => ?_)
    · refine lv_aload_n hx hb dX11_ready_38 rfl (lv_at hl 0 rfl) ?_
      refine mdG_now C hP mF_X11_316 dX11_ready_39 ?_
      show W p l e (gRm 2 53) s m args below meth c _ _ 0 0 Q (F0 m 42 ls [.int (iI (v 24))])
      have r_5 : 0 ≤ (v 24) ∧ (v 24) ≤ 1000000 := hok.1 24
      refine lv_aload_n hx hb dX11_ready_42 rfl (lv_at hl 0 rfl) ?_
      refine lv_iload_n hx hb dX11_ready_43 rfl (lv_at hl 1 rfl) ?_
      refine g_cv (As := [.int (iI a1)]) (rest := [.int (iI (v 24))]) (n := 1) C hml (m_X11_readyAt l D k A ad hD (va_up (va_up v 0 0) 1 0) f g a1 (by omega)) mM_X11_361 mI_X11_readyAt mE_X11_readyAt mN_X11 mC_X11_readyAt (by decide +kernel) 0 (ci := 11) rfl rfl hP hS (fun _ h => h) ⟨Nat.le_of_ble_eq_true rfl, Nat.le_of_ble_eq_true rfl⟩ ⟨Nat.zero_le _, Nat.zero_le _⟩ hl.1 rfl rfl (Nat.le_of_ble_eq_true rfl) dX11_ready_44 (fun r_6 v_6 f_6 g_6 H locs hq_6 hP _ hS => ?_)
      obtain ⟨z_6, rfl, rfl, rfl, rfl, p0_6⟩ := hq_6
      show W p l e (gRm 2 53) s m args below meth c _ _ 0 0 Q (F0 m 47 ls [.int (iI z_6), .int (iI (v 24))])
      replace p0_6 : 0 ≤ z_6 ∧ z_6 ≤ 1001998 := p0_6
      refine gi_max C hml hl.1 mM_X11_341 (by omega) (by omega) (Nat.le_of_ble_eq_true rfl) (Nat.le_of_ble_eq_true rfl) dX11_ready_47 (fun x_7 hx_7 => ?_)
      exact g_iret hQ C hr hlocks hP hS dX11_ready_50 ⟨x_7, 0, 0, rfl, rfl, rfl, rfl, (by first | omega | (split <;> omega))⟩
    · refine lv_aload_n hx hb dX11_ready_32 rfl (lv_at hl 0 rfl) ?_
      refine lv_iconst (v := iI 5) hx hb dX11_ready_33 rfl ?_
      refine g_cv (As := [.int (iI 5)]) (rest := []) (n := 1) C hml (m_X11_refuse l D k A ad hD (va_up (va_up v 0 0) 1 0) f g 5 (by decide) (show 0 ≤ (5 : Int) ∧ (5 : Int) ≤ 10 from by omega)) mM_X11_295 mI_X11_refuse mE_X11_refuse mN_X11 mC_X11_refuse (by decide +kernel) 0 (ci := 11) rfl rfl hP hS (fun _ h => h) ⟨Nat.le_of_ble_eq_true rfl, Nat.le_of_ble_eq_true rfl⟩ ⟨Nat.zero_le _, Nat.zero_le _⟩ hl.1 rfl rfl (Nat.le_of_ble_eq_true rfl) dX11_ready_34 (fun r_8 v_8 f_8 g_8 H locs hq_8 hP _ hS => ?_)
      obtain ⟨rfl, rfl, rfl, rfl⟩ := hq_8
      show W p l e (gRm 2 53) s m args below meth c _ _ 0 0 Q (F0 m 37 ls [.int (iI (-1))])
      have hP : gWd D (mdT k ad) (va_up (va_up v 0 (5 : Int)) 1 0) f g H := ⟨hP.1, (gR_up (V := mdV) (F := mdF) (gR_up (V := mdV) (F := mdF) ⟨hok.1, hok.2⟩ 0 (hP.2.1 0)) 1 (hP.2.1 1))⟩
      exact g_iret hQ C hr hlocks hP hS dX11_ready_37 ⟨(-1), (5 : Int), 0, rfl, rfl, rfl, rfl, (by first | omega | (split <;> omega))⟩
  · refine lv_aload_n hx hb dX11_ready_18 rfl (lv_at hl 0 rfl) ?_
    refine lv_iconst (v := iI 1) hx hb dX11_ready_19 rfl ?_
    refine g_cv (As := [.int (iI 1)]) (rest := []) (n := 1) C hml (m_X11_refuse l D k A ad hD (va_up (va_up v 0 0) 1 0) f g 1 (by decide) (show 0 ≤ (1 : Int) ∧ (1 : Int) ≤ 10 from by omega)) mM_X11_295 mI_X11_refuse mE_X11_refuse mN_X11 mC_X11_refuse (by decide +kernel) 0 (ci := 11) rfl rfl hP hS (fun _ h => h) ⟨Nat.le_of_ble_eq_true rfl, Nat.le_of_ble_eq_true rfl⟩ ⟨Nat.zero_le _, Nat.zero_le _⟩ hl.1 rfl rfl (Nat.le_of_ble_eq_true rfl) dX11_ready_20 (fun r_9 v_9 f_9 g_9 H locs hq_9 hP _ hS => ?_)
    obtain ⟨rfl, rfl, rfl, rfl⟩ := hq_9
    show W p l e (gRm 2 53) s m args below meth c _ _ 0 0 Q (F0 m 23 ls [.int (iI (-1))])
    have hP : gWd D (mdT k ad) (va_up (va_up v 0 (1 : Int)) 1 0) f g H := ⟨hP.1, (gR_up (V := mdV) (F := mdF) (gR_up (V := mdV) (F := mdF) ⟨hok.1, hok.2⟩ 0 (hP.2.1 0)) 1 (hP.2.1 1))⟩
    exact g_iret hQ C hr hlocks hP hS dX11_ready_23 ⟨(-1), (1 : Int), 0, rfl, rfl, rfl, rfl, (by first | omega | (split <;> omega))⟩

set_option maxHeartbeats 4000000 in
set_option maxRecDepth 100000 in
theorem m_X11_appeal (l : Launch) (D : va_G) (k : Nat → ClassId) (A : Nat → Prop) (ad : Nat → Nat) (hD : mdD A k ad) (v : gV) (f g : gF) (a1 : Int) (a2 : Int) (a3 : Int) (h_a1 : inR a1) (h_a2 : inR a2) (h_a3 : inR a3) : GM l D k A (mdT k ad) yX11_appeal cX11_appeal 4 (some .boolean) 1 21 [.ref (ad 0), .int (iI a1), .int (iI a2), .int (iI a3)] v f g (fun r v1 f1 g1 => ∃ (z : Int) (w0 : Int) (w1 : Int) (w26 : Int) (a31_ : Int → Int) (a32_ : Int → Int) (a33_ : Int → Int), r = some (.int (iI z)) ∧ (va_up (va_up (va_up v 0 w0) 1 w1) 26 w26) = v1 ∧ (va_up (va_up (va_up f 31 a31_) 32 a32_) 33 a33_) = f1 ∧ g = g1 ∧ (0 ≤ z ∧ z ≤ 1)) := by
  refine GM.of (by decide) (Nat.le_of_ble_eq_true rfl) ?_
  intro p e s m args below meth c Q ls hQ C hml hr hlocks hP hl
  have hx := C.1
  have hb := C.2.1
  have hok := hP.2
  have hS : va_S A s.heap s.heap [] := va_S.rf
  have hl : lv_has ls 4 [(0, .ref (ad 0)), (1, .int (iI a1)), (2, .int (iI a2)), (3, .int (iI a3))] := hl
  have hP : gWd D (mdT k ad) (va_up (va_up (va_up v 0 (v 0)) 1 (v 1)) 26 (v 26)) (va_up (va_up (va_up f 31 (f 31)) 32 (f 32)) 33 (f 33)) g s.heap := by rw [va_id, va_id, va_id, va_id, va_id, va_id]; exact hP
  have r_1 : 0 ≤ (v 25) ∧ (v 25) ≤ 300 := hok.1 25
  refine lv_aload_n hx hb dX11_appeal_0 rfl (lv_at hl 0 rfl) ?_
  refine lv_iconst (v := iI 0) hx hb dX11_appeal_1 rfl ?_
  refine mdP_thrown (v1 := (va_up (va_up (va_up v 0 (v 0)) 1 0) 26 (v 26))) C hP hD hS mF_X11_146 (by decide) rfl (Or.inr (gF_up (V := mdV) (F := mdF) (gF_up (V := mdV) (F := mdF) (gF_up (V := mdV) (F := mdF) (gR_up (V := mdV) (F := mdF) (gR_up (V := mdV) (F := mdF) (gR_up (V := mdV) (F := mdF) ⟨hok.1, hok.2⟩ 0 (hP.2.1 0)) 1 (show 0 ≤ 0 ∧ 0 ≤ 0 from by decide)) 26 (hP.2.1 26)) 31 (hP.2.2 31)) 32 (hP.2.2 32)) 33 (hP.2.2 33))) dX11_appeal_2 (fun H locs hP hS => ?_)
  refine lv_aload_n hx hb dX11_appeal_5 rfl (lv_at hl 0 rfl) ?_
  refine lv_iconst (v := iI 0) hx hb dX11_appeal_6 rfl ?_
  refine mdP_status (v1 := (va_up (va_up (va_up v 0 0) 1 0) 26 (v 26))) C hP hD hS mF_X11_149 (by decide) rfl (Or.inr (gF_up (V := mdV) (F := mdF) (gF_up (V := mdV) (F := mdF) (gF_up (V := mdV) (F := mdF) (gR_up (V := mdV) (F := mdF) (gR_up (V := mdV) (F := mdF) (gR_up (V := mdV) (F := mdF) ⟨hok.1, hok.2⟩ 0 (show 0 ≤ 0 ∧ 0 ≤ 10 from by decide)) 1 (hP.2.1 1)) 26 (hP.2.1 26)) 31 (hP.2.2 31)) 32 (hP.2.2 32)) 33 (hP.2.2 33))) dX11_appeal_7 (fun H locs hP hS => ?_)
  refine lv_iload_n hx hb dX11_appeal_10 rfl (lv_at hl 1 rfl) ?_
  refine gi_zlt (tgt := 22) hx hb dX11_appeal_11 (by decide) (by omega) (fun c_2 => ?_) (fun c_2 => ?_)
  · refine lv_aload_n hx hb dX11_appeal_22 rfl (lv_at hl 0 rfl) ?_
    refine lv_iconst (v := iI 1) hx hb dX11_appeal_23 rfl ?_
    refine g_cv (As := [.int (iI 1)]) (rest := []) (n := 1) C hml (m_X11_no l D k A ad hD (va_up (va_up (va_up v 0 0) 1 0) 26 (v 26)) (va_up (va_up (va_up f 31 (f 31)) 32 (f 32)) 33 (f 33)) g 1 (by decide) (show 0 ≤ (1 : Int) ∧ (1 : Int) ≤ 10 from by omega)) mM_X11_332 mI_X11_no mE_X11_no mN_X11 mC_X11_no (by decide +kernel) 0 (ci := 11) rfl rfl hP hS (fun _ h => h) ⟨Nat.le_of_ble_eq_true rfl, Nat.le_of_ble_eq_true rfl⟩ ⟨Nat.zero_le _, Nat.zero_le _⟩ hl.1 rfl rfl (Nat.le_of_ble_eq_true rfl) dX11_appeal_24 (fun r_3 v_3 f_3 g_3 H locs hq_3 hP _ hS => ?_)
    obtain ⟨rfl, rfl, rfl, rfl⟩ := hq_3
    show W p l e (gRm 1 21) s m args below meth c _ _ 0 0 Q (F0 m 27 ls [.int (iI 0)])
    have hP : gWd D (mdT k ad) (va_up (va_up (va_up v 0 (1 : Int)) 1 0) 26 (v 26)) (va_up (va_up (va_up f 31 (f 31)) 32 (f 32)) 33 (f 33)) g H := ⟨hP.1, (gF_up (V := mdV) (F := mdF) (gF_up (V := mdV) (F := mdF) (gF_up (V := mdV) (F := mdF) (gR_up (V := mdV) (F := mdF) (gR_up (V := mdV) (F := mdF) (gR_up (V := mdV) (F := mdF) ⟨hok.1, hok.2⟩ 0 (hP.2.1 0)) 1 (hP.2.1 1)) 26 (hP.2.1 26)) 31 (hP.2.2 31)) 32 (hP.2.2 32)) 33 (hP.2.2 33))⟩
    exact g_zret hQ C hr hlocks (by decide) hP hS dX11_appeal_27 ⟨0, (1 : Int), 0, (v 26), (f 31), (f 32), (f 33), rfl, rfl, rfl, rfl, (by first | omega | (split <;> omega))⟩
  · refine lv_iload_n hx hb dX11_appeal_14 rfl (lv_at hl 1 rfl) ?_
    refine lv_aload_n hx hb dX11_appeal_15 rfl (lv_at hl 0 rfl) ?_
    refine mdG_tried C hP mF_X11_319 dX11_appeal_16 ?_
    show W p l e (gRm 1 21) s m args below meth c _ _ 0 0 Q (F0 m 19 ls [.int (iI (v 25)), .int (iI a1)])
    refine gi_clt (tgt := 28) hx hb dX11_appeal_19 (by decide) (by omega) (by omega) (fun c_4 => ?_) (fun c_4 => ?_)
    · refine lv_iload_n hx hb dX11_appeal_28 rfl (lv_at hl 2 rfl) ?_
      refine gi_zlt (tgt := 63) hx hb dX11_appeal_29 (by decide) (by omega) (fun c_5 => ?_) (fun c_5 => ?_)
      · refine lv_aload_n hx hb dX11_appeal_63 rfl (lv_at hl 0 rfl) ?_
        refine lv_iconst (v := iI 2) hx hb dX11_appeal_64 rfl ?_
        refine g_cv (As := [.int (iI 2)]) (rest := []) (n := 1) C hml (m_X11_no l D k A ad hD (va_up (va_up (va_up v 0 0) 1 0) 26 (v 26)) (va_up (va_up (va_up f 31 (f 31)) 32 (f 32)) 33 (f 33)) g 2 (by decide) (show 0 ≤ (2 : Int) ∧ (2 : Int) ≤ 10 from by omega)) mM_X11_332 mI_X11_no mE_X11_no mN_X11 mC_X11_no (by decide +kernel) 0 (ci := 11) rfl rfl hP hS (fun _ h => h) ⟨Nat.le_of_ble_eq_true rfl, Nat.le_of_ble_eq_true rfl⟩ ⟨Nat.zero_le _, Nat.zero_le _⟩ hl.1 rfl rfl (Nat.le_of_ble_eq_true rfl) dX11_appeal_65 (fun r_6 v_6 f_6 g_6 H locs hq_6 hP _ hS => ?_)
        obtain ⟨rfl, rfl, rfl, rfl⟩ := hq_6
        show W p l e (gRm 1 21) s m args below meth c _ _ 0 0 Q (F0 m 68 ls [.int (iI 0)])
        have hP : gWd D (mdT k ad) (va_up (va_up (va_up v 0 (2 : Int)) 1 0) 26 (v 26)) (va_up (va_up (va_up f 31 (f 31)) 32 (f 32)) 33 (f 33)) g H := ⟨hP.1, (gF_up (V := mdV) (F := mdF) (gF_up (V := mdV) (F := mdF) (gF_up (V := mdV) (F := mdF) (gR_up (V := mdV) (F := mdF) (gR_up (V := mdV) (F := mdF) (gR_up (V := mdV) (F := mdF) ⟨hok.1, hok.2⟩ 0 (hP.2.1 0)) 1 (hP.2.1 1)) 26 (hP.2.1 26)) 31 (hP.2.2 31)) 32 (hP.2.2 32)) 33 (hP.2.2 33))⟩
        exact g_zret hQ C hr hlocks (by decide) hP hS dX11_appeal_68 ⟨0, (2 : Int), 0, (v 26), (f 31), (f 32), (f 33), rfl, rfl, rfl, rfl, (by first | omega | (split <;> omega))⟩
      · refine lv_iload_n hx hb dX11_appeal_32 rfl (lv_at hl 2 rfl) ?_
        refine lv_aload_n hx hb dX11_appeal_33 rfl (lv_at hl 0 rfl) ?_
        refine mdG_holds C hP mF_X11_73 dX11_appeal_34 ?_
        refine lv_aload_n hx hb dX11_appeal_37 rfl (lv_at hl 0 rfl) ?_
        refine mdG_where C hP mF_X11_97 dX11_appeal_38 ?_
        refine lv_iload_n hx hb dX11_appeal_41 rfl (lv_at hl 1 rfl) ?_
        refine mdL_where C hP (by omega) (by omega) dX11_appeal_42 ?_
        show W p l e (gRm 1 21) s m args below meth c _ _ 0 0 Q (F0 m 43 ls [.int (iI (f 25 a1)), .ref (ad 19), .int (iI a2)])
        have r_7 : 0 ≤ (f 25 a1) ∧ (f 25 a1) ≤ 3 := hP.2.2 25 a1
        refine lv_aload_n hx hb dX11_appeal_43 rfl (lv_at hl 0 rfl) ?_
        refine mdG_which C hP mF_X11_100 dX11_appeal_44 ?_
        refine lv_iload_n hx hb dX11_appeal_47 rfl (lv_at hl 1 rfl) ?_
        refine mdL_which C hP (by omega) (by omega) dX11_appeal_48 ?_
        show W p l e (gRm 1 21) s m args below meth c _ _ 0 0 Q (F0 m 49 ls [.int (iI (f 26 a1)), .int (iI (f 25 a1)), .ref (ad 19), .int (iI a2)])
        have r_8 : 0 ≤ (f 26 a1) ∧ (f 26 a1) ≤ 4 := hP.2.2 26 a1
        refine g_cs (As := [.int (iI (f 25 a1)), .int (iI (f 26 a1))]) (rest := [.ref (ad 19), .int (iI a2)]) (n := 2) C hml (m_X11_at l D k A ad hD (va_up (va_up (va_up v 0 0) 1 0) 26 (v 26)) (va_up (va_up (va_up f 31 (f 31)) 32 (f 32)) 33 (f 33)) g (f 25 a1) (f 26 a1) (by omega) (by omega) (show 0 ≤ (f 25 a1) ∧ (f 25 a1) ≤ 3 from by omega) (show 0 ≤ (f 26 a1) ∧ (f 26 a1) ≤ 4 from by omega)) mM_X11_335 mS_X11_at mN_X11 mC_X11_at (by decide +kernel) hP hS (fun _ h => h) ⟨Nat.le_of_ble_eq_true rfl, Nat.le_of_ble_eq_true rfl⟩ ⟨Nat.zero_le _, Nat.zero_le _⟩ hl.1 rfl rfl (Nat.le_of_ble_eq_true rfl) dX11_appeal_49 (fun r_9 v_9 f_9 g_9 H locs hq_9 hP _ hS => ?_)
        obtain ⟨z_9, rfl, rfl, rfl, rfl, p0_9⟩ := hq_9
        show W p l e (gRm 1 21) s m args below meth c _ _ 0 0 Q (F0 m 52 ls [.int (iI z_9), .ref (ad 19), .int (iI a2)])
        replace p0_9 : z_9 = (5 * (f 25 a1) + (f 26 a1)) := p0_9
        have hz_9 : inR z_9 := (by first | omega | (rw [p0_9]; split <;> omega))
        refine mdL_holds C hP (by omega) (by omega) dX11_appeal_52 ?_
        show W p l e (gRm 1 21) s m args below meth c _ _ 0 0 Q (F0 m 53 ls [.int (iI (f 18 z_9)), .int (iI a2)])
        have r_10 : 0 ≤ (f 18 z_9) ∧ (f 18 z_9) ≤ 60 := hP.2.2 18 z_9
        refine gi_cgt (tgt := 63) hx hb dX11_appeal_53 (by decide) (by omega) (by omega) (fun c_11 => ?_) (fun c_11 => ?_)
        · refine lv_aload_n hx hb dX11_appeal_63 rfl (lv_at hl 0 rfl) ?_
          refine lv_iconst (v := iI 2) hx hb dX11_appeal_64 rfl ?_
          refine g_cv (As := [.int (iI 2)]) (rest := []) (n := 1) C hml (m_X11_no l D k A ad hD (va_up (va_up (va_up v 0 0) 1 0) 26 (v 26)) (va_up (va_up (va_up f 31 (f 31)) 32 (f 32)) 33 (f 33)) g 2 (by decide) (show 0 ≤ (2 : Int) ∧ (2 : Int) ≤ 10 from by omega)) mM_X11_332 mI_X11_no mE_X11_no mN_X11 mC_X11_no (by decide +kernel) 0 (ci := 11) rfl rfl hP hS (fun _ h => h) ⟨Nat.le_of_ble_eq_true rfl, Nat.le_of_ble_eq_true rfl⟩ ⟨Nat.zero_le _, Nat.zero_le _⟩ hl.1 rfl rfl (Nat.le_of_ble_eq_true rfl) dX11_appeal_65 (fun r_12 v_12 f_12 g_12 H locs hq_12 hP _ hS => ?_)
          obtain ⟨rfl, rfl, rfl, rfl⟩ := hq_12
          show W p l e (gRm 1 21) s m args below meth c _ _ 0 0 Q (F0 m 68 ls [.int (iI 0)])
          have hP : gWd D (mdT k ad) (va_up (va_up (va_up v 0 (2 : Int)) 1 0) 26 (v 26)) (va_up (va_up (va_up f 31 (f 31)) 32 (f 32)) 33 (f 33)) g H := ⟨hP.1, (gF_up (V := mdV) (F := mdF) (gF_up (V := mdV) (F := mdF) (gF_up (V := mdV) (F := mdF) (gR_up (V := mdV) (F := mdF) (gR_up (V := mdV) (F := mdF) (gR_up (V := mdV) (F := mdF) ⟨hok.1, hok.2⟩ 0 (hP.2.1 0)) 1 (hP.2.1 1)) 26 (hP.2.1 26)) 31 (hP.2.2 31)) 32 (hP.2.2 32)) 33 (hP.2.2 33))⟩
          exact g_zret hQ C hr hlocks (by decide) hP hS dX11_appeal_68 ⟨0, (2 : Int), 0, (v 26), (f 31), (f 32), (f 33), rfl, rfl, rfl, rfl, (by first | omega | (split <;> omega))⟩
        · refine lv_iload_n hx hb dX11_appeal_56 rfl (lv_at hl 3 rfl) ?_
          refine g_cs (As := [.int (iI a3)]) (rest := []) (n := 1) C hml (m_X11_isDay l D k A ad hD (va_up (va_up (va_up v 0 0) 1 0) 26 (v 26)) (va_up (va_up (va_up f 31 (f 31)) 32 (f 32)) 33 (f 33)) g a3 (by omega)) mM_X11_364 mS_X11_isDay mN_X11 mC_X11_isDay (by decide +kernel) hP hS (fun _ h => h) ⟨Nat.le_of_ble_eq_true rfl, Nat.le_of_ble_eq_true rfl⟩ ⟨Nat.zero_le _, Nat.zero_le _⟩ hl.1 rfl rfl (Nat.le_of_ble_eq_true rfl) dX11_appeal_57 (fun r_13 v_13 f_13 g_13 H locs hq_13 hP _ hS => ?_)
          obtain ⟨z_13, rfl, rfl, rfl, rfl, p0_13⟩ := hq_13
          show W p l e (gRm 1 21) s m args below meth c _ _ 0 0 Q (F0 m 60 ls [.int (iI z_13)])
          replace p0_13 : z_13 = (if 0 ≤ a3 ∧ a3 ≤ 999 then 1 else 0) := p0_13
          have w_13 := gif (P := 0 ≤ a3 ∧ a3 ≤ 999) p0_13
          have hz_13 : inR z_13 := (by first | omega | (rw [p0_13]; split <;> omega))
          refine gi_zne (tgt := 69) hx hb dX11_appeal_60 (by decide) (by omega) (fun c_14 => ?_) (fun c_14 => ?_)
          · refine lv_aload_n hx hb dX11_appeal_69 rfl (lv_at hl 0 rfl) ?_
            refine mdG_how C hP mF_X11_112 dX11_appeal_70 ?_
            refine lv_iload_n hx hb dX11_appeal_73 rfl (lv_at hl 1 rfl) ?_
            refine mdL_how C hP (by omega) (by omega) dX11_appeal_74 ?_
            show W p l e (gRm 1 21) s m args below meth c _ _ 0 0 Q (F0 m 75 ls [.int (iI (f 30 a1))])
            have r_15 : 0 ≤ (f 30 a1) ∧ (f 30 a1) ≤ 4 := hP.2.2 30 a1
            refine gi_zeq (tgt := 88) hx hb dX11_appeal_75 (by decide) (by omega) (fun c_16 => ?_) (fun c_16 => ?_)
            · refine lv_aload_n hx hb dX11_appeal_88 rfl (lv_at hl 0 rfl) ?_
              refine lv_bipush (v := iI 10) hx hb dX11_appeal_89 (by decide) ?_
              refine g_cv (As := [.int (iI 10)]) (rest := []) (n := 1) C hml (m_X11_no l D k A ad hD (va_up (va_up (va_up v 0 0) 1 0) 26 (v 26)) (va_up (va_up (va_up f 31 (f 31)) 32 (f 32)) 33 (f 33)) g 10 (by decide) (show 0 ≤ (10 : Int) ∧ (10 : Int) ≤ 10 from by omega)) mM_X11_332 mI_X11_no mE_X11_no mN_X11 mC_X11_no (by decide +kernel) 0 (ci := 11) rfl rfl hP hS (fun _ h => h) ⟨Nat.le_of_ble_eq_true rfl, Nat.le_of_ble_eq_true rfl⟩ ⟨Nat.zero_le _, Nat.zero_le _⟩ hl.1 rfl rfl (Nat.le_of_ble_eq_true rfl) dX11_appeal_91 (fun r_17 v_17 f_17 g_17 H locs hq_17 hP _ hS => ?_)
              obtain ⟨rfl, rfl, rfl, rfl⟩ := hq_17
              show W p l e (gRm 1 21) s m args below meth c _ _ 0 0 Q (F0 m 94 ls [.int (iI 0)])
              have hP : gWd D (mdT k ad) (va_up (va_up (va_up v 0 (10 : Int)) 1 0) 26 (v 26)) (va_up (va_up (va_up f 31 (f 31)) 32 (f 32)) 33 (f 33)) g H := ⟨hP.1, (gF_up (V := mdV) (F := mdF) (gF_up (V := mdV) (F := mdF) (gF_up (V := mdV) (F := mdF) (gR_up (V := mdV) (F := mdF) (gR_up (V := mdV) (F := mdF) (gR_up (V := mdV) (F := mdF) ⟨hok.1, hok.2⟩ 0 (hP.2.1 0)) 1 (hP.2.1 1)) 26 (hP.2.1 26)) 31 (hP.2.2 31)) 32 (hP.2.2 32)) 33 (hP.2.2 33))⟩
              exact g_zret hQ C hr hlocks (by decide) hP hS dX11_appeal_94 ⟨0, (10 : Int), 0, (v 26), (f 31), (f 32), (f 33), rfl, rfl, rfl, rfl, (by first | omega | (split <;> omega))⟩
            · refine lv_aload_n hx hb dX11_appeal_78 rfl (lv_at hl 0 rfl) ?_
              refine mdG_how C hP mF_X11_112 dX11_appeal_79 ?_
              refine lv_iload_n hx hb dX11_appeal_82 rfl (lv_at hl 1 rfl) ?_
              refine mdL_how C hP (by omega) (by omega) dX11_appeal_83 ?_
              show W p l e (gRm 1 21) s m args below meth c _ _ 0 0 Q (F0 m 84 ls [.int (iI (f 30 a1))])
              refine lv_iconst (v := iI 4) hx hb dX11_appeal_84 rfl ?_
              refine gi_cne (tgt := 95) hx hb dX11_appeal_85 (by decide) (by omega) (by decide) (fun c_18 => ?_) (fun c_18 => ?_)
              · refine lv_aload_n hx hb dX11_appeal_95 rfl (lv_at hl 0 rfl) ?_
                refine mdG_appeals C hP mF_X11_322 dX11_appeal_96 ?_
                show W p l e (gRm 1 21) s m args below meth c _ _ 0 0 Q (F0 m 99 ls [.int (iI (v 26))])
                have r_19 : 0 ≤ (v 26) ∧ (v 26) ≤ 40 := hok.1 26
                refine lv_bipush (v := iI 40) hx hb dX11_appeal_99 (by decide) ?_
                refine gi_cne (tgt := 110) hx hb dX11_appeal_101 (by decide) (by omega) (by decide) (fun c_20 => ?_) (fun c_20 => ?_)
                · refine lv_aload_n hx hb dX11_appeal_110 rfl (lv_at hl 0 rfl) ?_
                  refine mdG_appealTry C hP mF_X11_115 dX11_appeal_111 ?_
                  refine lv_aload_n hx hb dX11_appeal_114 rfl (lv_at hl 0 rfl) ?_
                  refine mdG_appeals C hP mF_X11_322 dX11_appeal_115 ?_
                  show W p l e (gRm 1 21) s m args below meth c _ _ 0 0 Q (F0 m 118 ls [.int (iI (v 26)), .ref (ad 32)])
                  refine lv_iload_n hx hb dX11_appeal_118 rfl (lv_at hl 1 rfl) ?_
                  refine mdS_appealTry (f1 := (va_up (va_up (va_up f 31 (u1 (f 31) (v 26) a1)) 32 (f 32)) 33 (f 33))) C hP hD hS (by omega) (by omega) (by omega) rfl (Or.inr (gF_up (V := mdV) (F := mdF) (gF_up (V := mdV) (F := mdF) (gF_up (V := mdV) (F := mdF) (gR_up (V := mdV) (F := mdF) (gR_up (V := mdV) (F := mdF) (gR_up (V := mdV) (F := mdF) ⟨hok.1, hok.2⟩ 0 (hP.2.1 0)) 1 (hP.2.1 1)) 26 (hP.2.1 26)) 31 (u1_rng (hP.2.2 31) (show 0 ≤ a1 ∧ a1 ≤ 299 from (by omega)))) 32 (hP.2.2 32)) 33 (hP.2.2 33))) dX11_appeal_119 (fun H locs hP hS => ?_)
                  refine lv_aload_n hx hb dX11_appeal_120 rfl (lv_at hl 0 rfl) ?_
                  refine mdG_appealHold C hP mF_X11_118 dX11_appeal_121 ?_
                  refine lv_aload_n hx hb dX11_appeal_124 rfl (lv_at hl 0 rfl) ?_
                  refine mdG_appeals C hP mF_X11_322 dX11_appeal_125 ?_
                  show W p l e (gRm 1 21) s m args below meth c _ _ 0 0 Q (F0 m 128 ls [.int (iI (v 26)), .ref (ad 33)])
                  refine lv_iload_n hx hb dX11_appeal_128 rfl (lv_at hl 2 rfl) ?_
                  refine mdS_appealHold (f1 := (va_up (va_up (va_up f 31 (u1 (f 31) (v 26) a1)) 32 (u1 (f 32) (v 26) a2)) 33 (f 33))) C hP hD hS (by omega) (by omega) (by omega) rfl (Or.inr (gF_up (V := mdV) (F := mdF) (gF_up (V := mdV) (F := mdF) (gF_up (V := mdV) (F := mdF) (gR_up (V := mdV) (F := mdF) (gR_up (V := mdV) (F := mdF) (gR_up (V := mdV) (F := mdF) ⟨hok.1, hok.2⟩ 0 (hP.2.1 0)) 1 (hP.2.1 1)) 26 (hP.2.1 26)) 31 (hP.2.2 31)) 32 (u1_rng (hP.2.2 32) (show 0 ≤ a2 ∧ a2 ≤ 60 from (by omega)))) 33 (hP.2.2 33))) dX11_appeal_129 (fun H locs hP hS => ?_)
                  refine lv_aload_n hx hb dX11_appeal_130 rfl (lv_at hl 0 rfl) ?_
                  refine mdG_appealDay C hP mF_X11_121 dX11_appeal_131 ?_
                  refine lv_aload_n hx hb dX11_appeal_134 rfl (lv_at hl 0 rfl) ?_
                  refine mdG_appeals C hP mF_X11_322 dX11_appeal_135 ?_
                  show W p l e (gRm 1 21) s m args below meth c _ _ 0 0 Q (F0 m 138 ls [.int (iI (v 26)), .ref (ad 34)])
                  refine lv_iload_n hx hb dX11_appeal_138 rfl (lv_at hl 3 rfl) ?_
                  refine mdS_appealDay (f1 := (va_up (va_up (va_up f 31 (u1 (f 31) (v 26) a1)) 32 (u1 (f 32) (v 26) a2)) 33 (u1 (f 33) (v 26) a3))) C hP hD hS (by omega) (by omega) (by omega) rfl (Or.inr (gF_up (V := mdV) (F := mdF) (gF_up (V := mdV) (F := mdF) (gF_up (V := mdV) (F := mdF) (gR_up (V := mdV) (F := mdF) (gR_up (V := mdV) (F := mdF) (gR_up (V := mdV) (F := mdF) ⟨hok.1, hok.2⟩ 0 (hP.2.1 0)) 1 (hP.2.1 1)) 26 (hP.2.1 26)) 31 (hP.2.2 31)) 32 (hP.2.2 32)) 33 (u1_rng (hP.2.2 33) (show 0 ≤ a3 ∧ a3 ≤ 999 from (by omega))))) dX11_appeal_139 (fun H locs hP hS => ?_)
                  refine lv_aload_n hx hb dX11_appeal_140 rfl (lv_at hl 0 rfl) ?_
                  refine lv_dup hx hb dX11_appeal_141 rfl ?_
                  refine mdG_appeals C hP mF_X11_322 dX11_appeal_142 ?_
                  show W p l e (gRm 1 21) s m args below meth c _ _ 0 0 Q (F0 m 145 ls [.int (iI (v 26)), .ref (ad 0)])
                  refine lv_iconst (v := iI 1) hx hb dX11_appeal_145 rfl ?_
                  refine gi_add (z := ((v 26) + 1)) hx hb dX11_appeal_146 rfl ?_
                  refine mdP_appeals (v1 := (va_up (va_up (va_up v 0 0) 1 0) 26 ((v 26) + 1))) C hP hD hS mF_X11_322 (by omega) rfl (Or.inr (gF_up (V := mdV) (F := mdF) (gF_up (V := mdV) (F := mdF) (gF_up (V := mdV) (F := mdF) (gR_up (V := mdV) (F := mdF) (gR_up (V := mdV) (F := mdF) (gR_up (V := mdV) (F := mdF) ⟨hok.1, hok.2⟩ 0 (hP.2.1 0)) 1 (hP.2.1 1)) 26 (show 0 ≤ ((v 26) + 1) ∧ ((v 26) + 1) ≤ 40 from by omega)) 31 (hP.2.2 31)) 32 (hP.2.2 32)) 33 (hP.2.2 33))) dX11_appeal_147 (fun H locs hP hS => ?_)
                  refine lv_iconst (v := iI 1) hx hb dX11_appeal_150 rfl ?_
                  exact g_zret hQ C hr hlocks (by decide) hP hS dX11_appeal_151 ⟨1, 0, 0, ((v 26) + 1), (u1 (f 31) (v 26) a1), (u1 (f 32) (v 26) a2), (u1 (f 33) (v 26) a3), rfl, rfl, rfl, rfl, (by first | omega | (split <;> omega))⟩
                · refine lv_aload_n hx hb dX11_appeal_104 rfl (lv_at hl 0 rfl) ?_
                  refine lv_iconst (v := iI 3) hx hb dX11_appeal_105 rfl ?_
                  refine g_cv (As := [.int (iI 3)]) (rest := []) (n := 1) C hml (m_X11_no l D k A ad hD (va_up (va_up (va_up v 0 0) 1 0) 26 (v 26)) (va_up (va_up (va_up f 31 (f 31)) 32 (f 32)) 33 (f 33)) g 3 (by decide) (show 0 ≤ (3 : Int) ∧ (3 : Int) ≤ 10 from by omega)) mM_X11_332 mI_X11_no mE_X11_no mN_X11 mC_X11_no (by decide +kernel) 0 (ci := 11) rfl rfl hP hS (fun _ h => h) ⟨Nat.le_of_ble_eq_true rfl, Nat.le_of_ble_eq_true rfl⟩ ⟨Nat.zero_le _, Nat.zero_le _⟩ hl.1 rfl rfl (Nat.le_of_ble_eq_true rfl) dX11_appeal_106 (fun r_21 v_21 f_21 g_21 H locs hq_21 hP _ hS => ?_)
                  obtain ⟨rfl, rfl, rfl, rfl⟩ := hq_21
                  show W p l e (gRm 1 21) s m args below meth c _ _ 0 0 Q (F0 m 109 ls [.int (iI 0)])
                  have hP : gWd D (mdT k ad) (va_up (va_up (va_up v 0 (3 : Int)) 1 0) 26 (v 26)) (va_up (va_up (va_up f 31 (f 31)) 32 (f 32)) 33 (f 33)) g H := ⟨hP.1, (gF_up (V := mdV) (F := mdF) (gF_up (V := mdV) (F := mdF) (gF_up (V := mdV) (F := mdF) (gR_up (V := mdV) (F := mdF) (gR_up (V := mdV) (F := mdF) (gR_up (V := mdV) (F := mdF) ⟨hok.1, hok.2⟩ 0 (hP.2.1 0)) 1 (hP.2.1 1)) 26 (hP.2.1 26)) 31 (hP.2.2 31)) 32 (hP.2.2 32)) 33 (hP.2.2 33))⟩
                  exact g_zret hQ C hr hlocks (by decide) hP hS dX11_appeal_109 ⟨0, (3 : Int), 0, (v 26), (f 31), (f 32), (f 33), rfl, rfl, rfl, rfl, (by first | omega | (split <;> omega))⟩
              · refine lv_aload_n hx hb dX11_appeal_88 rfl (lv_at hl 0 rfl) ?_
                refine lv_bipush (v := iI 10) hx hb dX11_appeal_89 (by decide) ?_
                refine g_cv (As := [.int (iI 10)]) (rest := []) (n := 1) C hml (m_X11_no l D k A ad hD (va_up (va_up (va_up v 0 0) 1 0) 26 (v 26)) (va_up (va_up (va_up f 31 (f 31)) 32 (f 32)) 33 (f 33)) g 10 (by decide) (show 0 ≤ (10 : Int) ∧ (10 : Int) ≤ 10 from by omega)) mM_X11_332 mI_X11_no mE_X11_no mN_X11 mC_X11_no (by decide +kernel) 0 (ci := 11) rfl rfl hP hS (fun _ h => h) ⟨Nat.le_of_ble_eq_true rfl, Nat.le_of_ble_eq_true rfl⟩ ⟨Nat.zero_le _, Nat.zero_le _⟩ hl.1 rfl rfl (Nat.le_of_ble_eq_true rfl) dX11_appeal_91 (fun r_22 v_22 f_22 g_22 H locs hq_22 hP _ hS => ?_)
                obtain ⟨rfl, rfl, rfl, rfl⟩ := hq_22
                show W p l e (gRm 1 21) s m args below meth c _ _ 0 0 Q (F0 m 94 ls [.int (iI 0)])
                have hP : gWd D (mdT k ad) (va_up (va_up (va_up v 0 (10 : Int)) 1 0) 26 (v 26)) (va_up (va_up (va_up f 31 (f 31)) 32 (f 32)) 33 (f 33)) g H := ⟨hP.1, (gF_up (V := mdV) (F := mdF) (gF_up (V := mdV) (F := mdF) (gF_up (V := mdV) (F := mdF) (gR_up (V := mdV) (F := mdF) (gR_up (V := mdV) (F := mdF) (gR_up (V := mdV) (F := mdF) ⟨hok.1, hok.2⟩ 0 (hP.2.1 0)) 1 (hP.2.1 1)) 26 (hP.2.1 26)) 31 (hP.2.2 31)) 32 (hP.2.2 32)) 33 (hP.2.2 33))⟩
                exact g_zret hQ C hr hlocks (by decide) hP hS dX11_appeal_94 ⟨0, (10 : Int), 0, (v 26), (f 31), (f 32), (f 33), rfl, rfl, rfl, rfl, (by first | omega | (split <;> omega))⟩
          · refine lv_aload_n hx hb dX11_appeal_63 rfl (lv_at hl 0 rfl) ?_
            refine lv_iconst (v := iI 2) hx hb dX11_appeal_64 rfl ?_
            refine g_cv (As := [.int (iI 2)]) (rest := []) (n := 1) C hml (m_X11_no l D k A ad hD (va_up (va_up (va_up v 0 0) 1 0) 26 (v 26)) (va_up (va_up (va_up f 31 (f 31)) 32 (f 32)) 33 (f 33)) g 2 (by decide) (show 0 ≤ (2 : Int) ∧ (2 : Int) ≤ 10 from by omega)) mM_X11_332 mI_X11_no mE_X11_no mN_X11 mC_X11_no (by decide +kernel) 0 (ci := 11) rfl rfl hP hS (fun _ h => h) ⟨Nat.le_of_ble_eq_true rfl, Nat.le_of_ble_eq_true rfl⟩ ⟨Nat.zero_le _, Nat.zero_le _⟩ hl.1 rfl rfl (Nat.le_of_ble_eq_true rfl) dX11_appeal_65 (fun r_23 v_23 f_23 g_23 H locs hq_23 hP _ hS => ?_)
            obtain ⟨rfl, rfl, rfl, rfl⟩ := hq_23
            show W p l e (gRm 1 21) s m args below meth c _ _ 0 0 Q (F0 m 68 ls [.int (iI 0)])
            have hP : gWd D (mdT k ad) (va_up (va_up (va_up v 0 (2 : Int)) 1 0) 26 (v 26)) (va_up (va_up (va_up f 31 (f 31)) 32 (f 32)) 33 (f 33)) g H := ⟨hP.1, (gF_up (V := mdV) (F := mdF) (gF_up (V := mdV) (F := mdF) (gF_up (V := mdV) (F := mdF) (gR_up (V := mdV) (F := mdF) (gR_up (V := mdV) (F := mdF) (gR_up (V := mdV) (F := mdF) ⟨hok.1, hok.2⟩ 0 (hP.2.1 0)) 1 (hP.2.1 1)) 26 (hP.2.1 26)) 31 (hP.2.2 31)) 32 (hP.2.2 32)) 33 (hP.2.2 33))⟩
            exact g_zret hQ C hr hlocks (by decide) hP hS dX11_appeal_68 ⟨0, (2 : Int), 0, (v 26), (f 31), (f 32), (f 33), rfl, rfl, rfl, rfl, (by first | omega | (split <;> omega))⟩
    · refine lv_aload_n hx hb dX11_appeal_22 rfl (lv_at hl 0 rfl) ?_
      refine lv_iconst (v := iI 1) hx hb dX11_appeal_23 rfl ?_
      refine g_cv (As := [.int (iI 1)]) (rest := []) (n := 1) C hml (m_X11_no l D k A ad hD (va_up (va_up (va_up v 0 0) 1 0) 26 (v 26)) (va_up (va_up (va_up f 31 (f 31)) 32 (f 32)) 33 (f 33)) g 1 (by decide) (show 0 ≤ (1 : Int) ∧ (1 : Int) ≤ 10 from by omega)) mM_X11_332 mI_X11_no mE_X11_no mN_X11 mC_X11_no (by decide +kernel) 0 (ci := 11) rfl rfl hP hS (fun _ h => h) ⟨Nat.le_of_ble_eq_true rfl, Nat.le_of_ble_eq_true rfl⟩ ⟨Nat.zero_le _, Nat.zero_le _⟩ hl.1 rfl rfl (Nat.le_of_ble_eq_true rfl) dX11_appeal_24 (fun r_24 v_24 f_24 g_24 H locs hq_24 hP _ hS => ?_)
      obtain ⟨rfl, rfl, rfl, rfl⟩ := hq_24
      show W p l e (gRm 1 21) s m args below meth c _ _ 0 0 Q (F0 m 27 ls [.int (iI 0)])
      have hP : gWd D (mdT k ad) (va_up (va_up (va_up v 0 (1 : Int)) 1 0) 26 (v 26)) (va_up (va_up (va_up f 31 (f 31)) 32 (f 32)) 33 (f 33)) g H := ⟨hP.1, (gF_up (V := mdV) (F := mdF) (gF_up (V := mdV) (F := mdF) (gF_up (V := mdV) (F := mdF) (gR_up (V := mdV) (F := mdF) (gR_up (V := mdV) (F := mdF) (gR_up (V := mdV) (F := mdF) ⟨hok.1, hok.2⟩ 0 (hP.2.1 0)) 1 (hP.2.1 1)) 26 (hP.2.1 26)) 31 (hP.2.2 31)) 32 (hP.2.2 32)) 33 (hP.2.2 33))⟩
      exact g_zret hQ C hr hlocks (by decide) hP hS dX11_appeal_27 ⟨0, (1 : Int), 0, (v 26), (f 31), (f 32), (f 33), rfl, rfl, rfl, rfl, (by first | omega | (split <;> omega))⟩

set_option maxHeartbeats 4000000 in
set_option maxRecDepth 100000 in
theorem m_X11_holdOf (l : Launch) (D : va_G) (k : Nat → ClassId) (A : Nat → Prop) (ad : Nat → Nat) (hD : mdD A k ad) (v : gV) (f g : gF) (a1 : Int) (a2 : Int) (h_a1 : inR a1) (h_a2 : inR a2) (h1 : 0 ≤ a1 ∧ a1 ≤ 299) : GM l D k A (mdT k ad) yX11_holdOf cX11_holdOf 5 (some .int) 0 0 [.ref (ad 0), .int (iI a1), .int (iI a2)] v f g (fun r v1 f1 g1 => ∃ (z : Int), r = some (.int (iI z)) ∧ v = v1 ∧ f = f1 ∧ g = g1 ∧ (0 ≤ z ∧ z ≤ 60)) := by
  refine GM.of (by decide) (Nat.le_of_ble_eq_true rfl) ?_
  intro p e s m args below meth c Q ls hQ C hml hr hlocks hP hl
  have hx := C.1
  have hb := C.2.1
  have hok := hP.2
  have hS : va_S A s.heap s.heap [] := va_S.rf
  have hl : lv_has ls 5 [(0, .ref (ad 0)), (1, .int (iI a1)), (2, .int (iI a2))] := hl
  have r_1 : 0 ≤ (v 26) ∧ (v 26) ≤ 40 := hok.1 26
  refine lv_iconst (v := iI (-1)) hx hb dX11_holdOf_0 rfl ?_
  refine lv_istore_n (lv' := [(3, .int (iI (-1))), (0, .ref (ad 0)), (1, .int (iI a1)), (2, .int (iI a2))]) hx hb dX11_holdOf_1 rfl hl (by decide) rfl (fun ls hl => ?_)
  refine lv_iconst (v := iI 0) hx hb dX11_holdOf_2 rfl ?_
  refine lv_istore (lv' := [(4, .int (iI 0)), (3, .int (iI (-1))), (0, .ref (ad 0)), (1, .int (iI a1)), (2, .int (iI a2))]) hx hb dX11_holdOf_3 hl (by decide) rfl (fun ls hl => ?_)
  have L_2 : ∀ (n : Nat) (x3 : Int) (x4 : Int) (H : Heap) (locs : List Loc) (ls : Array Slot), 40 - x4 < (n : Int) → (0 ≤ x4 ∧ x4 ≤ (v 26)) → ((-1) ≤ x3 ∧ x3 < x4) → gWd D (mdT k ad) v f g H → va_S A s.heap H locs → lv_has ls 5 [(0, .ref (ad 0)), (1, .int (iI a1)), (2, .int (iI a2)), (3, .int (iI x3)), (4, .int (iI x4))] → W p l e (gRm 0 0) s m args below meth c H locs 0 0 Q (F0 m 5 ls []) := by
    intro n
    induction n with
    | zero =>
      intro x3 x4 H locs ls hn_2 i2_0 i2_1 hP hS hl
      exfalso; omega
    | succ n ih_5 =>
      intro x3 x4 H locs ls hn_2 i2_0 i2_1 hP hS hl
      refine lv_iload hx hb dX11_holdOf_5 (lv_at hl 4 rfl) ?_
      refine lv_aload_n hx hb dX11_holdOf_7 rfl (lv_at hl 0 rfl) ?_
      refine mdG_appeals C hP mF_X11_322 dX11_holdOf_8 ?_
      refine gi_cge (tgt := 65) hx hb dX11_holdOf_11 (by decide) (by omega) (by omega) (fun c_3 => ?_) (fun c_3 => ?_)
      · refine lv_iload_n hx hb dX11_holdOf_65 rfl (lv_at hl 3 rfl) ?_
        refine gi_zge (tgt := 78) hx hb dX11_holdOf_66 (by decide) (by omega) (fun c_4 => ?_) (fun c_4 => ?_)
        · refine lv_aload_n hx hb dX11_holdOf_78 rfl (lv_at hl 0 rfl) ?_
          refine mdG_appealHold C hP mF_X11_118 dX11_holdOf_79 ?_
          refine lv_iload_n hx hb dX11_holdOf_82 rfl (lv_at hl 3 rfl) ?_
          refine mdL_appealHold C hP (by omega) (by omega) dX11_holdOf_83 ?_
          have r_5 : 0 ≤ (f 32 x3) ∧ (f 32 x3) ≤ 60 := hP.2.2 32 x3
          exact g_iret hQ C hr hlocks hP hS dX11_holdOf_84 ⟨(f 32 x3), rfl, rfl, rfl, rfl, (by first | omega | (split <;> omega))⟩
        · refine lv_aload_n hx hb dX11_holdOf_69 rfl (lv_at hl 0 rfl) ?_
          refine mdG_hold C hP mF_X11_109 dX11_holdOf_70 ?_
          refine lv_iload_n hx hb dX11_holdOf_73 rfl (lv_at hl 1 rfl) ?_
          refine mdL_hold C hP (by omega) (by omega) dX11_holdOf_74 ?_
          have r_6 : 0 ≤ (f 29 a1) ∧ (f 29 a1) ≤ 60 := hP.2.2 29 a1
          refine lv_goto (tgt := 84) hx hb dX11_holdOf_75 (by decide) ?_
          exact g_iret hQ C hr hlocks hP hS dX11_holdOf_84 ⟨(f 29 a1), rfl, rfl, rfl, rfl, (by first | omega | (split <;> omega))⟩
      · refine lv_aload_n hx hb dX11_holdOf_14 rfl (lv_at hl 0 rfl) ?_
        refine mdG_appealTry C hP mF_X11_115 dX11_holdOf_15 ?_
        refine lv_iload hx hb dX11_holdOf_18 (lv_at hl 4 rfl) ?_
        refine mdL_appealTry C hP (by omega) (by omega) dX11_holdOf_20 ?_
        have r_7 : 0 ≤ (f 31 x4) ∧ (f 31 x4) ≤ 299 := hP.2.2 31 x4
        refine lv_iload_n hx hb dX11_holdOf_21 rfl (lv_at hl 1 rfl) ?_
        refine gi_cne (tgt := 59) hx hb dX11_holdOf_22 (by decide) (by omega) (by omega) (fun c_8 => ?_) (fun c_8 => ?_)
        · refine lv_iinc (v := iI (x4 + 1)) (lv' := [(4, .int (iI (x4 + 1))), (0, .ref (ad 0)), (1, .int (iI a1)), (2, .int (iI a2)), (3, .int (iI x3))]) hx hb dX11_holdOf_59 hl (k := 4) rfl (by show iI _ + iI 1 = _; rw [iI_add]) (by decide) rfl (fun ls hl => ?_)
          refine lv_goto (tgt := 5) hx hb dX11_holdOf_62 (by decide) ?_
          exact ih_5 x3 (x4 + 1) _ _ _ (by omega) (by omega) (by omega) hP hS (lv_sub hl [1, 2, 3, 4, 0] rfl)
        · refine lv_aload_n hx hb dX11_holdOf_25 rfl (lv_at hl 0 rfl) ?_
          refine mdG_appealDay C hP mF_X11_121 dX11_holdOf_26 ?_
          refine lv_iload hx hb dX11_holdOf_29 (lv_at hl 4 rfl) ?_
          refine mdL_appealDay C hP (by omega) (by omega) dX11_holdOf_31 ?_
          have r_9 : 0 ≤ (f 33 x4) ∧ (f 33 x4) ≤ 999 := hP.2.2 33 x4
          refine lv_iload_n hx hb dX11_holdOf_32 rfl (lv_at hl 2 rfl) ?_
          refine gi_cgt (tgt := 59) hx hb dX11_holdOf_33 (by decide) (by omega) (by omega) (fun c_10 => ?_) (fun c_10 => ?_)
          · refine lv_iinc (v := iI (x4 + 1)) (lv' := [(4, .int (iI (x4 + 1))), (0, .ref (ad 0)), (1, .int (iI a1)), (2, .int (iI a2)), (3, .int (iI x3))]) hx hb dX11_holdOf_59 hl (k := 4) rfl (by show iI _ + iI 1 = _; rw [iI_add]) (by decide) rfl (fun ls hl => ?_)
            refine lv_goto (tgt := 5) hx hb dX11_holdOf_62 (by decide) ?_
            exact ih_5 x3 (x4 + 1) _ _ _ (by omega) (by omega) (by omega) hP hS (lv_sub hl [1, 2, 3, 4, 0] rfl)
          · refine lv_iload_n hx hb dX11_holdOf_36 rfl (lv_at hl 3 rfl) ?_
            refine gi_zlt (tgt := 56) hx hb dX11_holdOf_37 (by decide) (by omega) (fun c_11 => ?_) (fun c_11 => ?_)
            · refine lv_iload hx hb dX11_holdOf_56 (lv_at hl 4 rfl) ?_
              refine lv_istore_n (lv' := [(3, .int (iI x4)), (0, .ref (ad 0)), (1, .int (iI a1)), (2, .int (iI a2)), (4, .int (iI x4))]) hx hb dX11_holdOf_58 rfl hl (by decide) rfl (fun ls hl => ?_)
              refine lv_iinc (v := iI (x4 + 1)) (lv' := [(4, .int (iI (x4 + 1))), (3, .int (iI x4)), (0, .ref (ad 0)), (1, .int (iI a1)), (2, .int (iI a2))]) hx hb dX11_holdOf_59 hl (k := 4) rfl (by show iI _ + iI 1 = _; rw [iI_add]) (by decide) rfl (fun ls hl => ?_)
              refine lv_goto (tgt := 5) hx hb dX11_holdOf_62 (by decide) ?_
              exact ih_5 x4 (x4 + 1) _ _ _ (by omega) (by omega) (by omega) hP hS (lv_sub hl [2, 3, 4, 1, 0] rfl)
            · refine lv_aload_n hx hb dX11_holdOf_40 rfl (lv_at hl 0 rfl) ?_
              refine mdG_appealDay C hP mF_X11_121 dX11_holdOf_41 ?_
              refine lv_iload hx hb dX11_holdOf_44 (lv_at hl 4 rfl) ?_
              refine mdL_appealDay C hP (by omega) (by omega) dX11_holdOf_46 ?_
              refine lv_aload_n hx hb dX11_holdOf_47 rfl (lv_at hl 0 rfl) ?_
              refine mdG_appealDay C hP mF_X11_121 dX11_holdOf_48 ?_
              refine lv_iload_n hx hb dX11_holdOf_51 rfl (lv_at hl 3 rfl) ?_
              refine mdL_appealDay C hP (by omega) (by omega) dX11_holdOf_52 ?_
              have r_12 : 0 ≤ (f 33 x3) ∧ (f 33 x3) ≤ 999 := hP.2.2 33 x3
              refine gi_clt (tgt := 59) hx hb dX11_holdOf_53 (by decide) (by omega) (by omega) (fun c_13 => ?_) (fun c_13 => ?_)
              · refine lv_iinc (v := iI (x4 + 1)) (lv' := [(4, .int (iI (x4 + 1))), (0, .ref (ad 0)), (1, .int (iI a1)), (2, .int (iI a2)), (3, .int (iI x3))]) hx hb dX11_holdOf_59 hl (k := 4) rfl (by show iI _ + iI 1 = _; rw [iI_add]) (by decide) rfl (fun ls hl => ?_)
                refine lv_goto (tgt := 5) hx hb dX11_holdOf_62 (by decide) ?_
                exact ih_5 x3 (x4 + 1) _ _ _ (by omega) (by omega) (by omega) hP hS (lv_sub hl [1, 2, 3, 4, 0] rfl)
              · refine lv_iload hx hb dX11_holdOf_56 (lv_at hl 4 rfl) ?_
                refine lv_istore_n (lv' := [(3, .int (iI x4)), (0, .ref (ad 0)), (1, .int (iI a1)), (2, .int (iI a2)), (4, .int (iI x4))]) hx hb dX11_holdOf_58 rfl hl (by decide) rfl (fun ls hl => ?_)
                refine lv_iinc (v := iI (x4 + 1)) (lv' := [(4, .int (iI (x4 + 1))), (3, .int (iI x4)), (0, .ref (ad 0)), (1, .int (iI a1)), (2, .int (iI a2))]) hx hb dX11_holdOf_59 hl (k := 4) rfl (by show iI _ + iI 1 = _; rw [iI_add]) (by decide) rfl (fun ls hl => ?_)
                refine lv_goto (tgt := 5) hx hb dX11_holdOf_62 (by decide) ?_
                exact ih_5 x4 (x4 + 1) _ _ _ (by omega) (by omega) (by omega) hP hS (lv_sub hl [2, 3, 4, 1, 0] rfl)
  exact L_2 41 (-1) 0 _ _ _ (by omega) (by omega) (by omega) hP hS (lv_sub hl [2, 3, 4, 1, 0] rfl)
