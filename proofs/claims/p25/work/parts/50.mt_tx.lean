section
/-! facts put aside -/
def Bx (P : Prop) : Prop := P
theorem Bx.mk {P : Prop} (h : P) : Bx P := h
theorem Bx.get {P : Prop} (h : Bx P) : P := h
end

section
set_option maxHeartbeats 4000000 in
set_option maxRecDepth 100000 in
theorem n_isS (l : Launch) (D : va_G) (k : Nat → ClassId) (A : Nat → Prop) (ad : Nat → Nat) (hD : mdD A k ad) (v : gV) (f g : gF) (a1 : Int) (B : Int → Int) (pp : Int) (h_a1 : inR a1) (hc : mAt B (v 3) (v 9) (v 10) (v 8) (v 11) ((g 0) 0) pp) (ha : 40 ≤ a1 ∧ a1 < 256) : GM l D k A (mdT k ad) yX11_isSign cX11_isSign 2 (some .boolean) 0 0 [.ref (ad 0), .int (iI a1)] v f g (fun r v1 f1 g1 => ∃ (z : Int), r = some (.int (iI z)) ∧ v = v1 ∧ f = f1 ∧ g = g1 ∧ (0 ≤ z ∧ z ≤ 1) ∧ (z = 1 ↔ (tK B (v 3) pp) = a1)) := by
  refine GM.of (by decide) (Nat.le_of_ble_eq_true rfl) ?_
  intro p e s m args below meth c Q ls hQ C hml hr hlocks hP hl
  have hx := C.1
  have hb := C.2.1
  have hok := hP.2
  have hS : va_S A s.heap s.heap [] := va_S.rf
  have hl : lv_has ls 2 [(0, .ref (ad 0)), (1, .int (iI a1))] := hl
  have hq := hc.of
  refine lv_aload_n hx hb dX11_isSign_0 rfl (lv_at hl 0 rfl) ?_
  refine mdG_sort C hP mF_X11_165 dX11_isSign_1 ?_
  have r_1 : 0 ≤ (v 8) ∧ (v 8) ≤ 4 := hok.1 8
  refine lv_iconst (v := iI 3) hx hb dX11_isSign_4 rfl ?_
  refine gi_cne (tgt := 20) hx hb dX11_isSign_5 (by decide) (by omega) (by decide) (fun c_2 => ?_) (fun c_2 => ?_)
  · refine lv_iconst (v := iI 0) hx hb dX11_isSign_20 rfl ?_
    exact g_zret hQ C hr hlocks (by decide) hP hS dX11_isSign_21 ⟨0, rfl, rfl, rfl, rfl, (by first | omega | (split <;> omega)), (by first | omega | (split <;> omega))⟩
  · refine lv_aload_n hx hb dX11_isSign_8 rfl (lv_at hl 0 rfl) ?_
    refine mdG_number C hP mF_X11_185 dX11_isSign_9 ?_
    have r_3 : 0 ≤ (v 11) ∧ (v 11) ≤ 999999 := hok.1 11
    refine lv_iload_n hx hb dX11_isSign_12 rfl (lv_at hl 1 rfl) ?_
    refine gi_cne (tgt := 20) hx hb dX11_isSign_13 (by decide) (by omega) (by omega) (fun c_4 => ?_) (fun c_4 => ?_)
    · refine lv_iconst (v := iI 0) hx hb dX11_isSign_20 rfl ?_
      exact g_zret hQ C hr hlocks (by decide) hP hS dX11_isSign_21 ⟨0, rfl, rfl, rfl, rfl, (by first | omega | (split <;> omega)), (by first | omega | (split <;> omega))⟩
    · refine lv_iconst (v := iI 1) hx hb dX11_isSign_16 rfl ?_
      refine lv_goto (tgt := 21) hx hb dX11_isSign_17 (by decide) ?_
      exact g_zret hQ C hr hlocks (by decide) hP hS dX11_isSign_21 ⟨1, rfl, rfl, rfl, rfl, (by first | omega | (split <;> omega)), (by first | omega | (split <;> omega))⟩

set_option maxHeartbeats 4000000 in
set_option maxRecDepth 100000 in
theorem n_wrC (l : Launch) (D : va_G) (k : Nat → ClassId) (A : Nat → Prop) (ad : Nat → Nat) (hD : mdD A k ad) (v : gV) (f g : gF) (B : Int → Int) (pp : Int) (hc : mAt B (v 3) (v 9) (v 10) (v 8) (v 11) ((g 0) 0) pp) : GM l D k A (mdT k ad) yX11_wrong cX11_wrong 1 none 1 22 [.ref (ad 0)] v f g (fun r v1 f1 g1 => ∃ (w6 : Int) (w7 : Int), r = none ∧ (va_up (va_up v 6 w6) 7 w7) = v1 ∧ f = f1 ∧ g = g1 ∧ ((v 6) = 0 → w6 = (fk B (v 3) pp) ∧ w7 = pp) ∧ (0 < (v 6) → w6 = (v 6) ∧ w7 = (v 7))) := by
  refine GM.of (by decide) (Nat.le_of_ble_eq_true rfl) ?_
  intro p e s m args below meth c Q ls hQ C hml hr hlocks hP hl
  have hx := C.1
  have hb := C.2.1
  have hok := hP.2
  have hS : va_S A s.heap s.heap [] := va_S.rf
  have hl : lv_has ls 1 [(0, .ref (ad 0))] := hl
  have hP : gWd D (mdT k ad) (va_up (va_up v 6 (v 6)) 7 (v 7)) f g s.heap := by rw [va_id, va_id]; exact hP
  have hq := hc.of
  have r_1 : 0 ≤ (v 6) ∧ (v 6) ≤ 5 := hok.1 6
  have r_2 : 0 ≤ (v 9) ∧ (v 9) ≤ 700 := hok.1 9
  have r_3 : 0 ≤ (v 8) ∧ (v 8) ≤ 4 := hok.1 8
  refine lv_aload_n hx hb dX11_wrong_0 rfl (lv_at hl 0 rfl) ?_
  refine lv_aload_n hx hb dX11_wrong_1 rfl (lv_at hl 0 rfl) ?_
  refine mdG_sort C hP mF_X11_165 dX11_wrong_2 ?_
  show W p l e (gRm 1 22) s m args below meth c _ _ 0 0 Q (F0 m 5 ls [.int (iI (v 8)), .ref (ad 0)])
  refine lv_iconst (v := iI 4) hx hb dX11_wrong_5 rfl ?_
  refine gi_cne (tgt := 13) hx hb dX11_wrong_6 (by decide) (by omega) (by decide) (fun c_4 => ?_) (fun c_4 => ?_)
  · refine lv_iconst (v := iI 2) hx hb dX11_wrong_13 rfl ?_
    refine lv_aload_n hx hb dX11_wrong_14 rfl (lv_at hl 0 rfl) ?_
    refine mdG_at C hP mF_X11_158 dX11_wrong_15 ?_
    show W p l e (gRm 1 22) s m args below meth c _ _ 0 0 Q (F0 m 18 ls [.int (iI (v 9)), .int (iI 2), .ref (ad 0)])
    refine g_cv (As := [.int (iI 2), .int (iI (v 9))]) (rest := []) (n := 2) C hml (n_fail l D k A ad hD (va_up (va_up v 6 (v 6)) 7 (v 7)) f g 2 (v 9) (by decide) (by omega) (show 1 ≤ (2 : Int) ∧ (2 : Int) ≤ 5 from by omega) (show 0 ≤ (v 9) ∧ (v 9) ≤ 700 from by omega)) mM_X11_194 mI_X11_fail mE_X11_fail mN_X11 mC_X11_fail (by decide +kernel) 0 (ci := 11) rfl rfl hP hS (fun _ h => h) ⟨Nat.le_of_ble_eq_true rfl, Nat.le_of_ble_eq_true rfl⟩ ⟨Nat.zero_le _, Nat.zero_le _⟩ hl.1 rfl rfl (Nat.le_of_ble_eq_true rfl) dX11_wrong_18 (fun r_5 v_5 f_5 g_5 H locs hq_5 hP _ hS => ?_)
    obtain ⟨w6_5, w7_5, rfl, rfl, rfl, rfl, p0_5, p1_5⟩ := hq_5
    show W p l e (gRm 1 22) s m args below meth c _ _ 0 0 Q (F0 m 21 ls [])
    have hP : gWd D (mdT k ad) (va_up (va_up v 6 w6_5) 7 w7_5) f g H := ⟨hP.1, (gR_up (V := mdV) (F := mdF) (gR_up (V := mdV) (F := mdF) ⟨hok.1, hok.2⟩ 6 (hP.2.1 6)) 7 (hP.2.1 7))⟩
    replace p0_5 : (v 6) = 0 → w6_5 = (2 : Int) ∧ w7_5 = (v 9) := p0_5
    replace p1_5 : 0 < (v 6) → w6_5 = (v 6) ∧ w7_5 = (v 7) := p1_5
    have rw6_5 : 0 ≤ w6_5 ∧ w6_5 ≤ 5 := hP.2.1 6
    have rw7_5 : 0 ≤ w7_5 ∧ w7_5 ≤ 700 := hP.2.1 7
    exact g_vret hQ C hr hlocks hP hS dX11_wrong_21 ⟨w6_5, w7_5, rfl, rfl, rfl, rfl, (by first | (intro h; exfalso; omega) | (intro h; rw [fk_p (by omega)]; omega) | (intro h; rw [fk_n (by omega)]; omega)), (by first | omega | (split <;> omega))⟩
  · refine lv_iconst (v := iI 1) hx hb dX11_wrong_9 rfl ?_
    refine lv_goto (tgt := 14) hx hb dX11_wrong_10 (by decide) ?_
    refine lv_aload_n hx hb dX11_wrong_14 rfl (lv_at hl 0 rfl) ?_
    refine mdG_at C hP mF_X11_158 dX11_wrong_15 ?_
    show W p l e (gRm 1 22) s m args below meth c _ _ 0 0 Q (F0 m 18 ls [.int (iI (v 9)), .int (iI 1), .ref (ad 0)])
    refine g_cv (As := [.int (iI 1), .int (iI (v 9))]) (rest := []) (n := 2) C hml (n_fail l D k A ad hD (va_up (va_up v 6 (v 6)) 7 (v 7)) f g 1 (v 9) (by decide) (by omega) (show 1 ≤ (1 : Int) ∧ (1 : Int) ≤ 5 from by omega) (show 0 ≤ (v 9) ∧ (v 9) ≤ 700 from by omega)) mM_X11_194 mI_X11_fail mE_X11_fail mN_X11 mC_X11_fail (by decide +kernel) 0 (ci := 11) rfl rfl hP hS (fun _ h => h) ⟨Nat.le_of_ble_eq_true rfl, Nat.le_of_ble_eq_true rfl⟩ ⟨Nat.zero_le _, Nat.zero_le _⟩ hl.1 rfl rfl (Nat.le_of_ble_eq_true rfl) dX11_wrong_18 (fun r_6 v_6 f_6 g_6 H locs hq_6 hP _ hS => ?_)
    obtain ⟨w6_6, w7_6, rfl, rfl, rfl, rfl, p0_6, p1_6⟩ := hq_6
    show W p l e (gRm 1 22) s m args below meth c _ _ 0 0 Q (F0 m 21 ls [])
    have hP : gWd D (mdT k ad) (va_up (va_up v 6 w6_6) 7 w7_6) f g H := ⟨hP.1, (gR_up (V := mdV) (F := mdF) (gR_up (V := mdV) (F := mdF) ⟨hok.1, hok.2⟩ 6 (hP.2.1 6)) 7 (hP.2.1 7))⟩
    replace p0_6 : (v 6) = 0 → w6_6 = (1 : Int) ∧ w7_6 = (v 9) := p0_6
    replace p1_6 : 0 < (v 6) → w6_6 = (v 6) ∧ w7_6 = (v 7) := p1_6
    have rw6_6 : 0 ≤ w6_6 ∧ w6_6 ≤ 5 := hP.2.1 6
    have rw7_6 : 0 ≤ w7_6 ∧ w7_6 ≤ 700 := hP.2.1 7
    exact g_vret hQ C hr hlocks hP hS dX11_wrong_21 ⟨w6_6, w7_6, rfl, rfl, rfl, rfl, (by first | (intro h; exfalso; omega) | (intro h; rw [fk_p (by omega)]; omega) | (intro h; rw [fk_n (by omega)]; omega)), (by first | omega | (split <;> omega))⟩

set_option maxHeartbeats 4000000 in
set_option maxRecDepth 100000 in
theorem n_ctC (l : Launch) (D : va_G) (k : Nat → ClassId) (A : Nat → Prop) (ad : Nat → Nat) (hD : mdD A k ad) (v : gV) (f g : gF) (B : Int → Int) (pp : Int) (hc : mAt B (v 3) (v 9) (v 10) (v 8) (v 11) ((g 0) 0) pp) (h1 : (v 27) ≤ 40) (hb0 : (v 6) = 0) : GM l D k A (mdT k ad) yX11_counts cX11_counts 1 none 1 22 [.ref (ad 0)] v f g (fun r v1 f1 g1 => ∃ (w6 : Int) (w7 : Int), r = none ∧ (va_up (va_up (va_up v 6 w6) 7 w7) 27 ((v 27) + 1)) = v1 ∧ f = f1 ∧ g = g1 ∧ ((v 27) = 40 → w6 = 3 ∧ w7 = pp) ∧ ((v 27) < 40 → w6 = 0)) := by
  refine GM.of (by decide) (Nat.le_of_ble_eq_true rfl) ?_
  intro p e s m args below meth c Q ls hQ C hml hr hlocks hP hl
  have hx := C.1
  have hb := C.2.1
  have hok := hP.2
  have hS : va_S A s.heap s.heap [] := va_S.rf
  have hl : lv_has ls 1 [(0, .ref (ad 0))] := hl
  have hP : gWd D (mdT k ad) (va_up (va_up (va_up v 6 (v 6)) 7 (v 7)) 27 (v 27)) f g s.heap := by rw [va_id, va_id, va_id]; exact hP
  have hq := hc.of
  have r_1 : 0 ≤ (v 9) ∧ (v 9) ≤ 700 := hok.1 9
  have r_2 : 0 ≤ (v 6) ∧ (v 6) ≤ 5 := hok.1 6
  refine lv_aload_n hx hb dX11_counts_0 rfl (lv_at hl 0 rfl) ?_
  refine mdG_counted C hP mF_X11_249 dX11_counts_1 ?_
  show W p l e (gRm 1 22) s m args below meth c _ _ 0 0 Q (F0 m 4 ls [.int (iI (v 27))])
  have r_3 : 0 ≤ (v 27) ∧ (v 27) ≤ 41 := hok.1 27
  refine lv_bipush (v := iI 40) hx hb dX11_counts_4 (by decide) ?_
  refine gi_cne (tgt := 18) hx hb dX11_counts_6 (by decide) (by omega) (by decide) (fun c_4 => ?_) (fun c_4 => ?_)
  · refine lv_aload_n hx hb dX11_counts_18 rfl (lv_at hl 0 rfl) ?_
    refine lv_dup hx hb dX11_counts_19 rfl ?_
    refine mdG_counted C hP mF_X11_249 dX11_counts_20 ?_
    show W p l e (gRm 1 22) s m args below meth c _ _ 0 0 Q (F0 m 23 ls [.int (iI (v 27)), .ref (ad 0)])
    refine lv_iconst (v := iI 1) hx hb dX11_counts_23 rfl ?_
    refine gi_add (z := ((v 27) + 1)) hx hb dX11_counts_24 rfl ?_
    refine mdP_counted (v1 := (va_up (va_up (va_up v 6 (v 6)) 7 (v 7)) 27 ((v 27) + 1))) C hP hD hS mF_X11_249 (by omega) rfl (Or.inr (gR_up (V := mdV) (F := mdF) (gR_up (V := mdV) (F := mdF) (gR_up (V := mdV) (F := mdF) ⟨hok.1, hok.2⟩ 6 (hP.2.1 6)) 7 (hP.2.1 7)) 27 (show 0 ≤ ((v 27) + 1) ∧ ((v 27) + 1) ≤ 41 from by omega))) dX11_counts_25 (fun H locs hP hS => ?_)
    exact g_vret hQ C hr hlocks hP hS dX11_counts_28 ⟨(v 6), (v 7), rfl, rfl, rfl, rfl, (by first | omega | (split <;> omega)), (by first | omega | (split <;> omega))⟩
  · refine lv_aload_n hx hb dX11_counts_9 rfl (lv_at hl 0 rfl) ?_
    refine lv_iconst (v := iI 3) hx hb dX11_counts_10 rfl ?_
    refine lv_aload_n hx hb dX11_counts_11 rfl (lv_at hl 0 rfl) ?_
    refine mdG_at C hP mF_X11_158 dX11_counts_12 ?_
    show W p l e (gRm 1 22) s m args below meth c _ _ 0 0 Q (F0 m 15 ls [.int (iI (v 9)), .int (iI 3), .ref (ad 0)])
    refine g_cv (As := [.int (iI 3), .int (iI (v 9))]) (rest := []) (n := 2) C hml (n_fail l D k A ad hD (va_up (va_up (va_up v 6 (v 6)) 7 (v 7)) 27 (v 27)) f g 3 (v 9) (by decide) (by omega) (show 1 ≤ (3 : Int) ∧ (3 : Int) ≤ 5 from by omega) (show 0 ≤ (v 9) ∧ (v 9) ≤ 700 from by omega)) mM_X11_194 mI_X11_fail mE_X11_fail mN_X11 mC_X11_fail (by decide +kernel) 0 (ci := 11) rfl rfl hP hS (fun _ h => h) ⟨Nat.le_of_ble_eq_true rfl, Nat.le_of_ble_eq_true rfl⟩ ⟨Nat.zero_le _, Nat.zero_le _⟩ hl.1 rfl rfl (Nat.le_of_ble_eq_true rfl) dX11_counts_15 (fun r_5 v_5 f_5 g_5 H locs hq_5 hP _ hS => ?_)
    obtain ⟨w6_5, w7_5, rfl, rfl, rfl, rfl, p0_5, p1_5⟩ := hq_5
    show W p l e (gRm 1 22) s m args below meth c _ _ 0 0 Q (F0 m 18 ls [])
    have hP : gWd D (mdT k ad) (va_up (va_up (va_up v 6 w6_5) 7 w7_5) 27 (v 27)) f g H := ⟨hP.1, (gR_up (V := mdV) (F := mdF) (gR_up (V := mdV) (F := mdF) (gR_up (V := mdV) (F := mdF) ⟨hok.1, hok.2⟩ 6 (hP.2.1 6)) 7 (hP.2.1 7)) 27 (hP.2.1 27))⟩
    replace p0_5 : (v 6) = 0 → w6_5 = (3 : Int) ∧ w7_5 = (v 9) := p0_5
    replace p1_5 : 0 < (v 6) → w6_5 = (v 6) ∧ w7_5 = (v 7) := p1_5
    have rw6_5 : 0 ≤ w6_5 ∧ w6_5 ≤ 5 := hP.2.1 6
    have rw7_5 : 0 ≤ w7_5 ∧ w7_5 ≤ 700 := hP.2.1 7
    refine lv_aload_n hx hb dX11_counts_18 rfl (lv_at hl 0 rfl) ?_
    refine lv_dup hx hb dX11_counts_19 rfl ?_
    refine mdG_counted C hP mF_X11_249 dX11_counts_20 ?_
    show W p l e (gRm 1 22) s m args below meth c _ _ 0 0 Q (F0 m 23 ls [.int (iI (v 27)), .ref (ad 0)])
    refine lv_iconst (v := iI 1) hx hb dX11_counts_23 rfl ?_
    refine gi_add (z := ((v 27) + 1)) hx hb dX11_counts_24 rfl ?_
    refine mdP_counted (v1 := (va_up (va_up (va_up v 6 w6_5) 7 w7_5) 27 ((v 27) + 1))) C hP hD hS mF_X11_249 (by omega) rfl (Or.inr (gR_up (V := mdV) (F := mdF) (gR_up (V := mdV) (F := mdF) (gR_up (V := mdV) (F := mdF) ⟨hok.1, hok.2⟩ 6 (hP.2.1 6)) 7 (hP.2.1 7)) 27 (show 0 ≤ ((v 27) + 1) ∧ ((v 27) + 1) ≤ 41 from by omega))) dX11_counts_25 (fun H locs hP hS => ?_)
    exact g_vret hQ C hr hlocks hP hS dX11_counts_28 ⟨w6_5, w7_5, rfl, rfl, rfl, rfl, (by first | omega | (split <;> omega)), (by first | omega | (split <;> omega))⟩
end
