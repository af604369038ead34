set_option maxHeartbeats 4000000 in
set_option maxRecDepth 100000 in
theorem m_X11_look (l : Launch) (D : va_G) (k : Nat → ClassId) (A : Nat → Prop) (ad : Nat → Nat) (hD : mdD A k ad) (v : gV) (f g : gF) (a1 : Int) (h_a1 : inR a1) (h1 : 0 ≤ a1) : GM l D k A (mdT k ad) yX11_look cX11_look 2 (some .int) 0 0 [.ref (ad 0), .int (iI a1)] v f g (fun r v1 f1 g1 => ∃ (z : Int), r = some (.int (iI z)) ∧ v = v1 ∧ f = f1 ∧ g = g1 ∧ (z = (if a1 < (v 3) then (f 0) a1 % 256 else 0)) ∧ (0 ≤ z ∧ z ≤ 255) ∧ (0 < z → a1 < (v 3))) := by
  refine GM.of (by decide) (Nat.le_of_ble_eq_true rfl) ?_
  intro p e s m args below meth c Q ls hQ C hml hr hlocks hP hl
  have hx := C.1
  have hb := C.2.1
  have hok := hP.2
  have hS : va_S A s.heap s.heap [] := va_S.rf
  have hl : lv_has ls 2 [(0, .ref (ad 0)), (1, .int (iI a1))] := hl
  have r_1 : 0 ≤ (v 3) ∧ (v 3) ≤ 700 := hok.1 3
  refine lv_iload_n hx hb dX11_look_0 rfl (lv_at hl 1 rfl) ?_
  refine lv_aload_n hx hb dX11_look_1 rfl (lv_at hl 0 rfl) ?_
  refine mdG_end C hP mF_X11_152 dX11_look_2 ?_
  refine gi_cge (tgt := 21) hx hb dX11_look_5 (by decide) (by omega) (by omega) (fun c_2 => ?_) (fun c_2 => ?_)
  · refine lv_iconst (v := iI 0) hx hb dX11_look_21 rfl ?_
    exact g_iret hQ C hr hlocks hP hS dX11_look_22 ⟨0, rfl, rfl, rfl, rfl, (by first | omega | (split <;> omega)), (by first | omega | (split <;> omega)), (by first | omega | (split <;> omega))⟩
  · refine lv_aload_n hx hb dX11_look_8 rfl (lv_at hl 0 rfl) ?_
    refine mdG_tape C hP mF_X11_7 dX11_look_9 ?_
    refine lv_iload_n hx hb dX11_look_12 rfl (lv_at hl 1 rfl) ?_
    refine mdL_tape C hP (by omega) (by omega) dX11_look_13 ?_
    have r_3 : (-128) ≤ (f 0 a1) ∧ (f 0 a1) ≤ 127 := hP.2.2 0 a1
    refine lv_sipush (v := iI 255) hx hb dX11_look_14 (by decide) ?_
    refine gi_and (z := ((f 0 a1) % 256)) hx hb dX11_look_17 (gAnd255 (by omega)) ?_
    refine lv_goto (tgt := 22) hx hb dX11_look_18 (by decide) ?_
    exact g_iret hQ C hr hlocks hP hS dX11_look_22 ⟨((f 0 a1) % 256), rfl, rfl, rfl, rfl, (by first | omega | (split <;> omega)), (by first | omega | (split <;> omega)), (by first | omega | (split <;> omega))⟩

set_option maxHeartbeats 4000000 in
set_option maxRecDepth 100000 in
theorem m_X11_next (l : Launch) (D : va_G) (k : Nat → ClassId) (A : Nat → Prop) (ad : Nat → Nat) (hD : mdD A k ad) (v : gV) (f g : gF) (hj : (v 10) ≤ (v 3)) : GM l D k A (mdT k ad) yX11_next cX11_next 2 none 1 21 [.ref (ad 0)] v f g (fun r v1 f1 g1 => ∃ (w8 : Int) (w9 : Int) (w10 : Int) (w11 : Int) (b0_ : Int → Int), r = none ∧ (va_up (va_up (va_up (va_up v 8 w8) 9 w9) 10 w10) 11 w11) = v1 ∧ f = f1 ∧ (va_up g 0 b0_) = g1 ∧ ((v 10) ≤ w9 ∧ w9 ≤ w10 ∧ w10 ≤ (v 3)) ∧ (w8 ≠ 0 → w9 < w10)) := by
  refine GM.of (by decide) (Nat.le_of_ble_eq_true rfl) ?_
  intro p e s m args below meth c Q ls hQ C hml hr hlocks hP hl
  have hx := C.1
  have hb := C.2.1
  have hok := hP.2
  have hS : va_S A s.heap s.heap [] := va_S.rf
  have hl : lv_has ls 2 [(0, .ref (ad 0))] := hl
  have hP : gWd D (mdT k ad) (va_up (va_up (va_up (va_up v 8 (v 8)) 9 (v 9)) 10 (v 10)) 11 (v 11)) f (va_up g 0 (g 0)) s.heap := by rw [va_id, va_id, va_id, va_id, va_id]; exact hP
  have r_1 : 0 ≤ (v 3) ∧ (v 3) ≤ 700 := hok.1 3
  have r_2 : 0 ≤ (v 10) ∧ (v 10) ≤ 700 := hok.1 10
  refine lv_aload_n hx hb dX11_next_0 rfl (lv_at hl 0 rfl) ?_
  refine lv_aload_n hx hb dX11_next_1 rfl (lv_at hl 0 rfl) ?_
  refine mdG_behind C hP mF_X11_155 dX11_next_2 ?_
  show W p l e (gRm 1 21) s m args below meth c _ _ 0 0 Q (F0 m 5 ls [.int (iI (v 10)), .ref (ad 0)])
  refine mdP_at (v1 := (va_up (va_up (va_up (va_up v 8 (v 8)) 9 (v 10)) 10 (v 10)) 11 (v 11))) C hP hD hS mF_X11_158 (by omega) rfl (Or.inr (gR_up (V := mdV) (F := mdF) (gR_up (V := mdV) (F := mdF) (gR_up (V := mdV) (F := mdF) (gR_up (V := mdV) (F := mdF) ⟨hok.1, hok.2⟩ 8 (hP.2.1 8)) 9 (show 0 ≤ (v 10) ∧ (v 10) ≤ 700 from by omega)) 10 (hP.2.1 10)) 11 (hP.2.1 11))) dX11_next_5 (fun H locs hP hS => ?_)
  have L_3 : ∀ (n : Nat) (y9_3 : Int) (H : Heap) (locs : List Loc) (ls : Array Slot), (v 3) - y9_3 < (n : Int) → ((v 10) ≤ y9_3 ∧ y9_3 ≤ (v 3)) → gWd D (mdT k ad) (va_up (va_up (va_up (va_up v 8 (v 8)) 9 y9_3) 10 (v 10)) 11 (v 11)) f (va_up g 0 (g 0)) H → va_S A s.heap H locs → lv_has ls 2 [(0, .ref (ad 0))] → W p l e (gRm 1 21) s m args below meth c H locs 0 0 Q (F0 m 8 ls []) := by
    intro n
    induction n with
    | zero =>
      intro y9_3 H locs ls hn_3 i3_0 hP hS hl
      have ry9_3 : 0 ≤ y9_3 ∧ y9_3 ≤ 700 := hP.2.1 9
      exfalso; omega
    | succ n ih_8 =>
      intro y9_3 H locs ls hn_3 i3_0 hP hS hl
      have ry9_3 : 0 ≤ y9_3 ∧ y9_3 ≤ 700 := hP.2.1 9
      refine lv_aload_n hx hb dX11_next_8 rfl (lv_at hl 0 rfl) ?_
      refine mdG_at C hP mF_X11_158 dX11_next_9 ?_
      show W p l e (gRm 1 21) s m args below meth c _ _ 0 0 Q (F0 m 12 ls [.int (iI y9_3)])
      have r_4 : 0 ≤ y9_3 ∧ y9_3 ≤ 700 := hP.2.1 9
      refine lv_aload_n hx hb dX11_next_12 rfl (lv_at hl 0 rfl) ?_
      refine mdG_end C hP mF_X11_152 dX11_next_13 ?_
      show W p l e (gRm 1 21) s m args below meth c _ _ 0 0 Q (F0 m 16 ls [.int (iI (v 3)), .int (iI y9_3)])
      refine gi_cge (tgt := 58) hx hb dX11_next_16 (by decide) (by omega) (by omega) (fun c_5 => ?_) (fun c_5 => ?_)
      · refine lv_aload_n hx hb dX11_next_58 rfl (lv_at hl 0 rfl) ?_
        refine lv_aload_n hx hb dX11_next_59 rfl (lv_at hl 0 rfl) ?_
        refine mdG_at C hP mF_X11_158 dX11_next_60 ?_
        show W p l e (gRm 1 21) s m args below meth c _ _ 0 0 Q (F0 m 63 ls [.int (iI y9_3), .ref (ad 0)])
        refine mdP_behind (v1 := (va_up (va_up (va_up (va_up v 8 (v 8)) 9 y9_3) 10 y9_3) 11 (v 11))) C hP hD hS mF_X11_155 (by omega) rfl (Or.inr (gR_up (V := mdV) (F := mdF) (gR_up (V := mdV) (F := mdF) (gR_up (V := mdV) (F := mdF) (gR_up (V := mdV) (F := mdF) ⟨hok.1, hok.2⟩ 8 (hP.2.1 8)) 9 (hP.2.1 9)) 10 (show 0 ≤ y9_3 ∧ y9_3 ≤ 700 from by omega)) 11 (hP.2.1 11))) dX11_next_63 (fun H locs hP hS => ?_)
        refine lv_aload_n hx hb dX11_next_66 rfl (lv_at hl 0 rfl) ?_
        refine mdG_at C hP mF_X11_158 dX11_next_67 ?_
        show W p l e (gRm 1 21) s m args below meth c _ _ 0 0 Q (F0 m 70 ls [.int (iI y9_3)])
        refine lv_aload_n hx hb dX11_next_70 rfl (lv_at hl 0 rfl) ?_
        refine mdG_end C hP mF_X11_152 dX11_next_71 ?_
        show W p l e (gRm 1 21) s m args below meth c _ _ 0 0 Q (F0 m 74 ls [.int (iI (v 3)), .int (iI y9_3)])
        refine gi_clt (tgt := 83) hx hb dX11_next_74 (by decide) (by omega) (by omega) (fun c_6 => ?_) (fun c_6 => ?_)
        · refine lv_aload_n hx hb dX11_next_83 rfl (lv_at hl 0 rfl) ?_
          refine lv_aload_n hx hb dX11_next_84 rfl (lv_at hl 0 rfl) ?_
          refine mdG_at C hP mF_X11_158 dX11_next_85 ?_
          show W p l e (gRm 1 21) s m args below meth c _ _ 0 0 Q (F0 m 88 ls [.int (iI y9_3), .ref (ad 0)])
          refine g_cv (As := [.int (iI y9_3)]) (rest := []) (n := 1) C hml (m_X11_look l D k A ad hD (va_up (va_up (va_up (va_up v 8 (v 8)) 9 y9_3) 10 y9_3) 11 (v 11)) f (va_up g 0 (g 0)) y9_3 (by omega) (show 0 ≤ y9_3 from by omega)) mM_X11_161 mI_X11_look mE_X11_look mN_X11 mC_X11_look (by decide +kernel) 0 (ci := 11) rfl rfl hP hS (fun _ h => h) ⟨Nat.le_of_ble_eq_true rfl, Nat.le_of_ble_eq_true rfl⟩ ⟨Nat.zero_le _, Nat.zero_le _⟩ hl.1 rfl rfl (Nat.le_of_ble_eq_true rfl) dX11_next_88 (fun r_7 v_7 f_7 g_7 H locs hq_7 hP _ hS => ?_)
          obtain ⟨z_7, rfl, rfl, rfl, rfl, p0_7, p1_7, p2_7⟩ := hq_7
          show W p l e (gRm 1 21) s m args below meth c _ _ 0 0 Q (F0 m 91 ls [.int (iI z_7)])
          have p0_7 : z_7 = (if y9_3 < (v 3) then (f 0) y9_3 % 256 else 0) := p0_7
          have p1_7 : 0 ≤ z_7 ∧ z_7 ≤ 255 := p1_7
          have p2_7 : 0 < z_7 → y9_3 < (v 3) := p2_7
          have hz_7 : inR z_7 := (by first | omega | (rw [p0_7]; split <;> omega))
          refine lv_istore_n (lv' := [(1, .int (iI z_7)), (0, .ref (ad 0))]) hx hb dX11_next_91 rfl hl (by decide) rfl (fun ls hl => ?_)
          have hc1 : z_7 = (if y9_3 < (v 3) then (f 0) y9_3 % 256 else 0) := by assumption
          refine lv_iload_n hx hb dX11_next_92 rfl (lv_at hl 0 rfl) ?_
          refine g_cs (As := [.int (iI z_7)]) (rest := []) (n := 1) C hml (m_X11_isLetter l D k A ad hD (va_up (va_up (va_up (va_up v 8 (v 8)) 9 y9_3) 10 y9_3) 11 (v 11)) f (va_up g 0 (g 0)) z_7 (by omega)) mM_X11_168 mS_X11_isLetter mN_X11 mC_X11_isLetter (by decide +kernel) hP hS (fun _ h => h) ⟨Nat.le_of_ble_eq_true rfl, Nat.le_of_ble_eq_true rfl⟩ ⟨Nat.zero_le _, Nat.zero_le _⟩ hl.1 rfl rfl (Nat.le_of_ble_eq_true rfl) dX11_next_93 (fun r_8 v_8 f_8 g_8 H locs hq_8 hP _ hS => ?_)
          obtain ⟨z_8, rfl, rfl, rfl, rfl, p0_8⟩ := hq_8
          show W p l e (gRm 1 21) s m args below meth c _ _ 0 0 Q (F0 m 96 ls [.int (iI z_8)])
          have p0_8 : z_8 = (if 97 ≤ z_7 ∧ z_7 ≤ 122 then 1 else 0) := p0_8
          have w_8 := gif (P := 97 ≤ z_7 ∧ z_7 ≤ 122) p0_8
          have hz_8 : inR z_8 := (by first | omega | (rw [p0_8]; split <;> omega))
          refine gi_zeq (tgt := 182) hx hb dX11_next_96 (by decide) (by omega) (fun c_9 => ?_) (fun c_9 => ?_)
          · refine lv_iload_n hx hb dX11_next_182 rfl (lv_at hl 0 rfl) ?_
            refine g_cs (As := [.int (iI z_7)]) (rest := []) (n := 1) C hml (m_X11_isDigit l D k A ad hD (va_up (va_up (va_up (va_up v 8 (v 8)) 9 y9_3) 10 y9_3) 11 (v 11)) f (va_up g 0 (g 0)) z_7 (by omega)) mM_X11_182 mS_X11_isDigit mN_X11 mC_X11_isDigit (by decide +kernel) hP hS (fun _ h => h) ⟨Nat.le_of_ble_eq_true rfl, Nat.le_of_ble_eq_true rfl⟩ ⟨Nat.zero_le _, Nat.zero_le _⟩ hl.1 rfl rfl (Nat.le_of_ble_eq_true rfl) dX11_next_183 (fun r_10 v_10 f_10 g_10 H locs hq_10 hP _ hS => ?_)
            obtain ⟨z_10, rfl, rfl, rfl, rfl, p0_10⟩ := hq_10
            show W p l e (gRm 1 21) s m args below meth c _ _ 0 0 Q (F0 m 186 ls [.int (iI z_10)])
            have p0_10 : z_10 = (if 48 ≤ z_7 ∧ z_7 ≤ 57 then 1 else 0) := p0_10
            have w_10 := gif (P := 48 ≤ z_7 ∧ z_7 ≤ 57) p0_10
            have hz_10 : inR z_10 := (by first | omega | (rw [p0_10]; split <;> omega))
            refine gi_zeq (tgt := 284) hx hb dX11_next_186 (by decide) (by omega) (fun c_11 => ?_) (fun c_11 => ?_)
            · refine lv_aload_n hx hb dX11_next_284 rfl (lv_at hl 1 rfl) ?_
              refine lv_aload_n hx hb dX11_next_285 rfl (lv_at hl 1 rfl) ?_
              refine mdG_at C hP mF_X11_158 dX11_next_286 ?_
              show W p l e (gRm 1 21) s m args below meth c _ _ 0 0 Q (F0 m 289 ls [.int (iI y9_3), .ref (ad 0)])
              refine lv_iconst (v := iI 1) hx hb dX11_next_289 rfl ?_
              refine gi_add (z := (y9_3 + 1)) hx hb dX11_next_290 rfl ?_
              refine mdP_behind (v1 := (va_up (va_up (va_up (va_up v 8 (v 8)) 9 y9_3) 10 (y9_3 + 1)) 11 (v 11))) C hP hD hS mF_X11_155 (by omega) rfl (Or.inr (gR_up (V := mdV) (F := mdF) (gR_up (V := mdV) (F := mdF) (gR_up (V := mdV) (F := mdF) (gR_up (V := mdV) (F := mdF) ⟨hok.1, hok.2⟩ 8 (hP.2.1 8)) 9 (hP.2.1 9)) 10 (show 0 ≤ (y9_3 + 1) ∧ (y9_3 + 1) ≤ 700 from by omega)) 11 (hP.2.1 11))) dX11_next_291 (fun H locs hP hS => ?_)
              refine lv_aload_n hx hb dX11_next_294 rfl (lv_at hl 1 rfl) ?_
              refine lv_iload_n hx hb dX11_next_295 rfl (lv_at hl 0 rfl) ?_
              refine mdP_number (v1 := (va_up (va_up (va_up (va_up v 8 (v 8)) 9 y9_3) 10 (y9_3 + 1)) 11 z_7)) C hP hD hS mF_X11_185 (by omega) rfl (Or.inr (gR_up (V := mdV) (F := mdF) (gR_up (V := mdV) (F := mdF) (gR_up (V := mdV) (F := mdF) (gR_up (V := mdV) (F := mdF) ⟨hok.1, hok.2⟩ 8 (hP.2.1 8)) 9 (hP.2.1 9)) 10 (hP.2.1 10)) 11 (show 0 ≤ z_7 ∧ z_7 ≤ 999999 from by omega))) dX11_next_296 (fun H locs hP hS => ?_)
              refine lv_aload_n hx hb dX11_next_299 rfl (lv_at hl 1 rfl) ?_
              refine lv_iload_n hx hb dX11_next_300 rfl (lv_at hl 0 rfl) ?_
              refine lv_bipush (v := iI 43) hx hb dX11_next_301 (by decide) ?_
              refine gi_ceq (tgt := 342) hx hb dX11_next_303 (by decide) (by omega) (by decide) (fun c_12 => ?_) (fun c_12 => ?_)
              · refine lv_iconst (v := iI 3) hx hb dX11_next_342 rfl ?_
                refine lv_goto (tgt := 347) hx hb dX11_next_343 (by decide) ?_
                refine mdP_sort (v1 := (va_up (va_up (va_up (va_up v 8 3) 9 y9_3) 10 (y9_3 + 1)) 11 z_7)) C hP hD hS mF_X11_165 (by decide) rfl (Or.inr (gR_up (V := mdV) (F := mdF) (gR_up (V := mdV) (F := mdF) (gR_up (V := mdV) (F := mdF) (gR_up (V := mdV) (F := mdF) ⟨hok.1, hok.2⟩ 8 (show 0 ≤ 3 ∧ 3 ≤ 4 from by decide)) 9 (hP.2.1 9)) 10 (hP.2.1 10)) 11 (hP.2.1 11))) dX11_next_347 (fun H locs hP hS => ?_)
                exact g_vret hQ C hr hlocks hP hS dX11_next_350 ⟨3, y9_3, (y9_3 + 1), z_7, (g 0), rfl, rfl, rfl, rfl, (by first | omega | (split <;> omega)), (by first | omega | (split <;> omega))⟩
              · refine lv_iload_n hx hb dX11_next_306 rfl (lv_at hl 0 rfl) ?_
                refine lv_bipush (v := iI 45) hx hb dX11_next_307 (by decide) ?_
                refine gi_ceq (tgt := 342) hx hb dX11_next_309 (by decide) (by omega) (by decide) (fun c_13 => ?_) (fun c_13 => ?_)
                · refine lv_iconst (v := iI 3) hx hb dX11_next_342 rfl ?_
                  refine lv_goto (tgt := 347) hx hb dX11_next_343 (by decide) ?_
                  refine mdP_sort (v1 := (va_up (va_up (va_up (va_up v 8 3) 9 y9_3) 10 (y9_3 + 1)) 11 z_7)) C hP hD hS mF_X11_165 (by decide) rfl (Or.inr (gR_up (V := mdV) (F := mdF) (gR_up (V := mdV) (F := mdF) (gR_up (V := mdV) (F := mdF) (gR_up (V := mdV) (F := mdF) ⟨hok.1, hok.2⟩ 8 (show 0 ≤ 3 ∧ 3 ≤ 4 from by decide)) 9 (hP.2.1 9)) 10 (hP.2.1 10)) 11 (hP.2.1 11))) dX11_next_347 (fun H locs hP hS => ?_)
                  exact g_vret hQ C hr hlocks hP hS dX11_next_350 ⟨3, y9_3, (y9_3 + 1), z_7, (g 0), rfl, rfl, rfl, rfl, (by first | omega | (split <;> omega)), (by first | omega | (split <;> omega))⟩
                · refine lv_iload_n hx hb dX11_next_312 rfl (lv_at hl 0 rfl) ?_
                  refine lv_bipush (v := iI 42) hx hb dX11_next_313 (by decide) ?_
                  refine gi_ceq (tgt := 342) hx hb dX11_next_315 (by decide) (by omega) (by decide) (fun c_14 => ?_) (fun c_14 => ?_)
                  · refine lv_iconst (v := iI 3) hx hb dX11_next_342 rfl ?_
                    refine lv_goto (tgt := 347) hx hb dX11_next_343 (by decide) ?_
                    refine mdP_sort (v1 := (va_up (va_up (va_up (va_up v 8 3) 9 y9_3) 10 (y9_3 + 1)) 11 z_7)) C hP hD hS mF_X11_165 (by decide) rfl (Or.inr (gR_up (V := mdV) (F := mdF) (gR_up (V := mdV) (F := mdF) (gR_up (V := mdV) (F := mdF) (gR_up (V := mdV) (F := mdF) ⟨hok.1, hok.2⟩ 8 (show 0 ≤ 3 ∧ 3 ≤ 4 from by decide)) 9 (hP.2.1 9)) 10 (hP.2.1 10)) 11 (hP.2.1 11))) dX11_next_347 (fun H locs hP hS => ?_)
                    exact g_vret hQ C hr hlocks hP hS dX11_next_350 ⟨3, y9_3, (y9_3 + 1), z_7, (g 0), rfl, rfl, rfl, rfl, (by first | omega | (split <;> omega)), (by first | omega | (split <;> omega))⟩
                  · refine lv_iload_n hx hb dX11_next_318 rfl (lv_at hl 0 rfl) ?_
                    refine lv_bipush (v := iI 40) hx hb dX11_next_319 (by decide) ?_
                    refine gi_ceq (tgt := 342) hx hb dX11_next_321 (by decide) (by omega) (by decide) (fun c_15 => ?_) (fun c_15 => ?_)
                    · refine lv_iconst (v := iI 3) hx hb dX11_next_342 rfl ?_
                      refine lv_goto (tgt := 347) hx hb dX11_next_343 (by decide) ?_
                      refine mdP_sort (v1 := (va_up (va_up (va_up (va_up v 8 3) 9 y9_3) 10 (y9_3 + 1)) 11 z_7)) C hP hD hS mF_X11_165 (by decide) rfl (Or.inr (gR_up (V := mdV) (F := mdF) (gR_up (V := mdV) (F := mdF) (gR_up (V := mdV) (F := mdF) (gR_up (V := mdV) (F := mdF) ⟨hok.1, hok.2⟩ 8 (show 0 ≤ 3 ∧ 3 ≤ 4 from by decide)) 9 (hP.2.1 9)) 10 (hP.2.1 10)) 11 (hP.2.1 11))) dX11_next_347 (fun H locs hP hS => ?_)
                      exact g_vret hQ C hr hlocks hP hS dX11_next_350 ⟨3, y9_3, (y9_3 + 1), z_7, (g 0), rfl, rfl, rfl, rfl, (by first | omega | (split <;> omega)), (by first | omega | (split <;> omega))⟩
                    · refine lv_iload_n hx hb dX11_next_324 rfl (lv_at hl 0 rfl) ?_
                      refine lv_bipush (v := iI 41) hx hb dX11_next_325 (by decide) ?_
                      refine gi_ceq (tgt := 342) hx hb dX11_next_327 (by decide) (by omega) (by decide) (fun c_16 => ?_) (fun c_16 => ?_)
                      · refine lv_iconst (v := iI 3) hx hb dX11_next_342 rfl ?_
                        refine lv_goto (tgt := 347) hx hb dX11_next_343 (by decide) ?_
                        refine mdP_sort (v1 := (va_up (va_up (va_up (va_up v 8 3) 9 y9_3) 10 (y9_3 + 1)) 11 z_7)) C hP hD hS mF_X11_165 (by decide) rfl (Or.inr (gR_up (V := mdV) (F := mdF) (gR_up (V := mdV) (F := mdF) (gR_up (V := mdV) (F := mdF) (gR_up (V := mdV) (F := mdF) ⟨hok.1, hok.2⟩ 8 (show 0 ≤ 3 ∧ 3 ≤ 4 from by decide)) 9 (hP.2.1 9)) 10 (hP.2.1 10)) 11 (hP.2.1 11))) dX11_next_347 (fun H locs hP hS => ?_)
                        exact g_vret hQ C hr hlocks hP hS dX11_next_350 ⟨3, y9_3, (y9_3 + 1), z_7, (g 0), rfl, rfl, rfl, rfl, (by first | omega | (split <;> omega)), (by first | omega | (split <;> omega))⟩
                      · refine lv_iload_n hx hb dX11_next_330 rfl (lv_at hl 0 rfl) ?_
                        refine lv_bipush (v := iI 44) hx hb dX11_next_331 (by decide) ?_
                        refine gi_ceq (tgt := 342) hx hb dX11_next_333 (by decide) (by omega) (by decide) (fun c_17 => ?_) (fun c_17 => ?_)
                        · refine lv_iconst (v := iI 3) hx hb dX11_next_342 rfl ?_
                          refine lv_goto (tgt := 347) hx hb dX11_next_343 (by decide) ?_
                          refine mdP_sort (v1 := (va_up (va_up (va_up (va_up v 8 3) 9 y9_3) 10 (y9_3 + 1)) 11 z_7)) C hP hD hS mF_X11_165 (by decide) rfl (Or.inr (gR_up (V := mdV) (F := mdF) (gR_up (V := mdV) (F := mdF) (gR_up (V := mdV) (F := mdF) (gR_up (V := mdV) (F := mdF) ⟨hok.1, hok.2⟩ 8 (show 0 ≤ 3 ∧ 3 ≤ 4 from by decide)) 9 (hP.2.1 9)) 10 (hP.2.1 10)) 11 (hP.2.1 11))) dX11_next_347 (fun H locs hP hS => ?_)
                          exact g_vret hQ C hr hlocks hP hS dX11_next_350 ⟨3, y9_3, (y9_3 + 1), z_7, (g 0), rfl, rfl, rfl, rfl, (by first | omega | (split <;> omega)), (by first | omega | (split <;> omega))⟩
                        · refine lv_iload_n hx hb dX11_next_336 rfl (lv_at hl 0 rfl) ?_
                          refine lv_bipush (v := iI 59) hx hb dX11_next_337 (by decide) ?_
                          refine gi_cne (tgt := 346) hx hb dX11_next_339 (by decide) (by omega) (by decide) (fun c_18 => ?_) (fun c_18 => ?_)
                          · refine lv_iconst (v := iI 4) hx hb dX11_next_346 rfl ?_
                            refine mdP_sort (v1 := (va_up (va_up (va_up (va_up v 8 4) 9 y9_3) 10 (y9_3 + 1)) 11 z_7)) C hP hD hS mF_X11_165 (by decide) rfl (Or.inr (gR_up (V := mdV) (F := mdF) (gR_up (V := mdV) (F := mdF) (gR_up (V := mdV) (F := mdF) (gR_up (V := mdV) (F := mdF) ⟨hok.1, hok.2⟩ 8 (show 0 ≤ 4 ∧ 4 ≤ 4 from by decide)) 9 (hP.2.1 9)) 10 (hP.2.1 10)) 11 (hP.2.1 11))) dX11_next_347 (fun H locs hP hS => ?_)
                            exact g_vret hQ C hr hlocks hP hS dX11_next_350 ⟨4, y9_3, (y9_3 + 1), z_7, (g 0), rfl, rfl, rfl, rfl, (by first | omega | (split <;> omega)), (by first | omega | (split <;> omega))⟩
                          · refine lv_iconst (v := iI 3) hx hb dX11_next_342 rfl ?_
                            refine lv_goto (tgt := 347) hx hb dX11_next_343 (by decide) ?_
                            refine mdP_sort (v1 := (va_up (va_up (va_up (va_up v 8 3) 9 y9_3) 10 (y9_3 + 1)) 11 z_7)) C hP hD hS mF_X11_165 (by decide) rfl (Or.inr (gR_up (V := mdV) (F := mdF) (gR_up (V := mdV) (F := mdF) (gR_up (V := mdV) (F := mdF) (gR_up (V := mdV) (F := mdF) ⟨hok.1, hok.2⟩ 8 (show 0 ≤ 3 ∧ 3 ≤ 4 from by decide)) 9 (hP.2.1 9)) 10 (hP.2.1 10)) 11 (hP.2.1 11))) dX11_next_347 (fun H locs hP hS => ?_)
                            exact g_vret hQ C hr hlocks hP hS dX11_next_350 ⟨3, y9_3, (y9_3 + 1), z_7, (g 0), rfl, rfl, rfl, rfl, (by first | omega | (split <;> omega)), (by first | omega | (split <;> omega))⟩
            · refine lv_aload_n hx hb dX11_next_189 rfl (lv_at hl 1 rfl) ?_
              refine lv_iconst (v := iI 0) hx hb dX11_next_190 rfl ?_
              refine mdP_number (v1 := (va_up (va_up (va_up (va_up v 8 (v 8)) 9 y9_3) 10 y9_3) 11 0)) C hP hD hS mF_X11_185 (by decide) rfl (Or.inr (gR_up (V := mdV) (F := mdF) (gR_up (V := mdV) (F := mdF) (gR_up (V := mdV) (F := mdF) (gR_up (V := mdV) (F := mdF) ⟨hok.1, hok.2⟩ 8 (hP.2.1 8)) 9 (hP.2.1 9)) 10 (hP.2.1 10)) 11 (show 0 ≤ 0 ∧ 0 ≤ 999999 from by decide))) dX11_next_191 (fun H locs hP hS => ?_)
              have L_19 : ∀ (n : Nat) (y10_19 : Int) (y11_19 : Int) (H : Heap) (locs : List Loc) (ls : Array Slot), (v 3) - y10_19 < (n : Int) → (y9_3 ≤ y10_19 ∧ y10_19 ≤ (v 3)) → (((y11_19 = 0 ∧ y10_19 = y9_3) ∨ (y11_19 ≤ 9 ∧ y10_19 = y9_3 + 1) ∨ (y11_19 ≤ 99 ∧ y10_19 = y9_3 + 2) ∨ (y11_19 ≤ 999 ∧ y10_19 = y9_3 + 3) ∨ (y11_19 ≤ 9999 ∧ y10_19 = y9_3 + 4) ∨ (y11_19 ≤ 99999 ∧ y10_19 = y9_3 + 5) ∨ (y11_19 ≤ 999999 ∧ y9_3 + 6 ≤ y10_19))) → gWd D (mdT k ad) (va_up (va_up (va_up (va_up v 8 (v 8)) 9 y9_3) 10 y10_19) 11 y11_19) f (va_up g 0 (g 0)) H → va_S A s.heap H locs → lv_has ls 2 [(0, .ref (ad 0)), (1, .int (iI z_7))] → W p l e (gRm 1 21) s m args below meth c H locs 0 0 Q (F0 m 194 ls []) := by
                intro n
                induction n with
                | zero =>
                  intro y10_19 y11_19 H locs ls hn_19 i19_0 i19_1 hP hS hl
                  have ry10_19 : 0 ≤ y10_19 ∧ y10_19 ≤ 700 := hP.2.1 10
                  have ry11_19 : 0 ≤ y11_19 ∧ y11_19 ≤ 999999 := hP.2.1 11
                  exfalso; omega
                | succ n ih_194 =>
                  intro y10_19 y11_19 H locs ls hn_19 i19_0 i19_1 hP hS hl
                  have ry10_19 : 0 ≤ y10_19 ∧ y10_19 ≤ 700 := hP.2.1 10
                  have ry11_19 : 0 ≤ y11_19 ∧ y11_19 ≤ 999999 := hP.2.1 11
                  refine lv_aload_n hx hb dX11_next_194 rfl (lv_at hl 0 rfl) ?_
                  refine lv_aload_n hx hb dX11_next_195 rfl (lv_at hl 0 rfl) ?_
                  refine mdG_behind C hP mF_X11_155 dX11_next_196 ?_
                  show W p l e (gRm 1 21) s m args below meth c _ _ 0 0 Q (F0 m 199 ls [.int (iI y10_19), .ref (ad 0)])
                  have r_20 : 0 ≤ y10_19 ∧ y10_19 ≤ 700 := hP.2.1 10
                  refine g_cv (As := [.int (iI y10_19)]) (rest := []) (n := 1) C hml (m_X11_look l D k A ad hD (va_up (va_up (va_up (va_up v 8 (v 8)) 9 y9_3) 10 y10_19) 11 y11_19) f (va_up g 0 (g 0)) y10_19 (by omega) (show 0 ≤ y10_19 from by omega)) mM_X11_161 mI_X11_look mE_X11_look mN_X11 mC_X11_look (by decide +kernel) 0 (ci := 11) rfl rfl hP hS (fun _ h => h) ⟨Nat.le_of_ble_eq_true rfl, Nat.le_of_ble_eq_true rfl⟩ ⟨Nat.zero_le _, Nat.zero_le _⟩ hl.1 rfl rfl (Nat.le_of_ble_eq_true rfl) dX11_next_199 (fun r_21 v_21 f_21 g_21 H locs hq_21 hP _ hS => ?_)
                  obtain ⟨z_21, rfl, rfl, rfl, rfl, p0_21, p1_21, p2_21⟩ := hq_21
                  show W p l e (gRm 1 21) s m args below meth c _ _ 0 0 Q (F0 m 202 ls [.int (iI z_21)])
                  have p0_21 : z_21 = (if y10_19 < (v 3) then (f 0) y10_19 % 256 else 0) := p0_21
                  have p1_21 : 0 ≤ z_21 ∧ z_21 ≤ 255 := p1_21
                  have p2_21 : 0 < z_21 → y10_19 < (v 3) := p2_21
                  have hz_21 : inR z_21 := (by first | omega | (rw [p0_21]; split <;> omega))
                  have qq_21 : y10_19 = y9_3 → z_21 = z_7 := fun h => by rw [p0_21, hc1, h]
                  refine g_cs (As := [.int (iI z_21)]) (rest := []) (n := 1) C hml (m_X11_isDigit l D k A ad hD (va_up (va_up (va_up (va_up v 8 (v 8)) 9 y9_3) 10 y10_19) 11 y11_19) f (va_up g 0 (g 0)) z_21 (by omega)) mM_X11_182 mS_X11_isDigit mN_X11 mC_X11_isDigit (by decide +kernel) hP hS (fun _ h => h) ⟨Nat.le_of_ble_eq_true rfl, Nat.le_of_ble_eq_true rfl⟩ ⟨Nat.zero_le _, Nat.zero_le _⟩ hl.1 rfl rfl (Nat.le_of_ble_eq_true rfl) dX11_next_202 (fun r_22 v_22 f_22 g_22 H locs hq_22 hP _ hS => ?_)
                  obtain ⟨z_22, rfl, rfl, rfl, rfl, p0_22⟩ := hq_22
                  show W p l e (gRm 1 21) s m args below meth c _ _ 0 0 Q (F0 m 205 ls [.int (iI z_22)])
                  have p0_22 : z_22 = (if 48 ≤ z_21 ∧ z_21 ≤ 57 then 1 else 0) := p0_22
                  have w_22 := gif (P := 48 ≤ z_21 ∧ z_21 ≤ 57) p0_22
                  have hz_22 : inR z_22 := (by first | omega | (rw [p0_22]; split <;> omega))
                  refine gi_zeq (tgt := 258) hx hb dX11_next_205 (by decide) (by omega) (fun c_23 => ?_) (fun c_23 => ?_)
                  · refine lv_aload_n hx hb dX11_next_258 rfl (lv_at hl 0 rfl) ?_
                    refine lv_aload_n hx hb dX11_next_259 rfl (lv_at hl 0 rfl) ?_
                    refine mdG_behind C hP mF_X11_155 dX11_next_260 ?_
                    show W p l e (gRm 1 21) s m args below meth c _ _ 0 0 Q (F0 m 263 ls [.int (iI y10_19), .ref (ad 0)])
                    refine lv_aload_n hx hb dX11_next_263 rfl (lv_at hl 0 rfl) ?_
                    refine mdG_at C hP mF_X11_158 dX11_next_264 ?_
                    show W p l e (gRm 1 21) s m args below meth c _ _ 0 0 Q (F0 m 267 ls [.int (iI y9_3), .int (iI y10_19), .ref (ad 0)])
                    refine gi_sub (z := (y10_19 - y9_3)) hx hb dX11_next_267 rfl ?_
                    refine lv_bipush (v := iI 6) hx hb dX11_next_268 (by decide) ?_
                    refine gi_cle (tgt := 277) hx hb dX11_next_270 (by decide) (by omega) (by decide) (fun c_24 => ?_) (fun c_24 => ?_)
                    · refine lv_iconst (v := iI 2) hx hb dX11_next_277 rfl ?_
                      refine mdP_sort (v1 := (va_up (va_up (va_up (va_up v 8 2) 9 y9_3) 10 y10_19) 11 y11_19)) C hP hD hS mF_X11_165 (by decide) rfl (Or.inr (gR_up (V := mdV) (F := mdF) (gR_up (V := mdV) (F := mdF) (gR_up (V := mdV) (F := mdF) (gR_up (V := mdV) (F := mdF) ⟨hok.1, hok.2⟩ 8 (show 0 ≤ 2 ∧ 2 ≤ 4 from by decide)) 9 (hP.2.1 9)) 10 (hP.2.1 10)) 11 (hP.2.1 11))) dX11_next_278 (fun H locs hP hS => ?_)
                      refine lv_goto (tgt := 350) hx hb dX11_next_281 (by decide) ?_
                      exact g_vret hQ C hr hlocks hP hS dX11_next_350 ⟨2, y9_3, y10_19, y11_19, (g 0), rfl, rfl, rfl, rfl, (by first | omega | (split <;> omega)), (by first | omega | (split <;> omega))⟩
                    · refine lv_iconst (v := iI 4) hx hb dX11_next_273 rfl ?_
                      refine lv_goto (tgt := 278) hx hb dX11_next_274 (by decide) ?_
                      refine mdP_sort (v1 := (va_up (va_up (va_up (va_up v 8 4) 9 y9_3) 10 y10_19) 11 y11_19)) C hP hD hS mF_X11_165 (by decide) rfl (Or.inr (gR_up (V := mdV) (F := mdF) (gR_up (V := mdV) (F := mdF) (gR_up (V := mdV) (F := mdF) (gR_up (V := mdV) (F := mdF) ⟨hok.1, hok.2⟩ 8 (show 0 ≤ 4 ∧ 4 ≤ 4 from by decide)) 9 (hP.2.1 9)) 10 (hP.2.1 10)) 11 (hP.2.1 11))) dX11_next_278 (fun H locs hP hS => ?_)
                      refine lv_goto (tgt := 350) hx hb dX11_next_281 (by decide) ?_
                      exact g_vret hQ C hr hlocks hP hS dX11_next_350 ⟨4, y9_3, y10_19, y11_19, (g 0), rfl, rfl, rfl, rfl, (by first | omega | (split <;> omega)), (by first | omega | (split <;> omega))⟩
                  · refine lv_aload_n hx hb dX11_next_208 rfl (lv_at hl 0 rfl) ?_
                    refine mdG_behind C hP mF_X11_155 dX11_next_209 ?_
                    show W p l e (gRm 1 21) s m args below meth c _ _ 0 0 Q (F0 m 212 ls [.int (iI y10_19)])
                    refine lv_aload_n hx hb dX11_next_212 rfl (lv_at hl 0 rfl) ?_
                    refine mdG_at C hP mF_X11_158 dX11_next_213 ?_
                    show W p l e (gRm 1 21) s m args below meth c _ _ 0 0 Q (F0 m 216 ls [.int (iI y9_3), .int (iI y10_19)])
                    refine gi_sub (z := (y10_19 - y9_3)) hx hb dX11_next_216 rfl ?_
                    refine lv_bipush (v := iI 6) hx hb dX11_next_217 (by decide) ?_
                    refine gi_cge (tgt := 245) hx hb dX11_next_219 (by decide) (by omega) (by decide) (fun c_25 => ?_) (fun c_25 => ?_)
                    · refine lv_aload_n hx hb dX11_next_245 rfl (lv_at hl 0 rfl) ?_
                      refine lv_dup hx hb dX11_next_246 rfl ?_
                      refine mdG_behind C hP mF_X11_155 dX11_next_247 ?_
                      show W p l e (gRm 1 21) s m args below meth c _ _ 0 0 Q (F0 m 250 ls [.int (iI y10_19), .ref (ad 0)])
                      refine lv_iconst (v := iI 1) hx hb dX11_next_250 rfl ?_
                      refine gi_add (z := (y10_19 + 1)) hx hb dX11_next_251 rfl ?_
                      refine mdP_behind (v1 := (va_up (va_up (va_up (va_up v 8 (v 8)) 9 y9_3) 10 (y10_19 + 1)) 11 y11_19)) C hP hD hS mF_X11_155 (by omega) rfl (Or.inr (gR_up (V := mdV) (F := mdF) (gR_up (V := mdV) (F := mdF) (gR_up (V := mdV) (F := mdF) (gR_up (V := mdV) (F := mdF) ⟨hok.1, hok.2⟩ 8 (hP.2.1 8)) 9 (hP.2.1 9)) 10 (show 0 ≤ (y10_19 + 1) ∧ (y10_19 + 1) ≤ 700 from by omega)) 11 (hP.2.1 11))) dX11_next_252 (fun H locs hP hS => ?_)
                      refine lv_goto (tgt := 194) hx hb dX11_next_255 (by decide) ?_
                      exact ih_194 (y10_19 + 1) y11_19 _ _ _ (by omega) (by omega) (by omega) hP hS (lv_sub hl [0, 1] rfl)
                    · refine lv_aload_n hx hb dX11_next_222 rfl (lv_at hl 0 rfl) ?_
                      refine lv_bipush (v := iI 10) hx hb dX11_next_223 (by decide) ?_
                      refine lv_aload_n hx hb dX11_next_225 rfl (lv_at hl 0 rfl) ?_
                      refine mdG_number C hP mF_X11_185 dX11_next_226 ?_
                      show W p l e (gRm 1 21) s m args below meth c _ _ 0 0 Q (F0 m 229 ls [.int (iI y11_19), .int (iI 10), .ref (ad 0)])
                      have r_26 : 0 ≤ y11_19 ∧ y11_19 ≤ 999999 := hP.2.1 11
                      refine gi_mul (z := (10 * y11_19)) hx hb dX11_next_229 rfl ?_
                      refine lv_aload_n hx hb dX11_next_230 rfl (lv_at hl 0 rfl) ?_
                      refine lv_aload_n hx hb dX11_next_231 rfl (lv_at hl 0 rfl) ?_
                      refine mdG_behind C hP mF_X11_155 dX11_next_232 ?_
                      show W p l e (gRm 1 21) s m args below meth c _ _ 0 0 Q (F0 m 235 ls [.int (iI y10_19), .ref (ad 0), .int (iI (10 * y11_19)), .ref (ad 0)])
                      refine g_cv (As := [.int (iI y10_19)]) (rest := [.int (iI (10 * y11_19)), .ref (ad 0)]) (n := 1) C hml (m_X11_look l D k A ad hD (va_up (va_up (va_up (va_up v 8 (v 8)) 9 y9_3) 10 y10_19) 11 y11_19) f (va_up g 0 (g 0)) y10_19 (by omega) (show 0 ≤ y10_19 from by omega)) mM_X11_161 mI_X11_look mE_X11_look mN_X11 mC_X11_look (by decide +kernel) 0 (ci := 11) rfl rfl hP hS (fun _ h => h) ⟨Nat.le_of_ble_eq_true rfl, Nat.le_of_ble_eq_true rfl⟩ ⟨Nat.zero_le _, Nat.zero_le _⟩ hl.1 rfl rfl (Nat.le_of_ble_eq_true rfl) dX11_next_235 (fun r_27 v_27 f_27 g_27 H locs hq_27 hP _ hS => ?_)
                      obtain ⟨z_27, rfl, rfl, rfl, rfl, p0_27, p1_27, p2_27⟩ := hq_27
                      show W p l e (gRm 1 21) s m args below meth c _ _ 0 0 Q (F0 m 238 ls [.int (iI z_27), .int (iI (10 * y11_19)), .ref (ad 0)])
                      have p0_27 : z_27 = (if y10_19 < (v 3) then (f 0) y10_19 % 256 else 0) := p0_27
                      have p1_27 : 0 ≤ z_27 ∧ z_27 ≤ 255 := p1_27
                      have p2_27 : 0 < z_27 → y10_19 < (v 3) := p2_27
                      have hz_27 : inR z_27 := (by first | omega | (rw [p0_27]; split <;> omega))
                      refine gi_add (z := ((10 * y11_19) + z_27)) hx hb dX11_next_238 rfl ?_
                      refine lv_bipush (v := iI 48) hx hb dX11_next_239 (by decide) ?_
                      refine gi_sub (z := (((10 * y11_19) + z_27) - 48)) hx hb dX11_next_241 rfl ?_
                      refine mdP_number (v1 := (va_up (va_up (va_up (va_up v 8 (v 8)) 9 y9_3) 10 y10_19) 11 (((10 * y11_19) + z_27) - 48))) C hP hD hS mF_X11_185 (by omega) rfl (Or.inr (gR_up (V := mdV) (F := mdF) (gR_up (V := mdV) (F := mdF) (gR_up (V := mdV) (F := mdF) (gR_up (V := mdV) (F := mdF) ⟨hok.1, hok.2⟩ 8 (hP.2.1 8)) 9 (hP.2.1 9)) 10 (hP.2.1 10)) 11 (show 0 ≤ (((10 * y11_19) + z_27) - 48) ∧ (((10 * y11_19) + z_27) - 48) ≤ 999999 from by omega))) dX11_next_242 (fun H locs hP hS => ?_)
                      refine lv_aload_n hx hb dX11_next_245 rfl (lv_at hl 0 rfl) ?_
                      refine lv_dup hx hb dX11_next_246 rfl ?_
                      refine mdG_behind C hP mF_X11_155 dX11_next_247 ?_
                      show W p l e (gRm 1 21) s m args below meth c _ _ 0 0 Q (F0 m 250 ls [.int (iI y10_19), .ref (ad 0)])
                      refine lv_iconst (v := iI 1) hx hb dX11_next_250 rfl ?_
                      refine gi_add (z := (y10_19 + 1)) hx hb dX11_next_251 rfl ?_
                      refine mdP_behind (v1 := (va_up (va_up (va_up (va_up v 8 (v 8)) 9 y9_3) 10 (y10_19 + 1)) 11 (((10 * y11_19) + z_27) - 48))) C hP hD hS mF_X11_155 (by omega) rfl (Or.inr (gR_up (V := mdV) (F := mdF) (gR_up (V := mdV) (F := mdF) (gR_up (V := mdV) (F := mdF) (gR_up (V := mdV) (F := mdF) ⟨hok.1, hok.2⟩ 8 (hP.2.1 8)) 9 (hP.2.1 9)) 10 (show 0 ≤ (y10_19 + 1) ∧ (y10_19 + 1) ≤ 700 from by omega)) 11 (hP.2.1 11))) dX11_next_252 (fun H locs hP hS => ?_)
                      refine lv_goto (tgt := 194) hx hb dX11_next_255 (by decide) ?_
                      exact ih_194 (y10_19 + 1) (((10 * y11_19) + z_27) - 48) _ _ _ (by omega) (by omega) (by omega) hP hS (lv_sub hl [0, 1] rfl)
              exact L_19 701 y9_3 0 _ _ _ (by omega) (by omega) (by omega) hP hS (lv_sub hl [1, 0] rfl)
          · refine lv_aload_n hx hb dX11_next_99 rfl (lv_at hl 1 rfl) ?_
            refine lv_iconst (v := iI 1) hx hb dX11_next_100 rfl ?_
            refine mdP_sort (v1 := (va_up (va_up (va_up (va_up v 8 1) 9 y9_3) 10 y9_3) 11 (v 11))) C hP hD hS mF_X11_165 (by decide) rfl (Or.inr (gR_up (V := mdV) (F := mdF) (gR_up (V := mdV) (F := mdF) (gR_up (V := mdV) (F := mdF) (gR_up (V := mdV) (F := mdF) ⟨hok.1, hok.2⟩ 8 (show 0 ≤ 1 ∧ 1 ≤ 4 from by decide)) 9 (hP.2.1 9)) 10 (hP.2.1 10)) 11 (hP.2.1 11))) dX11_next_101 (fun H locs hP hS => ?_)
            refine lv_aload_n hx hb dX11_next_104 rfl (lv_at hl 1 rfl) ?_
            refine lv_lconst (v := iL 0) hx hb dX11_next_105 (by decide) ?_
            refine mdP_word (g1 := (va_up g 0 (fun _ => 0))) C hP hD hS mF_X11_172 rfl dX11_next_106 (fun H locs hP hS => ?_)
            have L_28 : ∀ (n : Nat) (y10_28 : Int) (d0_28 : Int → Int) (H : Heap) (locs : List Loc) (ls : Array Slot), (v 3) - y10_28 < (n : Int) → (y9_3 ≤ y10_28 ∧ y10_28 ≤ (v 3)) → gWd D (mdT k ad) (va_up (va_up (va_up (va_up v 8 1) 9 y9_3) 10 y10_28) 11 (v 11)) f (va_up g 0 d0_28) H → va_S A s.heap H locs → lv_has ls 2 [(0, .ref (ad 0)), (1, .int (iI z_7))] → W p l e (gRm 1 21) s m args below meth c H locs 0 0 Q (F0 m 109 ls []) := by
              intro n
              induction n with
              | zero =>
                intro y10_28 d0_28 H locs ls hn_28 i28_0 hP hS hl
                have ry10_28 : 0 ≤ y10_28 ∧ y10_28 ≤ 700 := hP.2.1 10
                exfalso; omega
              | succ n ih_109 =>
                intro y10_28 d0_28 H locs ls hn_28 i28_0 hP hS hl
                have ry10_28 : 0 ≤ y10_28 ∧ y10_28 ≤ 700 := hP.2.1 10
                refine lv_aload_n hx hb dX11_next_109 rfl (lv_at hl 0 rfl) ?_
                refine lv_aload_n hx hb dX11_next_110 rfl (lv_at hl 0 rfl) ?_
                refine mdG_behind C hP mF_X11_155 dX11_next_111 ?_
                show W p l e (gRm 1 21) s m args below meth c _ _ 0 0 Q (F0 m 114 ls [.int (iI y10_28), .ref (ad 0)])
                have r_29 : 0 ≤ y10_28 ∧ y10_28 ≤ 700 := hP.2.1 10
                refine g_cv (As := [.int (iI y10_28)]) (rest := []) (n := 1) C hml (m_X11_look l D k A ad hD (va_up (va_up (va_up (va_up v 8 1) 9 y9_3) 10 y10_28) 11 (v 11)) f (va_up g 0 d0_28) y10_28 (by omega) (show 0 ≤ y10_28 from by omega)) mM_X11_161 mI_X11_look mE_X11_look mN_X11 mC_X11_look (by decide +kernel) 0 (ci := 11) rfl rfl hP hS (fun _ h => h) ⟨Nat.le_of_ble_eq_true rfl, Nat.le_of_ble_eq_true rfl⟩ ⟨Nat.zero_le _, Nat.zero_le _⟩ hl.1 rfl rfl (Nat.le_of_ble_eq_true rfl) dX11_next_114 (fun r_30 v_30 f_30 g_30 H locs hq_30 hP _ hS => ?_)
                obtain ⟨z_30, rfl, rfl, rfl, rfl, p0_30, p1_30, p2_30⟩ := hq_30
                show W p l e (gRm 1 21) s m args below meth c _ _ 0 0 Q (F0 m 117 ls [.int (iI z_30)])
                have p0_30 : z_30 = (if y10_28 < (v 3) then (f 0) y10_28 % 256 else 0) := p0_30
                have p1_30 : 0 ≤ z_30 ∧ z_30 ≤ 255 := p1_30
                have p2_30 : 0 < z_30 → y10_28 < (v 3) := p2_30
                have hz_30 : inR z_30 := (by first | omega | (rw [p0_30]; split <;> omega))
                have qq_30 : y10_28 = y9_3 → z_30 = z_7 := fun h => by rw [p0_30, hc1, h]
                refine g_cs (As := [.int (iI z_30)]) (rest := []) (n := 1) C hml (m_X11_isLetter l D k A ad hD (va_up (va_up (va_up (va_up v 8 1) 9 y9_3) 10 y10_28) 11 (v 11)) f (va_up g 0 d0_28) z_30 (by omega)) mM_X11_168 mS_X11_isLetter mN_X11 mC_X11_isLetter (by decide +kernel) hP hS (fun _ h => h) ⟨Nat.le_of_ble_eq_true rfl, Nat.le_of_ble_eq_true rfl⟩ ⟨Nat.zero_le _, Nat.zero_le _⟩ hl.1 rfl rfl (Nat.le_of_ble_eq_true rfl) dX11_next_117 (fun r_31 v_31 f_31 g_31 H locs hq_31 hP _ hS => ?_)
                obtain ⟨z_31, rfl, rfl, rfl, rfl, p0_31⟩ := hq_31
                show W p l e (gRm 1 21) s m args below meth c _ _ 0 0 Q (F0 m 120 ls [.int (iI z_31)])
                have p0_31 : z_31 = (if 97 ≤ z_30 ∧ z_30 ≤ 122 then 1 else 0) := p0_31
                have w_31 := gif (P := 97 ≤ z_30 ∧ z_30 ≤ 122) p0_31
                have hz_31 : inR z_31 := (by first | omega | (rw [p0_31]; split <;> omega))
                refine gi_zeq (tgt := 350) hx hb dX11_next_120 (by decide) (by omega) (fun c_32 => ?_) (fun c_32 => ?_)
                · exact g_vret hQ C hr hlocks hP hS dX11_next_350 ⟨1, y9_3, y10_28, (v 11), d0_28, rfl, rfl, rfl, rfl, (by first | omega | (split <;> omega)), (by first | omega | (split <;> omega))⟩
                · refine lv_aload_n hx hb dX11_next_123 rfl (lv_at hl 0 rfl) ?_
                  refine lv_aload_n hx hb dX11_next_124 rfl (lv_at hl 0 rfl) ?_
                  refine mdG_behind C hP mF_X11_155 dX11_next_125 ?_
                  show W p l e (gRm 1 21) s m args below meth c _ _ 0 0 Q (F0 m 128 ls [.int (iI y10_28), .ref (ad 0)])
                  refine lv_aload_n hx hb dX11_next_128 rfl (lv_at hl 0 rfl) ?_
                  refine mdG_at C hP mF_X11_158 dX11_next_129 ?_
                  show W p l e (gRm 1 21) s m args below meth c _ _ 0 0 Q (F0 m 132 ls [.int (iI y9_3), .int (iI y10_28), .ref (ad 0)])
                  refine gi_sub (z := (y10_28 - y9_3)) hx hb dX11_next_132 rfl ?_
                  refine lv_bipush (v := iI 12) hx hb dX11_next_133 (by decide) ?_
                  refine gi_cge (tgt := 163) hx hb dX11_next_135 (by decide) (by omega) (by decide) (fun c_33 => ?_) (fun c_33 => ?_)
                  · refine lv_ldc2 (v := iL (-1)) hx hb C.2.2.2.1 (C.2.2.1 _ (show Cond.constantLong RX11 180 (iL (-1)) ∈ gWs from mD_X11_180)) dX11_next_163 ?_
                    refine mdP_word (g1 := (va_up g 0 (fun _ => (-1)))) C hP hD hS mF_X11_172 rfl dX11_next_166 (fun H locs hP hS => ?_)
                    refine lv_aload_n hx hb dX11_next_169 rfl (lv_at hl 0 rfl) ?_
                    refine lv_dup hx hb dX11_next_170 rfl ?_
                    refine mdG_behind C hP mF_X11_155 dX11_next_171 ?_
                    show W p l e (gRm 1 21) s m args below meth c _ _ 0 0 Q (F0 m 174 ls [.int (iI y10_28), .ref (ad 0)])
                    refine lv_iconst (v := iI 1) hx hb dX11_next_174 rfl ?_
                    refine gi_add (z := (y10_28 + 1)) hx hb dX11_next_175 rfl ?_
                    refine mdP_behind (v1 := (va_up (va_up (va_up (va_up v 8 1) 9 y9_3) 10 (y10_28 + 1)) 11 (v 11))) C hP hD hS mF_X11_155 (by omega) rfl (Or.inr (gR_up (V := mdV) (F := mdF) (gR_up (V := mdV) (F := mdF) (gR_up (V := mdV) (F := mdF) (gR_up (V := mdV) (F := mdF) ⟨hok.1, hok.2⟩ 8 (hP.2.1 8)) 9 (hP.2.1 9)) 10 (show 0 ≤ (y10_28 + 1) ∧ (y10_28 + 1) ≤ 700 from by omega)) 11 (hP.2.1 11))) dX11_next_176 (fun H locs hP hS => ?_)
                    refine lv_goto (tgt := 109) hx hb dX11_next_179 (by decide) ?_
                    exact ih_109 (y10_28 + 1) (fun _ => (-1)) _ _ _ (by omega) (by omega) hP hS (lv_sub hl [0, 1] rfl)
                  · refine lv_aload_n hx hb dX11_next_138 rfl (lv_at hl 0 rfl) ?_
                    refine mdG_word C hP mF_X11_172 dX11_next_139 ?_
                    show W p l e (gRm 1 21) s m args below meth c _ _ 0 0 Q (F0 m 142 ls [.long (iL (d0_28 0)), .ref (ad 0)])
                    refine lv_ldc2 (v := iL 32) hx hb C.2.2.2.1 (C.2.2.1 _ (show Cond.constantLong RX11 176 (iL 32) ∈ gWs from mD_X11_176)) dX11_next_142 ?_
                    refine gl_mul (z := ((d0_28 0) * 32)) hx hb dX11_next_145 rfl ?_
                    refine lv_aload_n hx hb dX11_next_146 rfl (lv_at hl 0 rfl) ?_
                    refine lv_aload_n hx hb dX11_next_147 rfl (lv_at hl 0 rfl) ?_
                    refine mdG_behind C hP mF_X11_155 dX11_next_148 ?_
                    show W p l e (gRm 1 21) s m args below meth c _ _ 0 0 Q (F0 m 151 ls [.int (iI y10_28), .ref (ad 0), .long (iL ((d0_28 0) * 32)), .ref (ad 0)])
                    refine g_cv (As := [.int (iI y10_28)]) (rest := [.long (iL ((d0_28 0) * 32)), .ref (ad 0)]) (n := 1) C hml (m_X11_look l D k A ad hD (va_up (va_up (va_up (va_up v 8 1) 9 y9_3) 10 y10_28) 11 (v 11)) f (va_up g 0 d0_28) y10_28 (by omega) (show 0 ≤ y10_28 from by omega)) mM_X11_161 mI_X11_look mE_X11_look mN_X11 mC_X11_look (by decide +kernel) 0 (ci := 11) rfl rfl hP hS (fun _ h => h) ⟨Nat.le_of_ble_eq_true rfl, Nat.le_of_ble_eq_true rfl⟩ ⟨Nat.zero_le _, Nat.zero_le _⟩ hl.1 rfl rfl (Nat.le_of_ble_eq_true rfl) dX11_next_151 (fun r_34 v_34 f_34 g_34 H locs hq_34 hP _ hS => ?_)
                    obtain ⟨z_34, rfl, rfl, rfl, rfl, p0_34, p1_34, p2_34⟩ := hq_34
                    show W p l e (gRm 1 21) s m args below meth c _ _ 0 0 Q (F0 m 154 ls [.int (iI z_34), .long (iL ((d0_28 0) * 32)), .ref (ad 0)])
                    have p0_34 : z_34 = (if y10_28 < (v 3) then (f 0) y10_28 % 256 else 0) := p0_34
                    have p1_34 : 0 ≤ z_34 ∧ z_34 ≤ 255 := p1_34
                    have p2_34 : 0 < z_34 → y10_28 < (v 3) := p2_34
                    have hz_34 : inR z_34 := (by first | omega | (rw [p0_34]; split <;> omega))
                    refine gi_i2l hx hb (by omega) dX11_next_154 ?_
                    refine gl_add (z := (((d0_28 0) * 32) + z_34)) hx hb dX11_next_155 rfl ?_
                    refine lv_ldc2 (v := iL 96) hx hb C.2.2.2.1 (C.2.2.1 _ (show Cond.constantLong RX11 178 (iL 96) ∈ gWs from mD_X11_178)) dX11_next_156 ?_
                    refine gl_sub (z := ((((d0_28 0) * 32) + z_34) - 96)) hx hb dX11_next_159 rfl ?_
                    refine lv_goto (tgt := 166) hx hb dX11_next_160 (by decide) ?_
                    refine mdP_word (g1 := (va_up g 0 (fun _ => ((((d0_28 0) * 32) + z_34) - 96)))) C hP hD hS mF_X11_172 rfl dX11_next_166 (fun H locs hP hS => ?_)
                    refine lv_aload_n hx hb dX11_next_169 rfl (lv_at hl 0 rfl) ?_
                    refine lv_dup hx hb dX11_next_170 rfl ?_
                    refine mdG_behind C hP mF_X11_155 dX11_next_171 ?_
                    show W p l e (gRm 1 21) s m args below meth c _ _ 0 0 Q (F0 m 174 ls [.int (iI y10_28), .ref (ad 0)])
                    refine lv_iconst (v := iI 1) hx hb dX11_next_174 rfl ?_
                    refine gi_add (z := (y10_28 + 1)) hx hb dX11_next_175 rfl ?_
                    refine mdP_behind (v1 := (va_up (va_up (va_up (va_up v 8 1) 9 y9_3) 10 (y10_28 + 1)) 11 (v 11))) C hP hD hS mF_X11_155 (by omega) rfl (Or.inr (gR_up (V := mdV) (F := mdF) (gR_up (V := mdV) (F := mdF) (gR_up (V := mdV) (F := mdF) (gR_up (V := mdV) (F := mdF) ⟨hok.1, hok.2⟩ 8 (hP.2.1 8)) 9 (hP.2.1 9)) 10 (show 0 ≤ (y10_28 + 1) ∧ (y10_28 + 1) ≤ 700 from by omega)) 11 (hP.2.1 11))) dX11_next_176 (fun H locs hP hS => ?_)
                    refine lv_goto (tgt := 109) hx hb dX11_next_179 (by decide) ?_
                    exact ih_109 (y10_28 + 1) (fun _ => ((((d0_28 0) * 32) + z_34) - 96)) _ _ _ (by omega) (by omega) hP hS (lv_sub hl [0, 1] rfl)
            exact L_28 701 y9_3 (fun _ => 0) _ _ _ (by omega) (by omega) hP hS (lv_sub hl [1, 0] rfl)
        · refine lv_aload_n hx hb dX11_next_77 rfl (lv_at hl 0 rfl) ?_
          refine lv_iconst (v := iI 0) hx hb dX11_next_78 rfl ?_
          refine mdP_sort (v1 := (va_up (va_up (va_up (va_up v 8 0) 9 y9_3) 10 y9_3) 11 (v 11))) C hP hD hS mF_X11_165 (by decide) rfl (Or.inr (gR_up (V := mdV) (F := mdF) (gR_up (V := mdV) (F := mdF) (gR_up (V := mdV) (F := mdF) (gR_up (V := mdV) (F := mdF) ⟨hok.1, hok.2⟩ 8 (show 0 ≤ 0 ∧ 0 ≤ 4 from by decide)) 9 (hP.2.1 9)) 10 (hP.2.1 10)) 11 (hP.2.1 11))) dX11_next_79 (fun H locs hP hS => ?_)
          exact g_vret hQ C hr hlocks hP hS dX11_next_82 ⟨0, y9_3, y9_3, (v 11), (g 0), rfl, rfl, rfl, rfl, (by first | omega | (split <;> omega)), (by first | omega | (split <;> omega))⟩
      · refine lv_aload_n hx hb dX11_next_19 rfl (lv_at hl 0 rfl) ?_
        refine lv_aload_n hx hb dX11_next_20 rfl (lv_at hl 0 rfl) ?_
        refine mdG_at C hP mF_X11_158 dX11_next_21 ?_
        show W p l e (gRm 1 21) s m args below meth c _ _ 0 0 Q (F0 m 24 ls [.int (iI y9_3), .ref (ad 0)])
        refine g_cv (As := [.int (iI y9_3)]) (rest := []) (n := 1) C hml (m_X11_look l D k A ad hD (va_up (va_up (va_up (va_up v 8 (v 8)) 9 y9_3) 10 (v 10)) 11 (v 11)) f (va_up g 0 (g 0)) y9_3 (by omega) (show 0 ≤ y9_3 from by omega)) mM_X11_161 mI_X11_look mE_X11_look mN_X11 mC_X11_look (by decide +kernel) 0 (ci := 11) rfl rfl hP hS (fun _ h => h) ⟨Nat.le_of_ble_eq_true rfl, Nat.le_of_ble_eq_true rfl⟩ ⟨Nat.zero_le _, Nat.zero_le _⟩ hl.1 rfl rfl (Nat.le_of_ble_eq_true rfl) dX11_next_24 (fun r_35 v_35 f_35 g_35 H locs hq_35 hP _ hS => ?_)
        obtain ⟨z_35, rfl, rfl, rfl, rfl, p0_35, p1_35, p2_35⟩ := hq_35
        show W p l e (gRm 1 21) s m args below meth c _ _ 0 0 Q (F0 m 27 ls [.int (iI z_35)])
        have p0_35 : z_35 = (if y9_3 < (v 3) then (f 0) y9_3 % 256 else 0) := p0_35
        have p1_35 : 0 ≤ z_35 ∧ z_35 ≤ 255 := p1_35
        have p2_35 : 0 < z_35 → y9_3 < (v 3) := p2_35
        have hz_35 : inR z_35 := (by first | omega | (rw [p0_35]; split <;> omega))
        refine lv_bipush (v := iI 10) hx hb dX11_next_27 (by decide) ?_
        refine gi_ceq (tgt := 45) hx hb dX11_next_29 (by decide) (by omega) (by decide) (fun c_36 => ?_) (fun c_36 => ?_)
        · refine lv_aload_n hx hb dX11_next_45 rfl (lv_at hl 0 rfl) ?_
          refine lv_dup hx hb dX11_next_46 rfl ?_
          refine mdG_at C hP mF_X11_158 dX11_next_47 ?_
          show W p l e (gRm 1 21) s m args below meth c _ _ 0 0 Q (F0 m 50 ls [.int (iI y9_3), .ref (ad 0)])
          refine lv_iconst (v := iI 1) hx hb dX11_next_50 rfl ?_
          refine gi_add (z := (y9_3 + 1)) hx hb dX11_next_51 rfl ?_
          refine mdP_at (v1 := (va_up (va_up (va_up (va_up v 8 (v 8)) 9 (y9_3 + 1)) 10 (v 10)) 11 (v 11))) C hP hD hS mF_X11_158 (by omega) rfl (Or.inr (gR_up (V := mdV) (F := mdF) (gR_up (V := mdV) (F := mdF) (gR_up (V := mdV) (F := mdF) (gR_up (V := mdV) (F := mdF) ⟨hok.1, hok.2⟩ 8 (hP.2.1 8)) 9 (show 0 ≤ (y9_3 + 1) ∧ (y9_3 + 1) ≤ 700 from by omega)) 10 (hP.2.1 10)) 11 (hP.2.1 11))) dX11_next_52 (fun H locs hP hS => ?_)
          refine lv_goto (tgt := 8) hx hb dX11_next_55 (by decide) ?_
          exact ih_8 (y9_3 + 1) _ _ _ (by omega) (by omega) hP hS (lv_sub hl [0] rfl)
        · refine lv_aload_n hx hb dX11_next_32 rfl (lv_at hl 0 rfl) ?_
          refine lv_aload_n hx hb dX11_next_33 rfl (lv_at hl 0 rfl) ?_
          refine mdG_at C hP mF_X11_158 dX11_next_34 ?_
          show W p l e (gRm 1 21) s m args below meth c _ _ 0 0 Q (F0 m 37 ls [.int (iI y9_3), .ref (ad 0)])
          refine g_cv (As := [.int (iI y9_3)]) (rest := []) (n := 1) C hml (m_X11_look l D k A ad hD (va_up (va_up (va_up (va_up v 8 (v 8)) 9 y9_3) 10 (v 10)) 11 (v 11)) f (va_up g 0 (g 0)) y9_3 (by omega) (show 0 ≤ y9_3 from by omega)) mM_X11_161 mI_X11_look mE_X11_look mN_X11 mC_X11_look (by decide +kernel) 0 (ci := 11) rfl rfl hP hS (fun _ h => h) ⟨Nat.le_of_ble_eq_true rfl, Nat.le_of_ble_eq_true rfl⟩ ⟨Nat.zero_le _, Nat.zero_le _⟩ hl.1 rfl rfl (Nat.le_of_ble_eq_true rfl) dX11_next_37 (fun r_37 v_37 f_37 g_37 H locs hq_37 hP _ hS => ?_)
          obtain ⟨z_37, rfl, rfl, rfl, rfl, p0_37, p1_37, p2_37⟩ := hq_37
          show W p l e (gRm 1 21) s m args below meth c _ _ 0 0 Q (F0 m 40 ls [.int (iI z_37)])
          have p0_37 : z_37 = (if y9_3 < (v 3) then (f 0) y9_3 % 256 else 0) := p0_37
          have p1_37 : 0 ≤ z_37 ∧ z_37 ≤ 255 := p1_37
          have p2_37 : 0 < z_37 → y9_3 < (v 3) := p2_37
          have hz_37 : inR z_37 := (by first | omega | (rw [p0_37]; split <;> omega))
          refine lv_bipush (v := iI 32) hx hb dX11_next_40 (by decide) ?_
          refine gi_cne (tgt := 58) hx hb dX11_next_42 (by decide) (by omega) (by decide) (fun c_38 => ?_) (fun c_38 => ?_)
          · refine lv_aload_n hx hb dX11_next_58 rfl (lv_at hl 0 rfl) ?_
            refine lv_aload_n hx hb dX11_next_59 rfl (lv_at hl 0 rfl) ?_
            refine mdG_at C hP mF_X11_158 dX11_next_60 ?_
            show W p l e (gRm 1 21) s m args below meth c _ _ 0 0 Q (F0 m 63 ls [.int (iI y9_3), .ref (ad 0)])
            refine mdP_behind (v1 := (va_up (va_up (va_up (va_up v 8 (v 8)) 9 y9_3) 10 y9_3) 11 (v 11))) C hP hD hS mF_X11_155 (by omega) rfl (Or.inr (gR_up (V := mdV) (F := mdF) (gR_up (V := mdV) (F := mdF) (gR_up (V := mdV) (F := mdF) (gR_up (V := mdV) (F := mdF) ⟨hok.1, hok.2⟩ 8 (hP.2.1 8)) 9 (hP.2.1 9)) 10 (show 0 ≤ y9_3 ∧ y9_3 ≤ 700 from by omega)) 11 (hP.2.1 11))) dX11_next_63 (fun H locs hP hS => ?_)
            refine lv_aload_n hx hb dX11_next_66 rfl (lv_at hl 0 rfl) ?_
            refine mdG_at C hP mF_X11_158 dX11_next_67 ?_
            show W p l e (gRm 1 21) s m args below meth c _ _ 0 0 Q (F0 m 70 ls [.int (iI y9_3)])
            refine lv_aload_n hx hb dX11_next_70 rfl (lv_at hl 0 rfl) ?_
            refine mdG_end C hP mF_X11_152 dX11_next_71 ?_
            show W p l e (gRm 1 21) s m args below meth c _ _ 0 0 Q (F0 m 74 ls [.int (iI (v 3)), .int (iI y9_3)])
            refine gi_clt (tgt := 83) hx hb dX11_next_74 (by decide) (by omega) (by omega) (fun c_39 => ?_) (fun c_39 => ?_)
            · refine lv_aload_n hx hb dX11_next_83 rfl (lv_at hl 0 rfl) ?_
              refine lv_aload_n hx hb dX11_next_84 rfl (lv_at hl 0 rfl) ?_
              refine mdG_at C hP mF_X11_158 dX11_next_85 ?_
              show W p l e (gRm 1 21) s m args below meth c _ _ 0 0 Q (F0 m 88 ls [.int (iI y9_3), .ref (ad 0)])
              refine g_cv (As := [.int (iI y9_3)]) (rest := []) (n := 1) C hml (m_X11_look l D k A ad hD (va_up (va_up (va_up (va_up v 8 (v 8)) 9 y9_3) 10 y9_3) 11 (v 11)) f (va_up g 0 (g 0)) y9_3 (by omega) (show 0 ≤ y9_3 from by omega)) mM_X11_161 mI_X11_look mE_X11_look mN_X11 mC_X11_look (by decide +kernel) 0 (ci := 11) rfl rfl hP hS (fun _ h => h) ⟨Nat.le_of_ble_eq_true rfl, Nat.le_of_ble_eq_true rfl⟩ ⟨Nat.zero_le _, Nat.zero_le _⟩ hl.1 rfl rfl (Nat.le_of_ble_eq_true rfl) dX11_next_88 (fun r_40 v_40 f_40 g_40 H locs hq_40 hP _ hS => ?_)
              obtain ⟨z_40, rfl, rfl, rfl, rfl, p0_40, p1_40, p2_40⟩ := hq_40
              show W p l e (gRm 1 21) s m args below meth c _ _ 0 0 Q (F0 m 91 ls [.int (iI z_40)])
              have p0_40 : z_40 = (if y9_3 < (v 3) then (f 0) y9_3 % 256 else 0) := p0_40
              have p1_40 : 0 ≤ z_40 ∧ z_40 ≤ 255 := p1_40
              have p2_40 : 0 < z_40 → y9_3 < (v 3) := p2_40
              have hz_40 : inR z_40 := (by first | omega | (rw [p0_40]; split <;> omega))
              refine lv_istore_n (lv' := [(1, .int (iI z_40)), (0, .ref (ad 0))]) hx hb dX11_next_91 rfl hl (by decide) rfl (fun ls hl => ?_)
              have hc1 : z_40 = (if y9_3 < (v 3) then (f 0) y9_3 % 256 else 0) := by assumption
              refine lv_iload_n hx hb dX11_next_92 rfl (lv_at hl 0 rfl) ?_
              refine g_cs (As := [.int (iI z_40)]) (rest := []) (n := 1) C hml (m_X11_isLetter l D k A ad hD (va_up (va_up (va_up (va_up v 8 (v 8)) 9 y9_3) 10 y9_3) 11 (v 11)) f (va_up g 0 (g 0)) z_40 (by omega)) mM_X11_168 mS_X11_isLetter mN_X11 mC_X11_isLetter (by decide +kernel) hP hS (fun _ h => h) ⟨Nat.le_of_ble_eq_true rfl, Nat.le_of_ble_eq_true rfl⟩ ⟨Nat.zero_le _, Nat.zero_le _⟩ hl.1 rfl rfl (Nat.le_of_ble_eq_true rfl) dX11_next_93 (fun r_41 v_41 f_41 g_41 H locs hq_41 hP _ hS => ?_)
              obtain ⟨z_41, rfl, rfl, rfl, rfl, p0_41⟩ := hq_41
              show W p l e (gRm 1 21) s m args below meth c _ _ 0 0 Q (F0 m 96 ls [.int (iI z_41)])
              have p0_41 : z_41 = (if 97 ≤ z_40 ∧ z_40 ≤ 122 then 1 else 0) := p0_41
              have w_41 := gif (P := 97 ≤ z_40 ∧ z_40 ≤ 122) p0_41
              have hz_41 : inR z_41 := (by first | omega | (rw [p0_41]; split <;> omega))
              refine gi_zeq (tgt := 182) hx hb dX11_next_96 (by decide) (by omega) (fun c_42 => ?_) (fun c_42 => ?_)
              · refine lv_iload_n hx hb dX11_next_182 rfl (lv_at hl 0 rfl) ?_
                refine g_cs (As := [.int (iI z_40)]) (rest := []) (n := 1) C hml (m_X11_isDigit l D k A ad hD (va_up (va_up (va_up (va_up v 8 (v 8)) 9 y9_3) 10 y9_3) 11 (v 11)) f (va_up g 0 (g 0)) z_40 (by omega)) mM_X11_182 mS_X11_isDigit mN_X11 mC_X11_isDigit (by decide +kernel) hP hS (fun _ h => h) ⟨Nat.le_of_ble_eq_true rfl, Nat.le_of_ble_eq_true rfl⟩ ⟨Nat.zero_le _, Nat.zero_le _⟩ hl.1 rfl rfl (Nat.le_of_ble_eq_true rfl) dX11_next_183 (fun r_43 v_43 f_43 g_43 H locs hq_43 hP _ hS => ?_)
                obtain ⟨z_43, rfl, rfl, rfl, rfl, p0_43⟩ := hq_43
                show W p l e (gRm 1 21) s m args below meth c _ _ 0 0 Q (F0 m 186 ls [.int (iI z_43)])
                have p0_43 : z_43 = (if 48 ≤ z_40 ∧ z_40 ≤ 57 then 1 else 0) := p0_43
                have w_43 := gif (P := 48 ≤ z_40 ∧ z_40 ≤ 57) p0_43
                have hz_43 : inR z_43 := (by first | omega | (rw [p0_43]; split <;> omega))
                refine gi_zeq (tgt := 284) hx hb dX11_next_186 (by decide) (by omega) (fun c_44 => ?_) (fun c_44 => ?_)
                · refine lv_aload_n hx hb dX11_next_284 rfl (lv_at hl 1 rfl) ?_
                  refine lv_aload_n hx hb dX11_next_285 rfl (lv_at hl 1 rfl) ?_
                  refine mdG_at C hP mF_X11_158 dX11_next_286 ?_
                  show W p l e (gRm 1 21) s m args below meth c _ _ 0 0 Q (F0 m 289 ls [.int (iI y9_3), .ref (ad 0)])
                  refine lv_iconst (v := iI 1) hx hb dX11_next_289 rfl ?_
                  refine gi_add (z := (y9_3 + 1)) hx hb dX11_next_290 rfl ?_
                  refine mdP_behind (v1 := (va_up (va_up (va_up (va_up v 8 (v 8)) 9 y9_3) 10 (y9_3 + 1)) 11 (v 11))) C hP hD hS mF_X11_155 (by omega) rfl (Or.inr (gR_up (V := mdV) (F := mdF) (gR_up (V := mdV) (F := mdF) (gR_up (V := mdV) (F := mdF) (gR_up (V := mdV) (F := mdF) ⟨hok.1, hok.2⟩ 8 (hP.2.1 8)) 9 (hP.2.1 9)) 10 (show 0 ≤ (y9_3 + 1) ∧ (y9_3 + 1) ≤ 700 from by omega)) 11 (hP.2.1 11))) dX11_next_291 (fun H locs hP hS => ?_)
                  refine lv_aload_n hx hb dX11_next_294 rfl (lv_at hl 1 rfl) ?_
                  refine lv_iload_n hx hb dX11_next_295 rfl (lv_at hl 0 rfl) ?_
                  refine mdP_number (v1 := (va_up (va_up (va_up (va_up v 8 (v 8)) 9 y9_3) 10 (y9_3 + 1)) 11 z_40)) C hP hD hS mF_X11_185 (by omega) rfl (Or.inr (gR_up (V := mdV) (F := mdF) (gR_up (V := mdV) (F := mdF) (gR_up (V := mdV) (F := mdF) (gR_up (V := mdV) (F := mdF) ⟨hok.1, hok.2⟩ 8 (hP.2.1 8)) 9 (hP.2.1 9)) 10 (hP.2.1 10)) 11 (show 0 ≤ z_40 ∧ z_40 ≤ 999999 from by omega))) dX11_next_296 (fun H locs hP hS => ?_)
                  refine lv_aload_n hx hb dX11_next_299 rfl (lv_at hl 1 rfl) ?_
                  refine lv_iload_n hx hb dX11_next_300 rfl (lv_at hl 0 rfl) ?_
                  refine lv_bipush (v := iI 43) hx hb dX11_next_301 (by decide) ?_
                  refine gi_ceq (tgt := 342) hx hb dX11_next_303 (by decide) (by omega) (by decide) (fun c_45 => ?_) (fun c_45 => ?_)
                  · refine lv_iconst (v := iI 3) hx hb dX11_next_342 rfl ?_
                    refine lv_goto (tgt := 347) hx hb dX11_next_343 (by decide) ?_
                    refine mdP_sort (v1 := (va_up (va_up (va_up (va_up v 8 3) 9 y9_3) 10 (y9_3 + 1)) 11 z_40)) C hP hD hS mF_X11_165 (by decide) rfl (Or.inr (gR_up (V := mdV) (F := mdF) (gR_up (V := mdV) (F := mdF) (gR_up (V := mdV) (F := mdF) (gR_up (V := mdV) (F := mdF) ⟨hok.1, hok.2⟩ 8 (show 0 ≤ 3 ∧ 3 ≤ 4 from by decide)) 9 (hP.2.1 9)) 10 (hP.2.1 10)) 11 (hP.2.1 11))) dX11_next_347 (fun H locs hP hS => ?_)
                    exact g_vret hQ C hr hlocks hP hS dX11_next_350 ⟨3, y9_3, (y9_3 + 1), z_40, (g 0), rfl, rfl, rfl, rfl, (by first | omega | (split <;> omega)), (by first | omega | (split <;> omega))⟩
                  · refine lv_iload_n hx hb dX11_next_306 rfl (lv_at hl 0 rfl) ?_
                    refine lv_bipush (v := iI 45) hx hb dX11_next_307 (by decide) ?_
                    refine gi_ceq (tgt := 342) hx hb dX11_next_309 (by decide) (by omega) (by decide) (fun c_46 => ?_) (fun c_46 => ?_)
                    · refine lv_iconst (v := iI 3) hx hb dX11_next_342 rfl ?_
                      refine lv_goto (tgt := 347) hx hb dX11_next_343 (by decide) ?_
                      refine mdP_sort (v1 := (va_up (va_up (va_up (va_up v 8 3) 9 y9_3) 10 (y9_3 + 1)) 11 z_40)) C hP hD hS mF_X11_165 (by decide) rfl (Or.inr (gR_up (V := mdV) (F := mdF) (gR_up (V := mdV) (F := mdF) (gR_up (V := mdV) (F := mdF) (gR_up (V := mdV) (F := mdF) ⟨hok.1, hok.2⟩ 8 (show 0 ≤ 3 ∧ 3 ≤ 4 from by decide)) 9 (hP.2.1 9)) 10 (hP.2.1 10)) 11 (hP.2.1 11))) dX11_next_347 (fun H locs hP hS => ?_)
                      exact g_vret hQ C hr hlocks hP hS dX11_next_350 ⟨3, y9_3, (y9_3 + 1), z_40, (g 0), rfl, rfl, rfl, rfl, (by first | omega | (split <;> omega)), (by first | omega | (split <;> omega))⟩
                    · refine lv_iload_n hx hb dX11_next_312 rfl (lv_at hl 0 rfl) ?_
                      refine lv_bipush (v := iI 42) hx hb dX11_next_313 (by decide) ?_
                      refine gi_ceq (tgt := 342) hx hb dX11_next_315 (by decide) (by omega) (by decide) (fun c_47 => ?_) (fun c_47 => ?_)
                      · refine lv_iconst (v := iI 3) hx hb dX11_next_342 rfl ?_
                        refine lv_goto (tgt := 347) hx hb dX11_next_343 (by decide) ?_
                        refine mdP_sort (v1 := (va_up (va_up (va_up (va_up v 8 3) 9 y9_3) 10 (y9_3 + 1)) 11 z_40)) C hP hD hS mF_X11_165 (by decide) rfl (Or.inr (gR_up (V := mdV) (F := mdF) (gR_up (V := mdV) (F := mdF) (gR_up (V := mdV) (F := mdF) (gR_up (V := mdV) (F := mdF) ⟨hok.1, hok.2⟩ 8 (show 0 ≤ 3 ∧ 3 ≤ 4 from by decide)) 9 (hP.2.1 9)) 10 (hP.2.1 10)) 11 (hP.2.1 11))) dX11_next_347 (fun H locs hP hS => ?_)
                        exact g_vret hQ C hr hlocks hP hS dX11_next_350 ⟨3, y9_3, (y9_3 + 1), z_40, (g 0), rfl, rfl, rfl, rfl, (by first | omega | (split <;> omega)), (by first | omega | (split <;> omega))⟩
                      · refine lv_iload_n hx hb dX11_next_318 rfl (lv_at hl 0 rfl) ?_
                        refine lv_bipush (v := iI 40) hx hb dX11_next_319 (by decide) ?_
                        refine gi_ceq (tgt := 342) hx hb dX11_next_321 (by decide) (by omega) (by decide) (fun c_48 => ?_) (fun c_48 => ?_)
                        · refine lv_iconst (v := iI 3) hx hb dX11_next_342 rfl ?_
                          refine lv_goto (tgt := 347) hx hb dX11_next_343 (by decide) ?_
                          refine mdP_sort (v1 := (va_up (va_up (va_up (va_up v 8 3) 9 y9_3) 10 (y9_3 + 1)) 11 z_40)) C hP hD hS mF_X11_165 (by decide) rfl (Or.inr (gR_up (V := mdV) (F := mdF) (gR_up (V := mdV) (F := mdF) (gR_up (V := mdV) (F := mdF) (gR_up (V := mdV) (F := mdF) ⟨hok.1, hok.2⟩ 8 (show 0 ≤ 3 ∧ 3 ≤ 4 from by decide)) 9 (hP.2.1 9)) 10 (hP.2.1 10)) 11 (hP.2.1 11))) dX11_next_347 (fun H locs hP hS => ?_)
                          exact g_vret hQ C hr hlocks hP hS dX11_next_350 ⟨3, y9_3, (y9_3 + 1), z_40, (g 0), rfl, rfl, rfl, rfl, (by first | omega | (split <;> omega)), (by first | omega | (split <;> omega))⟩
                        · refine lv_iload_n hx hb dX11_next_324 rfl (lv_at hl 0 rfl) ?_
                          refine lv_bipush (v := iI 41) hx hb dX11_next_325 (by decide) ?_
                          refine gi_ceq (tgt := 342) hx hb dX11_next_327 (by decide) (by omega) (by decide) (fun c_49 => ?_) (fun c_49 => ?_)
                          · refine lv_iconst (v := iI 3) hx hb dX11_next_342 rfl ?_
                            refine lv_goto (tgt := 347) hx hb dX11_next_343 (by decide) ?_
                            refine mdP_sort (v1 := (va_up (va_up (va_up (va_up v 8 3) 9 y9_3) 10 (y9_3 + 1)) 11 z_40)) C hP hD hS mF_X11_165 (by decide) rfl (Or.inr (gR_up (V := mdV) (F := mdF) (gR_up (V := mdV) (F := mdF) (gR_up (V := mdV) (F := mdF) (gR_up (V := mdV) (F := mdF) ⟨hok.1, hok.2⟩ 8 (show 0 ≤ 3 ∧ 3 ≤ 4 from by decide)) 9 (hP.2.1 9)) 10 (hP.2.1 10)) 11 (hP.2.1 11))) dX11_next_347 (fun H locs hP hS => ?_)
                            exact g_vret hQ C hr hlocks hP hS dX11_next_350 ⟨3, y9_3, (y9_3 + 1), z_40, (g 0), rfl, rfl, rfl, rfl, (by first | omega | (split <;> omega)), (by first | omega | (split <;> omega))⟩
                          · refine lv_iload_n hx hb dX11_next_330 rfl (lv_at hl 0 rfl) ?_
                            refine lv_bipush (v := iI 44) hx hb dX11_next_331 (by decide) ?_
                            refine gi_ceq (tgt := 342) hx hb dX11_next_333 (by decide) (by omega) (by decide) (fun c_50 => ?_) (fun c_50 => ?_)
                            · refine lv_iconst (v := iI 3) hx hb dX11_next_342 rfl ?_
                              refine lv_goto (tgt := 347) hx hb dX11_next_343 (by decide) ?_
                              refine mdP_sort (v1 := (va_up (va_up (va_up (va_up v 8 3) 9 y9_3) 10 (y9_3 + 1)) 11 z_40)) C hP hD hS mF_X11_165 (by decide) rfl (Or.inr (gR_up (V := mdV) (F := mdF) (gR_up (V := mdV) (F := mdF) (gR_up (V := mdV) (F := mdF) (gR_up (V := mdV) (F := mdF) ⟨hok.1, hok.2⟩ 8 (show 0 ≤ 3 ∧ 3 ≤ 4 from by decide)) 9 (hP.2.1 9)) 10 (hP.2.1 10)) 11 (hP.2.1 11))) dX11_next_347 (fun H locs hP hS => ?_)
                              exact g_vret hQ C hr hlocks hP hS dX11_next_350 ⟨3, y9_3, (y9_3 + 1), z_40, (g 0), rfl, rfl, rfl, rfl, (by first | omega | (split <;> omega)), (by first | omega | (split <;> omega))⟩
                            · refine lv_iload_n hx hb dX11_next_336 rfl (lv_at hl 0 rfl) ?_
                              refine lv_bipush (v := iI 59) hx hb dX11_next_337 (by decide) ?_
                              refine gi_cne (tgt := 346) hx hb dX11_next_339 (by decide) (by omega) (by decide) (fun c_51 => ?_) (fun c_51 => ?_)
                              · refine lv_iconst (v := iI 4) hx hb dX11_next_346 rfl ?_
                                refine mdP_sort (v1 := (va_up (va_up (va_up (va_up v 8 4) 9 y9_3) 10 (y9_3 + 1)) 11 z_40)) C hP hD hS mF_X11_165 (by decide) rfl (Or.inr (gR_up (V := mdV) (F := mdF) (gR_up (V := mdV) (F := mdF) (gR_up (V := mdV) (F := mdF) (gR_up (V := mdV) (F := mdF) ⟨hok.1, hok.2⟩ 8 (show 0 ≤ 4 ∧ 4 ≤ 4 from by decide)) 9 (hP.2.1 9)) 10 (hP.2.1 10)) 11 (hP.2.1 11))) dX11_next_347 (fun H locs hP hS => ?_)
                                exact g_vret hQ C hr hlocks hP hS dX11_next_350 ⟨4, y9_3, (y9_3 + 1), z_40, (g 0), rfl, rfl, rfl, rfl, (by first | omega | (split <;> omega)), (by first | omega | (split <;> omega))⟩
                              · refine lv_iconst (v := iI 3) hx hb dX11_next_342 rfl ?_
                                refine lv_goto (tgt := 347) hx hb dX11_next_343 (by decide) ?_
                                refine mdP_sort (v1 := (va_up (va_up (va_up (va_up v 8 3) 9 y9_3) 10 (y9_3 + 1)) 11 z_40)) C hP hD hS mF_X11_165 (by decide) rfl (Or.inr (gR_up (V := mdV) (F := mdF) (gR_up (V := mdV) (F := mdF) (gR_up (V := mdV) (F := mdF) (gR_up (V := mdV) (F := mdF) ⟨hok.1, hok.2⟩ 8 (show 0 ≤ 3 ∧ 3 ≤ 4 from by decide)) 9 (hP.2.1 9)) 10 (hP.2.1 10)) 11 (hP.2.1 11))) dX11_next_347 (fun H locs hP hS => ?_)
                                exact g_vret hQ C hr hlocks hP hS dX11_next_350 ⟨3, y9_3, (y9_3 + 1), z_40, (g 0), rfl, rfl, rfl, rfl, (by first | omega | (split <;> omega)), (by first | omega | (split <;> omega))⟩
                · refine lv_aload_n hx hb dX11_next_189 rfl (lv_at hl 1 rfl) ?_
                  refine lv_iconst (v := iI 0) hx hb dX11_next_190 rfl ?_
                  refine mdP_number (v1 := (va_up (va_up (va_up (va_up v 8 (v 8)) 9 y9_3) 10 y9_3) 11 0)) C hP hD hS mF_X11_185 (by decide) rfl (Or.inr (gR_up (V := mdV) (F := mdF) (gR_up (V := mdV) (F := mdF) (gR_up (V := mdV) (F := mdF) (gR_up (V := mdV) (F := mdF) ⟨hok.1, hok.2⟩ 8 (hP.2.1 8)) 9 (hP.2.1 9)) 10 (hP.2.1 10)) 11 (show 0 ≤ 0 ∧ 0 ≤ 999999 from by decide))) dX11_next_191 (fun H locs hP hS => ?_)
                  have L_52 : ∀ (n : Nat) (y10_52 : Int) (y11_52 : Int) (H : Heap) (locs : List Loc) (ls : Array Slot), (v 3) - y10_52 < (n : Int) → (y9_3 ≤ y10_52 ∧ y10_52 ≤ (v 3)) → (((y11_52 = 0 ∧ y10_52 = y9_3) ∨ (y11_52 ≤ 9 ∧ y10_52 = y9_3 + 1) ∨ (y11_52 ≤ 99 ∧ y10_52 = y9_3 + 2) ∨ (y11_52 ≤ 999 ∧ y10_52 = y9_3 + 3) ∨ (y11_52 ≤ 9999 ∧ y10_52 = y9_3 + 4) ∨ (y11_52 ≤ 99999 ∧ y10_52 = y9_3 + 5) ∨ (y11_52 ≤ 999999 ∧ y9_3 + 6 ≤ y10_52))) → gWd D (mdT k ad) (va_up (va_up (va_up (va_up v 8 (v 8)) 9 y9_3) 10 y10_52) 11 y11_52) f (va_up g 0 (g 0)) H → va_S A s.heap H locs → lv_has ls 2 [(0, .ref (ad 0)), (1, .int (iI z_40))] → W p l e (gRm 1 21) s m args below meth c H locs 0 0 Q (F0 m 194 ls []) := by
                    intro n
                    induction n with
                    | zero =>
                      intro y10_52 y11_52 H locs ls hn_52 i52_0 i52_1 hP hS hl
                      have ry10_52 : 0 ≤ y10_52 ∧ y10_52 ≤ 700 := hP.2.1 10
                      have ry11_52 : 0 ≤ y11_52 ∧ y11_52 ≤ 999999 := hP.2.1 11
                      exfalso; omega
                    | succ n ih_194 =>
                      intro y10_52 y11_52 H locs ls hn_52 i52_0 i52_1 hP hS hl
                      have ry10_52 : 0 ≤ y10_52 ∧ y10_52 ≤ 700 := hP.2.1 10
                      have ry11_52 : 0 ≤ y11_52 ∧ y11_52 ≤ 999999 := hP.2.1 11
                      refine lv_aload_n hx hb dX11_next_194 rfl (lv_at hl 0 rfl) ?_
                      refine lv_aload_n hx hb dX11_next_195 rfl (lv_at hl 0 rfl) ?_
                      refine mdG_behind C hP mF_X11_155 dX11_next_196 ?_
                      show W p l e (gRm 1 21) s m args below meth c _ _ 0 0 Q (F0 m 199 ls [.int (iI y10_52), .ref (ad 0)])
                      have r_53 : 0 ≤ y10_52 ∧ y10_52 ≤ 700 := hP.2.1 10
                      refine g_cv (As := [.int (iI y10_52)]) (rest := []) (n := 1) C hml (m_X11_look l D k A ad hD (va_up (va_up (va_up (va_up v 8 (v 8)) 9 y9_3) 10 y10_52) 11 y11_52) f (va_up g 0 (g 0)) y10_52 (by omega) (show 0 ≤ y10_52 from by omega)) mM_X11_161 mI_X11_look mE_X11_look mN_X11 mC_X11_look (by decide +kernel) 0 (ci := 11) rfl rfl hP hS (fun _ h => h) ⟨Nat.le_of_ble_eq_true rfl, Nat.le_of_ble_eq_true rfl⟩ ⟨Nat.zero_le _, Nat.zero_le _⟩ hl.1 rfl rfl (Nat.le_of_ble_eq_true rfl) dX11_next_199 (fun r_54 v_54 f_54 g_54 H locs hq_54 hP _ hS => ?_)
                      obtain ⟨z_54, rfl, rfl, rfl, rfl, p0_54, p1_54, p2_54⟩ := hq_54
                      show W p l e (gRm 1 21) s m args below meth c _ _ 0 0 Q (F0 m 202 ls [.int (iI z_54)])
                      have p0_54 : z_54 = (if y10_52 < (v 3) then (f 0) y10_52 % 256 else 0) := p0_54
                      have p1_54 : 0 ≤ z_54 ∧ z_54 ≤ 255 := p1_54
                      have p2_54 : 0 < z_54 → y10_52 < (v 3) := p2_54
                      have hz_54 : inR z_54 := (by first | omega | (rw [p0_54]; split <;> omega))
                      have qq_54 : y10_52 = y9_3 → z_54 = z_40 := fun h => by rw [p0_54, hc1, h]
                      refine g_cs (As := [.int (iI z_54)]) (rest := []) (n := 1) C hml (m_X11_isDigit l D k A ad hD (va_up (va_up (va_up (va_up v 8 (v 8)) 9 y9_3) 10 y10_52) 11 y11_52) f (va_up g 0 (g 0)) z_54 (by omega)) mM_X11_182 mS_X11_isDigit mN_X11 mC_X11_isDigit (by decide +kernel) hP hS (fun _ h => h) ⟨Nat.le_of_ble_eq_true rfl, Nat.le_of_ble_eq_true rfl⟩ ⟨Nat.zero_le _, Nat.zero_le _⟩ hl.1 rfl rfl (Nat.le_of_ble_eq_true rfl) dX11_next_202 (fun r_55 v_55 f_55 g_55 H locs hq_55 hP _ hS => ?_)
                      obtain ⟨z_55, rfl, rfl, rfl, rfl, p0_55⟩ := hq_55
                      show W p l e (gRm 1 21) s m args below meth c _ _ 0 0 Q (F0 m 205 ls [.int (iI z_55)])
                      have p0_55 : z_55 = (if 48 ≤ z_54 ∧ z_54 ≤ 57 then 1 else 0) := p0_55
                      have w_55 := gif (P := 48 ≤ z_54 ∧ z_54 ≤ 57) p0_55
                      have hz_55 : inR z_55 := (by first | omega | (rw [p0_55]; split <;> omega))
                      refine gi_zeq (tgt := 258) hx hb dX11_next_205 (by decide) (by omega) (fun c_56 => ?_) (fun c_56 => ?_)
                      · refine lv_aload_n hx hb dX11_next_258 rfl (lv_at hl 0 rfl) ?_
                        refine lv_aload_n hx hb dX11_next_259 rfl (lv_at hl 0 rfl) ?_
                        refine mdG_behind C hP mF_X11_155 dX11_next_260 ?_
                        show W p l e (gRm 1 21) s m args below meth c _ _ 0 0 Q (F0 m 263 ls [.int (iI y10_52), .ref (ad 0)])
                        refine lv_aload_n hx hb dX11_next_263 rfl (lv_at hl 0 rfl) ?_
                        refine mdG_at C hP mF_X11_158 dX11_next_264 ?_
                        show W p l e (gRm 1 21) s m args below meth c _ _ 0 0 Q (F0 m 267 ls [.int (iI y9_3), .int (iI y10_52), .ref (ad 0)])
                        refine gi_sub (z := (y10_52 - y9_3)) hx hb dX11_next_267 rfl ?_
                        refine lv_bipush (v := iI 6) hx hb dX11_next_268 (by decide) ?_
                        refine gi_cle (tgt := 277) hx hb dX11_next_270 (by decide) (by omega) (by decide) (fun c_57 => ?_) (fun c_57 => ?_)
                        · refine lv_iconst (v := iI 2) hx hb dX11_next_277 rfl ?_
                          refine mdP_sort (v1 := (va_up (va_up (va_up (va_up v 8 2) 9 y9_3) 10 y10_52) 11 y11_52)) C hP hD hS mF_X11_165 (by decide) rfl (Or.inr (gR_up (V := mdV) (F := mdF) (gR_up (V := mdV) (F := mdF) (gR_up (V := mdV) (F := mdF) (gR_up (V := mdV) (F := mdF) ⟨hok.1, hok.2⟩ 8 (show 0 ≤ 2 ∧ 2 ≤ 4 from by decide)) 9 (hP.2.1 9)) 10 (hP.2.1 10)) 11 (hP.2.1 11))) dX11_next_278 (fun H locs hP hS => ?_)
                          refine lv_goto (tgt := 350) hx hb dX11_next_281 (by decide) ?_
                          exact g_vret hQ C hr hlocks hP hS dX11_next_350 ⟨2, y9_3, y10_52, y11_52, (g 0), rfl, rfl, rfl, rfl, (by first | omega | (split <;> omega)), (by first | omega | (split <;> omega))⟩
                        · refine lv_iconst (v := iI 4) hx hb dX11_next_273 rfl ?_
                          refine lv_goto (tgt := 278) hx hb dX11_next_274 (by decide) ?_
                          refine mdP_sort (v1 := (va_up (va_up (va_up (va_up v 8 4) 9 y9_3) 10 y10_52) 11 y11_52)) C hP hD hS mF_X11_165 (by decide) rfl (Or.inr (gR_up (V := mdV) (F := mdF) (gR_up (V := mdV) (F := mdF) (gR_up (V := mdV) (F := mdF) (gR_up (V := mdV) (F := mdF) ⟨hok.1, hok.2⟩ 8 (show 0 ≤ 4 ∧ 4 ≤ 4 from by decide)) 9 (hP.2.1 9)) 10 (hP.2.1 10)) 11 (hP.2.1 11))) dX11_next_278 (fun H locs hP hS => ?_)
                          refine lv_goto (tgt := 350) hx hb dX11_next_281 (by decide) ?_
                          exact g_vret hQ C hr hlocks hP hS dX11_next_350 ⟨4, y9_3, y10_52, y11_52, (g 0), rfl, rfl, rfl, rfl, (by first | omega | (split <;> omega)), (by first | omega | (split <;> omega))⟩
                      · refine lv_aload_n hx hb dX11_next_208 rfl (lv_at hl 0 rfl) ?_
                        refine mdG_behind C hP mF_X11_155 dX11_next_209 ?_
                        show W p l e (gRm 1 21) s m args below meth c _ _ 0 0 Q (F0 m 212 ls [.int (iI y10_52)])
                        refine lv_aload_n hx hb dX11_next_212 rfl (lv_at hl 0 rfl) ?_
                        refine mdG_at C hP mF_X11_158 dX11_next_213 ?_
                        show W p l e (gRm 1 21) s m args below meth c _ _ 0 0 Q (F0 m 216 ls [.int (iI y9_3), .int (iI y10_52)])
                        refine gi_sub (z := (y10_52 - y9_3)) hx hb dX11_next_216 rfl ?_
                        refine lv_bipush (v := iI 6) hx hb dX11_next_217 (by decide) ?_
                        refine gi_cge (tgt := 245) hx hb dX11_next_219 (by decide) (by omega) (by decide) (fun c_58 => ?_) (fun c_58 => ?_)
                        · refine lv_aload_n hx hb dX11_next_245 rfl (lv_at hl 0 rfl) ?_
                          refine lv_dup hx hb dX11_next_246 rfl ?_
                          refine mdG_behind C hP mF_X11_155 dX11_next_247 ?_
                          show W p l e (gRm 1 21) s m args below meth c _ _ 0 0 Q (F0 m 250 ls [.int (iI y10_52), .ref (ad 0)])
                          refine lv_iconst (v := iI 1) hx hb dX11_next_250 rfl ?_
                          refine gi_add (z := (y10_52 + 1)) hx hb dX11_next_251 rfl ?_
                          refine mdP_behind (v1 := (va_up (va_up (va_up (va_up v 8 (v 8)) 9 y9_3) 10 (y10_52 + 1)) 11 y11_52)) C hP hD hS mF_X11_155 (by omega) rfl (Or.inr (gR_up (V := mdV) (F := mdF) (gR_up (V := mdV) (F := mdF) (gR_up (V := mdV) (F := mdF) (gR_up (V := mdV) (F := mdF) ⟨hok.1, hok.2⟩ 8 (hP.2.1 8)) 9 (hP.2.1 9)) 10 (show 0 ≤ (y10_52 + 1) ∧ (y10_52 + 1) ≤ 700 from by omega)) 11 (hP.2.1 11))) dX11_next_252 (fun H locs hP hS => ?_)
                          refine lv_goto (tgt := 194) hx hb dX11_next_255 (by decide) ?_
                          exact ih_194 (y10_52 + 1) y11_52 _ _ _ (by omega) (by omega) (by omega) hP hS (lv_sub hl [0, 1] rfl)
                        · refine lv_aload_n hx hb dX11_next_222 rfl (lv_at hl 0 rfl) ?_
                          refine lv_bipush (v := iI 10) hx hb dX11_next_223 (by decide) ?_
                          refine lv_aload_n hx hb dX11_next_225 rfl (lv_at hl 0 rfl) ?_
                          refine mdG_number C hP mF_X11_185 dX11_next_226 ?_
                          show W p l e (gRm 1 21) s m args below meth c _ _ 0 0 Q (F0 m 229 ls [.int (iI y11_52), .int (iI 10), .ref (ad 0)])
                          have r_59 : 0 ≤ y11_52 ∧ y11_52 ≤ 999999 := hP.2.1 11
                          refine gi_mul (z := (10 * y11_52)) hx hb dX11_next_229 rfl ?_
                          refine lv_aload_n hx hb dX11_next_230 rfl (lv_at hl 0 rfl) ?_
                          refine lv_aload_n hx hb dX11_next_231 rfl (lv_at hl 0 rfl) ?_
                          refine mdG_behind C hP mF_X11_155 dX11_next_232 ?_
                          show W p l e (gRm 1 21) s m args below meth c _ _ 0 0 Q (F0 m 235 ls [.int (iI y10_52), .ref (ad 0), .int (iI (10 * y11_52)), .ref (ad 0)])
                          refine g_cv (As := [.int (iI y10_52)]) (rest := [.int (iI (10 * y11_52)), .ref (ad 0)]) (n := 1) C hml (m_X11_look l D k A ad hD (va_up (va_up (va_up (va_up v 8 (v 8)) 9 y9_3) 10 y10_52) 11 y11_52) f (va_up g 0 (g 0)) y10_52 (by omega) (show 0 ≤ y10_52 from by omega)) mM_X11_161 mI_X11_look mE_X11_look mN_X11 mC_X11_look (by decide +kernel) 0 (ci := 11) rfl rfl hP hS (fun _ h => h) ⟨Nat.le_of_ble_eq_true rfl, Nat.le_of_ble_eq_true rfl⟩ ⟨Nat.zero_le _, Nat.zero_le _⟩ hl.1 rfl rfl (Nat.le_of_ble_eq_true rfl) dX11_next_235 (fun r_60 v_60 f_60 g_60 H locs hq_60 hP _ hS => ?_)
                          obtain ⟨z_60, rfl, rfl, rfl, rfl, p0_60, p1_60, p2_60⟩ := hq_60
                          show W p l e (gRm 1 21) s m args below meth c _ _ 0 0 Q (F0 m 238 ls [.int (iI z_60), .int (iI (10 * y11_52)), .ref (ad 0)])
                          have p0_60 : z_60 = (if y10_52 < (v 3) then (f 0) y10_52 % 256 else 0) := p0_60
                          have p1_60 : 0 ≤ z_60 ∧ z_60 ≤ 255 := p1_60
                          have p2_60 : 0 < z_60 → y10_52 < (v 3) := p2_60
                          have hz_60 : inR z_60 := (by first | omega | (rw [p0_60]; split <;> omega))
                          refine gi_add (z := ((10 * y11_52) + z_60)) hx hb dX11_next_238 rfl ?_
                          refine lv_bipush (v := iI 48) hx hb dX11_next_239 (by decide) ?_
                          refine gi_sub (z := (((10 * y11_52) + z_60) - 48)) hx hb dX11_next_241 rfl ?_
                          refine mdP_number (v1 := (va_up (va_up (va_up (va_up v 8 (v 8)) 9 y9_3) 10 y10_52) 11 (((10 * y11_52) + z_60) - 48))) C hP hD hS mF_X11_185 (by omega) rfl (Or.inr (gR_up (V := mdV) (F := mdF) (gR_up (V := mdV) (F := mdF) (gR_up (V := mdV) (F := mdF) (gR_up (V := mdV) (F := mdF) ⟨hok.1, hok.2⟩ 8 (hP.2.1 8)) 9 (hP.2.1 9)) 10 (hP.2.1 10)) 11 (show 0 ≤ (((10 * y11_52) + z_60) - 48) ∧ (((10 * y11_52) + z_60) - 48) ≤ 999999 from by omega))) dX11_next_242 (fun H locs hP hS => ?_)
                          refine lv_aload_n hx hb dX11_next_245 rfl (lv_at hl 0 rfl) ?_
                          refine lv_dup hx hb dX11_next_246 rfl ?_
                          refine mdG_behind C hP mF_X11_155 dX11_next_247 ?_
                          show W p l e (gRm 1 21) s m args below meth c _ _ 0 0 Q (F0 m 250 ls [.int (iI y10_52), .ref (ad 0)])
                          refine lv_iconst (v := iI 1) hx hb dX11_next_250 rfl ?_
                          refine gi_add (z := (y10_52 + 1)) hx hb dX11_next_251 rfl ?_
                          refine mdP_behind (v1 := (va_up (va_up (va_up (va_up v 8 (v 8)) 9 y9_3) 10 (y10_52 + 1)) 11 (((10 * y11_52) + z_60) - 48))) C hP hD hS mF_X11_155 (by omega) rfl (Or.inr (gR_up (V := mdV) (F := mdF) (gR_up (V := mdV) (F := mdF) (gR_up (V := mdV) (F := mdF) (gR_up (V := mdV) (F := mdF) ⟨hok.1, hok.2⟩ 8 (hP.2.1 8)) 9 (hP.2.1 9)) 10 (show 0 ≤ (y10_52 + 1) ∧ (y10_52 + 1) ≤ 700 from by omega)) 11 (hP.2.1 11))) dX11_next_252 (fun H locs hP hS => ?_)
                          refine lv_goto (tgt := 194) hx hb dX11_next_255 (by decide) ?_
                          exact ih_194 (y10_52 + 1) (((10 * y11_52) + z_60) - 48) _ _ _ (by omega) (by omega) (by omega) hP hS (lv_sub hl [0, 1] rfl)
                  exact L_52 701 y9_3 0 _ _ _ (by omega) (by omega) (by omega) hP hS (lv_sub hl [1, 0] rfl)
              · refine lv_aload_n hx hb dX11_next_99 rfl (lv_at hl 1 rfl) ?_
                refine lv_iconst (v := iI 1) hx hb dX11_next_100 rfl ?_
                refine mdP_sort (v1 := (va_up (va_up (va_up (va_up v 8 1) 9 y9_3) 10 y9_3) 11 (v 11))) C hP hD hS mF_X11_165 (by decide) rfl (Or.inr (gR_up (V := mdV) (F := mdF) (gR_up (V := mdV) (F := mdF) (gR_up (V := mdV) (F := mdF) (gR_up (V := mdV) (F := mdF) ⟨hok.1, hok.2⟩ 8 (show 0 ≤ 1 ∧ 1 ≤ 4 from by decide)) 9 (hP.2.1 9)) 10 (hP.2.1 10)) 11 (hP.2.1 11))) dX11_next_101 (fun H locs hP hS => ?_)
                refine lv_aload_n hx hb dX11_next_104 rfl (lv_at hl 1 rfl) ?_
                refine lv_lconst (v := iL 0) hx hb dX11_next_105 (by decide) ?_
                refine mdP_word (g1 := (va_up g 0 (fun _ => 0))) C hP hD hS mF_X11_172 rfl dX11_next_106 (fun H locs hP hS => ?_)
                have L_61 : ∀ (n : Nat) (y10_61 : Int) (d0_61 : Int → Int) (H : Heap) (locs : List Loc) (ls : Array Slot), (v 3) - y10_61 < (n : Int) → (y9_3 ≤ y10_61 ∧ y10_61 ≤ (v 3)) → gWd D (mdT k ad) (va_up (va_up (va_up (va_up v 8 1) 9 y9_3) 10 y10_61) 11 (v 11)) f (va_up g 0 d0_61) H → va_S A s.heap H locs → lv_has ls 2 [(0, .ref (ad 0)), (1, .int (iI z_40))] → W p l e (gRm 1 21) s m args below meth c H locs 0 0 Q (F0 m 109 ls []) := by
                  intro n
                  induction n with
                  | zero =>
                    intro y10_61 d0_61 H locs ls hn_61 i61_0 hP hS hl
                    have ry10_61 : 0 ≤ y10_61 ∧ y10_61 ≤ 700 := hP.2.1 10
                    exfalso; omega
                  | succ n ih_109 =>
                    intro y10_61 d0_61 H locs ls hn_61 i61_0 hP hS hl
                    have ry10_61 : 0 ≤ y10_61 ∧ y10_61 ≤ 700 := hP.2.1 10
                    refine lv_aload_n hx hb dX11_next_109 rfl (lv_at hl 0 rfl) ?_
                    refine lv_aload_n hx hb dX11_next_110 rfl (lv_at hl 0 rfl) ?_
                    refine mdG_behind C hP mF_X11_155 dX11_next_111 ?_
                    show W p l e (gRm 1 21) s m args below meth c _ _ 0 0 Q (F0 m 114 ls [.int (iI y10_61), .ref (ad 0)])
                    have r_62 : 0 ≤ y10_61 ∧ y10_61 ≤ 700 := hP.2.1 10
                    refine g_cv (As := [.int (iI y10_61)]) (rest := []) (n := 1) C hml (m_X11_look l D k A ad hD (va_up (va_up (va_up (va_up v 8 1) 9 y9_3) 10 y10_61) 11 (v 11)) f (va_up g 0 d0_61) y10_61 (by omega) (show 0 ≤ y10_61 from by omega)) mM_X11_161 mI_X11_look mE_X11_look mN_X11 mC_X11_look (by decide +kernel) 0 (ci := 11) rfl rfl hP hS (fun _ h => h) ⟨Nat.le_of_ble_eq_true rfl, Nat.le_of_ble_eq_true rfl⟩ ⟨Nat.zero_le _, Nat.zero_le _⟩ hl.1 rfl rfl (Nat.le_of_ble_eq_true rfl) dX11_next_114 (fun r_63 v_63 f_63 g_63 H locs hq_63 hP _ hS => ?_)
                    obtain ⟨z_63, rfl, rfl, rfl, rfl, p0_63, p1_63, p2_63⟩ := hq_63
                    show W p l e (gRm 1 21) s m args below meth c _ _ 0 0 Q (F0 m 117 ls [.int (iI z_63)])
                    have p0_63 : z_63 = (if y10_61 < (v 3) then (f 0) y10_61 % 256 else 0) := p0_63
                    have p1_63 : 0 ≤ z_63 ∧ z_63 ≤ 255 := p1_63
                    have p2_63 : 0 < z_63 → y10_61 < (v 3) := p2_63
                    have hz_63 : inR z_63 := (by first | omega | (rw [p0_63]; split <;> omega))
                    have qq_63 : y10_61 = y9_3 → z_63 = z_40 := fun h => by rw [p0_63, hc1, h]
                    refine g_cs (As := [.int (iI z_63)]) (rest := []) (n := 1) C hml (m_X11_isLetter l D k A ad hD (va_up (va_up (va_up (va_up v 8 1) 9 y9_3) 10 y10_61) 11 (v 11)) f (va_up g 0 d0_61) z_63 (by omega)) mM_X11_168 mS_X11_isLetter mN_X11 mC_X11_isLetter (by decide +kernel) hP hS (fun _ h => h) ⟨Nat.le_of_ble_eq_true rfl, Nat.le_of_ble_eq_true rfl⟩ ⟨Nat.zero_le _, Nat.zero_le _⟩ hl.1 rfl rfl (Nat.le_of_ble_eq_true rfl) dX11_next_117 (fun r_64 v_64 f_64 g_64 H locs hq_64 hP _ hS => ?_)
                    obtain ⟨z_64, rfl, rfl, rfl, rfl, p0_64⟩ := hq_64
                    show W p l e (gRm 1 21) s m args below meth c _ _ 0 0 Q (F0 m 120 ls [.int (iI z_64)])
                    have p0_64 : z_64 = (if 97 ≤ z_63 ∧ z_63 ≤ 122 then 1 else 0) := p0_64
                    have w_64 := gif (P := 97 ≤ z_63 ∧ z_63 ≤ 122) p0_64
                    have hz_64 : inR z_64 := (by first | omega | (rw [p0_64]; split <;> omega))
                    refine gi_zeq (tgt := 350) hx hb dX11_next_120 (by decide) (by omega) (fun c_65 => ?_) (fun c_65 => ?_)
                    · exact g_vret hQ C hr hlocks hP hS dX11_next_350 ⟨1, y9_3, y10_61, (v 11), d0_61, rfl, rfl, rfl, rfl, (by first | omega | (split <;> omega)), (by first | omega | (split <;> omega))⟩
                    · refine lv_aload_n hx hb dX11_next_123 rfl (lv_at hl 0 rfl) ?_
                      refine lv_aload_n hx hb dX11_next_124 rfl (lv_at hl 0 rfl) ?_
                      refine mdG_behind C hP mF_X11_155 dX11_next_125 ?_
                      show W p l e (gRm 1 21) s m args below meth c _ _ 0 0 Q (F0 m 128 ls [.int (iI y10_61), .ref (ad 0)])
                      refine lv_aload_n hx hb dX11_next_128 rfl (lv_at hl 0 rfl) ?_
                      refine mdG_at C hP mF_X11_158 dX11_next_129 ?_
                      show W p l e (gRm 1 21) s m args below meth c _ _ 0 0 Q (F0 m 132 ls [.int (iI y9_3), .int (iI y10_61), .ref (ad 0)])
                      refine gi_sub (z := (y10_61 - y9_3)) hx hb dX11_next_132 rfl ?_
                      refine lv_bipush (v := iI 12) hx hb dX11_next_133 (by decide) ?_
                      refine gi_cge (tgt := 163) hx hb dX11_next_135 (by decide) (by omega) (by decide) (fun c_66 => ?_) (fun c_66 => ?_)
                      · refine lv_ldc2 (v := iL (-1)) hx hb C.2.2.2.1 (C.2.2.1 _ (show Cond.constantLong RX11 180 (iL (-1)) ∈ gWs from mD_X11_180)) dX11_next_163 ?_
                        refine mdP_word (g1 := (va_up g 0 (fun _ => (-1)))) C hP hD hS mF_X11_172 rfl dX11_next_166 (fun H locs hP hS => ?_)
                        refine lv_aload_n hx hb dX11_next_169 rfl (lv_at hl 0 rfl) ?_
                        refine lv_dup hx hb dX11_next_170 rfl ?_
                        refine mdG_behind C hP mF_X11_155 dX11_next_171 ?_
                        show W p l e (gRm 1 21) s m args below meth c _ _ 0 0 Q (F0 m 174 ls [.int (iI y10_61), .ref (ad 0)])
                        refine lv_iconst (v := iI 1) hx hb dX11_next_174 rfl ?_
                        refine gi_add (z := (y10_61 + 1)) hx hb dX11_next_175 rfl ?_
                        refine mdP_behind (v1 := (va_up (va_up (va_up (va_up v 8 1) 9 y9_3) 10 (y10_61 + 1)) 11 (v 11))) C hP hD hS mF_X11_155 (by omega) rfl (Or.inr (gR_up (V := mdV) (F := mdF) (gR_up (V := mdV) (F := mdF) (gR_up (V := mdV) (F := mdF) (gR_up (V := mdV) (F := mdF) ⟨hok.1, hok.2⟩ 8 (hP.2.1 8)) 9 (hP.2.1 9)) 10 (show 0 ≤ (y10_61 + 1) ∧ (y10_61 + 1) ≤ 700 from by omega)) 11 (hP.2.1 11))) dX11_next_176 (fun H locs hP hS => ?_)
                        refine lv_goto (tgt := 109) hx hb dX11_next_179 (by decide) ?_
                        exact ih_109 (y10_61 + 1) (fun _ => (-1)) _ _ _ (by omega) (by omega) hP hS (lv_sub hl [0, 1] rfl)
                      · refine lv_aload_n hx hb dX11_next_138 rfl (lv_at hl 0 rfl) ?_
                        refine mdG_word C hP mF_X11_172 dX11_next_139 ?_
                        show W p l e (gRm 1 21) s m args below meth c _ _ 0 0 Q (F0 m 142 ls [.long (iL (d0_61 0)), .ref (ad 0)])
                        refine lv_ldc2 (v := iL 32) hx hb C.2.2.2.1 (C.2.2.1 _ (show Cond.constantLong RX11 176 (iL 32) ∈ gWs from mD_X11_176)) dX11_next_142 ?_
                        refine gl_mul (z := ((d0_61 0) * 32)) hx hb dX11_next_145 rfl ?_
                        refine lv_aload_n hx hb dX11_next_146 rfl (lv_at hl 0 rfl) ?_
                        refine lv_aload_n hx hb dX11_next_147 rfl (lv_at hl 0 rfl) ?_
                        refine mdG_behind C hP mF_X11_155 dX11_next_148 ?_
                        show W p l e (gRm 1 21) s m args below meth c _ _ 0 0 Q (F0 m 151 ls [.int (iI y10_61), .ref (ad 0), .long (iL ((d0_61 0) * 32)), .ref (ad 0)])
                        refine g_cv (As := [.int (iI y10_61)]) (rest := [.long (iL ((d0_61 0) * 32)), .ref (ad 0)]) (n := 1) C hml (m_X11_look l D k A ad hD (va_up (va_up (va_up (va_up v 8 1) 9 y9_3) 10 y10_61) 11 (v 11)) f (va_up g 0 d0_61) y10_61 (by omega) (show 0 ≤ y10_61 from by omega)) mM_X11_161 mI_X11_look mE_X11_look mN_X11 mC_X11_look (by decide +kernel) 0 (ci := 11) rfl rfl hP hS (fun _ h => h) ⟨Nat.le_of_ble_eq_true rfl, Nat.le_of_ble_eq_true rfl⟩ ⟨Nat.zero_le _, Nat.zero_le _⟩ hl.1 rfl rfl (Nat.le_of_ble_eq_true rfl) dX11_next_151 (fun r_67 v_67 f_67 g_67 H locs hq_67 hP _ hS => ?_)
                        obtain ⟨z_67, rfl, rfl, rfl, rfl, p0_67, p1_67, p2_67⟩ := hq_67
                        show W p l e (gRm 1 21) s m args below meth c _ _ 0 0 Q (F0 m 154 ls [.int (iI z_67), .long (iL ((d0_61 0) * 32)), .ref (ad 0)])
                        have p0_67 : z_67 = (if y10_61 < (v 3) then (f 0) y10_61 % 256 else 0) := p0_67
                        have p1_67 : 0 ≤ z_67 ∧ z_67 ≤ 255 := p1_67
                        have p2_67 : 0 < z_67 → y10_61 < (v 3) := p2_67
                        have hz_67 : inR z_67 := (by first | omega | (rw [p0_67]; split <;> omega))
                        refine gi_i2l hx hb (by omega) dX11_next_154 ?_
                        refine gl_add (z := (((d0_61 0) * 32) + z_67)) hx hb dX11_next_155 rfl ?_
                        refine lv_ldc2 (v := iL 96) hx hb C.2.2.2.1 (C.2.2.1 _ (show Cond.constantLong RX11 178 (iL 96) ∈ gWs from mD_X11_178)) dX11_next_156 ?_
                        refine gl_sub (z := ((((d0_61 0) * 32) + z_67) - 96)) hx hb dX11_next_159 rfl ?_
                        refine lv_goto (tgt := 166) hx hb dX11_next_160 (by decide) ?_
                        refine mdP_word (g1 := (va_up g 0 (fun _ => ((((d0_61 0) * 32) + z_67) - 96)))) C hP hD hS mF_X11_172 rfl dX11_next_166 (fun H locs hP hS => ?_)
                        refine lv_aload_n hx hb dX11_next_169 rfl (lv_at hl 0 rfl) ?_
                        refine lv_dup hx hb dX11_next_170 rfl ?_
                        refine mdG_behind C hP mF_X11_155 dX11_next_171 ?_
                        show W p l e (gRm 1 21) s m args below meth c _ _ 0 0 Q (F0 m 174 ls [.int (iI y10_61), .ref (ad 0)])
                        refine lv_iconst (v := iI 1) hx hb dX11_next_174 rfl ?_
                        refine gi_add (z := (y10_61 + 1)) hx hb dX11_next_175 rfl ?_
                        refine mdP_behind (v1 := (va_up (va_up (va_up (va_up v 8 1) 9 y9_3) 10 (y10_61 + 1)) 11 (v 11))) C hP hD hS mF_X11_155 (by omega) rfl (Or.inr (gR_up (V := mdV) (F := mdF) (gR_up (V := mdV) (F := mdF) (gR_up (V := mdV) (F := mdF) (gR_up (V := mdV) (F := mdF) ⟨hok.1, hok.2⟩ 8 (hP.2.1 8)) 9 (hP.2.1 9)) 10 (show 0 ≤ (y10_61 + 1) ∧ (y10_61 + 1) ≤ 700 from by omega)) 11 (hP.2.1 11))) dX11_next_176 (fun H locs hP hS => ?_)
                        refine lv_goto (tgt := 109) hx hb dX11_next_179 (by decide) ?_
                        exact ih_109 (y10_61 + 1) (fun _ => ((((d0_61 0) * 32) + z_67) - 96)) _ _ _ (by omega) (by omega) hP hS (lv_sub hl [0, 1] rfl)
                exact L_61 701 y9_3 (fun _ => 0) _ _ _ (by omega) (by omega) hP hS (lv_sub hl [1, 0] rfl)
            · refine lv_aload_n hx hb dX11_next_77 rfl (lv_at hl 0 rfl) ?_
              refine lv_iconst (v := iI 0) hx hb dX11_next_78 rfl ?_
              refine mdP_sort (v1 := (va_up (va_up (va_up (va_up v 8 0) 9 y9_3) 10 y9_3) 11 (v 11))) C hP hD hS mF_X11_165 (by decide) rfl (Or.inr (gR_up (V := mdV) (F := mdF) (gR_up (V := mdV) (F := mdF) (gR_up (V := mdV) (F := mdF) (gR_up (V := mdV) (F := mdF) ⟨hok.1, hok.2⟩ 8 (show 0 ≤ 0 ∧ 0 ≤ 4 from by decide)) 9 (hP.2.1 9)) 10 (hP.2.1 10)) 11 (hP.2.1 11))) dX11_next_79 (fun H locs hP hS => ?_)
              exact g_vret hQ C hr hlocks hP hS dX11_next_82 ⟨0, y9_3, y9_3, (v 11), (g 0), rfl, rfl, rfl, rfl, (by first | omega | (split <;> omega)), (by first | omega | (split <;> omega))⟩
          · refine lv_aload_n hx hb dX11_next_45 rfl (lv_at hl 0 rfl) ?_
            refine lv_dup hx hb dX11_next_46 rfl ?_
            refine mdG_at C hP mF_X11_158 dX11_next_47 ?_
            show W p l e (gRm 1 21) s m args below meth c _ _ 0 0 Q (F0 m 50 ls [.int (iI y9_3), .ref (ad 0)])
            refine lv_iconst (v := iI 1) hx hb dX11_next_50 rfl ?_
            refine gi_add (z := (y9_3 + 1)) hx hb dX11_next_51 rfl ?_
            refine mdP_at (v1 := (va_up (va_up (va_up (va_up v 8 (v 8)) 9 (y9_3 + 1)) 10 (v 10)) 11 (v 11))) C hP hD hS mF_X11_158 (by omega) rfl (Or.inr (gR_up (V := mdV) (F := mdF) (gR_up (V := mdV) (F := mdF) (gR_up (V := mdV) (F := mdF) (gR_up (V := mdV) (F := mdF) ⟨hok.1, hok.2⟩ 8 (hP.2.1 8)) 9 (show 0 ≤ (y9_3 + 1) ∧ (y9_3 + 1) ≤ 700 from by omega)) 10 (hP.2.1 10)) 11 (hP.2.1 11))) dX11_next_52 (fun H locs hP hS => ?_)
            refine lv_goto (tgt := 8) hx hb dX11_next_55 (by decide) ?_
            exact ih_8 (y9_3 + 1) _ _ _ (by omega) (by omega) hP hS (lv_sub hl [0] rfl)
  exact L_3 701 (v 10) _ _ _ (by omega) (by omega) hP hS (lv_sub hl [0] rfl)

set_option maxHeartbeats 4000000 in
set_option maxRecDepth 100000 in
theorem m_X11_spelled (l : Launch) (D : va_G) (k : Nat → ClassId) (A : Nat → Prop) (ad : Nat → Nat) (hD : mdD A k ad) (v : gV) (f g : gF) (a1 : Int) (a2 : Int) (a3 : Int) (a4 : Int) (a5 : Int) (a6 : Int) (a7 : Int) (h_a1 : inR a1) (h_a2 : inR a2) (h_a3 : inR a3) (h_a4 : inR a4) (h_a5 : inR a5) (h_a6 : inR a6) (h_a7 : inR a7) : GM l D k A (mdT k ad) yX11_spelled cX11_spelled 9 (some .long) 0 0 [.int (iI a1), .int (iI a2), .int (iI a3), .int (iI a4), .int (iI a5), .int (iI a6), .int (iI a7)] v f g (fun r v1 f1 g1 => ∃ (z : Int), r = some (.long (iL z)) ∧ v = v1 ∧ f = f1 ∧ g = g1) := by
  refine GM.of (by decide) (Nat.le_of_ble_eq_true rfl) ?_
  intro p e s m args below meth c Q ls hQ C hml hr hlocks hP hl
  have hx := C.1
  have hb := C.2.1
  have hok := hP.2
  have hS : va_S A s.heap s.heap [] := va_S.rf
  have hl : lv_has ls 9 [(0, .int (iI a1)), (1, .int (iI a2)), (2, .int (iI a3)), (3, .int (iI a4)), (4, .int (iI a5)), (5, .int (iI a6)), (6, .int (iI a7))] := hl
  refine lv_iload_n hx hb dX11_spelled_0 rfl (lv_at hl 0 rfl) ?_
  refine gi_i2l hx hb (by omega) dX11_spelled_1 ?_
  refine lv_ldc2 (v := iL 96) hx hb C.2.2.2.1 (C.2.2.1 _ (show Cond.constantLong RX11 178 (iL 96) ∈ gWs from mD_X11_178)) dX11_spelled_2 ?_
  refine gl_sub (z := (a1 - 96)) hx hb dX11_spelled_5 rfl ?_
  refine lv_lstore (lv' := [(7, .long (iL (a1 - 96))), (0, .int (iI a1)), (1, .int (iI a2)), (2, .int (iI a3)), (3, .int (iI a4)), (4, .int (iI a5)), (5, .int (iI a6)), (6, .int (iI a7))]) hx hb dX11_spelled_6 hl (by decide) rfl (fun ls hl => ?_)
  refine lv_iload_n hx hb dX11_spelled_8 rfl (lv_at hl 2 rfl) ?_
  refine gi_zle (tgt := 28) hx hb dX11_spelled_9 (by decide) (by omega) (fun c_1 => ?_) (fun c_1 => ?_)
  · refine lv_lload hx hb dX11_spelled_28 (lv_at hl 0 rfl) ?_
    refine lv_lstore (lv' := [(7, .long (iL (a1 - 96))), (0, .int (iI a1)), (1, .int (iI a2)), (2, .int (iI a3)), (3, .int (iI a4)), (4, .int (iI a5)), (5, .int (iI a6)), (6, .int (iI a7))]) hx hb dX11_spelled_30 hl (by decide) rfl (fun ls hl => ?_)
    refine lv_iload_n hx hb dX11_spelled_32 rfl (lv_at hl 3 rfl) ?_
    refine gi_zle (tgt := 52) hx hb dX11_spelled_33 (by decide) (by omega) (fun c_2 => ?_) (fun c_2 => ?_)
    · refine lv_lload hx hb dX11_spelled_52 (lv_at hl 0 rfl) ?_
      refine lv_lstore (lv' := [(7, .long (iL (a1 - 96))), (0, .int (iI a1)), (1, .int (iI a2)), (2, .int (iI a3)), (3, .int (iI a4)), (4, .int (iI a5)), (5, .int (iI a6)), (6, .int (iI a7))]) hx hb dX11_spelled_54 hl (by decide) rfl (fun ls hl => ?_)
      refine lv_iload_n hx hb dX11_spelled_56 rfl (lv_at hl 4 rfl) ?_
      refine gi_zle (tgt := 76) hx hb dX11_spelled_57 (by decide) (by omega) (fun c_3 => ?_) (fun c_3 => ?_)
      · refine lv_lload hx hb dX11_spelled_76 (lv_at hl 0 rfl) ?_
        refine lv_lstore (lv' := [(7, .long (iL (a1 - 96))), (0, .int (iI a1)), (1, .int (iI a2)), (2, .int (iI a3)), (3, .int (iI a4)), (4, .int (iI a5)), (5, .int (iI a6)), (6, .int (iI a7))]) hx hb dX11_spelled_78 hl (by decide) rfl (fun ls hl => ?_)
        refine lv_iload hx hb dX11_spelled_80 (lv_at hl 5 rfl) ?_
        refine gi_zle (tgt := 102) hx hb dX11_spelled_82 (by decide) (by omega) (fun c_4 => ?_) (fun c_4 => ?_)
        · refine lv_lload hx hb dX11_spelled_102 (lv_at hl 0 rfl) ?_
          refine lv_lstore (lv' := [(7, .long (iL (a1 - 96))), (0, .int (iI a1)), (1, .int (iI a2)), (2, .int (iI a3)), (3, .int (iI a4)), (4, .int (iI a5)), (5, .int (iI a6)), (6, .int (iI a7))]) hx hb dX11_spelled_104 hl (by decide) rfl (fun ls hl => ?_)
          refine lv_iload hx hb dX11_spelled_106 (lv_at hl 6 rfl) ?_
          refine gi_zle (tgt := 128) hx hb dX11_spelled_108 (by decide) (by omega) (fun c_5 => ?_) (fun c_5 => ?_)
          · refine lv_lload hx hb dX11_spelled_128 (lv_at hl 0 rfl) ?_
            refine lv_lstore (lv' := [(7, .long (iL (a1 - 96))), (0, .int (iI a1)), (1, .int (iI a2)), (2, .int (iI a3)), (3, .int (iI a4)), (4, .int (iI a5)), (5, .int (iI a6)), (6, .int (iI a7))]) hx hb dX11_spelled_130 hl (by decide) rfl (fun ls hl => ?_)
            refine lv_iload hx hb dX11_spelled_132 (lv_at hl 7 rfl) ?_
            refine gi_zle (tgt := 154) hx hb dX11_spelled_134 (by decide) (by omega) (fun c_6 => ?_) (fun c_6 => ?_)
            · refine lv_lload hx hb dX11_spelled_154 (lv_at hl 0 rfl) ?_
              exact g_lret hQ C hr hlocks hP hS dX11_spelled_156 ⟨(a1 - 96), rfl, rfl, rfl, rfl⟩
            · refine lv_lload hx hb dX11_spelled_137 (lv_at hl 0 rfl) ?_
              refine lv_ldc2 (v := iL 32) hx hb C.2.2.2.1 (C.2.2.1 _ (show Cond.constantLong RX11 176 (iL 32) ∈ gWs from mD_X11_176)) dX11_spelled_139 ?_
              refine gl_mul (z := ((a1 - 96) * 32)) hx hb dX11_spelled_142 rfl ?_
              refine lv_iload hx hb dX11_spelled_143 (lv_at hl 7 rfl) ?_
              refine gi_i2l hx hb (by omega) dX11_spelled_145 ?_
              refine gl_add (z := (((a1 - 96) * 32) + a7)) hx hb dX11_spelled_146 rfl ?_
              refine lv_ldc2 (v := iL 96) hx hb C.2.2.2.1 (C.2.2.1 _ (show Cond.constantLong RX11 178 (iL 96) ∈ gWs from mD_X11_178)) dX11_spelled_147 ?_
              refine gl_sub (z := ((((a1 - 96) * 32) + a7) - 96)) hx hb dX11_spelled_150 rfl ?_
              refine lv_goto (tgt := 156) hx hb dX11_spelled_151 (by decide) ?_
              exact g_lret hQ C hr hlocks hP hS dX11_spelled_156 ⟨((((a1 - 96) * 32) + a7) - 96), rfl, rfl, rfl, rfl⟩
          · refine lv_lload hx hb dX11_spelled_111 (lv_at hl 0 rfl) ?_
            refine lv_ldc2 (v := iL 32) hx hb C.2.2.2.1 (C.2.2.1 _ (show Cond.constantLong RX11 176 (iL 32) ∈ gWs from mD_X11_176)) dX11_spelled_113 ?_
            refine gl_mul (z := ((a1 - 96) * 32)) hx hb dX11_spelled_116 rfl ?_
            refine lv_iload hx hb dX11_spelled_117 (lv_at hl 6 rfl) ?_
            refine gi_i2l hx hb (by omega) dX11_spelled_119 ?_
            refine gl_add (z := (((a1 - 96) * 32) + a6)) hx hb dX11_spelled_120 rfl ?_
            refine lv_ldc2 (v := iL 96) hx hb C.2.2.2.1 (C.2.2.1 _ (show Cond.constantLong RX11 178 (iL 96) ∈ gWs from mD_X11_178)) dX11_spelled_121 ?_
            refine gl_sub (z := ((((a1 - 96) * 32) + a6) - 96)) hx hb dX11_spelled_124 rfl ?_
            refine lv_goto (tgt := 130) hx hb dX11_spelled_125 (by decide) ?_
            refine lv_lstore (lv' := [(7, .long (iL ((((a1 - 96) * 32) + a6) - 96))), (0, .int (iI a1)), (1, .int (iI a2)), (2, .int (iI a3)), (3, .int (iI a4)), (4, .int (iI a5)), (5, .int (iI a6)), (6, .int (iI a7))]) hx hb dX11_spelled_130 hl (by decide) rfl (fun ls hl => ?_)
            refine lv_iload hx hb dX11_spelled_132 (lv_at hl 7 rfl) ?_
            refine gi_zle (tgt := 154) hx hb dX11_spelled_134 (by decide) (by omega) (fun c_7 => ?_) (fun c_7 => ?_)
            · refine lv_lload hx hb dX11_spelled_154 (lv_at hl 0 rfl) ?_
              exact g_lret hQ C hr hlocks hP hS dX11_spelled_156 ⟨((((a1 - 96) * 32) + a6) - 96), rfl, rfl, rfl, rfl⟩
            · refine lv_lload hx hb dX11_spelled_137 (lv_at hl 0 rfl) ?_
              refine lv_ldc2 (v := iL 32) hx hb C.2.2.2.1 (C.2.2.1 _ (show Cond.constantLong RX11 176 (iL 32) ∈ gWs from mD_X11_176)) dX11_spelled_139 ?_
              refine gl_mul (z := (((((a1 - 96) * 32) + a6) - 96) * 32)) hx hb dX11_spelled_142 rfl ?_
              refine lv_iload hx hb dX11_spelled_143 (lv_at hl 7 rfl) ?_
              refine gi_i2l hx hb (by omega) dX11_spelled_145 ?_
              refine gl_add (z := ((((((a1 - 96) * 32) + a6) - 96) * 32) + a7)) hx hb dX11_spelled_146 rfl ?_
              refine lv_ldc2 (v := iL 96) hx hb C.2.2.2.1 (C.2.2.1 _ (show Cond.constantLong RX11 178 (iL 96) ∈ gWs from mD_X11_178)) dX11_spelled_147 ?_
              refine gl_sub (z := (((((((a1 - 96) * 32) + a6) - 96) * 32) + a7) - 96)) hx hb dX11_spelled_150 rfl ?_
              refine lv_goto (tgt := 156) hx hb dX11_spelled_151 (by decide) ?_
              exact g_lret hQ C hr hlocks hP hS dX11_spelled_156 ⟨(((((((a1 - 96) * 32) + a6) - 96) * 32) + a7) - 96), rfl, rfl, rfl, rfl⟩
        · refine lv_lload hx hb dX11_spelled_85 (lv_at hl 0 rfl) ?_
          refine lv_ldc2 (v := iL 32) hx hb C.2.2.2.1 (C.2.2.1 _ (show Cond.constantLong RX11 176 (iL 32) ∈ gWs from mD_X11_176)) dX11_spelled_87 ?_
          refine gl_mul (z := ((a1 - 96) * 32)) hx hb dX11_spelled_90 rfl ?_
          refine lv_iload hx hb dX11_spelled_91 (lv_at hl 5 rfl) ?_
          refine gi_i2l hx hb (by omega) dX11_spelled_93 ?_
          refine gl_add (z := (((a1 - 96) * 32) + a5)) hx hb dX11_spelled_94 rfl ?_
          refine lv_ldc2 (v := iL 96) hx hb C.2.2.2.1 (C.2.2.1 _ (show Cond.constantLong RX11 178 (iL 96) ∈ gWs from mD_X11_178)) dX11_spelled_95 ?_
          refine gl_sub (z := ((((a1 - 96) * 32) + a5) - 96)) hx hb dX11_spelled_98 rfl ?_
          refine lv_goto (tgt := 104) hx hb dX11_spelled_99 (by decide) ?_
          refine lv_lstore (lv' := [(7, .long (iL ((((a1 - 96) * 32) + a5) - 96))), (0, .int (iI a1)), (1, .int (iI a2)), (2, .int (iI a3)), (3, .int (iI a4)), (4, .int (iI a5)), (5, .int (iI a6)), (6, .int (iI a7))]) hx hb dX11_spelled_104 hl (by decide) rfl (fun ls hl => ?_)
          refine lv_iload hx hb dX11_spelled_106 (lv_at hl 6 rfl) ?_
          refine gi_zle (tgt := 128) hx hb dX11_spelled_108 (by decide) (by omega) (fun c_8 => ?_) (fun c_8 => ?_)
          · refine lv_lload hx hb dX11_spelled_128 (lv_at hl 0 rfl) ?_
            refine lv_lstore (lv' := [(7, .long (iL ((((a1 - 96) * 32) + a5) - 96))), (0, .int (iI a1)), (1, .int (iI a2)), (2, .int (iI a3)), (3, .int (iI a4)), (4, .int (iI a5)), (5, .int (iI a6)), (6, .int (iI a7))]) hx hb dX11_spelled_130 hl (by decide) rfl (fun ls hl => ?_)
            refine lv_iload hx hb dX11_spelled_132 (lv_at hl 7 rfl) ?_
            refine gi_zle (tgt := 154) hx hb dX11_spelled_134 (by decide) (by omega) (fun c_9 => ?_) (fun c_9 => ?_)
            · refine lv_lload hx hb dX11_spelled_154 (lv_at hl 0 rfl) ?_
              exact g_lret hQ C hr hlocks hP hS dX11_spelled_156 ⟨((((a1 - 96) * 32) + a5) - 96), rfl, rfl, rfl, rfl⟩
            · refine lv_lload hx hb dX11_spelled_137 (lv_at hl 0 rfl) ?_
              refine lv_ldc2 (v := iL 32) hx hb C.2.2.2.1 (C.2.2.1 _ (show Cond.constantLong RX11 176 (iL 32) ∈ gWs from mD_X11_176)) dX11_spelled_139 ?_
              refine gl_mul (z := (((((a1 - 96) * 32) + a5) - 96) * 32)) hx hb dX11_spelled_142 rfl ?_
              refine lv_iload hx hb dX11_spelled_143 (lv_at hl 7 rfl) ?_
              refine gi_i2l hx hb (by omega) dX11_spelled_145 ?_
              refine gl_add (z := ((((((a1 - 96) * 32) + a5) - 96) * 32) + a7)) hx hb dX11_spelled_146 rfl ?_
              refine lv_ldc2 (v := iL 96) hx hb C.2.2.2.1 (C.2.2.1 _ (show Cond.constantLong RX11 178 (iL 96) ∈ gWs from mD_X11_178)) dX11_spelled_147 ?_
              refine gl_sub (z := (((((((a1 - 96) * 32) + a5) - 96) * 32) + a7) - 96)) hx hb dX11_spelled_150 rfl ?_
              refine lv_goto (tgt := 156) hx hb dX11_spelled_151 (by decide) ?_
              exact g_lret hQ C hr hlocks hP hS dX11_spelled_156 ⟨(((((((a1 - 96) * 32) + a5) - 96) * 32) + a7) - 96), rfl, rfl, rfl, rfl⟩
          · refine lv_lload hx hb dX11_spelled_111 (lv_at hl 0 rfl) ?_
            refine lv_ldc2 (v := iL 32) hx hb C.2.2.2.1 (C.2.2.1 _ (show Cond.constantLong RX11 176 (iL 32) ∈ gWs from mD_X11_176)) dX11_spelled_113 ?_
            refine gl_mul (z := (((((a1 - 96) * 32) + a5) - 96) * 32)) hx hb dX11_spelled_116 rfl ?_
            refine lv_iload hx hb dX11_spelled_117 (lv_at hl 6 rfl) ?_
            refine gi_i2l hx hb (by omega) dX11_spelled_119 ?_
            refine gl_add (z := ((((((a1 - 96) * 32) + a5) - 96) * 32) + a6)) hx hb dX11_spelled_120 rfl ?_
            refine lv_ldc2 (v := iL 96) hx hb C.2.2.2.1 (C.2.2.1 _ (show Cond.constantLong RX11 178 (iL 96) ∈ gWs from mD_X11_178)) dX11_spelled_121 ?_
            refine gl_sub (z := (((((((a1 - 96) * 32) + a5) - 96) * 32) + a6) - 96)) hx hb dX11_spelled_124 rfl ?_
            refine lv_goto (tgt := 130) hx hb dX11_spelled_125 (by decide) ?_
            refine lv_lstore (lv' := [(7, .long (iL (((((((a1 - 96) * 32) + a5) - 96) * 32) + a6) - 96))), (0, .int (iI a1)), (1, .int (iI a2)), (2, .int (iI a3)), (3, .int (iI a4)), (4, .int (iI a5)), (5, .int (iI a6)), (6, .int (iI a7))]) hx hb dX11_spelled_130 hl (by decide) rfl (fun ls hl => ?_)
            refine lv_iload hx hb dX11_spelled_132 (lv_at hl 7 rfl) ?_
            refine gi_zle (tgt := 154) hx hb dX11_spelled_134 (by decide) (by omega) (fun c_10 => ?_) (fun c_10 => ?_)
            · refine lv_lload hx hb dX11_spelled_154 (lv_at hl 0 rfl) ?_
              exact g_lret hQ C hr hlocks hP hS dX11_spelled_156 ⟨(((((((a1 - 96) * 32) + a5) - 96) * 32) + a6) - 96), rfl, rfl, rfl, rfl⟩
            · refine lv_lload hx hb dX11_spelled_137 (lv_at hl 0 rfl) ?_
              refine lv_ldc2 (v := iL 32) hx hb C.2.2.2.1 (C.2.2.1 _ (show Cond.constantLong RX11 176 (iL 32) ∈ gWs from mD_X11_176)) dX11_spelled_139 ?_
              refine gl_mul (z := ((((((((a1 - 96) * 32) + a5) - 96) * 32) + a6) - 96) * 32)) hx hb dX11_spelled_142 rfl ?_
              refine lv_iload hx hb dX11_spelled_143 (lv_at hl 7 rfl) ?_
              refine gi_i2l hx hb (by omega) dX11_spelled_145 ?_
              refine gl_add (z := (((((((((a1 - 96) * 32) + a5) - 96) * 32) + a6) - 96) * 32) + a7)) hx hb dX11_spelled_146 rfl ?_
              refine lv_ldc2 (v := iL 96) hx hb C.2.2.2.1 (C.2.2.1 _ (show Cond.constantLong RX11 178 (iL 96) ∈ gWs from mD_X11_178)) dX11_spelled_147 ?_
              refine gl_sub (z := ((((((((((a1 - 96) * 32) + a5) - 96) * 32) + a6) - 96) * 32) + a7) - 96)) hx hb dX11_spelled_150 rfl ?_
              refine lv_goto (tgt := 156) hx hb dX11_spelled_151 (by decide) ?_
              exact g_lret hQ C hr hlocks hP hS dX11_spelled_156 ⟨((((((((((a1 - 96) * 32) + a5) - 96) * 32) + a6) - 96) * 32) + a7) - 96), rfl, rfl, rfl, rfl⟩
      · refine lv_lload hx hb dX11_spelled_60 (lv_at hl 0 rfl) ?_
        refine lv_ldc2 (v := iL 32) hx hb C.2.2.2.1 (C.2.2.1 _ (show Cond.constantLong RX11 176 (iL 32) ∈ gWs from mD_X11_176)) dX11_spelled_62 ?_
        refine gl_mul (z := ((a1 - 96) * 32)) hx hb dX11_spelled_65 rfl ?_
        refine lv_iload_n hx hb dX11_spelled_66 rfl (lv_at hl 4 rfl) ?_
        refine gi_i2l hx hb (by omega) dX11_spelled_67 ?_
        refine gl_add (z := (((a1 - 96) * 32) + a4)) hx hb dX11_spelled_68 rfl ?_
        refine lv_ldc2 (v := iL 96) hx hb C.2.2.2.1 (C.2.2.1 _ (show Cond.constantLong RX11 178 (iL 96) ∈ gWs from mD_X11_178)) dX11_spelled_69 ?_
        refine gl_sub (z := ((((a1 - 96) * 32) + a4) - 96)) hx hb dX11_spelled_72 rfl ?_
        refine lv_goto (tgt := 78) hx hb dX11_spelled_73 (by decide) ?_
        refine lv_lstore (lv' := [(7, .long (iL ((((a1 - 96) * 32) + a4) - 96))), (0, .int (iI a1)), (1, .int (iI a2)), (2, .int (iI a3)), (3, .int (iI a4)), (4, .int (iI a5)), (5, .int (iI a6)), (6, .int (iI a7))]) hx hb dX11_spelled_78 hl (by decide) rfl (fun ls hl => ?_)
        refine lv_iload hx hb dX11_spelled_80 (lv_at hl 5 rfl) ?_
        refine gi_zle (tgt := 102) hx hb dX11_spelled_82 (by decide) (by omega) (fun c_11 => ?_) (fun c_11 => ?_)
        · refine lv_lload hx hb dX11_spelled_102 (lv_at hl 0 rfl) ?_
          refine lv_lstore (lv' := [(7, .long (iL ((((a1 - 96) * 32) + a4) - 96))), (0, .int (iI a1)), (1, .int (iI a2)), (2, .int (iI a3)), (3, .int (iI a4)), (4, .int (iI a5)), (5, .int (iI a6)), (6, .int (iI a7))]) hx hb dX11_spelled_104 hl (by decide) rfl (fun ls hl => ?_)
          refine lv_iload hx hb dX11_spelled_106 (lv_at hl 6 rfl) ?_
          refine gi_zle (tgt := 128) hx hb dX11_spelled_108 (by decide) (by omega) (fun c_12 => ?_) (fun c_12 => ?_)
          · refine lv_lload hx hb dX11_spelled_128 (lv_at hl 0 rfl) ?_
            refine lv_lstore (lv' := [(7, .long (iL ((((a1 - 96) * 32) + a4) - 96))), (0, .int (iI a1)), (1, .int (iI a2)), (2, .int (iI a3)), (3, .int (iI a4)), (4, .int (iI a5)), (5, .int (iI a6)), (6, .int (iI a7))]) hx hb dX11_spelled_130 hl (by decide) rfl (fun ls hl => ?_)
            refine lv_iload hx hb dX11_spelled_132 (lv_at hl 7 rfl) ?_
            refine gi_zle (tgt := 154) hx hb dX11_spelled_134 (by decide) (by omega) (fun c_13 => ?_) (fun c_13 => ?_)
            · refine lv_lload hx hb dX11_spelled_154 (lv_at hl 0 rfl) ?_
              exact g_lret hQ C hr hlocks hP hS dX11_spelled_156 ⟨((((a1 - 96) * 32) + a4) - 96), rfl, rfl, rfl, rfl⟩
            · refine lv_lload hx hb dX11_spelled_137 (lv_at hl 0 rfl) ?_
              refine lv_ldc2 (v := iL 32) hx hb C.2.2.2.1 (C.2.2.1 _ (show Cond.constantLong RX11 176 (iL 32) ∈ gWs from mD_X11_176)) dX11_spelled_139 ?_
              refine gl_mul (z := (((((a1 - 96) * 32) + a4) - 96) * 32)) hx hb dX11_spelled_142 rfl ?_
              refine lv_iload hx hb dX11_spelled_143 (lv_at hl 7 rfl) ?_
              refine gi_i2l hx hb (by omega) dX11_spelled_145 ?_
              refine gl_add (z := ((((((a1 - 96) * 32) + a4) - 96) * 32) + a7)) hx hb dX11_spelled_146 rfl ?_
              refine lv_ldc2 (v := iL 96) hx hb C.2.2.2.1 (C.2.2.1 _ (show Cond.constantLong RX11 178 (iL 96) ∈ gWs from mD_X11_178)) dX11_spelled_147 ?_
              refine gl_sub (z := (((((((a1 - 96) * 32) + a4) - 96) * 32) + a7) - 96)) hx hb dX11_spelled_150 rfl ?_
              refine lv_goto (tgt := 156) hx hb dX11_spelled_151 (by decide) ?_
              exact g_lret hQ C hr hlocks hP hS dX11_spelled_156 ⟨(((((((a1 - 96) * 32) + a4) - 96) * 32) + a7) - 96), rfl, rfl, rfl, rfl⟩
          · refine lv_lload hx hb dX11_spelled_111 (lv_at hl 0 rfl) ?_
            refine lv_ldc2 (v := iL 32) hx hb C.2.2.2.1 (C.2.2.1 _ (show Cond.constantLong RX11 176 (iL 32) ∈ gWs from mD_X11_176)) dX11_spelled_113 ?_
            refine gl_mul (z := (((((a1 - 96) * 32) + a4) - 96) * 32)) hx hb dX11_spelled_116 rfl ?_
            refine lv_iload hx hb dX11_spelled_117 (lv_at hl 6 rfl) ?_
            refine gi_i2l hx hb (by omega) dX11_spelled_119 ?_
            refine gl_add (z := ((((((a1 - 96) * 32) + a4) - 96) * 32) + a6)) hx hb dX11_spelled_120 rfl ?_
            refine lv_ldc2 (v := iL 96) hx hb C.2.2.2.1 (C.2.2.1 _ (show Cond.constantLong RX11 178 (iL 96) ∈ gWs from mD_X11_178)) dX11_spelled_121 ?_
            refine gl_sub (z := (((((((a1 - 96) * 32) + a4) - 96) * 32) + a6) - 96)) hx hb dX11_spelled_124 rfl ?_
            refine lv_goto (tgt := 130) hx hb dX11_spelled_125 (by decide) ?_
            refine lv_lstore (lv' := [(7, .long (iL (((((((a1 - 96) * 32) + a4) - 96) * 32) + a6) - 96))), (0, .int (iI a1)), (1, .int (iI a2)), (2, .int (iI a3)), (3, .int (iI a4)), (4, .int (iI a5)), (5, .int (iI a6)), (6, .int (iI a7))]) hx hb dX11_spelled_130 hl (by decide) rfl (fun ls hl => ?_)
            refine lv_iload hx hb dX11_spelled_132 (lv_at hl 7 rfl) ?_
            refine gi_zle (tgt := 154) hx hb dX11_spelled_134 (by decide) (by omega) (fun c_14 => ?_) (fun c_14 => ?_)
            · refine lv_lload hx hb dX11_spelled_154 (lv_at hl 0 rfl) ?_
              exact g_lret hQ C hr hlocks hP hS dX11_spelled_156 ⟨(((((((a1 - 96) * 32) + a4) - 96) * 32) + a6) - 96), rfl, rfl, rfl, rfl⟩
            · refine lv_lload hx hb dX11_spelled_137 (lv_at hl 0 rfl) ?_
              refine lv_ldc2 (v := iL 32) hx hb C.2.2.2.1 (C.2.2.1 _ (show Cond.constantLong RX11 176 (iL 32) ∈ gWs from mD_X11_176)) dX11_spelled_139 ?_
              refine gl_mul (z := ((((((((a1 - 96) * 32) + a4) - 96) * 32) + a6) - 96) * 32)) hx hb dX11_spelled_142 rfl ?_
              refine lv_iload hx hb dX11_spelled_143 (lv_at hl 7 rfl) ?_
              refine gi_i2l hx hb (by omega) dX11_spelled_145 ?_
              refine gl_add (z := (((((((((a1 - 96) * 32) + a4) - 96) * 32) + a6) - 96) * 32) + a7)) hx hb dX11_spelled_146 rfl ?_
              refine lv_ldc2 (v := iL 96) hx hb C.2.2.2.1 (C.2.2.1 _ (show Cond.constantLong RX11 178 (iL 96) ∈ gWs from mD_X11_178)) dX11_spelled_147 ?_
              refine gl_sub (z := ((((((((((a1 - 96) * 32) + a4) - 96) * 32) + a6) - 96) * 32) + a7) - 96)) hx hb dX11_spelled_150 rfl ?_
              refine lv_goto (tgt := 156) hx hb dX11_spelled_151 (by decide) ?_
              exact g_lret hQ C hr hlocks hP hS dX11_spelled_156 ⟨((((((((((a1 - 96) * 32) + a4) - 96) * 32) + a6) - 96) * 32) + a7) - 96), rfl, rfl, rfl, rfl⟩
        · refine lv_lload hx hb dX11_spelled_85 (lv_at hl 0 rfl) ?_
          refine lv_ldc2 (v := iL 32) hx hb C.2.2.2.1 (C.2.2.1 _ (show Cond.constantLong RX11 176 (iL 32) ∈ gWs from mD_X11_176)) dX11_spelled_87 ?_
          refine gl_mul (z := (((((a1 - 96) * 32) + a4) - 96) * 32)) hx hb dX11_spelled_90 rfl ?_
          refine lv_iload hx hb dX11_spelled_91 (lv_at hl 5 rfl) ?_
          refine gi_i2l hx hb (by omega) dX11_spelled_93 ?_
          refine gl_add (z := ((((((a1 - 96) * 32) + a4) - 96) * 32) + a5)) hx hb dX11_spelled_94 rfl ?_
          refine lv_ldc2 (v := iL 96) hx hb C.2.2.2.1 (C.2.2.1 _ (show Cond.constantLong RX11 178 (iL 96) ∈ gWs from mD_X11_178)) dX11_spelled_95 ?_
          refine gl_sub (z := (((((((a1 - 96) * 32) + a4) - 96) * 32) + a5) - 96)) hx hb dX11_spelled_98 rfl ?_
          refine lv_goto (tgt := 104) hx hb dX11_spelled_99 (by decide) ?_
          refine lv_lstore (lv' := [(7, .long (iL (((((((a1 - 96) * 32) + a4) - 96) * 32) + a5) - 96))), (0, .int (iI a1)), (1, .int (iI a2)), (2, .int (iI a3)), (3, .int (iI a4)), (4, .int (iI a5)), (5, .int (iI a6)), (6, .int (iI a7))]) hx hb dX11_spelled_104 hl (by decide) rfl (fun ls hl => ?_)
          refine lv_iload hx hb dX11_spelled_106 (lv_at hl 6 rfl) ?_
          refine gi_zle (tgt := 128) hx hb dX11_spelled_108 (by decide) (by omega) (fun c_15 => ?_) (fun c_15 => ?_)
          · refine lv_lload hx hb dX11_spelled_128 (lv_at hl 0 rfl) ?_
            refine lv_lstore (lv' := [(7, .long (iL (((((((a1 - 96) * 32) + a4) - 96) * 32) + a5) - 96))), (0, .int (iI a1)), (1, .int (iI a2)), (2, .int (iI a3)), (3, .int (iI a4)), (4, .int (iI a5)), (5, .int (iI a6)), (6, .int (iI a7))]) hx hb dX11_spelled_130 hl (by decide) rfl (fun ls hl => ?_)
            refine lv_iload hx hb dX11_spelled_132 (lv_at hl 7 rfl) ?_
            refine gi_zle (tgt := 154) hx hb dX11_spelled_134 (by decide) (by omega) (fun c_16 => ?_) (fun c_16 => ?_)
            · refine lv_lload hx hb dX11_spelled_154 (lv_at hl 0 rfl) ?_
              exact g_lret hQ C hr hlocks hP hS dX11_spelled_156 ⟨(((((((a1 - 96) * 32) + a4) - 96) * 32) + a5) - 96), rfl, rfl, rfl, rfl⟩
            · refine lv_lload hx hb dX11_spelled_137 (lv_at hl 0 rfl) ?_
              refine lv_ldc2 (v := iL 32) hx hb C.2.2.2.1 (C.2.2.1 _ (show Cond.constantLong RX11 176 (iL 32) ∈ gWs from mD_X11_176)) dX11_spelled_139 ?_
              refine gl_mul (z := ((((((((a1 - 96) * 32) + a4) - 96) * 32) + a5) - 96) * 32)) hx hb dX11_spelled_142 rfl ?_
              refine lv_iload hx hb dX11_spelled_143 (lv_at hl 7 rfl) ?_
              refine gi_i2l hx hb (by omega) dX11_spelled_145 ?_
              refine gl_add (z := (((((((((a1 - 96) * 32) + a4) - 96) * 32) + a5) - 96) * 32) + a7)) hx hb dX11_spelled_146 rfl ?_
              refine lv_ldc2 (v := iL 96) hx hb C.2.2.2.1 (C.2.2.1 _ (show Cond.constantLong RX11 178 (iL 96) ∈ gWs from mD_X11_178)) dX11_spelled_147 ?_
              refine gl_sub (z := ((((((((((a1 - 96) * 32) + a4) - 96) * 32) + a5) - 96) * 32) + a7) - 96)) hx hb dX11_spelled_150 rfl ?_
              refine lv_goto (tgt := 156) hx hb dX11_spelled_151 (by decide) ?_
              exact g_lret hQ C hr hlocks hP hS dX11_spelled_156 ⟨((((((((((a1 - 96) * 32) + a4) - 96) * 32) + a5) - 96) * 32) + a7) - 96), rfl, rfl, rfl, rfl⟩
          · refine lv_lload hx hb dX11_spelled_111 (lv_at hl 0 rfl) ?_
            refine lv_ldc2 (v := iL 32) hx hb C.2.2.2.1 (C.2.2.1 _ (show Cond.constantLong RX11 176 (iL 32) ∈ gWs from mD_X11_176)) dX11_spelled_113 ?_
            refine gl_mul (z := ((((((((a1 - 96) * 32) + a4) - 96) * 32) + a5) - 96) * 32)) hx hb dX11_spelled_116 rfl ?_
            refine lv_iload hx hb dX11_spelled_117 (lv_at hl 6 rfl) ?_
            refine gi_i2l hx hb (by omega) dX11_spelled_119 ?_
            refine gl_add (z := (((((((((a1 - 96) * 32) + a4) - 96) * 32) + a5) - 96) * 32) + a6)) hx hb dX11_spelled_120 rfl ?_
            refine lv_ldc2 (v := iL 96) hx hb C.2.2.2.1 (C.2.2.1 _ (show Cond.constantLong RX11 178 (iL 96) ∈ gWs from mD_X11_178)) dX11_spelled_121 ?_
            refine gl_sub (z := ((((((((((a1 - 96) * 32) + a4) - 96) * 32) + a5) - 96) * 32) + a6) - 96)) hx hb dX11_spelled_124 rfl ?_
            refine lv_goto (tgt := 130) hx hb dX11_spelled_125 (by decide) ?_
            refine lv_lstore (lv' := [(7, .long (iL ((((((((((a1 - 96) * 32) + a4) - 96) * 32) + a5) - 96) * 32) + a6) - 96))), (0, .int (iI a1)), (1, .int (iI a2)), (2, .int (iI a3)), (3, .int (iI a4)), (4, .int (iI a5)), (5, .int (iI a6)), (6, .int (iI a7))]) hx hb dX11_spelled_130 hl (by decide) rfl (fun ls hl => ?_)
            refine lv_iload hx hb dX11_spelled_132 (lv_at hl 7 rfl) ?_
            refine gi_zle (tgt := 154) hx hb dX11_spelled_134 (by decide) (by omega) (fun c_17 => ?_) (fun c_17 => ?_)
            · refine lv_lload hx hb dX11_spelled_154 (lv_at hl 0 rfl) ?_
              exact g_lret hQ C hr hlocks hP hS dX11_spelled_156 ⟨((((((((((a1 - 96) * 32) + a4) - 96) * 32) + a5) - 96) * 32) + a6) - 96), rfl, rfl, rfl, rfl⟩
            · refine lv_lload hx hb dX11_spelled_137 (lv_at hl 0 rfl) ?_
              refine lv_ldc2 (v := iL 32) hx hb C.2.2.2.1 (C.2.2.1 _ (show Cond.constantLong RX11 176 (iL 32) ∈ gWs from mD_X11_176)) dX11_spelled_139 ?_
              refine gl_mul (z := (((((((((((a1 - 96) * 32) + a4) - 96) * 32) + a5) - 96) * 32) + a6) - 96) * 32)) hx hb dX11_spelled_142 rfl ?_
              refine lv_iload hx hb dX11_spelled_143 (lv_at hl 7 rfl) ?_
              refine gi_i2l hx hb (by omega) dX11_spelled_145 ?_
              refine gl_add (z := ((((((((((((a1 - 96) * 32) + a4) - 96) * 32) + a5) - 96) * 32) + a6) - 96) * 32) + a7)) hx hb dX11_spelled_146 rfl ?_
              refine lv_ldc2 (v := iL 96) hx hb C.2.2.2.1 (C.2.2.1 _ (show Cond.constantLong RX11 178 (iL 96) ∈ gWs from mD_X11_178)) dX11_spelled_147 ?_
              refine gl_sub (z := (((((((((((((a1 - 96) * 32) + a4) - 96) * 32) + a5) - 96) * 32) + a6) - 96) * 32) + a7) - 96)) hx hb dX11_spelled_150 rfl ?_
              refine lv_goto (tgt := 156) hx hb dX11_spelled_151 (by decide) ?_
              exact g_lret hQ C hr hlocks hP hS dX11_spelled_156 ⟨(((((((((((((a1 - 96) * 32) + a4) - 96) * 32) + a5) - 96) * 32) + a6) - 96) * 32) + a7) - 96), rfl, rfl, rfl, rfl⟩
    · refine lv_lload hx hb dX11_spelled_36 (lv_at hl 0 rfl) ?_
      refine lv_ldc2 (v := iL 32) hx hb C.2.2.2.1 (C.2.2.1 _ (show Cond.constantLong RX11 176 (iL 32) ∈ gWs from mD_X11_176)) dX11_spelled_38 ?_
      refine gl_mul (z := ((a1 - 96) * 32)) hx hb dX11_spelled_41 rfl ?_
      refine lv_iload_n hx hb dX11_spelled_42 rfl (lv_at hl 3 rfl) ?_
      refine gi_i2l hx hb (by omega) dX11_spelled_43 ?_
      refine gl_add (z := (((a1 - 96) * 32) + a3)) hx hb dX11_spelled_44 rfl ?_
      refine lv_ldc2 (v := iL 96) hx hb C.2.2.2.1 (C.2.2.1 _ (show Cond.constantLong RX11 178 (iL 96) ∈ gWs from mD_X11_178)) dX11_spelled_45 ?_
      refine gl_sub (z := ((((a1 - 96) * 32) + a3) - 96)) hx hb dX11_spelled_48 rfl ?_
      refine lv_goto (tgt := 54) hx hb dX11_spelled_49 (by decide) ?_
      refine lv_lstore (lv' := [(7, .long (iL ((((a1 - 96) * 32) + a3) - 96))), (0, .int (iI a1)), (1, .int (iI a2)), (2, .int (iI a3)), (3, .int (iI a4)), (4, .int (iI a5)), (5, .int (iI a6)), (6, .int (iI a7))]) hx hb dX11_spelled_54 hl (by decide) rfl (fun ls hl => ?_)
      refine lv_iload_n hx hb dX11_spelled_56 rfl (lv_at hl 4 rfl) ?_
      refine gi_zle (tgt := 76) hx hb dX11_spelled_57 (by decide) (by omega) (fun c_18 => ?_) (fun c_18 => ?_)
      · refine lv_lload hx hb dX11_spelled_76 (lv_at hl 0 rfl) ?_
        refine lv_lstore (lv' := [(7, .long (iL ((((a1 - 96) * 32) + a3) - 96))), (0, .int (iI a1)), (1, .int (iI a2)), (2, .int (iI a3)), (3, .int (iI a4)), (4, .int (iI a5)), (5, .int (iI a6)), (6, .int (iI a7))]) hx hb dX11_spelled_78 hl (by decide) rfl (fun ls hl => ?_)
        refine lv_iload hx hb dX11_spelled_80 (lv_at hl 5 rfl) ?_
        refine gi_zle (tgt := 102) hx hb dX11_spelled_82 (by decide) (by omega) (fun c_19 => ?_) (fun c_19 => ?_)
        · refine lv_lload hx hb dX11_spelled_102 (lv_at hl 0 rfl) ?_
          refine lv_lstore (lv' := [(7, .long (iL ((((a1 - 96) * 32) + a3) - 96))), (0, .int (iI a1)), (1, .int (iI a2)), (2, .int (iI a3)), (3, .int (iI a4)), (4, .int (iI a5)), (5, .int (iI a6)), (6, .int (iI a7))]) hx hb dX11_spelled_104 hl (by decide) rfl (fun ls hl => ?_)
          refine lv_iload hx hb dX11_spelled_106 (lv_at hl 6 rfl) ?_
          refine gi_zle (tgt := 128) hx hb dX11_spelled_108 (by decide) (by omega) (fun c_20 => ?_) (fun c_20 => ?_)
          · refine lv_lload hx hb dX11_spelled_128 (lv_at hl 0 rfl) ?_
            refine lv_lstore (lv' := [(7, .long (iL ((((a1 - 96) * 32) + a3) - 96))), (0, .int (iI a1)), (1, .int (iI a2)), (2, .int (iI a3)), (3, .int (iI a4)), (4, .int (iI a5)), (5, .int (iI a6)), (6, .int (iI a7))]) hx hb dX11_spelled_130 hl (by decide) rfl (fun ls hl => ?_)
            refine lv_iload hx hb dX11_spelled_132 (lv_at hl 7 rfl) ?_
            refine gi_zle (tgt := 154) hx hb dX11_spelled_134 (by decide) (by omega) (fun c_21 => ?_) (fun c_21 => ?_)
            · refine lv_lload hx hb dX11_spelled_154 (lv_at hl 0 rfl) ?_
              exact g_lret hQ C hr hlocks hP hS dX11_spelled_156 ⟨((((a1 - 96) * 32) + a3) - 96), rfl, rfl, rfl, rfl⟩
            · refine lv_lload hx hb dX11_spelled_137 (lv_at hl 0 rfl) ?_
              refine lv_ldc2 (v := iL 32) hx hb C.2.2.2.1 (C.2.2.1 _ (show Cond.constantLong RX11 176 (iL 32) ∈ gWs from mD_X11_176)) dX11_spelled_139 ?_
              refine gl_mul (z := (((((a1 - 96) * 32) + a3) - 96) * 32)) hx hb dX11_spelled_142 rfl ?_
              refine lv_iload hx hb dX11_spelled_143 (lv_at hl 7 rfl) ?_
              refine gi_i2l hx hb (by omega) dX11_spelled_145 ?_
              refine gl_add (z := ((((((a1 - 96) * 32) + a3) - 96) * 32) + a7)) hx hb dX11_spelled_146 rfl ?_
              refine lv_ldc2 (v := iL 96) hx hb C.2.2.2.1 (C.2.2.1 _ (show Cond.constantLong RX11 178 (iL 96) ∈ gWs from mD_X11_178)) dX11_spelled_147 ?_
              refine gl_sub (z := (((((((a1 - 96) * 32) + a3) - 96) * 32) + a7) - 96)) hx hb dX11_spelled_150 rfl ?_
              refine lv_goto (tgt := 156) hx hb dX11_spelled_151 (by decide) ?_
              exact g_lret hQ C hr hlocks hP hS dX11_spelled_156 ⟨(((((((a1 - 96) * 32) + a3) - 96) * 32) + a7) - 96), rfl, rfl, rfl, rfl⟩
          · refine lv_lload hx hb dX11_spelled_111 (lv_at hl 0 rfl) ?_
            refine lv_ldc2 (v := iL 32) hx hb C.2.2.2.1 (C.2.2.1 _ (show Cond.constantLong RX11 176 (iL 32) ∈ gWs from mD_X11_176)) dX11_spelled_113 ?_
            refine gl_mul (z := (((((a1 - 96) * 32) + a3) - 96) * 32)) hx hb dX11_spelled_116 rfl ?_
            refine lv_iload hx hb dX11_spelled_117 (lv_at hl 6 rfl) ?_
            refine gi_i2l hx hb (by omega) dX11_spelled_119 ?_
            refine gl_add (z := ((((((a1 - 96) * 32) + a3) - 96) * 32) + a6)) hx hb dX11_spelled_120 rfl ?_
            refine lv_ldc2 (v := iL 96) hx hb C.2.2.2.1 (C.2.2.1 _ (show Cond.constantLong RX11 178 (iL 96) ∈ gWs from mD_X11_178)) dX11_spelled_121 ?_
            refine gl_sub (z := (((((((a1 - 96) * 32) + a3) - 96) * 32) + a6) - 96)) hx hb dX11_spelled_124 rfl ?_
            refine lv_goto (tgt := 130) hx hb dX11_spelled_125 (by decide) ?_
            refine lv_lstore (lv' := [(7, .long (iL (((((((a1 - 96) * 32) + a3) - 96) * 32) + a6) - 96))), (0, .int (iI a1)), (1, .int (iI a2)), (2, .int (iI a3)), (3, .int (iI a4)), (4, .int (iI a5)), (5, .int (iI a6)), (6, .int (iI a7))]) hx hb dX11_spelled_130 hl (by decide) rfl (fun ls hl => ?_)
            refine lv_iload hx hb dX11_spelled_132 (lv_at hl 7 rfl) ?_
            refine gi_zle (tgt := 154) hx hb dX11_spelled_134 (by decide) (by omega) (fun c_22 => ?_) (fun c_22 => ?_)
            · refine lv_lload hx hb dX11_spelled_154 (lv_at hl 0 rfl) ?_
              exact g_lret hQ C hr hlocks hP hS dX11_spelled_156 ⟨(((((((a1 - 96) * 32) + a3) - 96) * 32) + a6) - 96), rfl, rfl, rfl, rfl⟩
            · refine lv_lload hx hb dX11_spelled_137 (lv_at hl 0 rfl) ?_
              refine lv_ldc2 (v := iL 32) hx hb C.2.2.2.1 (C.2.2.1 _ (show Cond.constantLong RX11 176 (iL 32) ∈ gWs from mD_X11_176)) dX11_spelled_139 ?_
              refine gl_mul (z := ((((((((a1 - 96) * 32) + a3) - 96) * 32) + a6) - 96) * 32)) hx hb dX11_spelled_142 rfl ?_
              refine lv_iload hx hb dX11_spelled_143 (lv_at hl 7 rfl) ?_
              refine gi_i2l hx hb (by omega) dX11_spelled_145 ?_
              refine gl_add (z := (((((((((a1 - 96) * 32) + a3) - 96) * 32) + a6) - 96) * 32) + a7)) hx hb dX11_spelled_146 rfl ?_
              refine lv_ldc2 (v := iL 96) hx hb C.2.2.2.1 (C.2.2.1 _ (show Cond.constantLong RX11 178 (iL 96) ∈ gWs from mD_X11_178)) dX11_spelled_147 ?_
              refine gl_sub (z := ((((((((((a1 - 96) * 32) + a3) - 96) * 32) + a6) - 96) * 32) + a7) - 96)) hx hb dX11_spelled_150 rfl ?_
              refine lv_goto (tgt := 156) hx hb dX11_spelled_151 (by decide) ?_
              exact g_lret hQ C hr hlocks hP hS dX11_spelled_156 ⟨((((((((((a1 - 96) * 32) + a3) - 96) * 32) + a6) - 96) * 32) + a7) - 96), rfl, rfl, rfl, rfl⟩
        · refine lv_lload hx hb dX11_spelled_85 (lv_at hl 0 rfl) ?_
          refine lv_ldc2 (v := iL 32) hx hb C.2.2.2.1 (C.2.2.1 _ (show Cond.constantLong RX11 176 (iL 32) ∈ gWs from mD_X11_176)) dX11_spelled_87 ?_
          refine gl_mul (z := (((((a1 - 96) * 32) + a3) - 96) * 32)) hx hb dX11_spelled_90 rfl ?_
          refine lv_iload hx hb dX11_spelled_91 (lv_at hl 5 rfl) ?_
          refine gi_i2l hx hb (by omega) dX11_spelled_93 ?_
          refine gl_add (z := ((((((a1 - 96) * 32) + a3) - 96) * 32) + a5)) hx hb dX11_spelled_94 rfl ?_
          refine lv_ldc2 (v := iL 96) hx hb C.2.2.2.1 (C.2.2.1 _ (show Cond.constantLong RX11 178 (iL 96) ∈ gWs from mD_X11_178)) dX11_spelled_95 ?_
          refine gl_sub (z := (((((((a1 - 96) * 32) + a3) - 96) * 32) + a5) - 96)) hx hb dX11_spelled_98 rfl ?_
          refine lv_goto (tgt := 104) hx hb dX11_spelled_99 (by decide) ?_
          refine lv_lstore (lv' := [(7, .long (iL (((((((a1 - 96) * 32) + a3) - 96) * 32) + a5) - 96))), (0, .int (iI a1)), (1, .int (iI a2)), (2, .int (iI a3)), (3, .int (iI a4)), (4, .int (iI a5)), (5, .int (iI a6)), (6, .int (iI a7))]) hx hb dX11_spelled_104 hl (by decide) rfl (fun ls hl => ?_)
          refine lv_iload hx hb dX11_spelled_106 (lv_at hl 6 rfl) ?_
          refine gi_zle (tgt := 128) hx hb dX11_spelled_108 (by decide) (by omega) (fun c_23 => ?_) (fun c_23 => ?_)
          · refine lv_lload hx hb dX11_spelled_128 (lv_at hl 0 rfl) ?_
            refine lv_lstore (lv' := [(7, .long (iL (((((((a1 - 96) * 32) + a3) - 96) * 32) + a5) - 96))), (0, .int (iI a1)), (1, .int (iI a2)), (2, .int (iI a3)), (3, .int (iI a4)), (4, .int (iI a5)), (5, .int (iI a6)), (6, .int (iI a7))]) hx hb dX11_spelled_130 hl (by decide) rfl (fun ls hl => ?_)
            refine lv_iload hx hb dX11_spelled_132 (lv_at hl 7 rfl) ?_
            refine gi_zle (tgt := 154) hx hb dX11_spelled_134 (by decide) (by omega) (fun c_24 => ?_) (fun c_24 => ?_)
            · refine lv_lload hx hb dX11_spelled_154 (lv_at hl 0 rfl) ?_
              exact g_lret hQ C hr hlocks hP hS dX11_spelled_156 ⟨(((((((a1 - 96) * 32) + a3) - 96) * 32) + a5) - 96), rfl, rfl, rfl, rfl⟩
            · refine lv_lload hx hb dX11_spelled_137 (lv_at hl 0 rfl) ?_
              refine lv_ldc2 (v := iL 32) hx hb C.2.2.2.1 (C.2.2.1 _ (show Cond.constantLong RX11 176 (iL 32) ∈ gWs from mD_X11_176)) dX11_spelled_139 ?_
              refine gl_mul (z := ((((((((a1 - 96) * 32) + a3) - 96) * 32) + a5) - 96) * 32)) hx hb dX11_spelled_142 rfl ?_
              refine lv_iload hx hb dX11_spelled_143 (lv_at hl 7 rfl) ?_
              refine gi_i2l hx hb (by omega) dX11_spelled_145 ?_
              refine gl_add (z := (((((((((a1 - 96) * 32) + a3) - 96) * 32) + a5) - 96) * 32) + a7)) hx hb dX11_spelled_146 rfl ?_
              refine lv_ldc2 (v := iL 96) hx hb C.2.2.2.1 (C.2.2.1 _ (show Cond.constantLong RX11 178 (iL 96) ∈ gWs from mD_X11_178)) dX11_spelled_147 ?_
              refine gl_sub (z := ((((((((((a1 - 96) * 32) + a3) - 96) * 32) + a5) - 96) * 32) + a7) - 96)) hx hb dX11_spelled_150 rfl ?_
              refine lv_goto (tgt := 156) hx hb dX11_spelled_151 (by decide) ?_
              exact g_lret hQ C hr hlocks hP hS dX11_spelled_156 ⟨((((((((((a1 - 96) * 32) + a3) - 96) * 32) + a5) - 96) * 32) + a7) - 96), rfl, rfl, rfl, rfl⟩
          · refine lv_lload hx hb dX11_spelled_111 (lv_at hl 0 rfl) ?_
            refine lv_ldc2 (v := iL 32) hx hb C.2.2.2.1 (C.2.2.1 _ (show Cond.constantLong RX11 176 (iL 32) ∈ gWs from mD_X11_176)) dX11_spelled_113 ?_
            refine gl_mul (z := ((((((((a1 - 96) * 32) + a3) - 96) * 32) + a5) - 96) * 32)) hx hb dX11_spelled_116 rfl ?_
            refine lv_iload hx hb dX11_spelled_117 (lv_at hl 6 rfl) ?_
            refine gi_i2l hx hb (by omega) dX11_spelled_119 ?_
            refine gl_add (z := (((((((((a1 - 96) * 32) + a3) - 96) * 32) + a5) - 96) * 32) + a6)) hx hb dX11_spelled_120 rfl ?_
            refine lv_ldc2 (v := iL 96) hx hb C.2.2.2.1 (C.2.2.1 _ (show Cond.constantLong RX11 178 (iL 96) ∈ gWs from mD_X11_178)) dX11_spelled_121 ?_
            refine gl_sub (z := ((((((((((a1 - 96) * 32) + a3) - 96) * 32) + a5) - 96) * 32) + a6) - 96)) hx hb dX11_spelled_124 rfl ?_
            refine lv_goto (tgt := 130) hx hb dX11_spelled_125 (by decide) ?_
            refine lv_lstore (lv' := [(7, .long (iL ((((((((((a1 - 96) * 32) + a3) - 96) * 32) + a5) - 96) * 32) + a6) - 96))), (0, .int (iI a1)), (1, .int (iI a2)), (2, .int (iI a3)), (3, .int (iI a4)), (4, .int (iI a5)), (5, .int (iI a6)), (6, .int (iI a7))]) hx hb dX11_spelled_130 hl (by decide) rfl (fun ls hl => ?_)
            refine lv_iload hx hb dX11_spelled_132 (lv_at hl 7 rfl) ?_
            refine gi_zle (tgt := 154) hx hb dX11_spelled_134 (by decide) (by omega) (fun c_25 => ?_) (fun c_25 => ?_)
            · refine lv_lload hx hb dX11_spelled_154 (lv_at hl 0 rfl) ?_
              exact g_lret hQ C hr hlocks hP hS dX11_spelled_156 ⟨((((((((((a1 - 96) * 32) + a3) - 96) * 32) + a5) - 96) * 32) + a6) - 96), rfl, rfl, rfl, rfl⟩
            · refine lv_lload hx hb dX11_spelled_137 (lv_at hl 0 rfl) ?_
              refine lv_ldc2 (v := iL 32) hx hb C.2.2.2.1 (C.2.2.1 _ (show Cond.constantLong RX11 176 (iL 32) ∈ gWs from mD_X11_176)) dX11_spelled_139 ?_
              refine gl_mul (z := (((((((((((a1 - 96) * 32) + a3) - 96) * 32) + a5) - 96) * 32) + a6) - 96) * 32)) hx hb dX11_spelled_142 rfl ?_
              refine lv_iload hx hb dX11_spelled_143 (lv_at hl 7 rfl) ?_
              refine gi_i2l hx hb (by omega) dX11_spelled_145 ?_
              refine gl_add (z := ((((((((((((a1 - 96) * 32) + a3) - 96) * 32) + a5) - 96) * 32) + a6) - 96) * 32) + a7)) hx hb dX11_spelled_146 rfl ?_
              refine lv_ldc2 (v := iL 96) hx hb C.2.2.2.1 (C.2.2.1 _ (show Cond.constantLong RX11 178 (iL 96) ∈ gWs from mD_X11_178)) dX11_spelled_147 ?_
              refine gl_sub (z := (((((((((((((a1 - 96) * 32) + a3) - 96) * 32) + a5) - 96) * 32) + a6) - 96) * 32) + a7) - 96)) hx hb dX11_spelled_150 rfl ?_
              refine lv_goto (tgt := 156) hx hb dX11_spelled_151 (by decide) ?_
              exact g_lret hQ C hr hlocks hP hS dX11_spelled_156 ⟨(((((((((((((a1 - 96) * 32) + a3) - 96) * 32) + a5) - 96) * 32) + a6) - 96) * 32) + a7) - 96), rfl, rfl, rfl, rfl⟩
      · refine lv_lload hx hb dX11_spelled_60 (lv_at hl 0 rfl) ?_
        refine lv_ldc2 (v := iL 32) hx hb C.2.2.2.1 (C.2.2.1 _ (show Cond.constantLong RX11 176 (iL 32) ∈ gWs from mD_X11_176)) dX11_spelled_62 ?_
        refine gl_mul (z := (((((a1 - 96) * 32) + a3) - 96) * 32)) hx hb dX11_spelled_65 rfl ?_
        refine lv_iload_n hx hb dX11_spelled_66 rfl (lv_at hl 4 rfl) ?_
        refine gi_i2l hx hb (by omega) dX11_spelled_67 ?_
        refine gl_add (z := ((((((a1 - 96) * 32) + a3) - 96) * 32) + a4)) hx hb dX11_spelled_68 rfl ?_
        refine lv_ldc2 (v := iL 96) hx hb C.2.2.2.1 (C.2.2.1 _ (show Cond.constantLong RX11 178 (iL 96) ∈ gWs from mD_X11_178)) dX11_spelled_69 ?_
        refine gl_sub (z := (((((((a1 - 96) * 32) + a3) - 96) * 32) + a4) - 96)) hx hb dX11_spelled_72 rfl ?_
        refine lv_goto (tgt := 78) hx hb dX11_spelled_73 (by decide) ?_
        refine lv_lstore (lv' := [(7, .long (iL (((((((a1 - 96) * 32) + a3) - 96) * 32) + a4) - 96))), (0, .int (iI a1)), (1, .int (iI a2)), (2, .int (iI a3)), (3, .int (iI a4)), (4, .int (iI a5)), (5, .int (iI a6)), (6, .int (iI a7))]) hx hb dX11_spelled_78 hl (by decide) rfl (fun ls hl => ?_)
        refine lv_iload hx hb dX11_spelled_80 (lv_at hl 5 rfl) ?_
        refine gi_zle (tgt := 102) hx hb dX11_spelled_82 (by decide) (by omega) (fun c_26 => ?_) (fun c_26 => ?_)
        · refine lv_lload hx hb dX11_spelled_102 (lv_at hl 0 rfl) ?_
          refine lv_lstore (lv' := [(7, .long (iL (((((((a1 - 96) * 32) + a3) - 96) * 32) + a4) - 96))), (0, .int (iI a1)), (1, .int (iI a2)), (2, .int (iI a3)), (3, .int (iI a4)), (4, .int (iI a5)), (5, .int (iI a6)), (6, .int (iI a7))]) hx hb dX11_spelled_104 hl (by decide) rfl (fun ls hl => ?_)
          refine lv_iload hx hb dX11_spelled_106 (lv_at hl 6 rfl) ?_
          refine gi_zle (tgt := 128) hx hb dX11_spelled_108 (by decide) (by omega) (fun c_27 => ?_) (fun c_27 => ?_)
          · refine lv_lload hx hb dX11_spelled_128 (lv_at hl 0 rfl) ?_
            refine lv_lstore (lv' := [(7, .long (iL (((((((a1 - 96) * 32) + a3) - 96) * 32) + a4) - 96))), (0, .int (iI a1)), (1, .int (iI a2)), (2, .int (iI a3)), (3, .int (iI a4)), (4, .int (iI a5)), (5, .int (iI a6)), (6, .int (iI a7))]) hx hb dX11_spelled_130 hl (by decide) rfl (fun ls hl => ?_)
            refine lv_iload hx hb dX11_spelled_132 (lv_at hl 7 rfl) ?_
            refine gi_zle (tgt := 154) hx hb dX11_spelled_134 (by decide) (by omega) (fun c_28 => ?_) (fun c_28 => ?_)
            · refine lv_lload hx hb dX11_spelled_154 (lv_at hl 0 rfl) ?_
              exact g_lret hQ C hr hlocks hP hS dX11_spelled_156 ⟨(((((((a1 - 96) * 32) + a3) - 96) * 32) + a4) - 96), rfl, rfl, rfl, rfl⟩
            · refine lv_lload hx hb dX11_spelled_137 (lv_at hl 0 rfl) ?_
              refine lv_ldc2 (v := iL 32) hx hb C.2.2.2.1 (C.2.2.1 _ (show Cond.constantLong RX11 176 (iL 32) ∈ gWs from mD_X11_176)) dX11_spelled_139 ?_
              refine gl_mul (z := ((((((((a1 - 96) * 32) + a3) - 96) * 32) + a4) - 96) * 32)) hx hb dX11_spelled_142 rfl ?_
              refine lv_iload hx hb dX11_spelled_143 (lv_at hl 7 rfl) ?_
              refine gi_i2l hx hb (by omega) dX11_spelled_145 ?_
              refine gl_add (z := (((((((((a1 - 96) * 32) + a3) - 96) * 32) + a4) - 96) * 32) + a7)) hx hb dX11_spelled_146 rfl ?_
              refine lv_ldc2 (v := iL 96) hx hb C.2.2.2.1 (C.2.2.1 _ (show Cond.constantLong RX11 178 (iL 96) ∈ gWs from mD_X11_178)) dX11_spelled_147 ?_
              refine gl_sub (z := ((((((((((a1 - 96) * 32) + a3) - 96) * 32) + a4) - 96) * 32) + a7) - 96)) hx hb dX11_spelled_150 rfl ?_
              refine lv_goto (tgt := 156) hx hb dX11_spelled_151 (by decide) ?_
              exact g_lret hQ C hr hlocks hP hS dX11_spelled_156 ⟨((((((((((a1 - 96) * 32) + a3) - 96) * 32) + a4) - 96) * 32) + a7) - 96), rfl, rfl, rfl, rfl⟩
          · refine lv_lload hx hb dX11_spelled_111 (lv_at hl 0 rfl) ?_
            refine lv_ldc2 (v := iL 32) hx hb C.2.2.2.1 (C.2.2.1 _ (show Cond.constantLong RX11 176 (iL 32) ∈ gWs from mD_X11_176)) dX11_spelled_113 ?_
            refine gl_mul (z := ((((((((a1 - 96) * 32) + a3) - 96) * 32) + a4) - 96) * 32)) hx hb dX11_spelled_116 rfl ?_
            refine lv_iload hx hb dX11_spelled_117 (lv_at hl 6 rfl) ?_
            refine gi_i2l hx hb (by omega) dX11_spelled_119 ?_
            refine gl_add (z := (((((((((a1 - 96) * 32) + a3) - 96) * 32) + a4) - 96) * 32) + a6)) hx hb dX11_spelled_120 rfl ?_
            refine lv_ldc2 (v := iL 96) hx hb C.2.2.2.1 (C.2.2.1 _ (show Cond.constantLong RX11 178 (iL 96) ∈ gWs from mD_X11_178)) dX11_spelled_121 ?_
            refine gl_sub (z := ((((((((((a1 - 96) * 32) + a3) - 96) * 32) + a4) - 96) * 32) + a6) - 96)) hx hb dX11_spelled_124 rfl ?_
            refine lv_goto (tgt := 130) hx hb dX11_spelled_125 (by decide) ?_
            refine lv_lstore (lv' := [(7, .long (iL ((((((((((a1 - 96) * 32) + a3) - 96) * 32) + a4) - 96) * 32) + a6) - 96))), (0, .int (iI a1)), (1, .int (iI a2)), (2, .int (iI a3)), (3, .int (iI a4)), (4, .int (iI a5)), (5, .int (iI a6)), (6, .int (iI a7))]) hx hb dX11_spelled_130 hl (by decide) rfl (fun ls hl => ?_)
            refine lv_iload hx hb dX11_spelled_132 (lv_at hl 7 rfl) ?_
            refine gi_zle (tgt := 154) hx hb dX11_spelled_134 (by decide) (by omega) (fun c_29 => ?_) (fun c_29 => ?_)
            · refine lv_lload hx hb dX11_spelled_154 (lv_at hl 0 rfl) ?_
              exact g_lret hQ C hr hlocks hP hS dX11_spelled_156 ⟨((((((((((a1 - 96) * 32) + a3) - 96) * 32) + a4) - 96) * 32) + a6) - 96), rfl, rfl, rfl, rfl⟩
            · refine lv_lload hx hb dX11_spelled_137 (lv_at hl 0 rfl) ?_
              refine lv_ldc2 (v := iL 32) hx hb C.2.2.2.1 (C.2.2.1 _ (show Cond.constantLong RX11 176 (iL 32) ∈ gWs from mD_X11_176)) dX11_spelled_139 ?_
              refine gl_mul (z := (((((((((((a1 - 96) * 32) + a3) - 96) * 32) + a4) - 96) * 32) + a6) - 96) * 32)) hx hb dX11_spelled_142 rfl ?_
              refine lv_iload hx hb dX11_spelled_143 (lv_at hl 7 rfl) ?_
              refine gi_i2l hx hb (by omega) dX11_spelled_145 ?_
              refine gl_add (z := ((((((((((((a1 - 96) * 32) + a3) - 96) * 32) + a4) - 96) * 32) + a6) - 96) * 32) + a7)) hx hb dX11_spelled_146 rfl ?_
              refine lv_ldc2 (v := iL 96) hx hb C.2.2.2.1 (C.2.2.1 _ (show Cond.constantLong RX11 178 (iL 96) ∈ gWs from mD_X11_178)) dX11_spelled_147 ?_
              refine gl_sub (z := (((((((((((((a1 - 96) * 32) + a3) - 96) * 32) + a4) - 96) * 32) + a6) - 96) * 32) + a7) - 96)) hx hb dX11_spelled_150 rfl ?_
              refine lv_goto (tgt := 156) hx hb dX11_spelled_151 (by decide) ?_
              exact g_lret hQ C hr hlocks hP hS dX11_spelled_156 ⟨(((((((((((((a1 - 96) * 32) + a3) - 96) * 32) + a4) - 96) * 32) + a6) - 96) * 32) + a7) - 96), rfl, rfl, rfl, rfl⟩
        · refine lv_lload hx hb dX11_spelled_85 (lv_at hl 0 rfl) ?_
          refine lv_ldc2 (v := iL 32) hx hb C.2.2.2.1 (C.2.2.1 _ (show Cond.constantLong RX11 176 (iL 32) ∈ gWs from mD_X11_176)) dX11_spelled_87 ?_
          refine gl_mul (z := ((((((((a1 - 96) * 32) + a3) - 96) * 32) + a4) - 96) * 32)) hx hb dX11_spelled_90 rfl ?_
          refine lv_iload hx hb dX11_spelled_91 (lv_at hl 5 rfl) ?_
          refine gi_i2l hx hb (by omega) dX11_spelled_93 ?_
          refine gl_add (z := (((((((((a1 - 96) * 32) + a3) - 96) * 32) + a4) - 96) * 32) + a5)) hx hb dX11_spelled_94 rfl ?_
          refine lv_ldc2 (v := iL 96) hx hb C.2.2.2.1 (C.2.2.1 _ (show Cond.constantLong RX11 178 (iL 96) ∈ gWs from mD_X11_178)) dX11_spelled_95 ?_
          refine gl_sub (z := ((((((((((a1 - 96) * 32) + a3) - 96) * 32) + a4) - 96) * 32) + a5) - 96)) hx hb dX11_spelled_98 rfl ?_
          refine lv_goto (tgt := 104) hx hb dX11_spelled_99 (by decide) ?_
          refine lv_lstore (lv' := [(7, .long (iL ((((((((((a1 - 96) * 32) + a3) - 96) * 32) + a4) - 96) * 32) + a5) - 96))), (0, .int (iI a1)), (1, .int (iI a2)), (2, .int (iI a3)), (3, .int (iI a4)), (4, .int (iI a5)), (5, .int (iI a6)), (6, .int (iI a7))]) hx hb dX11_spelled_104 hl (by decide) rfl (fun ls hl => ?_)
          refine lv_iload hx hb dX11_spelled_106 (lv_at hl 6 rfl) ?_
          refine gi_zle (tgt := 128) hx hb dX11_spelled_108 (by decide) (by omega) (fun c_30 => ?_) (fun c_30 => ?_)
          · refine lv_lload hx hb dX11_spelled_128 (lv_at hl 0 rfl) ?_
            refine lv_lstore (lv' := [(7, .long (iL ((((((((((a1 - 96) * 32) + a3) - 96) * 32) + a4) - 96) * 32) + a5) - 96))), (0, .int (iI a1)), (1, .int (iI a2)), (2, .int (iI a3)), (3, .int (iI a4)), (4, .int (iI a5)), (5, .int (iI a6)), (6, .int (iI a7))]) hx hb dX11_spelled_130 hl (by decide) rfl (fun ls hl => ?_)
            refine lv_iload hx hb dX11_spelled_132 (lv_at hl 7 rfl) ?_
            refine gi_zle (tgt := 154) hx hb dX11_spelled_134 (by decide) (by omega) (fun c_31 => ?_) (fun c_31 => ?_)
            · refine lv_lload hx hb dX11_spelled_154 (lv_at hl 0 rfl) ?_
              exact g_lret hQ C hr hlocks hP hS dX11_spelled_156 ⟨((((((((((a1 - 96) * 32) + a3) - 96) * 32) + a4) - 96) * 32) + a5) - 96), rfl, rfl, rfl, rfl⟩
            · refine lv_lload hx hb dX11_spelled_137 (lv_at hl 0 rfl) ?_
              refine lv_ldc2 (v := iL 32) hx hb C.2.2.2.1 (C.2.2.1 _ (show Cond.constantLong RX11 176 (iL 32) ∈ gWs from mD_X11_176)) dX11_spelled_139 ?_
              refine gl_mul (z := (((((((((((a1 - 96) * 32) + a3) - 96) * 32) + a4) - 96) * 32) + a5) - 96) * 32)) hx hb dX11_spelled_142 rfl ?_
              refine lv_iload hx hb dX11_spelled_143 (lv_at hl 7 rfl) ?_
              refine gi_i2l hx hb (by omega) dX11_spelled_145 ?_
              refine gl_add (z := ((((((((((((a1 - 96) * 32) + a3) - 96) * 32) + a4) - 96) * 32) + a5) - 96) * 32) + a7)) hx hb dX11_spelled_146 rfl ?_
              refine lv_ldc2 (v := iL 96) hx hb C.2.2.2.1 (C.2.2.1 _ (show Cond.constantLong RX11 178 (iL 96) ∈ gWs from mD_X11_178)) dX11_spelled_147 ?_
              refine gl_sub (z := (((((((((((((a1 - 96) * 32) + a3) - 96) * 32) + a4) - 96) * 32) + a5) - 96) * 32) + a7) - 96)) hx hb dX11_spelled_150 rfl ?_
              refine lv_goto (tgt := 156) hx hb dX11_spelled_151 (by decide) ?_
              exact g_lret hQ C hr hlocks hP hS dX11_spelled_156 ⟨(((((((((((((a1 - 96) * 32) + a3) - 96) * 32) + a4) - 96) * 32) + a5) - 96) * 32) + a7) - 96), rfl, rfl, rfl, rfl⟩
          · refine lv_lload hx hb dX11_spelled_111 (lv_at hl 0 rfl) ?_
            refine lv_ldc2 (v := iL 32) hx hb C.2.2.2.1 (C.2.2.1 _ (show Cond.constantLong RX11 176 (iL 32) ∈ gWs from mD_X11_176)) dX11_spelled_113 ?_
            refine gl_mul (z := (((((((((((a1 - 96) * 32) + a3) - 96) * 32) + a4) - 96) * 32) + a5) - 96) * 32)) hx hb dX11_spelled_116 rfl ?_
            refine lv_iload hx hb dX11_spelled_117 (lv_at hl 6 rfl) ?_
            refine gi_i2l hx hb (by omega) dX11_spelled_119 ?_
            refine gl_add (z := ((((((((((((a1 - 96) * 32) + a3) - 96) * 32) + a4) - 96) * 32) + a5) - 96) * 32) + a6)) hx hb dX11_spelled_120 rfl ?_
            refine lv_ldc2 (v := iL 96) hx hb C.2.2.2.1 (C.2.2.1 _ (show Cond.constantLong RX11 178 (iL 96) ∈ gWs from mD_X11_178)) dX11_spelled_121 ?_
            refine gl_sub (z := (((((((((((((a1 - 96) * 32) + a3) - 96) * 32) + a4) - 96) * 32) + a5) - 96) * 32) + a6) - 96)) hx hb dX11_spelled_124 rfl ?_
            refine lv_goto (tgt := 130) hx hb dX11_spelled_125 (by decide) ?_
            refine lv_lstore (lv' := [(7, .long (iL (((((((((((((a1 - 96) * 32) + a3) - 96) * 32) + a4) - 96) * 32) + a5) - 96) * 32) + a6) - 96))), (0, .int (iI a1)), (1, .int (iI a2)), (2, .int (iI a3)), (3, .int (iI a4)), (4, .int (iI a5)), (5, .int (iI a6)), (6, .int (iI a7))]) hx hb dX11_spelled_130 hl (by decide) rfl (fun ls hl => ?_)
            refine lv_iload hx hb dX11_spelled_132 (lv_at hl 7 rfl) ?_
            refine gi_zle (tgt := 154) hx hb dX11_spelled_134 (by decide) (by omega) (fun c_32 => ?_) (fun c_32 => ?_)
            · refine lv_lload hx hb dX11_spelled_154 (lv_at hl 0 rfl) ?_
              exact g_lret hQ C hr hlocks hP hS dX11_spelled_156 ⟨(((((((((((((a1 - 96) * 32) + a3) - 96) * 32) + a4) - 96) * 32) + a5) - 96) * 32) + a6) - 96), rfl, rfl, rfl, rfl⟩
            · refine lv_lload hx hb dX11_spelled_137 (lv_at hl 0 rfl) ?_
              refine lv_ldc2 (v := iL 32) hx hb C.2.2.2.1 (C.2.2.1 _ (show Cond.constantLong RX11 176 (iL 32) ∈ gWs from mD_X11_176)) dX11_spelled_139 ?_
              refine gl_mul (z := ((((((((((((((a1 - 96) * 32) + a3) - 96) * 32) + a4) - 96) * 32) + a5) - 96) * 32) + a6) - 96) * 32)) hx hb dX11_spelled_142 rfl ?_
              refine lv_iload hx hb dX11_spelled_143 (lv_at hl 7 rfl) ?_
              refine gi_i2l hx hb (by omega) dX11_spelled_145 ?_
              refine gl_add (z := (((((((((((((((a1 - 96) * 32) + a3) - 96) * 32) + a4) - 96) * 32) + a5) - 96) * 32) + a6) - 96) * 32) + a7)) hx hb dX11_spelled_146 rfl ?_
              refine lv_ldc2 (v := iL 96) hx hb C.2.2.2.1 (C.2.2.1 _ (show Cond.constantLong RX11 178 (iL 96) ∈ gWs from mD_X11_178)) dX11_spelled_147 ?_
              refine gl_sub (z := ((((((((((((((((a1 - 96) * 32) + a3) - 96) * 32) + a4) - 96) * 32) + a5) - 96) * 32) + a6) - 96) * 32) + a7) - 96)) hx hb dX11_spelled_150 rfl ?_
              refine lv_goto (tgt := 156) hx hb dX11_spelled_151 (by decide) ?_
              exact g_lret hQ C hr hlocks hP hS dX11_spelled_156 ⟨((((((((((((((((a1 - 96) * 32) + a3) - 96) * 32) + a4) - 96) * 32) + a5) - 96) * 32) + a6) - 96) * 32) + a7) - 96), rfl, rfl, rfl, rfl⟩
  · refine lv_lload hx hb dX11_spelled_12 (lv_at hl 0 rfl) ?_
    refine lv_ldc2 (v := iL 32) hx hb C.2.2.2.1 (C.2.2.1 _ (show Cond.constantLong RX11 176 (iL 32) ∈ gWs from mD_X11_176)) dX11_spelled_14 ?_
    refine gl_mul (z := ((a1 - 96) * 32)) hx hb dX11_spelled_17 rfl ?_
    refine lv_iload_n hx hb dX11_spelled_18 rfl (lv_at hl 2 rfl) ?_
    refine gi_i2l hx hb (by omega) dX11_spelled_19 ?_
    refine gl_add (z := (((a1 - 96) * 32) + a2)) hx hb dX11_spelled_20 rfl ?_
    refine lv_ldc2 (v := iL 96) hx hb C.2.2.2.1 (C.2.2.1 _ (show Cond.constantLong RX11 178 (iL 96) ∈ gWs from mD_X11_178)) dX11_spelled_21 ?_
    refine gl_sub (z := ((((a1 - 96) * 32) + a2) - 96)) hx hb dX11_spelled_24 rfl ?_
    refine lv_goto (tgt := 30) hx hb dX11_spelled_25 (by decide) ?_
    refine lv_lstore (lv' := [(7, .long (iL ((((a1 - 96) * 32) + a2) - 96))), (0, .int (iI a1)), (1, .int (iI a2)), (2, .int (iI a3)), (3, .int (iI a4)), (4, .int (iI a5)), (5, .int (iI a6)), (6, .int (iI a7))]) hx hb dX11_spelled_30 hl (by decide) rfl (fun ls hl => ?_)
    refine lv_iload_n hx hb dX11_spelled_32 rfl (lv_at hl 3 rfl) ?_
    refine gi_zle (tgt := 52) hx hb dX11_spelled_33 (by decide) (by omega) (fun c_33 => ?_) (fun c_33 => ?_)
    · refine lv_lload hx hb dX11_spelled_52 (lv_at hl 0 rfl) ?_
      refine lv_lstore (lv' := [(7, .long (iL ((((a1 - 96) * 32) + a2) - 96))), (0, .int (iI a1)), (1, .int (iI a2)), (2, .int (iI a3)), (3, .int (iI a4)), (4, .int (iI a5)), (5, .int (iI a6)), (6, .int (iI a7))]) hx hb dX11_spelled_54 hl (by decide) rfl (fun ls hl => ?_)
      refine lv_iload_n hx hb dX11_spelled_56 rfl (lv_at hl 4 rfl) ?_
      refine gi_zle (tgt := 76) hx hb dX11_spelled_57 (by decide) (by omega) (fun c_34 => ?_) (fun c_34 => ?_)
      · refine lv_lload hx hb dX11_spelled_76 (lv_at hl 0 rfl) ?_
        refine lv_lstore (lv' := [(7, .long (iL ((((a1 - 96) * 32) + a2) - 96))), (0, .int (iI a1)), (1, .int (iI a2)), (2, .int (iI a3)), (3, .int (iI a4)), (4, .int (iI a5)), (5, .int (iI a6)), (6, .int (iI a7))]) hx hb dX11_spelled_78 hl (by decide) rfl (fun ls hl => ?_)
        refine lv_iload hx hb dX11_spelled_80 (lv_at hl 5 rfl) ?_
        refine gi_zle (tgt := 102) hx hb dX11_spelled_82 (by decide) (by omega) (fun c_35 => ?_) (fun c_35 => ?_)
        · refine lv_lload hx hb dX11_spelled_102 (lv_at hl 0 rfl) ?_
          refine lv_lstore (lv' := [(7, .long (iL ((((a1 - 96) * 32) + a2) - 96))), (0, .int (iI a1)), (1, .int (iI a2)), (2, .int (iI a3)), (3, .int (iI a4)), (4, .int (iI a5)), (5, .int (iI a6)), (6, .int (iI a7))]) hx hb dX11_spelled_104 hl (by decide) rfl (fun ls hl => ?_)
          refine lv_iload hx hb dX11_spelled_106 (lv_at hl 6 rfl) ?_
          refine gi_zle (tgt := 128) hx hb dX11_spelled_108 (by decide) (by omega) (fun c_36 => ?_) (fun c_36 => ?_)
          · refine lv_lload hx hb dX11_spelled_128 (lv_at hl 0 rfl) ?_
            refine lv_lstore (lv' := [(7, .long (iL ((((a1 - 96) * 32) + a2) - 96))), (0, .int (iI a1)), (1, .int (iI a2)), (2, .int (iI a3)), (3, .int (iI a4)), (4, .int (iI a5)), (5, .int (iI a6)), (6, .int (iI a7))]) hx hb dX11_spelled_130 hl (by decide) rfl (fun ls hl => ?_)
            refine lv_iload hx hb dX11_spelled_132 (lv_at hl 7 rfl) ?_
            refine gi_zle (tgt := 154) hx hb dX11_spelled_134 (by decide) (by omega) (fun c_37 => ?_) (fun c_37 => ?_)
            · refine lv_lload hx hb dX11_spelled_154 (lv_at hl 0 rfl) ?_
              exact g_lret hQ C hr hlocks hP hS dX11_spelled_156 ⟨((((a1 - 96) * 32) + a2) - 96), rfl, rfl, rfl, rfl⟩
            · refine lv_lload hx hb dX11_spelled_137 (lv_at hl 0 rfl) ?_
              refine lv_ldc2 (v := iL 32) hx hb C.2.2.2.1 (C.2.2.1 _ (show Cond.constantLong RX11 176 (iL 32) ∈ gWs from mD_X11_176)) dX11_spelled_139 ?_
              refine gl_mul (z := (((((a1 - 96) * 32) + a2) - 96) * 32)) hx hb dX11_spelled_142 rfl ?_
              refine lv_iload hx hb dX11_spelled_143 (lv_at hl 7 rfl) ?_
              refine gi_i2l hx hb (by omega) dX11_spelled_145 ?_
              refine gl_add (z := ((((((a1 - 96) * 32) + a2) - 96) * 32) + a7)) hx hb dX11_spelled_146 rfl ?_
              refine lv_ldc2 (v := iL 96) hx hb C.2.2.2.1 (C.2.2.1 _ (show Cond.constantLong RX11 178 (iL 96) ∈ gWs from mD_X11_178)) dX11_spelled_147 ?_
              refine gl_sub (z := (((((((a1 - 96) * 32) + a2) - 96) * 32) + a7) - 96)) hx hb dX11_spelled_150 rfl ?_
              refine lv_goto (tgt := 156) hx hb dX11_spelled_151 (by decide) ?_
              exact g_lret hQ C hr hlocks hP hS dX11_spelled_156 ⟨(((((((a1 - 96) * 32) + a2) - 96) * 32) + a7) - 96), rfl, rfl, rfl, rfl⟩
          · refine lv_lload hx hb dX11_spelled_111 (lv_at hl 0 rfl) ?_
            refine lv_ldc2 (v := iL 32) hx hb C.2.2.2.1 (C.2.2.1 _ (show Cond.constantLong RX11 176 (iL 32) ∈ gWs from mD_X11_176)) dX11_spelled_113 ?_
            refine gl_mul (z := (((((a1 - 96) * 32) + a2) - 96) * 32)) hx hb dX11_spelled_116 rfl ?_
            refine lv_iload hx hb dX11_spelled_117 (lv_at hl 6 rfl) ?_
            refine gi_i2l hx hb (by omega) dX11_spelled_119 ?_
            refine gl_add (z := ((((((a1 - 96) * 32) + a2) - 96) * 32) + a6)) hx hb dX11_spelled_120 rfl ?_
            refine lv_ldc2 (v := iL 96) hx hb C.2.2.2.1 (C.2.2.1 _ (show Cond.constantLong RX11 178 (iL 96) ∈ gWs from mD_X11_178)) dX11_spelled_121 ?_
            refine gl_sub (z := (((((((a1 - 96) * 32) + a2) - 96) * 32) + a6) - 96)) hx hb dX11_spelled_124 rfl ?_
            refine lv_goto (tgt := 130) hx hb dX11_spelled_125 (by decide) ?_
            refine lv_lstore (lv' := [(7, .long (iL (((((((a1 - 96) * 32) + a2) - 96) * 32) + a6) - 96))), (0, .int (iI a1)), (1, .int (iI a2)), (2, .int (iI a3)), (3, .int (iI a4)), (4, .int (iI a5)), (5, .int (iI a6)), (6, .int (iI a7))]) hx hb dX11_spelled_130 hl (by decide) rfl (fun ls hl => ?_)
            refine lv_iload hx hb dX11_spelled_132 (lv_at hl 7 rfl) ?_
            refine gi_zle (tgt := 154) hx hb dX11_spelled_134 (by decide) (by omega) (fun c_38 => ?_) (fun c_38 => ?_)
            · refine lv_lload hx hb dX11_spelled_154 (lv_at hl 0 rfl) ?_
              exact g_lret hQ C hr hlocks hP hS dX11_spelled_156 ⟨(((((((a1 - 96) * 32) + a2) - 96) * 32) + a6) - 96), rfl, rfl, rfl, rfl⟩
            · refine lv_lload hx hb dX11_spelled_137 (lv_at hl 0 rfl) ?_
              refine lv_ldc2 (v := iL 32) hx hb C.2.2.2.1 (C.2.2.1 _ (show Cond.constantLong RX11 176 (iL 32) ∈ gWs from mD_X11_176)) dX11_spelled_139 ?_
              refine gl_mul (z := ((((((((a1 - 96) * 32) + a2) - 96) * 32) + a6) - 96) * 32)) hx hb dX11_spelled_142 rfl ?_
              refine lv_iload hx hb dX11_spelled_143 (lv_at hl 7 rfl) ?_
              refine gi_i2l hx hb (by omega) dX11_spelled_145 ?_
              refine gl_add (z := (((((((((a1 - 96) * 32) + a2) - 96) * 32) + a6) - 96) * 32) + a7)) hx hb dX11_spelled_146 rfl ?_
              refine lv_ldc2 (v := iL 96) hx hb C.2.2.2.1 (C.2.2.1 _ (show Cond.constantLong RX11 178 (iL 96) ∈ gWs from mD_X11_178)) dX11_spelled_147 ?_
              refine gl_sub (z := ((((((((((a1 - 96) * 32) + a2) - 96) * 32) + a6) - 96) * 32) + a7) - 96)) hx hb dX11_spelled_150 rfl ?_
              refine lv_goto (tgt := 156) hx hb dX11_spelled_151 (by decide) ?_
              exact g_lret hQ C hr hlocks hP hS dX11_spelled_156 ⟨((((((((((a1 - 96) * 32) + a2) - 96) * 32) + a6) - 96) * 32) + a7) - 96), rfl, rfl, rfl, rfl⟩
        · refine lv_lload hx hb dX11_spelled_85 (lv_at hl 0 rfl) ?_
          refine lv_ldc2 (v := iL 32) hx hb C.2.2.2.1 (C.2.2.1 _ (show Cond.constantLong RX11 176 (iL 32) ∈ gWs from mD_X11_176)) dX11_spelled_87 ?_
          refine gl_mul (z := (((((a1 - 96) * 32) + a2) - 96) * 32)) hx hb dX11_spelled_90 rfl ?_
          refine lv_iload hx hb dX11_spelled_91 (lv_at hl 5 rfl) ?_
          refine gi_i2l hx hb (by omega) dX11_spelled_93 ?_
          refine gl_add (z := ((((((a1 - 96) * 32) + a2) - 96) * 32) + a5)) hx hb dX11_spelled_94 rfl ?_
          refine lv_ldc2 (v := iL 96) hx hb C.2.2.2.1 (C.2.2.1 _ (show Cond.constantLong RX11 178 (iL 96) ∈ gWs from mD_X11_178)) dX11_spelled_95 ?_
          refine gl_sub (z := (((((((a1 - 96) * 32) + a2) - 96) * 32) + a5) - 96)) hx hb dX11_spelled_98 rfl ?_
          refine lv_goto (tgt := 104) hx hb dX11_spelled_99 (by decide) ?_
          refine lv_lstore (lv' := [(7, .long (iL (((((((a1 - 96) * 32) + a2) - 96) * 32) + a5) - 96))), (0, .int (iI a1)), (1, .int (iI a2)), (2, .int (iI a3)), (3, .int (iI a4)), (4, .int (iI a5)), (5, .int (iI a6)), (6, .int (iI a7))]) hx hb dX11_spelled_104 hl (by decide) rfl (fun ls hl => ?_)
          refine lv_iload hx hb dX11_spelled_106 (lv_at hl 6 rfl) ?_
          refine gi_zle (tgt := 128) hx hb dX11_spelled_108 (by decide) (by omega) (fun c_39 => ?_) (fun c_39 => ?_)
          · refine lv_lload hx hb dX11_spelled_128 (lv_at hl 0 rfl) ?_
            refine lv_lstore (lv' := [(7, .long (iL (((((((a1 - 96) * 32) + a2) - 96) * 32) + a5) - 96))), (0, .int (iI a1)), (1, .int (iI a2)), (2, .int (iI a3)), (3, .int (iI a4)), (4, .int (iI a5)), (5, .int (iI a6)), (6, .int (iI a7))]) hx hb dX11_spelled_130 hl (by decide) rfl (fun ls hl => ?_)
            refine lv_iload hx hb dX11_spelled_132 (lv_at hl 7 rfl) ?_
            refine gi_zle (tgt := 154) hx hb dX11_spelled_134 (by decide) (by omega) (fun c_40 => ?_) (fun c_40 => ?_)
            · refine lv_lload hx hb dX11_spelled_154 (lv_at hl 0 rfl) ?_
              exact g_lret hQ C hr hlocks hP hS dX11_spelled_156 ⟨(((((((a1 - 96) * 32) + a2) - 96) * 32) + a5) - 96), rfl, rfl, rfl, rfl⟩
            · refine lv_lload hx hb dX11_spelled_137 (lv_at hl 0 rfl) ?_
              refine lv_ldc2 (v := iL 32) hx hb C.2.2.2.1 (C.2.2.1 _ (show Cond.constantLong RX11 176 (iL 32) ∈ gWs from mD_X11_176)) dX11_spelled_139 ?_
              refine gl_mul (z := ((((((((a1 - 96) * 32) + a2) - 96) * 32) + a5) - 96) * 32)) hx hb dX11_spelled_142 rfl ?_
              refine lv_iload hx hb dX11_spelled_143 (lv_at hl 7 rfl) ?_
              refine gi_i2l hx hb (by omega) dX11_spelled_145 ?_
              refine gl_add (z := (((((((((a1 - 96) * 32) + a2) - 96) * 32) + a5) - 96) * 32) + a7)) hx hb dX11_spelled_146 rfl ?_
              refine lv_ldc2 (v := iL 96) hx hb C.2.2.2.1 (C.2.2.1 _ (show Cond.constantLong RX11 178 (iL 96) ∈ gWs from mD_X11_178)) dX11_spelled_147 ?_
              refine gl_sub (z := ((((((((((a1 - 96) * 32) + a2) - 96) * 32) + a5) - 96) * 32) + a7) - 96)) hx hb dX11_spelled_150 rfl ?_
              refine lv_goto (tgt := 156) hx hb dX11_spelled_151 (by decide) ?_
              exact g_lret hQ C hr hlocks hP hS dX11_spelled_156 ⟨((((((((((a1 - 96) * 32) + a2) - 96) * 32) + a5) - 96) * 32) + a7) - 96), rfl, rfl, rfl, rfl⟩
          · refine lv_lload hx hb dX11_spelled_111 (lv_at hl 0 rfl) ?_
            refine lv_ldc2 (v := iL 32) hx hb C.2.2.2.1 (C.2.2.1 _ (show Cond.constantLong RX11 176 (iL 32) ∈ gWs from mD_X11_176)) dX11_spelled_113 ?_
            refine gl_mul (z := ((((((((a1 - 96) * 32) + a2) - 96) * 32) + a5) - 96) * 32)) hx hb dX11_spelled_116 rfl ?_
            refine lv_iload hx hb dX11_spelled_117 (lv_at hl 6 rfl) ?_
            refine gi_i2l hx hb (by omega) dX11_spelled_119 ?_
            refine gl_add (z := (((((((((a1 - 96) * 32) + a2) - 96) * 32) + a5) - 96) * 32) + a6)) hx hb dX11_spelled_120 rfl ?_
            refine lv_ldc2 (v := iL 96) hx hb C.2.2.2.1 (C.2.2.1 _ (show Cond.constantLong RX11 178 (iL 96) ∈ gWs from mD_X11_178)) dX11_spelled_121 ?_
            refine gl_sub (z := ((((((((((a1 - 96) * 32) + a2) - 96) * 32) + a5) - 96) * 32) + a6) - 96)) hx hb dX11_spelled_124 rfl ?_
            refine lv_goto (tgt := 130) hx hb dX11_spelled_125 (by decide) ?_
            refine lv_lstore (lv' := [(7, .long (iL ((((((((((a1 - 96) * 32) + a2) - 96) * 32) + a5) - 96) * 32) + a6) - 96))), (0, .int (iI a1)), (1, .int (iI a2)), (2, .int (iI a3)), (3, .int (iI a4)), (4, .int (iI a5)), (5, .int (iI a6)), (6, .int (iI a7))]) hx hb dX11_spelled_130 hl (by decide) rfl (fun ls hl => ?_)
            refine lv_iload hx hb dX11_spelled_132 (lv_at hl 7 rfl) ?_
            refine gi_zle (tgt := 154) hx hb dX11_spelled_134 (by decide) (by omega) (fun c_41 => ?_) (fun c_41 => ?_)
            · refine lv_lload hx hb dX11_spelled_154 (lv_at hl 0 rfl) ?_
              exact g_lret hQ C hr hlocks hP hS dX11_spelled_156 ⟨((((((((((a1 - 96) * 32) + a2) - 96) * 32) + a5) - 96) * 32) + a6) - 96), rfl, rfl, rfl, rfl⟩
            · refine lv_lload hx hb dX11_spelled_137 (lv_at hl 0 rfl) ?_
              refine lv_ldc2 (v := iL 32) hx hb C.2.2.2.1 (C.2.2.1 _ (show Cond.constantLong RX11 176 (iL 32) ∈ gWs from mD_X11_176)) dX11_spelled_139 ?_
              refine gl_mul (z := (((((((((((a1 - 96) * 32) + a2) - 96) * 32) + a5) - 96) * 32) + a6) - 96) * 32)) hx hb dX11_spelled_142 rfl ?_
              refine lv_iload hx hb dX11_spelled_143 (lv_at hl 7 rfl) ?_
              refine gi_i2l hx hb (by omega) dX11_spelled_145 ?_
              refine gl_add (z := ((((((((((((a1 - 96) * 32) + a2) - 96) * 32) + a5) - 96) * 32) + a6) - 96) * 32) + a7)) hx hb dX11_spelled_146 rfl ?_
              refine lv_ldc2 (v := iL 96) hx hb C.2.2.2.1 (C.2.2.1 _ (show Cond.constantLong RX11 178 (iL 96) ∈ gWs from mD_X11_178)) dX11_spelled_147 ?_
              refine gl_sub (z := (((((((((((((a1 - 96) * 32) + a2) - 96) * 32) + a5) - 96) * 32) + a6) - 96) * 32) + a7) - 96)) hx hb dX11_spelled_150 rfl ?_
              refine lv_goto (tgt := 156) hx hb dX11_spelled_151 (by decide) ?_
              exact g_lret hQ C hr hlocks hP hS dX11_spelled_156 ⟨(((((((((((((a1 - 96) * 32) + a2) - 96) * 32) + a5) - 96) * 32) + a6) - 96) * 32) + a7) - 96), rfl, rfl, rfl, rfl⟩
      · refine lv_lload hx hb dX11_spelled_60 (lv_at hl 0 rfl) ?_
        refine lv_ldc2 (v := iL 32) hx hb C.2.2.2.1 (C.2.2.1 _ (show Cond.constantLong RX11 176 (iL 32) ∈ gWs from mD_X11_176)) dX11_spelled_62 ?_
        refine gl_mul (z := (((((a1 - 96) * 32) + a2) - 96) * 32)) hx hb dX11_spelled_65 rfl ?_
        refine lv_iload_n hx hb dX11_spelled_66 rfl (lv_at hl 4 rfl) ?_
        refine gi_i2l hx hb (by omega) dX11_spelled_67 ?_
        refine gl_add (z := ((((((a1 - 96) * 32) + a2) - 96) * 32) + a4)) hx hb dX11_spelled_68 rfl ?_
        refine lv_ldc2 (v := iL 96) hx hb C.2.2.2.1 (C.2.2.1 _ (show Cond.constantLong RX11 178 (iL 96) ∈ gWs from mD_X11_178)) dX11_spelled_69 ?_
        refine gl_sub (z := (((((((a1 - 96) * 32) + a2) - 96) * 32) + a4) - 96)) hx hb dX11_spelled_72 rfl ?_
        refine lv_goto (tgt := 78) hx hb dX11_spelled_73 (by decide) ?_
        refine lv_lstore (lv' := [(7, .long (iL (((((((a1 - 96) * 32) + a2) - 96) * 32) + a4) - 96))), (0, .int (iI a1)), (1, .int (iI a2)), (2, .int (iI a3)), (3, .int (iI a4)), (4, .int (iI a5)), (5, .int (iI a6)), (6, .int (iI a7))]) hx hb dX11_spelled_78 hl (by decide) rfl (fun ls hl => ?_)
        refine lv_iload hx hb dX11_spelled_80 (lv_at hl 5 rfl) ?_
        refine gi_zle (tgt := 102) hx hb dX11_spelled_82 (by decide) (by omega) (fun c_42 => ?_) (fun c_42 => ?_)
        · refine lv_lload hx hb dX11_spelled_102 (lv_at hl 0 rfl) ?_
          refine lv_lstore (lv' := [(7, .long (iL (((((((a1 - 96) * 32) + a2) - 96) * 32) + a4) - 96))), (0, .int (iI a1)), (1, .int (iI a2)), (2, .int (iI a3)), (3, .int (iI a4)), (4, .int (iI a5)), (5, .int (iI a6)), (6, .int (iI a7))]) hx hb dX11_spelled_104 hl (by decide) rfl (fun ls hl => ?_)
          refine lv_iload hx hb dX11_spelled_106 (lv_at hl 6 rfl) ?_
          refine gi_zle (tgt := 128) hx hb dX11_spelled_108 (by decide) (by omega) (fun c_43 => ?_) (fun c_43 => ?_)
          · refine lv_lload hx hb dX11_spelled_128 (lv_at hl 0 rfl) ?_
            refine lv_lstore (lv' := [(7, .long (iL (((((((a1 - 96) * 32) + a2) - 96) * 32) + a4) - 96))), (0, .int (iI a1)), (1, .int (iI a2)), (2, .int (iI a3)), (3, .int (iI a4)), (4, .int (iI a5)), (5, .int (iI a6)), (6, .int (iI a7))]) hx hb dX11_spelled_130 hl (by decide) rfl (fun ls hl => ?_)
            refine lv_iload hx hb dX11_spelled_132 (lv_at hl 7 rfl) ?_
            refine gi_zle (tgt := 154) hx hb dX11_spelled_134 (by decide) (by omega) (fun c_44 => ?_) (fun c_44 => ?_)
            · refine lv_lload hx hb dX11_spelled_154 (lv_at hl 0 rfl) ?_
              exact g_lret hQ C hr hlocks hP hS dX11_spelled_156 ⟨(((((((a1 - 96) * 32) + a2) - 96) * 32) + a4) - 96), rfl, rfl, rfl, rfl⟩
            · refine lv_lload hx hb dX11_spelled_137 (lv_at hl 0 rfl) ?_
              refine lv_ldc2 (v := iL 32) hx hb C.2.2.2.1 (C.2.2.1 _ (show Cond.constantLong RX11 176 (iL 32) ∈ gWs from mD_X11_176)) dX11_spelled_139 ?_
              refine gl_mul (z := ((((((((a1 - 96) * 32) + a2) - 96) * 32) + a4) - 96) * 32)) hx hb dX11_spelled_142 rfl ?_
              refine lv_iload hx hb dX11_spelled_143 (lv_at hl 7 rfl) ?_
              refine gi_i2l hx hb (by omega) dX11_spelled_145 ?_
              refine gl_add (z := (((((((((a1 - 96) * 32) + a2) - 96) * 32) + a4) - 96) * 32) + a7)) hx hb dX11_spelled_146 rfl ?_
              refine lv_ldc2 (v := iL 96) hx hb C.2.2.2.1 (C.2.2.1 _ (show Cond.constantLong RX11 178 (iL 96) ∈ gWs from mD_X11_178)) dX11_spelled_147 ?_
              refine gl_sub (z := ((((((((((a1 - 96) * 32) + a2) - 96) * 32) + a4) - 96) * 32) + a7) - 96)) hx hb dX11_spelled_150 rfl ?_
              refine lv_goto (tgt := 156) hx hb dX11_spelled_151 (by decide) ?_
              exact g_lret hQ C hr hlocks hP hS dX11_spelled_156 ⟨((((((((((a1 - 96) * 32) + a2) - 96) * 32) + a4) - 96) * 32) + a7) - 96), rfl, rfl, rfl, rfl⟩
          · refine lv_lload hx hb dX11_spelled_111 (lv_at hl 0 rfl) ?_
            refine lv_ldc2 (v := iL 32) hx hb C.2.2.2.1 (C.2.2.1 _ (show Cond.constantLong RX11 176 (iL 32) ∈ gWs from mD_X11_176)) dX11_spelled_113 ?_
            refine gl_mul (z := ((((((((a1 - 96) * 32) + a2) - 96) * 32) + a4) - 96) * 32)) hx hb dX11_spelled_116 rfl ?_
            refine lv_iload hx hb dX11_spelled_117 (lv_at hl 6 rfl) ?_
            refine gi_i2l hx hb (by omega) dX11_spelled_119 ?_
            refine gl_add (z := (((((((((a1 - 96) * 32) + a2) - 96) * 32) + a4) - 96) * 32) + a6)) hx hb dX11_spelled_120 rfl ?_
            refine lv_ldc2 (v := iL 96) hx hb C.2.2.2.1 (C.2.2.1 _ (show Cond.constantLong RX11 178 (iL 96) ∈ gWs from mD_X11_178)) dX11_spelled_121 ?_
            refine gl_sub (z := ((((((((((a1 - 96) * 32) + a2) - 96) * 32) + a4) - 96) * 32) + a6) - 96)) hx hb dX11_spelled_124 rfl ?_
            refine lv_goto (tgt := 130) hx hb dX11_spelled_125 (by decide) ?_
            refine lv_lstore (lv' := [(7, .long (iL ((((((((((a1 - 96) * 32) + a2) - 96) * 32) + a4) - 96) * 32) + a6) - 96))), (0, .int (iI a1)), (1, .int (iI a2)), (2, .int (iI a3)), (3, .int (iI a4)), (4, .int (iI a5)), (5, .int (iI a6)), (6, .int (iI a7))]) hx hb dX11_spelled_130 hl (by decide) rfl (fun ls hl => ?_)
            refine lv_iload hx hb dX11_spelled_132 (lv_at hl 7 rfl) ?_
            refine gi_zle (tgt := 154) hx hb dX11_spelled_134 (by decide) (by omega) (fun c_45 => ?_) (fun c_45 => ?_)
            · refine lv_lload hx hb dX11_spelled_154 (lv_at hl 0 rfl) ?_
              exact g_lret hQ C hr hlocks hP hS dX11_spelled_156 ⟨((((((((((a1 - 96) * 32) + a2) - 96) * 32) + a4) - 96) * 32) + a6) - 96), rfl, rfl, rfl, rfl⟩
            · refine lv_lload hx hb dX11_spelled_137 (lv_at hl 0 rfl) ?_
              refine lv_ldc2 (v := iL 32) hx hb C.2.2.2.1 (C.2.2.1 _ (show Cond.constantLong RX11 176 (iL 32) ∈ gWs from mD_X11_176)) dX11_spelled_139 ?_
              refine gl_mul (z := (((((((((((a1 - 96) * 32) + a2) - 96) * 32) + a4) - 96) * 32) + a6) - 96) * 32)) hx hb dX11_spelled_142 rfl ?_
              refine lv_iload hx hb dX11_spelled_143 (lv_at hl 7 rfl) ?_
              refine gi_i2l hx hb (by omega) dX11_spelled_145 ?_
              refine gl_add (z := ((((((((((((a1 - 96) * 32) + a2) - 96) * 32) + a4) - 96) * 32) + a6) - 96) * 32) + a7)) hx hb dX11_spelled_146 rfl ?_
              refine lv_ldc2 (v := iL 96) hx hb C.2.2.2.1 (C.2.2.1 _ (show Cond.constantLong RX11 178 (iL 96) ∈ gWs from mD_X11_178)) dX11_spelled_147 ?_
              refine gl_sub (z := (((((((((((((a1 - 96) * 32) + a2) - 96) * 32) + a4) - 96) * 32) + a6) - 96) * 32) + a7) - 96)) hx hb dX11_spelled_150 rfl ?_
              refine lv_goto (tgt := 156) hx hb dX11_spelled_151 (by decide) ?_
              exact g_lret hQ C hr hlocks hP hS dX11_spelled_156 ⟨(((((((((((((a1 - 96) * 32) + a2) - 96) * 32) + a4) - 96) * 32) + a6) - 96) * 32) + a7) - 96), rfl, rfl, rfl, rfl⟩
        · refine lv_lload hx hb dX11_spelled_85 (lv_at hl 0 rfl) ?_
          refine lv_ldc2 (v := iL 32) hx hb C.2.2.2.1 (C.2.2.1 _ (show Cond.constantLong RX11 176 (iL 32) ∈ gWs from mD_X11_176)) dX11_spelled_87 ?_
          refine gl_mul (z := ((((((((a1 - 96) * 32) + a2) - 96) * 32) + a4) - 96) * 32)) hx hb dX11_spelled_90 rfl ?_
          refine lv_iload hx hb dX11_spelled_91 (lv_at hl 5 rfl) ?_
          refine gi_i2l hx hb (by omega) dX11_spelled_93 ?_
          refine gl_add (z := (((((((((a1 - 96) * 32) + a2) - 96) * 32) + a4) - 96) * 32) + a5)) hx hb dX11_spelled_94 rfl ?_
          refine lv_ldc2 (v := iL 96) hx hb C.2.2.2.1 (C.2.2.1 _ (show Cond.constantLong RX11 178 (iL 96) ∈ gWs from mD_X11_178)) dX11_spelled_95 ?_
          refine gl_sub (z := ((((((((((a1 - 96) * 32) + a2) - 96) * 32) + a4) - 96) * 32) + a5) - 96)) hx hb dX11_spelled_98 rfl ?_
          refine lv_goto (tgt := 104) hx hb dX11_spelled_99 (by decide) ?_
          refine lv_lstore (lv' := [(7, .long (iL ((((((((((a1 - 96) * 32) + a2) - 96) * 32) + a4) - 96) * 32) + a5) - 96))), (0, .int (iI a1)), (1, .int (iI a2)), (2, .int (iI a3)), (3, .int (iI a4)), (4, .int (iI a5)), (5, .int (iI a6)), (6, .int (iI a7))]) hx hb dX11_spelled_104 hl (by decide) rfl (fun ls hl => ?_)
          refine lv_iload hx hb dX11_spelled_106 (lv_at hl 6 rfl) ?_
          refine gi_zle (tgt := 128) hx hb dX11_spelled_108 (by decide) (by omega) (fun c_46 => ?_) (fun c_46 => ?_)
          · refine lv_lload hx hb dX11_spelled_128 (lv_at hl 0 rfl) ?_
            refine lv_lstore (lv' := [(7, .long (iL ((((((((((a1 - 96) * 32) + a2) - 96) * 32) + a4) - 96) * 32) + a5) - 96))), (0, .int (iI a1)), (1, .int (iI a2)), (2, .int (iI a3)), (3, .int (iI a4)), (4, .int (iI a5)), (5, .int (iI a6)), (6, .int (iI a7))]) hx hb dX11_spelled_130 hl (by decide) rfl (fun ls hl => ?_)
            refine lv_iload hx hb dX11_spelled_132 (lv_at hl 7 rfl) ?_
            refine gi_zle (tgt := 154) hx hb dX11_spelled_134 (by decide) (by omega) (fun c_47 => ?_) (fun c_47 => ?_)
            · refine lv_lload hx hb dX11_spelled_154 (lv_at hl 0 rfl) ?_
              exact g_lret hQ C hr hlocks hP hS dX11_spelled_156 ⟨((((((((((a1 - 96) * 32) + a2) - 96) * 32) + a4) - 96) * 32) + a5) - 96), rfl, rfl, rfl, rfl⟩
            · refine lv_lload hx hb dX11_spelled_137 (lv_at hl 0 rfl) ?_
              refine lv_ldc2 (v := iL 32) hx hb C.2.2.2.1 (C.2.2.1 _ (show Cond.constantLong RX11 176 (iL 32) ∈ gWs from mD_X11_176)) dX11_spelled_139 ?_
              refine gl_mul (z := (((((((((((a1 - 96) * 32) + a2) - 96) * 32) + a4) - 96) * 32) + a5) - 96) * 32)) hx hb dX11_spelled_142 rfl ?_
              refine lv_iload hx hb dX11_spelled_143 (lv_at hl 7 rfl) ?_
              refine gi_i2l hx hb (by omega) dX11_spelled_145 ?_
              refine gl_add (z := ((((((((((((a1 - 96) * 32) + a2) - 96) * 32) + a4) - 96) * 32) + a5) - 96) * 32) + a7)) hx hb dX11_spelled_146 rfl ?_
              refine lv_ldc2 (v := iL 96) hx hb C.2.2.2.1 (C.2.2.1 _ (show Cond.constantLong RX11 178 (iL 96) ∈ gWs from mD_X11_178)) dX11_spelled_147 ?_
              refine gl_sub (z := (((((((((((((a1 - 96) * 32) + a2) - 96) * 32) + a4) - 96) * 32) + a5) - 96) * 32) + a7) - 96)) hx hb dX11_spelled_150 rfl ?_
              refine lv_goto (tgt := 156) hx hb dX11_spelled_151 (by decide) ?_
              exact g_lret hQ C hr hlocks hP hS dX11_spelled_156 ⟨(((((((((((((a1 - 96) * 32) + a2) - 96) * 32) + a4) - 96) * 32) + a5) - 96) * 32) + a7) - 96), rfl, rfl, rfl, rfl⟩
          · refine lv_lload hx hb dX11_spelled_111 (lv_at hl 0 rfl) ?_
            refine lv_ldc2 (v := iL 32) hx hb C.2.2.2.1 (C.2.2.1 _ (show Cond.constantLong RX11 176 (iL 32) ∈ gWs from mD_X11_176)) dX11_spelled_113 ?_
            refine gl_mul (z := (((((((((((a1 - 96) * 32) + a2) - 96) * 32) + a4) - 96) * 32) + a5) - 96) * 32)) hx hb dX11_spelled_116 rfl ?_
            refine lv_iload hx hb dX11_spelled_117 (lv_at hl 6 rfl) ?_
            refine gi_i2l hx hb (by omega) dX11_spelled_119 ?_
            refine gl_add (z := ((((((((((((a1 - 96) * 32) + a2) - 96) * 32) + a4) - 96) * 32) + a5) - 96) * 32) + a6)) hx hb dX11_spelled_120 rfl ?_
            refine lv_ldc2 (v := iL 96) hx hb C.2.2.2.1 (C.2.2.1 _ (show Cond.constantLong RX11 178 (iL 96) ∈ gWs from mD_X11_178)) dX11_spelled_121 ?_
            refine gl_sub (z := (((((((((((((a1 - 96) * 32) + a2) - 96) * 32) + a4) - 96) * 32) + a5) - 96) * 32) + a6) - 96)) hx hb dX11_spelled_124 rfl ?_
            refine lv_goto (tgt := 130) hx hb dX11_spelled_125 (by decide) ?_
            refine lv_lstore (lv' := [(7, .long (iL (((((((((((((a1 - 96) * 32) + a2) - 96) * 32) + a4) - 96) * 32) + a5) - 96) * 32) + a6) - 96))), (0, .int (iI a1)), (1, .int (iI a2)), (2, .int (iI a3)), (3, .int (iI a4)), (4, .int (iI a5)), (5, .int (iI a6)), (6, .int (iI a7))]) hx hb dX11_spelled_130 hl (by decide) rfl (fun ls hl => ?_)
            refine lv_iload hx hb dX11_spelled_132 (lv_at hl 7 rfl) ?_
            refine gi_zle (tgt := 154) hx hb dX11_spelled_134 (by decide) (by omega) (fun c_48 => ?_) (fun c_48 => ?_)
            · refine lv_lload hx hb dX11_spelled_154 (lv_at hl 0 rfl) ?_
              exact g_lret hQ C hr hlocks hP hS dX11_spelled_156 ⟨(((((((((((((a1 - 96) * 32) + a2) - 96) * 32) + a4) - 96) * 32) + a5) - 96) * 32) + a6) - 96), rfl, rfl, rfl, rfl⟩
            · refine lv_lload hx hb dX11_spelled_137 (lv_at hl 0 rfl) ?_
              refine lv_ldc2 (v := iL 32) hx hb C.2.2.2.1 (C.2.2.1 _ (show Cond.constantLong RX11 176 (iL 32) ∈ gWs from mD_X11_176)) dX11_spelled_139 ?_
              refine gl_mul (z := ((((((((((((((a1 - 96) * 32) + a2) - 96) * 32) + a4) - 96) * 32) + a5) - 96) * 32) + a6) - 96) * 32)) hx hb dX11_spelled_142 rfl ?_
              refine lv_iload hx hb dX11_spelled_143 (lv_at hl 7 rfl) ?_
              refine gi_i2l hx hb (by omega) dX11_spelled_145 ?_
              refine gl_add (z := (((((((((((((((a1 - 96) * 32) + a2) - 96) * 32) + a4) - 96) * 32) + a5) - 96) * 32) + a6) - 96) * 32) + a7)) hx hb dX11_spelled_146 rfl ?_
              refine lv_ldc2 (v := iL 96) hx hb C.2.2.2.1 (C.2.2.1 _ (show Cond.constantLong RX11 178 (iL 96) ∈ gWs from mD_X11_178)) dX11_spelled_147 ?_
              refine gl_sub (z := ((((((((((((((((a1 - 96) * 32) + a2) - 96) * 32) + a4) - 96) * 32) + a5) - 96) * 32) + a6) - 96) * 32) + a7) - 96)) hx hb dX11_spelled_150 rfl ?_
              refine lv_goto (tgt := 156) hx hb dX11_spelled_151 (by decide) ?_
              exact g_lret hQ C hr hlocks hP hS dX11_spelled_156 ⟨((((((((((((((((a1 - 96) * 32) + a2) - 96) * 32) + a4) - 96) * 32) + a5) - 96) * 32) + a6) - 96) * 32) + a7) - 96), rfl, rfl, rfl, rfl⟩
    · refine lv_lload hx hb dX11_spelled_36 (lv_at hl 0 rfl) ?_
      refine lv_ldc2 (v := iL 32) hx hb C.2.2.2.1 (C.2.2.1 _ (show Cond.constantLong RX11 176 (iL 32) ∈ gWs from mD_X11_176)) dX11_spelled_38 ?_
      refine gl_mul (z := (((((a1 - 96) * 32) + a2) - 96) * 32)) hx hb dX11_spelled_41 rfl ?_
      refine lv_iload_n hx hb dX11_spelled_42 rfl (lv_at hl 3 rfl) ?_
      refine gi_i2l hx hb (by omega) dX11_spelled_43 ?_
      refine gl_add (z := ((((((a1 - 96) * 32) + a2) - 96) * 32) + a3)) hx hb dX11_spelled_44 rfl ?_
      refine lv_ldc2 (v := iL 96) hx hb C.2.2.2.1 (C.2.2.1 _ (show Cond.constantLong RX11 178 (iL 96) ∈ gWs from mD_X11_178)) dX11_spelled_45 ?_
      refine gl_sub (z := (((((((a1 - 96) * 32) + a2) - 96) * 32) + a3) - 96)) hx hb dX11_spelled_48 rfl ?_
      refine lv_goto (tgt := 54) hx hb dX11_spelled_49 (by decide) ?_
      refine lv_lstore (lv' := [(7, .long (iL (((((((a1 - 96) * 32) + a2) - 96) * 32) + a3) - 96))), (0, .int (iI a1)), (1, .int (iI a2)), (2, .int (iI a3)), (3, .int (iI a4)), (4, .int (iI a5)), (5, .int (iI a6)), (6, .int (iI a7))]) hx hb dX11_spelled_54 hl (by decide) rfl (fun ls hl => ?_)
      refine lv_iload_n hx hb dX11_spelled_56 rfl (lv_at hl 4 rfl) ?_
      refine gi_zle (tgt := 76) hx hb dX11_spelled_57 (by decide) (by omega) (fun c_49 => ?_) (fun c_49 => ?_)
      · refine lv_lload hx hb dX11_spelled_76 (lv_at hl 0 rfl) ?_
        refine lv_lstore (lv' := [(7, .long (iL (((((((a1 - 96) * 32) + a2) - 96) * 32) + a3) - 96))), (0, .int (iI a1)), (1, .int (iI a2)), (2, .int (iI a3)), (3, .int (iI a4)), (4, .int (iI a5)), (5, .int (iI a6)), (6, .int (iI a7))]) hx hb dX11_spelled_78 hl (by decide) rfl (fun ls hl => ?_)
        refine lv_iload hx hb dX11_spelled_80 (lv_at hl 5 rfl) ?_
        refine gi_zle (tgt := 102) hx hb dX11_spelled_82 (by decide) (by omega) (fun c_50 => ?_) (fun c_50 => ?_)
        · refine lv_lload hx hb dX11_spelled_102 (lv_at hl 0 rfl) ?_
          refine lv_lstore (lv' := [(7, .long (iL (((((((a1 - 96) * 32) + a2) - 96) * 32) + a3) - 96))), (0, .int (iI a1)), (1, .int (iI a2)), (2, .int (iI a3)), (3, .int (iI a4)), (4, .int (iI a5)), (5, .int (iI a6)), (6, .int (iI a7))]) hx hb dX11_spelled_104 hl (by decide) rfl (fun ls hl => ?_)
          refine lv_iload hx hb dX11_spelled_106 (lv_at hl 6 rfl) ?_
          refine gi_zle (tgt := 128) hx hb dX11_spelled_108 (by decide) (by omega) (fun c_51 => ?_) (fun c_51 => ?_)
          · refine lv_lload hx hb dX11_spelled_128 (lv_at hl 0 rfl) ?_
            refine lv_lstore (lv' := [(7, .long (iL (((((((a1 - 96) * 32) + a2) - 96) * 32) + a3) - 96))), (0, .int (iI a1)), (1, .int (iI a2)), (2, .int (iI a3)), (3, .int (iI a4)), (4, .int (iI a5)), (5, .int (iI a6)), (6, .int (iI a7))]) hx hb dX11_spelled_130 hl (by decide) rfl (fun ls hl => ?_)
            refine lv_iload hx hb dX11_spelled_132 (lv_at hl 7 rfl) ?_
            refine gi_zle (tgt := 154) hx hb dX11_spelled_134 (by decide) (by omega) (fun c_52 => ?_) (fun c_52 => ?_)
            · refine lv_lload hx hb dX11_spelled_154 (lv_at hl 0 rfl) ?_
              exact g_lret hQ C hr hlocks hP hS dX11_spelled_156 ⟨(((((((a1 - 96) * 32) + a2) - 96) * 32) + a3) - 96), rfl, rfl, rfl, rfl⟩
            · refine lv_lload hx hb dX11_spelled_137 (lv_at hl 0 rfl) ?_
              refine lv_ldc2 (v := iL 32) hx hb C.2.2.2.1 (C.2.2.1 _ (show Cond.constantLong RX11 176 (iL 32) ∈ gWs from mD_X11_176)) dX11_spelled_139 ?_
              refine gl_mul (z := ((((((((a1 - 96) * 32) + a2) - 96) * 32) + a3) - 96) * 32)) hx hb dX11_spelled_142 rfl ?_
              refine lv_iload hx hb dX11_spelled_143 (lv_at hl 7 rfl) ?_
              refine gi_i2l hx hb (by omega) dX11_spelled_145 ?_
              refine gl_add (z := (((((((((a1 - 96) * 32) + a2) - 96) * 32) + a3) - 96) * 32) + a7)) hx hb dX11_spelled_146 rfl ?_
              refine lv_ldc2 (v := iL 96) hx hb C.2.2.2.1 (C.2.2.1 _ (show Cond.constantLong RX11 178 (iL 96) ∈ gWs from mD_X11_178)) dX11_spelled_147 ?_
              refine gl_sub (z := ((((((((((a1 - 96) * 32) + a2) - 96) * 32) + a3) - 96) * 32) + a7) - 96)) hx hb dX11_spelled_150 rfl ?_
              refine lv_goto (tgt := 156) hx hb dX11_spelled_151 (by decide) ?_
              exact g_lret hQ C hr hlocks hP hS dX11_spelled_156 ⟨((((((((((a1 - 96) * 32) + a2) - 96) * 32) + a3) - 96) * 32) + a7) - 96), rfl, rfl, rfl, rfl⟩
          · refine lv_lload hx hb dX11_spelled_111 (lv_at hl 0 rfl) ?_
            refine lv_ldc2 (v := iL 32) hx hb C.2.2.2.1 (C.2.2.1 _ (show Cond.constantLong RX11 176 (iL 32) ∈ gWs from mD_X11_176)) dX11_spelled_113 ?_
            refine gl_mul (z := ((((((((a1 - 96) * 32) + a2) - 96) * 32) + a3) - 96) * 32)) hx hb dX11_spelled_116 rfl ?_
            refine lv_iload hx hb dX11_spelled_117 (lv_at hl 6 rfl) ?_
            refine gi_i2l hx hb (by omega) dX11_spelled_119 ?_
            refine gl_add (z := (((((((((a1 - 96) * 32) + a2) - 96) * 32) + a3) - 96) * 32) + a6)) hx hb dX11_spelled_120 rfl ?_
            refine lv_ldc2 (v := iL 96) hx hb C.2.2.2.1 (C.2.2.1 _ (show Cond.constantLong RX11 178 (iL 96) ∈ gWs from mD_X11_178)) dX11_spelled_121 ?_
            refine gl_sub (z := ((((((((((a1 - 96) * 32) + a2) - 96) * 32) + a3) - 96) * 32) + a6) - 96)) hx hb dX11_spelled_124 rfl ?_
            refine lv_goto (tgt := 130) hx hb dX11_spelled_125 (by decide) ?_
            refine lv_lstore (lv' := [(7, .long (iL ((((((((((a1 - 96) * 32) + a2) - 96) * 32) + a3) - 96) * 32) + a6) - 96))), (0, .int (iI a1)), (1, .int (iI a2)), (2, .int (iI a3)), (3, .int (iI a4)), (4, .int (iI a5)), (5, .int (iI a6)), (6, .int (iI a7))]) hx hb dX11_spelled_130 hl (by decide) rfl (fun ls hl => ?_)
            refine lv_iload hx hb dX11_spelled_132 (lv_at hl 7 rfl) ?_
            refine gi_zle (tgt := 154) hx hb dX11_spelled_134 (by decide) (by omega) (fun c_53 => ?_) (fun c_53 => ?_)
            · refine lv_lload hx hb dX11_spelled_154 (lv_at hl 0 rfl) ?_
              exact g_lret hQ C hr hlocks hP hS dX11_spelled_156 ⟨((((((((((a1 - 96) * 32) + a2) - 96) * 32) + a3) - 96) * 32) + a6) - 96), rfl, rfl, rfl, rfl⟩
            · refine lv_lload hx hb dX11_spelled_137 (lv_at hl 0 rfl) ?_
              refine lv_ldc2 (v := iL 32) hx hb C.2.2.2.1 (C.2.2.1 _ (show Cond.constantLong RX11 176 (iL 32) ∈ gWs from mD_X11_176)) dX11_spelled_139 ?_
              refine gl_mul (z := (((((((((((a1 - 96) * 32) + a2) - 96) * 32) + a3) - 96) * 32) + a6) - 96) * 32)) hx hb dX11_spelled_142 rfl ?_
              refine lv_iload hx hb dX11_spelled_143 (lv_at hl 7 rfl) ?_
              refine gi_i2l hx hb (by omega) dX11_spelled_145 ?_
              refine gl_add (z := ((((((((((((a1 - 96) * 32) + a2) - 96) * 32) + a3) - 96) * 32) + a6) - 96) * 32) + a7)) hx hb dX11_spelled_146 rfl ?_
              refine lv_ldc2 (v := iL 96) hx hb C.2.2.2.1 (C.2.2.1 _ (show Cond.constantLong RX11 178 (iL 96) ∈ gWs from mD_X11_178)) dX11_spelled_147 ?_
              refine gl_sub (z := (((((((((((((a1 - 96) * 32) + a2) - 96) * 32) + a3) - 96) * 32) + a6) - 96) * 32) + a7) - 96)) hx hb dX11_spelled_150 rfl ?_
              refine lv_goto (tgt := 156) hx hb dX11_spelled_151 (by decide) ?_
              exact g_lret hQ C hr hlocks hP hS dX11_spelled_156 ⟨(((((((((((((a1 - 96) * 32) + a2) - 96) * 32) + a3) - 96) * 32) + a6) - 96) * 32) + a7) - 96), rfl, rfl, rfl, rfl⟩
        · refine lv_lload hx hb dX11_spelled_85 (lv_at hl 0 rfl) ?_
          refine lv_ldc2 (v := iL 32) hx hb C.2.2.2.1 (C.2.2.1 _ (show Cond.constantLong RX11 176 (iL 32) ∈ gWs from mD_X11_176)) dX11_spelled_87 ?_
          refine gl_mul (z := ((((((((a1 - 96) * 32) + a2) - 96) * 32) + a3) - 96) * 32)) hx hb dX11_spelled_90 rfl ?_
          refine lv_iload hx hb dX11_spelled_91 (lv_at hl 5 rfl) ?_
          refine gi_i2l hx hb (by omega) dX11_spelled_93 ?_
          refine gl_add (z := (((((((((a1 - 96) * 32) + a2) - 96) * 32) + a3) - 96) * 32) + a5)) hx hb dX11_spelled_94 rfl ?_
          refine lv_ldc2 (v := iL 96) hx hb C.2.2.2.1 (C.2.2.1 _ (show Cond.constantLong RX11 178 (iL 96) ∈ gWs from mD_X11_178)) dX11_spelled_95 ?_
          refine gl_sub (z := ((((((((((a1 - 96) * 32) + a2) - 96) * 32) + a3) - 96) * 32) + a5) - 96)) hx hb dX11_spelled_98 rfl ?_
          refine lv_goto (tgt := 104) hx hb dX11_spelled_99 (by decide) ?_
          refine lv_lstore (lv' := [(7, .long (iL ((((((((((a1 - 96) * 32) + a2) - 96) * 32) + a3) - 96) * 32) + a5) - 96))), (0, .int (iI a1)), (1, .int (iI a2)), (2, .int (iI a3)), (3, .int (iI a4)), (4, .int (iI a5)), (5, .int (iI a6)), (6, .int (iI a7))]) hx hb dX11_spelled_104 hl (by decide) rfl (fun ls hl => ?_)
          refine lv_iload hx hb dX11_spelled_106 (lv_at hl 6 rfl) ?_
          refine gi_zle (tgt := 128) hx hb dX11_spelled_108 (by decide) (by omega) (fun c_54 => ?_) (fun c_54 => ?_)
          · refine lv_lload hx hb dX11_spelled_128 (lv_at hl 0 rfl) ?_
            refine lv_lstore (lv' := [(7, .long (iL ((((((((((a1 - 96) * 32) + a2) - 96) * 32) + a3) - 96) * 32) + a5) - 96))), (0, .int (iI a1)), (1, .int (iI a2)), (2, .int (iI a3)), (3, .int (iI a4)), (4, .int (iI a5)), (5, .int (iI a6)), (6, .int (iI a7))]) hx hb dX11_spelled_130 hl (by decide) rfl (fun ls hl => ?_)
            refine lv_iload hx hb dX11_spelled_132 (lv_at hl 7 rfl) ?_
            refine gi_zle (tgt := 154) hx hb dX11_spelled_134 (by decide) (by omega) (fun c_55 => ?_) (fun c_55 => ?_)
            · refine lv_lload hx hb dX11_spelled_154 (lv_at hl 0 rfl) ?_
              exact g_lret hQ C hr hlocks hP hS dX11_spelled_156 ⟨((((((((((a1 - 96) * 32) + a2) - 96) * 32) + a3) - 96) * 32) + a5) - 96), rfl, rfl, rfl, rfl⟩
            · refine lv_lload hx hb dX11_spelled_137 (lv_at hl 0 rfl) ?_
              refine lv_ldc2 (v := iL 32) hx hb C.2.2.2.1 (C.2.2.1 _ (show Cond.constantLong RX11 176 (iL 32) ∈ gWs from mD_X11_176)) dX11_spelled_139 ?_
              refine gl_mul (z := (((((((((((a1 - 96) * 32) + a2) - 96) * 32) + a3) - 96) * 32) + a5) - 96) * 32)) hx hb dX11_spelled_142 rfl ?_
              refine lv_iload hx hb dX11_spelled_143 (lv_at hl 7 rfl) ?_
              refine gi_i2l hx hb (by omega) dX11_spelled_145 ?_
              refine gl_add (z := ((((((((((((a1 - 96) * 32) + a2) - 96) * 32) + a3) - 96) * 32) + a5) - 96) * 32) + a7)) hx hb dX11_spelled_146 rfl ?_
              refine lv_ldc2 (v := iL 96) hx hb C.2.2.2.1 (C.2.2.1 _ (show Cond.constantLong RX11 178 (iL 96) ∈ gWs from mD_X11_178)) dX11_spelled_147 ?_
              refine gl_sub (z := (((((((((((((a1 - 96) * 32) + a2) - 96) * 32) + a3) - 96) * 32) + a5) - 96) * 32) + a7) - 96)) hx hb dX11_spelled_150 rfl ?_
              refine lv_goto (tgt := 156) hx hb dX11_spelled_151 (by decide) ?_
              exact g_lret hQ C hr hlocks hP hS dX11_spelled_156 ⟨(((((((((((((a1 - 96) * 32) + a2) - 96) * 32) + a3) - 96) * 32) + a5) - 96) * 32) + a7) - 96), rfl, rfl, rfl, rfl⟩
          · refine lv_lload hx hb dX11_spelled_111 (lv_at hl 0 rfl) ?_
            refine lv_ldc2 (v := iL 32) hx hb C.2.2.2.1 (C.2.2.1 _ (show Cond.constantLong RX11 176 (iL 32) ∈ gWs from mD_X11_176)) dX11_spelled_113 ?_
            refine gl_mul (z := (((((((((((a1 - 96) * 32) + a2) - 96) * 32) + a3) - 96) * 32) + a5) - 96) * 32)) hx hb dX11_spelled_116 rfl ?_
            refine lv_iload hx hb dX11_spelled_117 (lv_at hl 6 rfl) ?_
            refine gi_i2l hx hb (by omega) dX11_spelled_119 ?_
            refine gl_add (z := ((((((((((((a1 - 96) * 32) + a2) - 96) * 32) + a3) - 96) * 32) + a5) - 96) * 32) + a6)) hx hb dX11_spelled_120 rfl ?_
            refine lv_ldc2 (v := iL 96) hx hb C.2.2.2.1 (C.2.2.1 _ (show Cond.constantLong RX11 178 (iL 96) ∈ gWs from mD_X11_178)) dX11_spelled_121 ?_
            refine gl_sub (z := (((((((((((((a1 - 96) * 32) + a2) - 96) * 32) + a3) - 96) * 32) + a5) - 96) * 32) + a6) - 96)) hx hb dX11_spelled_124 rfl ?_
            refine lv_goto (tgt := 130) hx hb dX11_spelled_125 (by decide) ?_
            refine lv_lstore (lv' := [(7, .long (iL (((((((((((((a1 - 96) * 32) + a2) - 96) * 32) + a3) - 96) * 32) + a5) - 96) * 32) + a6) - 96))), (0, .int (iI a1)), (1, .int (iI a2)), (2, .int (iI a3)), (3, .int (iI a4)), (4, .int (iI a5)), (5, .int (iI a6)), (6, .int (iI a7))]) hx hb dX11_spelled_130 hl (by decide) rfl (fun ls hl => ?_)
            refine lv_iload hx hb dX11_spelled_132 (lv_at hl 7 rfl) ?_
            refine gi_zle (tgt := 154) hx hb dX11_spelled_134 (by decide) (by omega) (fun c_56 => ?_) (fun c_56 => ?_)
            · refine lv_lload hx hb dX11_spelled_154 (lv_at hl 0 rfl) ?_
              exact g_lret hQ C hr hlocks hP hS dX11_spelled_156 ⟨(((((((((((((a1 - 96) * 32) + a2) - 96) * 32) + a3) - 96) * 32) + a5) - 96) * 32) + a6) - 96), rfl, rfl, rfl, rfl⟩
            · refine lv_lload hx hb dX11_spelled_137 (lv_at hl 0 rfl) ?_
              refine lv_ldc2 (v := iL 32) hx hb C.2.2.2.1 (C.2.2.1 _ (show Cond.constantLong RX11 176 (iL 32) ∈ gWs from mD_X11_176)) dX11_spelled_139 ?_
              refine gl_mul (z := ((((((((((((((a1 - 96) * 32) + a2) - 96) * 32) + a3) - 96) * 32) + a5) - 96) * 32) + a6) - 96) * 32)) hx hb dX11_spelled_142 rfl ?_
              refine lv_iload hx hb dX11_spelled_143 (lv_at hl 7 rfl) ?_
              refine gi_i2l hx hb (by omega) dX11_spelled_145 ?_
              refine gl_add (z := (((((((((((((((a1 - 96) * 32) + a2) - 96) * 32) + a3) - 96) * 32) + a5) - 96) * 32) + a6) - 96) * 32) + a7)) hx hb dX11_spelled_146 rfl ?_
              refine lv_ldc2 (v := iL 96) hx hb C.2.2.2.1 (C.2.2.1 _ (show Cond.constantLong RX11 178 (iL 96) ∈ gWs from mD_X11_178)) dX11_spelled_147 ?_
              refine gl_sub (z := ((((((((((((((((a1 - 96) * 32) + a2) - 96) * 32) + a3) - 96) * 32) + a5) - 96) * 32) + a6) - 96) * 32) + a7) - 96)) hx hb dX11_spelled_150 rfl ?_
              refine lv_goto (tgt := 156) hx hb dX11_spelled_151 (by decide) ?_
              exact g_lret hQ C hr hlocks hP hS dX11_spelled_156 ⟨((((((((((((((((a1 - 96) * 32) + a2) - 96) * 32) + a3) - 96) * 32) + a5) - 96) * 32) + a6) - 96) * 32) + a7) - 96), rfl, rfl, rfl, rfl⟩
      · refine lv_lload hx hb dX11_spelled_60 (lv_at hl 0 rfl) ?_
        refine lv_ldc2 (v := iL 32) hx hb C.2.2.2.1 (C.2.2.1 _ (show Cond.constantLong RX11 176 (iL 32) ∈ gWs from mD_X11_176)) dX11_spelled_62 ?_
        refine gl_mul (z := ((((((((a1 - 96) * 32) + a2) - 96) * 32) + a3) - 96) * 32)) hx hb dX11_spelled_65 rfl ?_
        refine lv_iload_n hx hb dX11_spelled_66 rfl (lv_at hl 4 rfl) ?_
        refine gi_i2l hx hb (by omega) dX11_spelled_67 ?_
        refine gl_add (z := (((((((((a1 - 96) * 32) + a2) - 96) * 32) + a3) - 96) * 32) + a4)) hx hb dX11_spelled_68 rfl ?_
        refine lv_ldc2 (v := iL 96) hx hb C.2.2.2.1 (C.2.2.1 _ (show Cond.constantLong RX11 178 (iL 96) ∈ gWs from mD_X11_178)) dX11_spelled_69 ?_
        refine gl_sub (z := ((((((((((a1 - 96) * 32) + a2) - 96) * 32) + a3) - 96) * 32) + a4) - 96)) hx hb dX11_spelled_72 rfl ?_
        refine lv_goto (tgt := 78) hx hb dX11_spelled_73 (by decide) ?_
        refine lv_lstore (lv' := [(7, .long (iL ((((((((((a1 - 96) * 32) + a2) - 96) * 32) + a3) - 96) * 32) + a4) - 96))), (0, .int (iI a1)), (1, .int (iI a2)), (2, .int (iI a3)), (3, .int (iI a4)), (4, .int (iI a5)), (5, .int (iI a6)), (6, .int (iI a7))]) hx hb dX11_spelled_78 hl (by decide) rfl (fun ls hl => ?_)
        refine lv_iload hx hb dX11_spelled_80 (lv_at hl 5 rfl) ?_
        refine gi_zle (tgt := 102) hx hb dX11_spelled_82 (by decide) (by omega) (fun c_57 => ?_) (fun c_57 => ?_)
        · refine lv_lload hx hb dX11_spelled_102 (lv_at hl 0 rfl) ?_
          refine lv_lstore (lv' := [(7, .long (iL ((((((((((a1 - 96) * 32) + a2) - 96) * 32) + a3) - 96) * 32) + a4) - 96))), (0, .int (iI a1)), (1, .int (iI a2)), (2, .int (iI a3)), (3, .int (iI a4)), (4, .int (iI a5)), (5, .int (iI a6)), (6, .int (iI a7))]) hx hb dX11_spelled_104 hl (by decide) rfl (fun ls hl => ?_)
          refine lv_iload hx hb dX11_spelled_106 (lv_at hl 6 rfl) ?_
          refine gi_zle (tgt := 128) hx hb dX11_spelled_108 (by decide) (by omega) (fun c_58 => ?_) (fun c_58 => ?_)
          · refine lv_lload hx hb dX11_spelled_128 (lv_at hl 0 rfl) ?_
            refine lv_lstore (lv' := [(7, .long (iL ((((((((((a1 - 96) * 32) + a2) - 96) * 32) + a3) - 96) * 32) + a4) - 96))), (0, .int (iI a1)), (1, .int (iI a2)), (2, .int (iI a3)), (3, .int (iI a4)), (4, .int (iI a5)), (5, .int (iI a6)), (6, .int (iI a7))]) hx hb dX11_spelled_130 hl (by decide) rfl (fun ls hl => ?_)
            refine lv_iload hx hb dX11_spelled_132 (lv_at hl 7 rfl) ?_
            refine gi_zle (tgt := 154) hx hb dX11_spelled_134 (by decide) (by omega) (fun c_59 => ?_) (fun c_59 => ?_)
            · refine lv_lload hx hb dX11_spelled_154 (lv_at hl 0 rfl) ?_
              exact g_lret hQ C hr hlocks hP hS dX11_spelled_156 ⟨((((((((((a1 - 96) * 32) + a2) - 96) * 32) + a3) - 96) * 32) + a4) - 96), rfl, rfl, rfl, rfl⟩
            · refine lv_lload hx hb dX11_spelled_137 (lv_at hl 0 rfl) ?_
              refine lv_ldc2 (v := iL 32) hx hb C.2.2.2.1 (C.2.2.1 _ (show Cond.constantLong RX11 176 (iL 32) ∈ gWs from mD_X11_176)) dX11_spelled_139 ?_
              refine gl_mul (z := (((((((((((a1 - 96) * 32) + a2) - 96) * 32) + a3) - 96) * 32) + a4) - 96) * 32)) hx hb dX11_spelled_142 rfl ?_
              refine lv_iload hx hb dX11_spelled_143 (lv_at hl 7 rfl) ?_
              refine gi_i2l hx hb (by omega) dX11_spelled_145 ?_
              refine gl_add (z := ((((((((((((a1 - 96) * 32) + a2) - 96) * 32) + a3) - 96) * 32) + a4) - 96) * 32) + a7)) hx hb dX11_spelled_146 rfl ?_
              refine lv_ldc2 (v := iL 96) hx hb C.2.2.2.1 (C.2.2.1 _ (show Cond.constantLong RX11 178 (iL 96) ∈ gWs from mD_X11_178)) dX11_spelled_147 ?_
              refine gl_sub (z := (((((((((((((a1 - 96) * 32) + a2) - 96) * 32) + a3) - 96) * 32) + a4) - 96) * 32) + a7) - 96)) hx hb dX11_spelled_150 rfl ?_
              refine lv_goto (tgt := 156) hx hb dX11_spelled_151 (by decide) ?_
              exact g_lret hQ C hr hlocks hP hS dX11_spelled_156 ⟨(((((((((((((a1 - 96) * 32) + a2) - 96) * 32) + a3) - 96) * 32) + a4) - 96) * 32) + a7) - 96), rfl, rfl, rfl, rfl⟩
          · refine lv_lload hx hb dX11_spelled_111 (lv_at hl 0 rfl) ?_
            refine lv_ldc2 (v := iL 32) hx hb C.2.2.2.1 (C.2.2.1 _ (show Cond.constantLong RX11 176 (iL 32) ∈ gWs from mD_X11_176)) dX11_spelled_113 ?_
            refine gl_mul (z := (((((((((((a1 - 96) * 32) + a2) - 96) * 32) + a3) - 96) * 32) + a4) - 96) * 32)) hx hb dX11_spelled_116 rfl ?_
            refine lv_iload hx hb dX11_spelled_117 (lv_at hl 6 rfl) ?_
            refine gi_i2l hx hb (by omega) dX11_spelled_119 ?_
            refine gl_add (z := ((((((((((((a1 - 96) * 32) + a2) - 96) * 32) + a3) - 96) * 32) + a4) - 96) * 32) + a6)) hx hb dX11_spelled_120 rfl ?_
            refine lv_ldc2 (v := iL 96) hx hb C.2.2.2.1 (C.2.2.1 _ (show Cond.constantLong RX11 178 (iL 96) ∈ gWs from mD_X11_178)) dX11_spelled_121 ?_
            refine gl_sub (z := (((((((((((((a1 - 96) * 32) + a2) - 96) * 32) + a3) - 96) * 32) + a4) - 96) * 32) + a6) - 96)) hx hb dX11_spelled_124 rfl ?_
            refine lv_goto (tgt := 130) hx hb dX11_spelled_125 (by decide) ?_
            refine lv_lstore (lv' := [(7, .long (iL (((((((((((((a1 - 96) * 32) + a2) - 96) * 32) + a3) - 96) * 32) + a4) - 96) * 32) + a6) - 96))), (0, .int (iI a1)), (1, .int (iI a2)), (2, .int (iI a3)), (3, .int (iI a4)), (4, .int (iI a5)), (5, .int (iI a6)), (6, .int (iI a7))]) hx hb dX11_spelled_130 hl (by decide) rfl (fun ls hl => ?_)
            refine lv_iload hx hb dX11_spelled_132 (lv_at hl 7 rfl) ?_
            refine gi_zle (tgt := 154) hx hb dX11_spelled_134 (by decide) (by omega) (fun c_60 => ?_) (fun c_60 => ?_)
            · refine lv_lload hx hb dX11_spelled_154 (lv_at hl 0 rfl) ?_
              exact g_lret hQ C hr hlocks hP hS dX11_spelled_156 ⟨(((((((((((((a1 - 96) * 32) + a2) - 96) * 32) + a3) - 96) * 32) + a4) - 96) * 32) + a6) - 96), rfl, rfl, rfl, rfl⟩
            · refine lv_lload hx hb dX11_spelled_137 (lv_at hl 0 rfl) ?_
              refine lv_ldc2 (v := iL 32) hx hb C.2.2.2.1 (C.2.2.1 _ (show Cond.constantLong RX11 176 (iL 32) ∈ gWs from mD_X11_176)) dX11_spelled_139 ?_
              refine gl_mul (z := ((((((((((((((a1 - 96) * 32) + a2) - 96) * 32) + a3) - 96) * 32) + a4) - 96) * 32) + a6) - 96) * 32)) hx hb dX11_spelled_142 rfl ?_
              refine lv_iload hx hb dX11_spelled_143 (lv_at hl 7 rfl) ?_
              refine gi_i2l hx hb (by omega) dX11_spelled_145 ?_
              refine gl_add (z := (((((((((((((((a1 - 96) * 32) + a2) - 96) * 32) + a3) - 96) * 32) + a4) - 96) * 32) + a6) - 96) * 32) + a7)) hx hb dX11_spelled_146 rfl ?_
              refine lv_ldc2 (v := iL 96) hx hb C.2.2.2.1 (C.2.2.1 _ (show Cond.constantLong RX11 178 (iL 96) ∈ gWs from mD_X11_178)) dX11_spelled_147 ?_
              refine gl_sub (z := ((((((((((((((((a1 - 96) * 32) + a2) - 96) * 32) + a3) - 96) * 32) + a4) - 96) * 32) + a6) - 96) * 32) + a7) - 96)) hx hb dX11_spelled_150 rfl ?_
              refine lv_goto (tgt := 156) hx hb dX11_spelled_151 (by decide) ?_
              exact g_lret hQ C hr hlocks hP hS dX11_spelled_156 ⟨((((((((((((((((a1 - 96) * 32) + a2) - 96) * 32) + a3) - 96) * 32) + a4) - 96) * 32) + a6) - 96) * 32) + a7) - 96), rfl, rfl, rfl, rfl⟩
        · refine lv_lload hx hb dX11_spelled_85 (lv_at hl 0 rfl) ?_
          refine lv_ldc2 (v := iL 32) hx hb C.2.2.2.1 (C.2.2.1 _ (show Cond.constantLong RX11 176 (iL 32) ∈ gWs from mD_X11_176)) dX11_spelled_87 ?_
          refine gl_mul (z := (((((((((((a1 - 96) * 32) + a2) - 96) * 32) + a3) - 96) * 32) + a4) - 96) * 32)) hx hb dX11_spelled_90 rfl ?_
          refine lv_iload hx hb dX11_spelled_91 (lv_at hl 5 rfl) ?_
          refine gi_i2l hx hb (by omega) dX11_spelled_93 ?_
          refine gl_add (z := ((((((((((((a1 - 96) * 32) + a2) - 96) * 32) + a3) - 96) * 32) + a4) - 96) * 32) + a5)) hx hb dX11_spelled_94 rfl ?_
          refine lv_ldc2 (v := iL 96) hx hb C.2.2.2.1 (C.2.2.1 _ (show Cond.constantLong RX11 178 (iL 96) ∈ gWs from mD_X11_178)) dX11_spelled_95 ?_
          refine gl_sub (z := (((((((((((((a1 - 96) * 32) + a2) - 96) * 32) + a3) - 96) * 32) + a4) - 96) * 32) + a5) - 96)) hx hb dX11_spelled_98 rfl ?_
          refine lv_goto (tgt := 104) hx hb dX11_spelled_99 (by decide) ?_
          refine lv_lstore (lv' := [(7, .long (iL (((((((((((((a1 - 96) * 32) + a2) - 96) * 32) + a3) - 96) * 32) + a4) - 96) * 32) + a5) - 96))), (0, .int (iI a1)), (1, .int (iI a2)), (2, .int (iI a3)), (3, .int (iI a4)), (4, .int (iI a5)), (5, .int (iI a6)), (6, .int (iI a7))]) hx hb dX11_spelled_104 hl (by decide) rfl (fun ls hl => ?_)
          refine lv_iload hx hb dX11_spelled_106 (lv_at hl 6 rfl) ?_
          refine gi_zle (tgt := 128) hx hb dX11_spelled_108 (by decide) (by omega) (fun c_61 => ?_) (fun c_61 => ?_)
          · refine lv_lload hx hb dX11_spelled_128 (lv_at hl 0 rfl) ?_
            refine lv_lstore (lv' := [(7, .long (iL (((((((((((((a1 - 96) * 32) + a2) - 96) * 32) + a3) - 96) * 32) + a4) - 96) * 32) + a5) - 96))), (0, .int (iI a1)), (1, .int (iI a2)), (2, .int (iI a3)), (3, .int (iI a4)), (4, .int (iI a5)), (5, .int (iI a6)), (6, .int (iI a7))]) hx hb dX11_spelled_130 hl (by decide) rfl (fun ls hl => ?_)
            refine lv_iload hx hb dX11_spelled_132 (lv_at hl 7 rfl) ?_
            refine gi_zle (tgt := 154) hx hb dX11_spelled_134 (by decide) (by omega) (fun c_62 => ?_) (fun c_62 => ?_)
            · refine lv_lload hx hb dX11_spelled_154 (lv_at hl 0 rfl) ?_
              exact g_lret hQ C hr hlocks hP hS dX11_spelled_156 ⟨(((((((((((((a1 - 96) * 32) + a2) - 96) * 32) + a3) - 96) * 32) + a4) - 96) * 32) + a5) - 96), rfl, rfl, rfl, rfl⟩
            · refine lv_lload hx hb dX11_spelled_137 (lv_at hl 0 rfl) ?_
              refine lv_ldc2 (v := iL 32) hx hb C.2.2.2.1 (C.2.2.1 _ (show Cond.constantLong RX11 176 (iL 32) ∈ gWs from mD_X11_176)) dX11_spelled_139 ?_
              refine gl_mul (z := ((((((((((((((a1 - 96) * 32) + a2) - 96) * 32) + a3) - 96) * 32) + a4) - 96) * 32) + a5) - 96) * 32)) hx hb dX11_spelled_142 rfl ?_
              refine lv_iload hx hb dX11_spelled_143 (lv_at hl 7 rfl) ?_
              refine gi_i2l hx hb (by omega) dX11_spelled_145 ?_
              refine gl_add (z := (((((((((((((((a1 - 96) * 32) + a2) - 96) * 32) + a3) - 96) * 32) + a4) - 96) * 32) + a5) - 96) * 32) + a7)) hx hb dX11_spelled_146 rfl ?_
              refine lv_ldc2 (v := iL 96) hx hb C.2.2.2.1 (C.2.2.1 _ (show Cond.constantLong RX11 178 (iL 96) ∈ gWs from mD_X11_178)) dX11_spelled_147 ?_
              refine gl_sub (z := ((((((((((((((((a1 - 96) * 32) + a2) - 96) * 32) + a3) - 96) * 32) + a4) - 96) * 32) + a5) - 96) * 32) + a7) - 96)) hx hb dX11_spelled_150 rfl ?_
              refine lv_goto (tgt := 156) hx hb dX11_spelled_151 (by decide) ?_
              exact g_lret hQ C hr hlocks hP hS dX11_spelled_156 ⟨((((((((((((((((a1 - 96) * 32) + a2) - 96) * 32) + a3) - 96) * 32) + a4) - 96) * 32) + a5) - 96) * 32) + a7) - 96), rfl, rfl, rfl, rfl⟩
          · refine lv_lload hx hb dX11_spelled_111 (lv_at hl 0 rfl) ?_
            refine lv_ldc2 (v := iL 32) hx hb C.2.2.2.1 (C.2.2.1 _ (show Cond.constantLong RX11 176 (iL 32) ∈ gWs from mD_X11_176)) dX11_spelled_113 ?_
            refine gl_mul (z := ((((((((((((((a1 - 96) * 32) + a2) - 96) * 32) + a3) - 96) * 32) + a4) - 96) * 32) + a5) - 96) * 32)) hx hb dX11_spelled_116 rfl ?_
            refine lv_iload hx hb dX11_spelled_117 (lv_at hl 6 rfl) ?_
            refine gi_i2l hx hb (by omega) dX11_spelled_119 ?_
            refine gl_add (z := (((((((((((((((a1 - 96) * 32) + a2) - 96) * 32) + a3) - 96) * 32) + a4) - 96) * 32) + a5) - 96) * 32) + a6)) hx hb dX11_spelled_120 rfl ?_
            refine lv_ldc2 (v := iL 96) hx hb C.2.2.2.1 (C.2.2.1 _ (show Cond.constantLong RX11 178 (iL 96) ∈ gWs from mD_X11_178)) dX11_spelled_121 ?_
            refine gl_sub (z := ((((((((((((((((a1 - 96) * 32) + a2) - 96) * 32) + a3) - 96) * 32) + a4) - 96) * 32) + a5) - 96) * 32) + a6) - 96)) hx hb dX11_spelled_124 rfl ?_
            refine lv_goto (tgt := 130) hx hb dX11_spelled_125 (by decide) ?_
            refine lv_lstore (lv' := [(7, .long (iL ((((((((((((((((a1 - 96) * 32) + a2) - 96) * 32) + a3) - 96) * 32) + a4) - 96) * 32) + a5) - 96) * 32) + a6) - 96))), (0, .int (iI a1)), (1, .int (iI a2)), (2, .int (iI a3)), (3, .int (iI a4)), (4, .int (iI a5)), (5, .int (iI a6)), (6, .int (iI a7))]) hx hb dX11_spelled_130 hl (by decide) rfl (fun ls hl => ?_)
            refine lv_iload hx hb dX11_spelled_132 (lv_at hl 7 rfl) ?_
            refine gi_zle (tgt := 154) hx hb dX11_spelled_134 (by decide) (by omega) (fun c_63 => ?_) (fun c_63 => ?_)
            · refine lv_lload hx hb dX11_spelled_154 (lv_at hl 0 rfl) ?_
              exact g_lret hQ C hr hlocks hP hS dX11_spelled_156 ⟨((((((((((((((((a1 - 96) * 32) + a2) - 96) * 32) + a3) - 96) * 32) + a4) - 96) * 32) + a5) - 96) * 32) + a6) - 96), rfl, rfl, rfl, rfl⟩
            · refine lv_lload hx hb dX11_spelled_137 (lv_at hl 0 rfl) ?_
              refine lv_ldc2 (v := iL 32) hx hb C.2.2.2.1 (C.2.2.1 _ (show Cond.constantLong RX11 176 (iL 32) ∈ gWs from mD_X11_176)) dX11_spelled_139 ?_
              refine gl_mul (z := (((((((((((((((((a1 - 96) * 32) + a2) - 96) * 32) + a3) - 96) * 32) + a4) - 96) * 32) + a5) - 96) * 32) + a6) - 96) * 32)) hx hb dX11_spelled_142 rfl ?_
              refine lv_iload hx hb dX11_spelled_143 (lv_at hl 7 rfl) ?_
              refine gi_i2l hx hb (by omega) dX11_spelled_145 ?_
              refine gl_add (z := ((((((((((((((((((a1 - 96) * 32) + a2) - 96) * 32) + a3) - 96) * 32) + a4) - 96) * 32) + a5) - 96) * 32) + a6) - 96) * 32) + a7)) hx hb dX11_spelled_146 rfl ?_
              refine lv_ldc2 (v := iL 96) hx hb C.2.2.2.1 (C.2.2.1 _ (show Cond.constantLong RX11 178 (iL 96) ∈ gWs from mD_X11_178)) dX11_spelled_147 ?_
              refine gl_sub (z := (((((((((((((((((((a1 - 96) * 32) + a2) - 96) * 32) + a3) - 96) * 32) + a4) - 96) * 32) + a5) - 96) * 32) + a6) - 96) * 32) + a7) - 96)) hx hb dX11_spelled_150 rfl ?_
              refine lv_goto (tgt := 156) hx hb dX11_spelled_151 (by decide) ?_
              exact g_lret hQ C hr hlocks hP hS dX11_spelled_156 ⟨(((((((((((((((((((a1 - 96) * 32) + a2) - 96) * 32) + a3) - 96) * 32) + a4) - 96) * 32) + a5) - 96) * 32) + a6) - 96) * 32) + a7) - 96), rfl, rfl, rfl, rfl⟩

set_option maxHeartbeats 4000000 in
set_option maxRecDepth 100000 in
theorem m_X11_isWord (l : Launch) (D : va_G) (k : Nat → ClassId) (A : Nat → Prop) (ad : Nat → Nat) (hD : mdD A k ad) (v : gV) (f g : gF) (a1 : Int) : GM l D k A (mdT k ad) yX11_isWord cX11_isWord 3 (some .boolean) 0 0 [.ref (ad 0), .long (iL a1)] v f g (fun r v1 f1 g1 => ∃ (z : Int), r = some (.int (iI z)) ∧ v = v1 ∧ f = f1 ∧ g = g1 ∧ (0 ≤ z ∧ z ≤ 1) ∧ (z = 1 → (v 8) = 1)) := by
  refine GM.of (by decide) (Nat.le_of_ble_eq_true rfl) ?_
  intro p e s m args below meth c Q ls hQ C hml hr hlocks hP hl
  have hx := C.1
  have hb := C.2.1
  have hok := hP.2
  have hS : va_S A s.heap s.heap [] := va_S.rf
  have hl : lv_has ls 3 [(0, .ref (ad 0)), (1, .long (iL a1))] := hl
  refine lv_aload_n hx hb dX11_isWord_0 rfl (lv_at hl 0 rfl) ?_
  refine mdG_sort C hP mF_X11_165 dX11_isWord_1 ?_
  have r_1 : 0 ≤ (v 8) ∧ (v 8) ≤ 4 := hok.1 8
  refine lv_iconst (v := iI 1) hx hb dX11_isWord_4 rfl ?_
  refine gi_cne (tgt := 21) hx hb dX11_isWord_5 (by decide) (by omega) (by decide) (fun c_2 => ?_) (fun c_2 => ?_)
  · refine lv_iconst (v := iI 0) hx hb dX11_isWord_21 rfl ?_
    exact g_zret hQ C hr hlocks (by decide) hP hS dX11_isWord_22 ⟨0, rfl, rfl, rfl, rfl, (by first | omega | (split <;> omega)), (by first | omega | (split <;> omega))⟩
  · refine lv_aload_n hx hb dX11_isWord_8 rfl (lv_at hl 0 rfl) ?_
    refine mdG_word C hP mF_X11_172 dX11_isWord_9 ?_
    show W p l e (gRm 0 0) s m args below meth c _ _ 0 0 Q (F0 m 12 ls [.long (iL (g 0 0))])
    refine lv_lload_n hx hb dX11_isWord_12 rfl (lv_at hl 1 rfl) ?_
    refine gl_cmp hx hb dX11_isWord_13 (fun x_3 hx_3 => ?_)
    refine gi_zne (tgt := 21) hx hb dX11_isWord_14 (by decide) (by omega) (fun c_4 => ?_) (fun c_4 => ?_)
    · refine lv_iconst (v := iI 0) hx hb dX11_isWord_21 rfl ?_
      exact g_zret hQ C hr hlocks (by decide) hP hS dX11_isWord_22 ⟨0, rfl, rfl, rfl, rfl, (by first | omega | (split <;> omega)), (by first | omega | (split <;> omega))⟩
    · refine lv_iconst (v := iI 1) hx hb dX11_isWord_17 rfl ?_
      refine lv_goto (tgt := 22) hx hb dX11_isWord_18 (by decide) ?_
      exact g_zret hQ C hr hlocks (by decide) hP hS dX11_isWord_22 ⟨1, rfl, rfl, rfl, rfl, (by first | omega | (split <;> omega)), (by first | omega | (split <;> omega))⟩

set_option maxHeartbeats 4000000 in
set_option maxRecDepth 100000 in
theorem m_X11_isSign (l : Launch) (D : va_G) (k : Nat → ClassId) (A : Nat → Prop) (ad : Nat → Nat) (hD : mdD A k ad) (v : gV) (f g : gF) (a1 : Int) (h_a1 : inR a1) : GM l D k A (mdT k ad) yX11_isSign cX11_isSign 2 (some .boolean) 0 0 [.ref (ad 0), .int (iI a1)] v f g (fun r v1 f1 g1 => ∃ (z : Int), r = some (.int (iI z)) ∧ v = v1 ∧ f = f1 ∧ g = g1 ∧ (0 ≤ z ∧ z ≤ 1) ∧ (z = 1 → (v 8) = 3)) := by
  refine GM.of (by decide) (Nat.le_of_ble_eq_true rfl) ?_
  intro p e s m args below meth c Q ls hQ C hml hr hlocks hP hl
  have hx := C.1
  have hb := C.2.1
  have hok := hP.2
  have hS : va_S A s.heap s.heap [] := va_S.rf
  have hl : lv_has ls 2 [(0, .ref (ad 0)), (1, .int (iI a1))] := hl
  refine lv_aload_n hx hb dX11_isSign_0 rfl (lv_at hl 0 rfl) ?_
  refine mdG_sort C hP mF_X11_165 dX11_isSign_1 ?_
  have r_1 : 0 ≤ (v 8) ∧ (v 8) ≤ 4 := hok.1 8
  refine lv_iconst (v := iI 3) hx hb dX11_isSign_4 rfl ?_
  refine gi_cne (tgt := 20) hx hb dX11_isSign_5 (by decide) (by omega) (by decide) (fun c_2 => ?_) (fun c_2 => ?_)
  · refine lv_iconst (v := iI 0) hx hb dX11_isSign_20 rfl ?_
    exact g_zret hQ C hr hlocks (by decide) hP hS dX11_isSign_21 ⟨0, rfl, rfl, rfl, rfl, (by first | omega | (split <;> omega)), (by first | omega | (split <;> omega))⟩
  · refine lv_aload_n hx hb dX11_isSign_8 rfl (lv_at hl 0 rfl) ?_
    refine mdG_number C hP mF_X11_185 dX11_isSign_9 ?_
    have r_3 : 0 ≤ (v 11) ∧ (v 11) ≤ 999999 := hok.1 11
    refine lv_iload_n hx hb dX11_isSign_12 rfl (lv_at hl 1 rfl) ?_
    refine gi_cne (tgt := 20) hx hb dX11_isSign_13 (by decide) (by omega) (by omega) (fun c_4 => ?_) (fun c_4 => ?_)
    · refine lv_iconst (v := iI 0) hx hb dX11_isSign_20 rfl ?_
      exact g_zret hQ C hr hlocks (by decide) hP hS dX11_isSign_21 ⟨0, rfl, rfl, rfl, rfl, (by first | omega | (split <;> omega)), (by first | omega | (split <;> omega))⟩
    · refine lv_iconst (v := iI 1) hx hb dX11_isSign_16 rfl ?_
      refine lv_goto (tgt := 21) hx hb dX11_isSign_17 (by decide) ?_
      exact g_zret hQ C hr hlocks (by decide) hP hS dX11_isSign_21 ⟨1, rfl, rfl, rfl, rfl, (by first | omega | (split <;> omega)), (by first | omega | (split <;> omega))⟩

set_option maxHeartbeats 4000000 in
set_option maxRecDepth 100000 in
theorem m_X11_fail (l : Launch) (D : va_G) (k : Nat → ClassId) (A : Nat → Prop) (ad : Nat → Nat) (hD : mdD A k ad) (v : gV) (f g : gF) (a1 : Int) (a2 : Int) (h_a1 : inR a1) (h_a2 : inR a2) (h1 : 1 ≤ a1 ∧ a1 ≤ 5) (h2 : 0 ≤ a2 ∧ a2 ≤ 700) : GM l D k A (mdT k ad) yX11_fail cX11_fail 3 none 0 0 [.ref (ad 0), .int (iI a1), .int (iI a2)] v f g (fun r v1 f1 g1 => ∃ (w6 : Int) (w7 : Int), r = none ∧ (va_up (va_up v 6 w6) 7 w7) = v1 ∧ f = f1 ∧ g = g1 ∧ (0 < w6)) := by
  refine GM.of (by decide) (Nat.le_of_ble_eq_true rfl) ?_
  intro p e s m args below meth c Q ls hQ C hml hr hlocks hP hl
  have hx := C.1
  have hb := C.2.1
  have hok := hP.2
  have hS : va_S A s.heap s.heap [] := va_S.rf
  have hl : lv_has ls 3 [(0, .ref (ad 0)), (1, .int (iI a1)), (2, .int (iI a2))] := hl
  have hP : gWd D (mdT k ad) (va_up (va_up v 6 (v 6)) 7 (v 7)) f g s.heap := by rw [va_id, va_id]; exact hP
  refine lv_aload_n hx hb dX11_fail_0 rfl (lv_at hl 0 rfl) ?_
  refine mdG_bad C hP mF_X11_188 dX11_fail_1 ?_
  show W p l e (gRm 0 0) s m args below meth c _ _ 0 0 Q (F0 m 4 ls [.int (iI (v 6))])
  have r_1 : 0 ≤ (v 6) ∧ (v 6) ≤ 5 := hok.1 6
  refine gi_zle (tgt := 8) hx hb dX11_fail_4 (by decide) (by omega) (fun c_2 => ?_) (fun c_2 => ?_)
  · refine lv_aload_n hx hb dX11_fail_8 rfl (lv_at hl 0 rfl) ?_
    refine lv_iload_n hx hb dX11_fail_9 rfl (lv_at hl 1 rfl) ?_
    refine mdP_bad (v1 := (va_up (va_up v 6 a1) 7 (v 7))) C hP hD hS mF_X11_188 (by omega) rfl (Or.inr (gR_up (V := mdV) (F := mdF) (gR_up (V := mdV) (F := mdF) ⟨hok.1, hok.2⟩ 6 (show 0 ≤ a1 ∧ a1 ≤ 5 from by omega)) 7 (hP.2.1 7))) dX11_fail_10 (fun H locs hP hS => ?_)
    refine lv_aload_n hx hb dX11_fail_13 rfl (lv_at hl 0 rfl) ?_
    refine lv_iload_n hx hb dX11_fail_14 rfl (lv_at hl 2 rfl) ?_
    refine mdP_badAt (v1 := (va_up (va_up v 6 a1) 7 a2)) C hP hD hS mF_X11_191 (by omega) rfl (Or.inr (gR_up (V := mdV) (F := mdF) (gR_up (V := mdV) (F := mdF) ⟨hok.1, hok.2⟩ 6 (hP.2.1 6)) 7 (show 0 ≤ a2 ∧ a2 ≤ 700 from by omega))) dX11_fail_15 (fun H locs hP hS => ?_)
    exact g_vret hQ C hr hlocks hP hS dX11_fail_18 ⟨a1, a2, rfl, rfl, rfl, rfl, (by first | omega | (split <;> omega))⟩
  · exact g_vret hQ C hr hlocks hP hS dX11_fail_7 ⟨(v 6), (v 7), rfl, rfl, rfl, rfl, (by first | omega | (split <;> omega))⟩

set_option maxHeartbeats 4000000 in
set_option maxRecDepth 100000 in
theorem m_X11_wrong (l : Launch) (D : va_G) (k : Nat → ClassId) (A : Nat → Prop) (ad : Nat → Nat) (hD : mdD A k ad) (v : gV) (f g : gF) : GM l D k A (mdT k ad) yX11_wrong cX11_wrong 1 none 1 22 [.ref (ad 0)] v f g (fun r v1 f1 g1 => ∃ (w6 : Int) (w7 : Int), r = none ∧ (va_up (va_up v 6 w6) 7 w7) = v1 ∧ f = f1 ∧ g = g1 ∧ (0 < w6)) := by
  refine GM.of (by decide) (Nat.le_of_ble_eq_true rfl) ?_
  intro p e s m args below meth c Q ls hQ C hml hr hlocks hP hl
  have hx := C.1
  have hb := C.2.1
  have hok := hP.2
  have hS : va_S A s.heap s.heap [] := va_S.rf
  have hl : lv_has ls 1 [(0, .ref (ad 0))] := hl
  have hP : gWd D (mdT k ad) (va_up (va_up v 6 (v 6)) 7 (v 7)) f g s.heap := by rw [va_id, va_id]; exact hP
  refine lv_aload_n hx hb dX11_wrong_0 rfl (lv_at hl 0 rfl) ?_
  refine lv_aload_n hx hb dX11_wrong_1 rfl (lv_at hl 0 rfl) ?_
  refine mdG_sort C hP mF_X11_165 dX11_wrong_2 ?_
  show W p l e (gRm 1 22) s m args below meth c _ _ 0 0 Q (F0 m 5 ls [.int (iI (v 8)), .ref (ad 0)])
  have r_1 : 0 ≤ (v 8) ∧ (v 8) ≤ 4 := hok.1 8
  refine lv_iconst (v := iI 4) hx hb dX11_wrong_5 rfl ?_
  refine gi_cne (tgt := 13) hx hb dX11_wrong_6 (by decide) (by omega) (by decide) (fun c_2 => ?_) (fun c_2 => ?_)
  · refine lv_iconst (v := iI 2) hx hb dX11_wrong_13 rfl ?_
    refine lv_aload_n hx hb dX11_wrong_14 rfl (lv_at hl 0 rfl) ?_
    refine mdG_at C hP mF_X11_158 dX11_wrong_15 ?_
    show W p l e (gRm 1 22) s m args below meth c _ _ 0 0 Q (F0 m 18 ls [.int (iI (v 9)), .int (iI 2), .ref (ad 0)])
    have r_3 : 0 ≤ (v 9) ∧ (v 9) ≤ 700 := hok.1 9
    refine g_cv (As := [.int (iI 2), .int (iI (v 9))]) (rest := []) (n := 2) C hml (m_X11_fail l D k A ad hD (va_up (va_up v 6 (v 6)) 7 (v 7)) f g 2 (v 9) (by decide) (by omega) (show 1 ≤ (2 : Int) ∧ (2 : Int) ≤ 5 from by omega) (show 0 ≤ (v 9) ∧ (v 9) ≤ 700 from by omega)) mM_X11_194 mI_X11_fail mE_X11_fail mN_X11 mC_X11_fail (by decide +kernel) 0 (ci := 11) rfl rfl hP hS (fun _ h => h) ⟨Nat.le_of_ble_eq_true rfl, Nat.le_of_ble_eq_true rfl⟩ ⟨Nat.zero_le _, Nat.zero_le _⟩ hl.1 rfl rfl (Nat.le_of_ble_eq_true rfl) dX11_wrong_18 (fun r_4 v_4 f_4 g_4 H locs hq_4 hP _ hS => ?_)
    obtain ⟨w6_4, w7_4, rfl, rfl, rfl, rfl, p0_4⟩ := hq_4
    show W p l e (gRm 1 22) s m args below meth c _ _ 0 0 Q (F0 m 21 ls [])
    have hP : gWd D (mdT k ad) (va_up (va_up v 6 w6_4) 7 w7_4) f g H := ⟨hP.1, (gR_up (V := mdV) (F := mdF) (gR_up (V := mdV) (F := mdF) ⟨hok.1, hok.2⟩ 6 (hP.2.1 6)) 7 (hP.2.1 7))⟩
    have p0_4 : 0 < w6_4 := p0_4
    have rw6_4 : 0 ≤ w6_4 ∧ w6_4 ≤ 5 := hP.2.1 6
    have rw7_4 : 0 ≤ w7_4 ∧ w7_4 ≤ 700 := hP.2.1 7
    exact g_vret hQ C hr hlocks hP hS dX11_wrong_21 ⟨w6_4, w7_4, rfl, rfl, rfl, rfl, (by first | omega | (split <;> omega))⟩
  · refine lv_iconst (v := iI 1) hx hb dX11_wrong_9 rfl ?_
    refine lv_goto (tgt := 14) hx hb dX11_wrong_10 (by decide) ?_
    refine lv_aload_n hx hb dX11_wrong_14 rfl (lv_at hl 0 rfl) ?_
    refine mdG_at C hP mF_X11_158 dX11_wrong_15 ?_
    show W p l e (gRm 1 22) s m args below meth c _ _ 0 0 Q (F0 m 18 ls [.int (iI (v 9)), .int (iI 1), .ref (ad 0)])
    have r_5 : 0 ≤ (v 9) ∧ (v 9) ≤ 700 := hok.1 9
    refine g_cv (As := [.int (iI 1), .int (iI (v 9))]) (rest := []) (n := 2) C hml (m_X11_fail l D k A ad hD (va_up (va_up v 6 (v 6)) 7 (v 7)) f g 1 (v 9) (by decide) (by omega) (show 1 ≤ (1 : Int) ∧ (1 : Int) ≤ 5 from by omega) (show 0 ≤ (v 9) ∧ (v 9) ≤ 700 from by omega)) mM_X11_194 mI_X11_fail mE_X11_fail mN_X11 mC_X11_fail (by decide +kernel) 0 (ci := 11) rfl rfl hP hS (fun _ h => h) ⟨Nat.le_of_ble_eq_true rfl, Nat.le_of_ble_eq_true rfl⟩ ⟨Nat.zero_le _, Nat.zero_le _⟩ hl.1 rfl rfl (Nat.le_of_ble_eq_true rfl) dX11_wrong_18 (fun r_6 v_6 f_6 g_6 H locs hq_6 hP _ hS => ?_)
    obtain ⟨w6_6, w7_6, rfl, rfl, rfl, rfl, p0_6⟩ := hq_6
    show W p l e (gRm 1 22) s m args below meth c _ _ 0 0 Q (F0 m 21 ls [])
    have hP : gWd D (mdT k ad) (va_up (va_up v 6 w6_6) 7 w7_6) f g H := ⟨hP.1, (gR_up (V := mdV) (F := mdF) (gR_up (V := mdV) (F := mdF) ⟨hok.1, hok.2⟩ 6 (hP.2.1 6)) 7 (hP.2.1 7))⟩
    have p0_6 : 0 < w6_6 := p0_6
    have rw6_6 : 0 ≤ w6_6 ∧ w6_6 ≤ 5 := hP.2.1 6
    have rw7_6 : 0 ≤ w7_6 ∧ w7_6 ≤ 700 := hP.2.1 7
    exact g_vret hQ C hr hlocks hP hS dX11_wrong_21 ⟨w6_6, w7_6, rfl, rfl, rfl, rfl, (by first | omega | (split <;> omega))⟩

set_option maxHeartbeats 4000000 in
set_option maxRecDepth 100000 in
theorem m_X11_numberOf (l : Launch) (D : va_G) (k : Nat → ClassId) (A : Nat → Prop) (ad : Nat → Nat) (hD : mdD A k ad) (v : gV) (f g : gF) (a1 : Int) (a2 : Int) (h_a1 : inR a1) (h_a2 : inR a2) (hj : (v 9) ≤ (v 10) ∧ (v 10) ≤ (v 3) ∧ ((v 8) ≠ 0 → (v 9) < (v 10))) (h1 : 0 ≤ a1 ∧ a1 ≤ a2 ∧ a2 ≤ 999) : GM l D k A (mdT k ad) yX11_numberOf cX11_numberOf 4 (some .int) 2 42 [.ref (ad 0), .int (iI a1), .int (iI a2)] v f g (fun r v1 f1 g1 => ∃ (z : Int) (w6 : Int) (w7 : Int) (w8 : Int) (w9 : Int) (w10 : Int) (w11 : Int) (b0_ : Int → Int), r = some (.int (iI z)) ∧ (va_up (va_up (va_up (va_up (va_up (va_up v 6 w6) 7 w7) 8 w8) 9 w9) 10 w10) 11 w11) = v1 ∧ f = f1 ∧ (va_up g 0 b0_) = g1 ∧ (a1 ≤ z ∧ z ≤ a2) ∧ ((v 9) ≤ w9 ∧ w9 ≤ w10 ∧ w10 ≤ (v 3)) ∧ (w8 ≠ 0 → w9 < w10) ∧ (0 < (v 6) → 0 < w6)) := by
  refine GM.of (by decide) (Nat.le_of_ble_eq_true rfl) ?_
  intro p e s m args below meth c Q ls hQ C hml hr hlocks hP hl
  have hx := C.1
  have hb := C.2.1
  have hok := hP.2
  have hS : va_S A s.heap s.heap [] := va_S.rf
  have hl : lv_has ls 4 [(0, .ref (ad 0)), (1, .int (iI a1)), (2, .int (iI a2))] := hl
  have hP : gWd D (mdT k ad) (va_up (va_up (va_up (va_up (va_up (va_up v 6 (v 6)) 7 (v 7)) 8 (v 8)) 9 (v 9)) 10 (v 10)) 11 (v 11)) f (va_up g 0 (g 0)) s.heap := by rw [va_id, va_id, va_id, va_id, va_id, va_id, va_id]; exact hP
  have r_1 : 0 ≤ (v 9) ∧ (v 9) ≤ 700 := hok.1 9
  have r_2 : 0 ≤ (v 10) ∧ (v 10) ≤ 700 := hok.1 10
  have r_3 : 0 ≤ (v 3) ∧ (v 3) ≤ 700 := hok.1 3
  have r_4 : 0 ≤ (v 8) ∧ (v 8) ≤ 4 := hok.1 8
  have r_5 : 0 ≤ (v 6) ∧ (v 6) ≤ 5 := hok.1 6
  refine lv_aload_n hx hb dX11_numberOf_0 rfl (lv_at hl 0 rfl) ?_
  refine mdG_sort C hP mF_X11_165 dX11_numberOf_1 ?_
  show W p l e (gRm 2 42) s m args below meth c _ _ 0 0 Q (F0 m 4 ls [.int (iI (v 8))])
  refine lv_iconst (v := iI 2) hx hb dX11_numberOf_4 rfl ?_
  refine gi_ceq (tgt := 14) hx hb dX11_numberOf_5 (by decide) (by omega) (by decide) (fun c_6 => ?_) (fun c_6 => ?_)
  · refine lv_aload_n hx hb dX11_numberOf_14 rfl (lv_at hl 0 rfl) ?_
    refine mdG_number C hP mF_X11_185 dX11_numberOf_15 ?_
    show W p l e (gRm 2 42) s m args below meth c _ _ 0 0 Q (F0 m 18 ls [.int (iI (v 11))])
    have r_7 : 0 ≤ (v 11) ∧ (v 11) ≤ 999999 := hok.1 11
    refine lv_istore_n (lv' := [(3, .int (iI (v 11))), (0, .ref (ad 0)), (1, .int (iI a1)), (2, .int (iI a2))]) hx hb dX11_numberOf_18 rfl hl (by decide) rfl (fun ls hl => ?_)
    refine lv_iload_n hx hb dX11_numberOf_19 rfl (lv_at hl 0 rfl) ?_
    refine lv_iload_n hx hb dX11_numberOf_20 rfl (lv_at hl 2 rfl) ?_
    refine gi_clt (tgt := 29) hx hb dX11_numberOf_21 (by decide) (by omega) (by omega) (fun c_8 => ?_) (fun c_8 => ?_)
    · refine lv_aload_n hx hb dX11_numberOf_29 rfl (lv_at hl 1 rfl) ?_
      refine lv_iconst (v := iI 4) hx hb dX11_numberOf_30 rfl ?_
      refine lv_aload_n hx hb dX11_numberOf_31 rfl (lv_at hl 1 rfl) ?_
      refine mdG_at C hP mF_X11_158 dX11_numberOf_32 ?_
      show W p l e (gRm 2 42) s m args below meth c _ _ 0 0 Q (F0 m 35 ls [.int (iI (v 9)), .int (iI 4), .ref (ad 0)])
      refine g_cv (As := [.int (iI 4), .int (iI (v 9))]) (rest := []) (n := 2) C hml (m_X11_fail l D k A ad hD (va_up (va_up (va_up (va_up (va_up (va_up v 6 (v 6)) 7 (v 7)) 8 (v 8)) 9 (v 9)) 10 (v 10)) 11 (v 11)) f (va_up g 0 (g 0)) 4 (v 9) (by decide) (by omega) (show 1 ≤ (4 : Int) ∧ (4 : Int) ≤ 5 from by omega) (show 0 ≤ (v 9) ∧ (v 9) ≤ 700 from by omega)) mM_X11_194 mI_X11_fail mE_X11_fail mN_X11 mC_X11_fail (by decide +kernel) 0 (ci := 11) rfl rfl hP hS (fun _ h => h) ⟨Nat.le_of_ble_eq_true rfl, Nat.le_of_ble_eq_true rfl⟩ ⟨Nat.zero_le _, Nat.zero_le _⟩ hl.1 rfl rfl (Nat.le_of_ble_eq_true rfl) dX11_numberOf_35 (fun r_9 v_9 f_9 g_9 H locs hq_9 hP _ hS => ?_)
      obtain ⟨w6_9, w7_9, rfl, rfl, rfl, rfl, p0_9⟩ := hq_9
      show W p l e (gRm 2 42) s m args below meth c _ _ 0 0 Q (F0 m 38 ls [])
      have hP : gWd D (mdT k ad) (va_up (va_up (va_up (va_up (va_up (va_up v 6 w6_9) 7 w7_9) 8 (v 8)) 9 (v 9)) 10 (v 10)) 11 (v 11)) f (va_up g 0 (g 0)) H := ⟨hP.1, (gR_up (V := mdV) (F := mdF) (gR_up (V := mdV) (F := mdF) (gR_up (V := mdV) (F := mdF) (gR_up (V := mdV) (F := mdF) (gR_up (V := mdV) (F := mdF) (gR_up (V := mdV) (F := mdF) ⟨hok.1, hok.2⟩ 6 (hP.2.1 6)) 7 (hP.2.1 7)) 8 (hP.2.1 8)) 9 (hP.2.1 9)) 10 (hP.2.1 10)) 11 (hP.2.1 11))⟩
      have p0_9 : 0 < w6_9 := p0_9
      have rw6_9 : 0 ≤ w6_9 ∧ w6_9 ≤ 5 := hP.2.1 6
      have rw7_9 : 0 ≤ w7_9 ∧ w7_9 ≤ 700 := hP.2.1 7
      refine lv_aload_n hx hb dX11_numberOf_38 rfl (lv_at hl 1 rfl) ?_
      refine mdG_bad C hP mF_X11_188 dX11_numberOf_39 ?_
      show W p l e (gRm 2 42) s m args below meth c _ _ 0 0 Q (F0 m 42 ls [.int (iI w6_9)])
      have r_10 : 0 ≤ w6_9 ∧ w6_9 ≤ 5 := hP.2.1 6
      refine gi_zne (tgt := 49) hx hb dX11_numberOf_42 (by decide) (by omega) (fun c_11 => ?_) (fun c_11 => ?_)
      · refine lv_aload_n hx hb dX11_numberOf_49 rfl (lv_at hl 1 rfl) ?_
        refine mdG_bad C hP mF_X11_188 dX11_numberOf_50 ?_
        show W p l e (gRm 2 42) s m args below meth c _ _ 0 0 Q (F0 m 53 ls [.int (iI w6_9)])
        refine gi_zne (tgt := 60) hx hb dX11_numberOf_53 (by decide) (by omega) (fun c_12 => ?_) (fun c_12 => ?_)
        · refine lv_iload_n hx hb dX11_numberOf_60 rfl (lv_at hl 2 rfl) ?_
          exact g_iret hQ C hr hlocks hP hS dX11_numberOf_61 ⟨a1, w6_9, w7_9, (v 8), (v 9), (v 10), (v 11), (g 0), rfl, rfl, rfl, rfl, (by first | omega | (split <;> omega)), (by first | omega | (split <;> omega)), (by first | omega | (split <;> omega)), (by first | omega | (split <;> omega))⟩
        · refine lv_iload_n hx hb dX11_numberOf_56 rfl (lv_at hl 0 rfl) ?_
          refine lv_goto (tgt := 61) hx hb dX11_numberOf_57 (by decide) ?_
          exact g_iret hQ C hr hlocks hP hS dX11_numberOf_61 ⟨(v 11), w6_9, w7_9, (v 8), (v 9), (v 10), (v 11), (g 0), rfl, rfl, rfl, rfl, (by first | omega | (split <;> omega)), (by first | omega | (split <;> omega)), (by first | omega | (split <;> omega)), (by first | omega | (split <;> omega))⟩
      · refine lv_aload_n hx hb dX11_numberOf_45 rfl (lv_at hl 1 rfl) ?_
        refine g_cv (As := []) (rest := []) (n := 0) C hml (m_X11_next l D k A ad hD (va_up (va_up (va_up (va_up (va_up (va_up v 6 w6_9) 7 w7_9) 8 (v 8)) 9 (v 9)) 10 (v 10)) 11 (v 11)) f (va_up g 0 (g 0)) (show (v 10) ≤ (v 3) from by omega)) mM_X11_201 mI_X11_next mE_X11_next mN_X11 mC_X11_next (by decide +kernel) 0 (ci := 11) rfl rfl hP hS (fun _ h => h) ⟨Nat.le_of_ble_eq_true rfl, Nat.le_of_ble_eq_true rfl⟩ ⟨Nat.zero_le _, Nat.zero_le _⟩ hl.1 rfl rfl (Nat.le_of_ble_eq_true rfl) dX11_numberOf_46 (fun r_13 v_13 f_13 g_13 H locs hq_13 hP _ hS => ?_)
        obtain ⟨w8_13, w9_13, w10_13, w11_13, b0_13, rfl, rfl, rfl, rfl, p0_13, p1_13⟩ := hq_13
        show W p l e (gRm 2 42) s m args below meth c _ _ 0 0 Q (F0 m 49 ls [])
        have hP : gWd D (mdT k ad) (va_up (va_up (va_up (va_up (va_up (va_up v 6 w6_9) 7 w7_9) 8 w8_13) 9 w9_13) 10 w10_13) 11 w11_13) f (va_up g 0 b0_13) H := ⟨hP.1, (gR_up (V := mdV) (F := mdF) (gR_up (V := mdV) (F := mdF) (gR_up (V := mdV) (F := mdF) (gR_up (V := mdV) (F := mdF) (gR_up (V := mdV) (F := mdF) (gR_up (V := mdV) (F := mdF) ⟨hok.1, hok.2⟩ 6 (hP.2.1 6)) 7 (hP.2.1 7)) 8 (hP.2.1 8)) 9 (hP.2.1 9)) 10 (hP.2.1 10)) 11 (hP.2.1 11))⟩
        have p0_13 : (v 10) ≤ w9_13 ∧ w9_13 ≤ w10_13 ∧ w10_13 ≤ (v 3) := p0_13
        have p1_13 : w8_13 ≠ 0 → w9_13 < w10_13 := p1_13
        have rw8_13 : 0 ≤ w8_13 ∧ w8_13 ≤ 4 := hP.2.1 8
        have rw9_13 : 0 ≤ w9_13 ∧ w9_13 ≤ 700 := hP.2.1 9
        have rw10_13 : 0 ≤ w10_13 ∧ w10_13 ≤ 700 := hP.2.1 10
        have rw11_13 : 0 ≤ w11_13 ∧ w11_13 ≤ 999999 := hP.2.1 11
        refine lv_aload_n hx hb dX11_numberOf_49 rfl (lv_at hl 1 rfl) ?_
        refine mdG_bad C hP mF_X11_188 dX11_numberOf_50 ?_
        show W p l e (gRm 2 42) s m args below meth c _ _ 0 0 Q (F0 m 53 ls [.int (iI w6_9)])
        refine gi_zne (tgt := 60) hx hb dX11_numberOf_53 (by decide) (by omega) (fun c_14 => ?_) (fun c_14 => ?_)
        · refine lv_iload_n hx hb dX11_numberOf_60 rfl (lv_at hl 2 rfl) ?_
          exact g_iret hQ C hr hlocks hP hS dX11_numberOf_61 ⟨a1, w6_9, w7_9, w8_13, w9_13, w10_13, w11_13, b0_13, rfl, rfl, rfl, rfl, (by first | omega | (split <;> omega)), (by first | omega | (split <;> omega)), (by first | omega | (split <;> omega)), (by first | omega | (split <;> omega))⟩
        · refine lv_iload_n hx hb dX11_numberOf_56 rfl (lv_at hl 0 rfl) ?_
          refine lv_goto (tgt := 61) hx hb dX11_numberOf_57 (by decide) ?_
          exact g_iret hQ C hr hlocks hP hS dX11_numberOf_61 ⟨(v 11), w6_9, w7_9, w8_13, w9_13, w10_13, w11_13, b0_13, rfl, rfl, rfl, rfl, (by first | omega | (split <;> omega)), (by first | omega | (split <;> omega)), (by first | omega | (split <;> omega)), (by first | omega | (split <;> omega))⟩
    · refine lv_iload_n hx hb dX11_numberOf_24 rfl (lv_at hl 0 rfl) ?_
      refine lv_iload_n hx hb dX11_numberOf_25 rfl (lv_at hl 3 rfl) ?_
      refine gi_cle (tgt := 38) hx hb dX11_numberOf_26 (by decide) (by omega) (by omega) (fun c_15 => ?_) (fun c_15 => ?_)
      · refine lv_aload_n hx hb dX11_numberOf_38 rfl (lv_at hl 1 rfl) ?_
        refine mdG_bad C hP mF_X11_188 dX11_numberOf_39 ?_
        show W p l e (gRm 2 42) s m args below meth c _ _ 0 0 Q (F0 m 42 ls [.int (iI (v 6))])
        refine gi_zne (tgt := 49) hx hb dX11_numberOf_42 (by decide) (by omega) (fun c_16 => ?_) (fun c_16 => ?_)
        · refine lv_aload_n hx hb dX11_numberOf_49 rfl (lv_at hl 1 rfl) ?_
          refine mdG_bad C hP mF_X11_188 dX11_numberOf_50 ?_
          show W p l e (gRm 2 42) s m args below meth c _ _ 0 0 Q (F0 m 53 ls [.int (iI (v 6))])
          refine gi_zne (tgt := 60) hx hb dX11_numberOf_53 (by decide) (by omega) (fun c_17 => ?_) (fun c_17 => ?_)
          · refine lv_iload_n hx hb dX11_numberOf_60 rfl (lv_at hl 2 rfl) ?_
            exact g_iret hQ C hr hlocks hP hS dX11_numberOf_61 ⟨a1, (v 6), (v 7), (v 8), (v 9), (v 10), (v 11), (g 0), rfl, rfl, rfl, rfl, (by first | omega | (split <;> omega)), (by first | omega | (split <;> omega)), (by first | omega | (split <;> omega)), (by first | omega | (split <;> omega))⟩
          · refine lv_iload_n hx hb dX11_numberOf_56 rfl (lv_at hl 0 rfl) ?_
            refine lv_goto (tgt := 61) hx hb dX11_numberOf_57 (by decide) ?_
            exact g_iret hQ C hr hlocks hP hS dX11_numberOf_61 ⟨(v 11), (v 6), (v 7), (v 8), (v 9), (v 10), (v 11), (g 0), rfl, rfl, rfl, rfl, (by first | omega | (split <;> omega)), (by first | omega | (split <;> omega)), (by first | omega | (split <;> omega)), (by first | omega | (split <;> omega))⟩
        · refine lv_aload_n hx hb dX11_numberOf_45 rfl (lv_at hl 1 rfl) ?_
          refine g_cv (As := []) (rest := []) (n := 0) C hml (m_X11_next l D k A ad hD (va_up (va_up (va_up (va_up (va_up (va_up v 6 (v 6)) 7 (v 7)) 8 (v 8)) 9 (v 9)) 10 (v 10)) 11 (v 11)) f (va_up g 0 (g 0)) (show (v 10) ≤ (v 3) from by omega)) mM_X11_201 mI_X11_next mE_X11_next mN_X11 mC_X11_next (by decide +kernel) 0 (ci := 11) rfl rfl hP hS (fun _ h => h) ⟨Nat.le_of_ble_eq_true rfl, Nat.le_of_ble_eq_true rfl⟩ ⟨Nat.zero_le _, Nat.zero_le _⟩ hl.1 rfl rfl (Nat.le_of_ble_eq_true rfl) dX11_numberOf_46 (fun r_18 v_18 f_18 g_18 H locs hq_18 hP _ hS => ?_)
          obtain ⟨w8_18, w9_18, w10_18, w11_18, b0_18, rfl, rfl, rfl, rfl, p0_18, p1_18⟩ := hq_18
          show W p l e (gRm 2 42) s m args below meth c _ _ 0 0 Q (F0 m 49 ls [])
          have hP : gWd D (mdT k ad) (va_up (va_up (va_up (va_up (va_up (va_up v 6 (v 6)) 7 (v 7)) 8 w8_18) 9 w9_18) 10 w10_18) 11 w11_18) f (va_up g 0 b0_18) H := ⟨hP.1, (gR_up (V := mdV) (F := mdF) (gR_up (V := mdV) (F := mdF) (gR_up (V := mdV) (F := mdF) (gR_up (V := mdV) (F := mdF) (gR_up (V := mdV) (F := mdF) (gR_up (V := mdV) (F := mdF) ⟨hok.1, hok.2⟩ 6 (hP.2.1 6)) 7 (hP.2.1 7)) 8 (hP.2.1 8)) 9 (hP.2.1 9)) 10 (hP.2.1 10)) 11 (hP.2.1 11))⟩
          have p0_18 : (v 10) ≤ w9_18 ∧ w9_18 ≤ w10_18 ∧ w10_18 ≤ (v 3) := p0_18
          have p1_18 : w8_18 ≠ 0 → w9_18 < w10_18 := p1_18
          have rw8_18 : 0 ≤ w8_18 ∧ w8_18 ≤ 4 := hP.2.1 8
          have rw9_18 : 0 ≤ w9_18 ∧ w9_18 ≤ 700 := hP.2.1 9
          have rw10_18 : 0 ≤ w10_18 ∧ w10_18 ≤ 700 := hP.2.1 10
          have rw11_18 : 0 ≤ w11_18 ∧ w11_18 ≤ 999999 := hP.2.1 11
          refine lv_aload_n hx hb dX11_numberOf_49 rfl (lv_at hl 1 rfl) ?_
          refine mdG_bad C hP mF_X11_188 dX11_numberOf_50 ?_
          show W p l e (gRm 2 42) s m args below meth c _ _ 0 0 Q (F0 m 53 ls [.int (iI (v 6))])
          refine gi_zne (tgt := 60) hx hb dX11_numberOf_53 (by decide) (by omega) (fun c_19 => ?_) (fun c_19 => ?_)
          · refine lv_iload_n hx hb dX11_numberOf_60 rfl (lv_at hl 2 rfl) ?_
            exact g_iret hQ C hr hlocks hP hS dX11_numberOf_61 ⟨a1, (v 6), (v 7), w8_18, w9_18, w10_18, w11_18, b0_18, rfl, rfl, rfl, rfl, (by first | omega | (split <;> omega)), (by first | omega | (split <;> omega)), (by first | omega | (split <;> omega)), (by first | omega | (split <;> omega))⟩
          · refine lv_iload_n hx hb dX11_numberOf_56 rfl (lv_at hl 0 rfl) ?_
            refine lv_goto (tgt := 61) hx hb dX11_numberOf_57 (by decide) ?_
            exact g_iret hQ C hr hlocks hP hS dX11_numberOf_61 ⟨(v 11), (v 6), (v 7), w8_18, w9_18, w10_18, w11_18, b0_18, rfl, rfl, rfl, rfl, (by first | omega | (split <;> omega)), (by first | omega | (split <;> omega)), (by first | omega | (split <;> omega)), (by first | omega | (split <;> omega))⟩
      · refine lv_aload_n hx hb dX11_numberOf_29 rfl (lv_at hl 1 rfl) ?_
        refine lv_iconst (v := iI 4) hx hb dX11_numberOf_30 rfl ?_
        refine lv_aload_n hx hb dX11_numberOf_31 rfl (lv_at hl 1 rfl) ?_
        refine mdG_at C hP mF_X11_158 dX11_numberOf_32 ?_
        show W p l e (gRm 2 42) s m args below meth c _ _ 0 0 Q (F0 m 35 ls [.int (iI (v 9)), .int (iI 4), .ref (ad 0)])
        refine g_cv (As := [.int (iI 4), .int (iI (v 9))]) (rest := []) (n := 2) C hml (m_X11_fail l D k A ad hD (va_up (va_up (va_up (va_up (va_up (va_up v 6 (v 6)) 7 (v 7)) 8 (v 8)) 9 (v 9)) 10 (v 10)) 11 (v 11)) f (va_up g 0 (g 0)) 4 (v 9) (by decide) (by omega) (show 1 ≤ (4 : Int) ∧ (4 : Int) ≤ 5 from by omega) (show 0 ≤ (v 9) ∧ (v 9) ≤ 700 from by omega)) mM_X11_194 mI_X11_fail mE_X11_fail mN_X11 mC_X11_fail (by decide +kernel) 0 (ci := 11) rfl rfl hP hS (fun _ h => h) ⟨Nat.le_of_ble_eq_true rfl, Nat.le_of_ble_eq_true rfl⟩ ⟨Nat.zero_le _, Nat.zero_le _⟩ hl.1 rfl rfl (Nat.le_of_ble_eq_true rfl) dX11_numberOf_35 (fun r_20 v_20 f_20 g_20 H locs hq_20 hP _ hS => ?_)
        obtain ⟨w6_20, w7_20, rfl, rfl, rfl, rfl, p0_20⟩ := hq_20
        show W p l e (gRm 2 42) s m args below meth c _ _ 0 0 Q (F0 m 38 ls [])
        have hP : gWd D (mdT k ad) (va_up (va_up (va_up (va_up (va_up (va_up v 6 w6_20) 7 w7_20) 8 (v 8)) 9 (v 9)) 10 (v 10)) 11 (v 11)) f (va_up g 0 (g 0)) H := ⟨hP.1, (gR_up (V := mdV) (F := mdF) (gR_up (V := mdV) (F := mdF) (gR_up (V := mdV) (F := mdF) (gR_up (V := mdV) (F := mdF) (gR_up (V := mdV) (F := mdF) (gR_up (V := mdV) (F := mdF) ⟨hok.1, hok.2⟩ 6 (hP.2.1 6)) 7 (hP.2.1 7)) 8 (hP.2.1 8)) 9 (hP.2.1 9)) 10 (hP.2.1 10)) 11 (hP.2.1 11))⟩
        have p0_20 : 0 < w6_20 := p0_20
        have rw6_20 : 0 ≤ w6_20 ∧ w6_20 ≤ 5 := hP.2.1 6
        have rw7_20 : 0 ≤ w7_20 ∧ w7_20 ≤ 700 := hP.2.1 7
        refine lv_aload_n hx hb dX11_numberOf_38 rfl (lv_at hl 1 rfl) ?_
        refine mdG_bad C hP mF_X11_188 dX11_numberOf_39 ?_
        show W p l e (gRm 2 42) s m args below meth c _ _ 0 0 Q (F0 m 42 ls [.int (iI w6_20)])
        have r_21 : 0 ≤ w6_20 ∧ w6_20 ≤ 5 := hP.2.1 6
        refine gi_zne (tgt := 49) hx hb dX11_numberOf_42 (by decide) (by omega) (fun c_22 => ?_) (fun c_22 => ?_)
        · refine lv_aload_n hx hb dX11_numberOf_49 rfl (lv_at hl 1 rfl) ?_
          refine mdG_bad C hP mF_X11_188 dX11_numberOf_50 ?_
          show W p l e (gRm 2 42) s m args below meth c _ _ 0 0 Q (F0 m 53 ls [.int (iI w6_20)])
          refine gi_zne (tgt := 60) hx hb dX11_numberOf_53 (by decide) (by omega) (fun c_23 => ?_) (fun c_23 => ?_)
          · refine lv_iload_n hx hb dX11_numberOf_60 rfl (lv_at hl 2 rfl) ?_
            exact g_iret hQ C hr hlocks hP hS dX11_numberOf_61 ⟨a1, w6_20, w7_20, (v 8), (v 9), (v 10), (v 11), (g 0), rfl, rfl, rfl, rfl, (by first | omega | (split <;> omega)), (by first | omega | (split <;> omega)), (by first | omega | (split <;> omega)), (by first | omega | (split <;> omega))⟩
          · refine lv_iload_n hx hb dX11_numberOf_56 rfl (lv_at hl 0 rfl) ?_
            refine lv_goto (tgt := 61) hx hb dX11_numberOf_57 (by decide) ?_
            exact g_iret hQ C hr hlocks hP hS dX11_numberOf_61 ⟨(v 11), w6_20, w7_20, (v 8), (v 9), (v 10), (v 11), (g 0), rfl, rfl, rfl, rfl, (by first | omega | (split <;> omega)), (by first | omega | (split <;> omega)), (by first | omega | (split <;> omega)), (by first | omega | (split <;> omega))⟩
        · refine lv_aload_n hx hb dX11_numberOf_45 rfl (lv_at hl 1 rfl) ?_
          refine g_cv (As := []) (rest := []) (n := 0) C hml (m_X11_next l D k A ad hD (va_up (va_up (va_up (va_up (va_up (va_up v 6 w6_20) 7 w7_20) 8 (v 8)) 9 (v 9)) 10 (v 10)) 11 (v 11)) f (va_up g 0 (g 0)) (show (v 10) ≤ (v 3) from by omega)) mM_X11_201 mI_X11_next mE_X11_next mN_X11 mC_X11_next (by decide +kernel) 0 (ci := 11) rfl rfl hP hS (fun _ h => h) ⟨Nat.le_of_ble_eq_true rfl, Nat.le_of_ble_eq_true rfl⟩ ⟨Nat.zero_le _, Nat.zero_le _⟩ hl.1 rfl rfl (Nat.le_of_ble_eq_true rfl) dX11_numberOf_46 (fun r_24 v_24 f_24 g_24 H locs hq_24 hP _ hS => ?_)
          obtain ⟨w8_24, w9_24, w10_24, w11_24, b0_24, rfl, rfl, rfl, rfl, p0_24, p1_24⟩ := hq_24
          show W p l e (gRm 2 42) s m args below meth c _ _ 0 0 Q (F0 m 49 ls [])
          have hP : gWd D (mdT k ad) (va_up (va_up (va_up (va_up (va_up (va_up v 6 w6_20) 7 w7_20) 8 w8_24) 9 w9_24) 10 w10_24) 11 w11_24) f (va_up g 0 b0_24) H := ⟨hP.1, (gR_up (V := mdV) (F := mdF) (gR_up (V := mdV) (F := mdF) (gR_up (V := mdV) (F := mdF) (gR_up (V := mdV) (F := mdF) (gR_up (V := mdV) (F := mdF) (gR_up (V := mdV) (F := mdF) ⟨hok.1, hok.2⟩ 6 (hP.2.1 6)) 7 (hP.2.1 7)) 8 (hP.2.1 8)) 9 (hP.2.1 9)) 10 (hP.2.1 10)) 11 (hP.2.1 11))⟩
          have p0_24 : (v 10) ≤ w9_24 ∧ w9_24 ≤ w10_24 ∧ w10_24 ≤ (v 3) := p0_24
          have p1_24 : w8_24 ≠ 0 → w9_24 < w10_24 := p1_24
          have rw8_24 : 0 ≤ w8_24 ∧ w8_24 ≤ 4 := hP.2.1 8
          have rw9_24 : 0 ≤ w9_24 ∧ w9_24 ≤ 700 := hP.2.1 9
          have rw10_24 : 0 ≤ w10_24 ∧ w10_24 ≤ 700 := hP.2.1 10
          have rw11_24 : 0 ≤ w11_24 ∧ w11_24 ≤ 999999 := hP.2.1 11
          refine lv_aload_n hx hb dX11_numberOf_49 rfl (lv_at hl 1 rfl) ?_
          refine mdG_bad C hP mF_X11_188 dX11_numberOf_50 ?_
          show W p l e (gRm 2 42) s m args below meth c _ _ 0 0 Q (F0 m 53 ls [.int (iI w6_20)])
          refine gi_zne (tgt := 60) hx hb dX11_numberOf_53 (by decide) (by omega) (fun c_25 => ?_) (fun c_25 => ?_)
          · refine lv_iload_n hx hb dX11_numberOf_60 rfl (lv_at hl 2 rfl) ?_
            exact g_iret hQ C hr hlocks hP hS dX11_numberOf_61 ⟨a1, w6_20, w7_20, w8_24, w9_24, w10_24, w11_24, b0_24, rfl, rfl, rfl, rfl, (by first | omega | (split <;> omega)), (by first | omega | (split <;> omega)), (by first | omega | (split <;> omega)), (by first | omega | (split <;> omega))⟩
          · refine lv_iload_n hx hb dX11_numberOf_56 rfl (lv_at hl 0 rfl) ?_
            refine lv_goto (tgt := 61) hx hb dX11_numberOf_57 (by decide) ?_
            exact g_iret hQ C hr hlocks hP hS dX11_numberOf_61 ⟨(v 11), w6_20, w7_20, w8_24, w9_24, w10_24, w11_24, b0_24, rfl, rfl, rfl, rfl, (by first | omega | (split <;> omega)), (by first | omega | (split <;> omega)), (by first | omega | (split <;> omega)), (by first | omega | (split <;> omega))⟩
  · refine lv_aload_n hx hb dX11_numberOf_8 rfl (lv_at hl 0 rfl) ?_
    refine g_cv (As := []) (rest := []) (n := 0) C hml (m_X11_wrong l D k A ad hD (va_up (va_up (va_up (va_up (va_up (va_up v 6 (v 6)) 7 (v 7)) 8 (v 8)) 9 (v 9)) 10 (v 10)) 11 (v 11)) f (va_up g 0 (g 0))) mM_X11_198 mI_X11_wrong mE_X11_wrong mN_X11 mC_X11_wrong (by decide +kernel) 0 (ci := 11) rfl rfl hP hS (fun _ h => h) ⟨Nat.le_of_ble_eq_true rfl, Nat.le_of_ble_eq_true rfl⟩ ⟨Nat.zero_le _, Nat.zero_le _⟩ hl.1 rfl rfl (Nat.le_of_ble_eq_true rfl) dX11_numberOf_9 (fun r_26 v_26 f_26 g_26 H locs hq_26 hP _ hS => ?_)
    obtain ⟨w6_26, w7_26, rfl, rfl, rfl, rfl, p0_26⟩ := hq_26
    show W p l e (gRm 2 42) s m args below meth c _ _ 0 0 Q (F0 m 12 ls [])
    have hP : gWd D (mdT k ad) (va_up (va_up (va_up (va_up (va_up (va_up v 6 w6_26) 7 w7_26) 8 (v 8)) 9 (v 9)) 10 (v 10)) 11 (v 11)) f (va_up g 0 (g 0)) H := ⟨hP.1, (gR_up (V := mdV) (F := mdF) (gR_up (V := mdV) (F := mdF) (gR_up (V := mdV) (F := mdF) (gR_up (V := mdV) (F := mdF) (gR_up (V := mdV) (F := mdF) (gR_up (V := mdV) (F := mdF) ⟨hok.1, hok.2⟩ 6 (hP.2.1 6)) 7 (hP.2.1 7)) 8 (hP.2.1 8)) 9 (hP.2.1 9)) 10 (hP.2.1 10)) 11 (hP.2.1 11))⟩
    have p0_26 : 0 < w6_26 := p0_26
    have rw6_26 : 0 ≤ w6_26 ∧ w6_26 ≤ 5 := hP.2.1 6
    have rw7_26 : 0 ≤ w7_26 ∧ w7_26 ≤ 700 := hP.2.1 7
    refine lv_iload_n hx hb dX11_numberOf_12 rfl (lv_at hl 1 rfl) ?_
    exact g_iret hQ C hr hlocks hP hS dX11_numberOf_13 ⟨a1, w6_26, w7_26, (v 8), (v 9), (v 10), (v 11), (g 0), rfl, rfl, rfl, rfl, (by first | omega | (split <;> omega)), (by first | omega | (split <;> omega)), (by first | omega | (split <;> omega)), (by first | omega | (split <;> omega))⟩

set_option maxHeartbeats 4000000 in
set_option maxRecDepth 100000 in
theorem m_X11_ends (l : Launch) (D : va_G) (k : Nat → ClassId) (A : Nat → Prop) (ad : Nat → Nat) (hD : mdD A k ad) (v : gV) (f g : gF) (hj : (v 9) ≤ (v 10) ∧ (v 10) ≤ (v 3) ∧ ((v 8) ≠ 0 → (v 9) < (v 10))) : GM l D k A (mdT k ad) yX11_ends cX11_ends 1 none 2 42 [.ref (ad 0)] v f g (fun r v1 f1 g1 => ∃ (w6 : Int) (w7 : Int) (w8 : Int) (w9 : Int) (w10 : Int) (w11 : Int) (b0_ : Int → Int), r = none ∧ (va_up (va_up (va_up (va_up (va_up (va_up v 6 w6) 7 w7) 8 w8) 9 w9) 10 w10) 11 w11) = v1 ∧ f = f1 ∧ (va_up g 0 b0_) = g1 ∧ ((v 9) ≤ w9 ∧ w9 ≤ w10 ∧ w10 ≤ (v 3)) ∧ (w8 ≠ 0 → w9 < w10) ∧ (0 < (v 6) → 0 < w6) ∧ (w6 = 0 → (v 6) = 0)) := by
  refine GM.of (by decide) (Nat.le_of_ble_eq_true rfl) ?_
  intro p e s m args below meth c Q ls hQ C hml hr hlocks hP hl
  have hx := C.1
  have hb := C.2.1
  have hok := hP.2
  have hS : va_S A s.heap s.heap [] := va_S.rf
  have hl : lv_has ls 1 [(0, .ref (ad 0))] := hl
  have hP : gWd D (mdT k ad) (va_up (va_up (va_up (va_up (va_up (va_up v 6 (v 6)) 7 (v 7)) 8 (v 8)) 9 (v 9)) 10 (v 10)) 11 (v 11)) f (va_up g 0 (g 0)) s.heap := by rw [va_id, va_id, va_id, va_id, va_id, va_id, va_id]; exact hP
  have r_1 : 0 ≤ (v 9) ∧ (v 9) ≤ 700 := hok.1 9
  have r_2 : 0 ≤ (v 10) ∧ (v 10) ≤ 700 := hok.1 10
  have r_3 : 0 ≤ (v 3) ∧ (v 3) ≤ 700 := hok.1 3
  have r_4 : 0 ≤ (v 8) ∧ (v 8) ≤ 4 := hok.1 8
  have r_5 : 0 ≤ (v 6) ∧ (v 6) ≤ 5 := hok.1 6
  refine lv_aload_n hx hb dX11_ends_0 rfl (lv_at hl 0 rfl) ?_
  refine lv_bipush (v := iI 59) hx hb dX11_ends_1 (by decide) ?_
  refine g_cv (As := [.int (iI 59)]) (rest := []) (n := 1) C hml (m_X11_isSign l D k A ad hD (va_up (va_up (va_up (va_up (va_up (va_up v 6 (v 6)) 7 (v 7)) 8 (v 8)) 9 (v 9)) 10 (v 10)) 11 (v 11)) f (va_up g 0 (g 0)) 59 (by decide)) mM_X11_204 mI_X11_isSign mE_X11_isSign mN_X11 mC_X11_isSign (by decide +kernel) 0 (ci := 11) rfl rfl hP hS (fun _ h => h) ⟨Nat.le_of_ble_eq_true rfl, Nat.le_of_ble_eq_true rfl⟩ ⟨Nat.zero_le _, Nat.zero_le _⟩ hl.1 rfl rfl (Nat.le_of_ble_eq_true rfl) dX11_ends_3 (fun r_6 v_6 f_6 g_6 H locs hq_6 hP _ hS => ?_)
  obtain ⟨z_6, rfl, rfl, rfl, rfl, p0_6, p1_6⟩ := hq_6
  show W p l e (gRm 2 42) s m args below meth c _ _ 0 0 Q (F0 m 6 ls [.int (iI z_6)])
  have p0_6 : 0 ≤ z_6 ∧ z_6 ≤ 1 := p0_6
  have p1_6 : z_6 = 1 → (v 8) = 3 := p1_6
  refine gi_zne (tgt := 16) hx hb dX11_ends_6 (by decide) (by omega) (fun c_7 => ?_) (fun c_7 => ?_)
  · refine lv_aload_n hx hb dX11_ends_16 rfl (lv_at hl 0 rfl) ?_
    refine g_cv (As := []) (rest := []) (n := 0) C hml (m_X11_next l D k A ad hD (va_up (va_up (va_up (va_up (va_up (va_up v 6 (v 6)) 7 (v 7)) 8 (v 8)) 9 (v 9)) 10 (v 10)) 11 (v 11)) f (va_up g 0 (g 0)) (show (v 10) ≤ (v 3) from by omega)) mM_X11_201 mI_X11_next mE_X11_next mN_X11 mC_X11_next (by decide +kernel) 0 (ci := 11) rfl rfl hP hS (fun _ h => h) ⟨Nat.le_of_ble_eq_true rfl, Nat.le_of_ble_eq_true rfl⟩ ⟨Nat.zero_le _, Nat.zero_le _⟩ hl.1 rfl rfl (Nat.le_of_ble_eq_true rfl) dX11_ends_17 (fun r_8 v_8 f_8 g_8 H locs hq_8 hP _ hS => ?_)
    obtain ⟨w8_8, w9_8, w10_8, w11_8, b0_8, rfl, rfl, rfl, rfl, p0_8, p1_8⟩ := hq_8
    show W p l e (gRm 2 42) s m args below meth c _ _ 0 0 Q (F0 m 20 ls [])
    have hP : gWd D (mdT k ad) (va_up (va_up (va_up (va_up (va_up (va_up v 6 (v 6)) 7 (v 7)) 8 w8_8) 9 w9_8) 10 w10_8) 11 w11_8) f (va_up g 0 b0_8) H := ⟨hP.1, (gR_up (V := mdV) (F := mdF) (gR_up (V := mdV) (F := mdF) (gR_up (V := mdV) (F := mdF) (gR_up (V := mdV) (F := mdF) (gR_up (V := mdV) (F := mdF) (gR_up (V := mdV) (F := mdF) ⟨hok.1, hok.2⟩ 6 (hP.2.1 6)) 7 (hP.2.1 7)) 8 (hP.2.1 8)) 9 (hP.2.1 9)) 10 (hP.2.1 10)) 11 (hP.2.1 11))⟩
    have p0_8 : (v 10) ≤ w9_8 ∧ w9_8 ≤ w10_8 ∧ w10_8 ≤ (v 3) := p0_8
    have p1_8 : w8_8 ≠ 0 → w9_8 < w10_8 := p1_8
    have rw8_8 : 0 ≤ w8_8 ∧ w8_8 ≤ 4 := hP.2.1 8
    have rw9_8 : 0 ≤ w9_8 ∧ w9_8 ≤ 700 := hP.2.1 9
    have rw10_8 : 0 ≤ w10_8 ∧ w10_8 ≤ 700 := hP.2.1 10
    have rw11_8 : 0 ≤ w11_8 ∧ w11_8 ≤ 999999 := hP.2.1 11
    exact g_vret hQ C hr hlocks hP hS dX11_ends_20 ⟨(v 6), (v 7), w8_8, w9_8, w10_8, w11_8, b0_8, rfl, rfl, rfl, rfl, (by first | omega | (split <;> omega)), (by first | omega | (split <;> omega)), (by first | omega | (split <;> omega)), (by first | omega | (split <;> omega))⟩
  · refine lv_aload_n hx hb dX11_ends_9 rfl (lv_at hl 0 rfl) ?_
    refine g_cv (As := []) (rest := []) (n := 0) C hml (m_X11_wrong l D k A ad hD (va_up (va_up (va_up (va_up (va_up (va_up v 6 (v 6)) 7 (v 7)) 8 (v 8)) 9 (v 9)) 10 (v 10)) 11 (v 11)) f (va_up g 0 (g 0))) mM_X11_198 mI_X11_wrong mE_X11_wrong mN_X11 mC_X11_wrong (by decide +kernel) 0 (ci := 11) rfl rfl hP hS (fun _ h => h) ⟨Nat.le_of_ble_eq_true rfl, Nat.le_of_ble_eq_true rfl⟩ ⟨Nat.zero_le _, Nat.zero_le _⟩ hl.1 rfl rfl (Nat.le_of_ble_eq_true rfl) dX11_ends_10 (fun r_9 v_9 f_9 g_9 H locs hq_9 hP _ hS => ?_)
    obtain ⟨w6_9, w7_9, rfl, rfl, rfl, rfl, p0_9⟩ := hq_9
    show W p l e (gRm 2 42) s m args below meth c _ _ 0 0 Q (F0 m 13 ls [])
    have hP : gWd D (mdT k ad) (va_up (va_up (va_up (va_up (va_up (va_up v 6 w6_9) 7 w7_9) 8 (v 8)) 9 (v 9)) 10 (v 10)) 11 (v 11)) f (va_up g 0 (g 0)) H := ⟨hP.1, (gR_up (V := mdV) (F := mdF) (gR_up (V := mdV) (F := mdF) (gR_up (V := mdV) (F := mdF) (gR_up (V := mdV) (F := mdF) (gR_up (V := mdV) (F := mdF) (gR_up (V := mdV) (F := mdF) ⟨hok.1, hok.2⟩ 6 (hP.2.1 6)) 7 (hP.2.1 7)) 8 (hP.2.1 8)) 9 (hP.2.1 9)) 10 (hP.2.1 10)) 11 (hP.2.1 11))⟩
    have p0_9 : 0 < w6_9 := p0_9
    have rw6_9 : 0 ≤ w6_9 ∧ w6_9 ≤ 5 := hP.2.1 6
    have rw7_9 : 0 ≤ w7_9 ∧ w7_9 ≤ 700 := hP.2.1 7
    refine lv_goto (tgt := 20) hx hb dX11_ends_13 (by decide) ?_
    exact g_vret hQ C hr hlocks hP hS dX11_ends_20 ⟨w6_9, w7_9, (v 8), (v 9), (v 10), (v 11), (g 0), rfl, rfl, rfl, rfl, (by first | omega | (split <;> omega)), (by first | omega | (split <;> omega)), (by first | omega | (split <;> omega)), (by first | omega | (split <;> omega))⟩

set_option maxHeartbeats 4000000 in
set_option maxRecDepth 100000 in
theorem m_X11_lawOf (l : Launch) (D : va_G) (k : Nat → ClassId) (A : Nat → Prop) (ad : Nat → Nat) (hD : mdD A k ad) (v : gV) (f g : gF) : GM l D k A (mdT k ad) yX11_lawOf cX11_lawOf 1 (some .int) 1 28 [.ref (ad 0)] v f g (fun r v1 f1 g1 => ∃ (z : Int), r = some (.int (iI z)) ∧ v = v1 ∧ f = f1 ∧ g = g1 ∧ ((-1) ≤ z ∧ z ≤ 3) ∧ (0 ≤ z → (v 8) = 1)) := by
  refine GM.of (by decide) (Nat.le_of_ble_eq_true rfl) ?_
  intro p e s m args below meth c Q ls hQ C hml hr hlocks hP hl
  have hx := C.1
  have hb := C.2.1
  have hok := hP.2
  have hS : va_S A s.heap s.heap [] := va_S.rf
  have hl : lv_has ls 1 [(0, .ref (ad 0))] := hl
  refine lv_aload_n hx hb dX11_lawOf_0 rfl (lv_at hl 0 rfl) ?_
  refine lv_bipush (v := iI 114) hx hb dX11_lawOf_1 (by decide) ?_
  refine lv_bipush (v := iI 111) hx hb dX11_lawOf_3 (by decide) ?_
  refine lv_bipush (v := iI 117) hx hb dX11_lawOf_5 (by decide) ?_
  refine lv_bipush (v := iI 110) hx hb dX11_lawOf_7 (by decide) ?_
  refine lv_bipush (v := iI 100) hx hb dX11_lawOf_9 (by decide) ?_
  refine lv_iconst (v := iI 0) hx hb dX11_lawOf_11 rfl ?_
  refine lv_iconst (v := iI 0) hx hb dX11_lawOf_12 rfl ?_
  refine g_cs (As := [.int (iI 114), .int (iI 111), .int (iI 117), .int (iI 110), .int (iI 100), .int (iI 0), .int (iI 0)]) (rest := [.ref (ad 0)]) (n := 7) C hml (m_X11_spelled l D k A ad hD v f g 114 111 117 110 100 0 0 (by decide) (by decide) (by decide) (by decide) (by decide) (by decide) (by decide)) mM_X11_228 mS_X11_spelled mN_X11 mC_X11_spelled (by decide +kernel) hP hS (fun _ h => h) ⟨Nat.le_of_ble_eq_true rfl, Nat.le_of_ble_eq_true rfl⟩ ⟨Nat.zero_le _, Nat.zero_le _⟩ hl.1 rfl rfl (Nat.le_of_ble_eq_true rfl) dX11_lawOf_13 (fun r_1 v_1 f_1 g_1 H locs hq_1 hP _ hS => ?_)
  obtain ⟨z_1, rfl, rfl, rfl, rfl⟩ := hq_1
  show W p l e (gRm 1 28) s m args below meth c _ _ 0 0 Q (F0 m 16 ls [.long (iL z_1), .ref (ad 0)])
  refine g_cv (As := [.long (iL z_1)]) (rest := []) (n := 1) C hml (m_X11_isWord l D k A ad hD v f g z_1) mM_X11_232 mI_X11_isWord mE_X11_isWord mN_X11 mC_X11_isWord (by decide +kernel) 0 (ci := 11) rfl rfl hP hS (fun _ h => h) ⟨Nat.le_of_ble_eq_true rfl, Nat.le_of_ble_eq_true rfl⟩ ⟨Nat.zero_le _, Nat.zero_le _⟩ hl.1 rfl rfl (Nat.le_of_ble_eq_true rfl) dX11_lawOf_16 (fun r_2 v_2 f_2 g_2 H locs hq_2 hP _ hS => ?_)
  obtain ⟨z_2, rfl, rfl, rfl, rfl, p0_2, p1_2⟩ := hq_2
  show W p l e (gRm 1 28) s m args below meth c _ _ 0 0 Q (F0 m 19 ls [.int (iI z_2)])
  have p0_2 : 0 ≤ z_2 ∧ z_2 ≤ 1 := p0_2
  have p1_2 : z_2 = 1 → (v 8) = 1 := p1_2
  refine gi_zeq (tgt := 24) hx hb dX11_lawOf_19 (by decide) (by omega) (fun c_3 => ?_) (fun c_3 => ?_)
  · refine lv_aload_n hx hb dX11_lawOf_24 rfl (lv_at hl 0 rfl) ?_
    refine lv_bipush (v := iI 112) hx hb dX11_lawOf_25 (by decide) ?_
    refine lv_bipush (v := iI 111) hx hb dX11_lawOf_27 (by decide) ?_
    refine lv_bipush (v := iI 105) hx hb dX11_lawOf_29 (by decide) ?_
    refine lv_bipush (v := iI 110) hx hb dX11_lawOf_31 (by decide) ?_
    refine lv_bipush (v := iI 116) hx hb dX11_lawOf_33 (by decide) ?_
    refine lv_bipush (v := iI 115) hx hb dX11_lawOf_35 (by decide) ?_
    refine lv_iconst (v := iI 0) hx hb dX11_lawOf_37 rfl ?_
    refine g_cs (As := [.int (iI 112), .int (iI 111), .int (iI 105), .int (iI 110), .int (iI 116), .int (iI 115), .int (iI 0)]) (rest := [.ref (ad 0)]) (n := 7) C hml (m_X11_spelled l D k A ad hD v f g 112 111 105 110 116 115 0 (by decide) (by decide) (by decide) (by decide) (by decide) (by decide) (by decide)) mM_X11_228 mS_X11_spelled mN_X11 mC_X11_spelled (by decide +kernel) hP hS (fun _ h => h) ⟨Nat.le_of_ble_eq_true rfl, Nat.le_of_ble_eq_true rfl⟩ ⟨Nat.zero_le _, Nat.zero_le _⟩ hl.1 rfl rfl (Nat.le_of_ble_eq_true rfl) dX11_lawOf_38 (fun r_4 v_4 f_4 g_4 H locs hq_4 hP _ hS => ?_)
    obtain ⟨z_4, rfl, rfl, rfl, rfl⟩ := hq_4
    show W p l e (gRm 1 28) s m args below meth c _ _ 0 0 Q (F0 m 41 ls [.long (iL z_4), .ref (ad 0)])
    refine g_cv (As := [.long (iL z_4)]) (rest := []) (n := 1) C hml (m_X11_isWord l D k A ad hD v f g z_4) mM_X11_232 mI_X11_isWord mE_X11_isWord mN_X11 mC_X11_isWord (by decide +kernel) 0 (ci := 11) rfl rfl hP hS (fun _ h => h) ⟨Nat.le_of_ble_eq_true rfl, Nat.le_of_ble_eq_true rfl⟩ ⟨Nat.zero_le _, Nat.zero_le _⟩ hl.1 rfl rfl (Nat.le_of_ble_eq_true rfl) dX11_lawOf_41 (fun r_5 v_5 f_5 g_5 H locs hq_5 hP _ hS => ?_)
    obtain ⟨z_5, rfl, rfl, rfl, rfl, p0_5, p1_5⟩ := hq_5
    show W p l e (gRm 1 28) s m args below meth c _ _ 0 0 Q (F0 m 44 ls [.int (iI z_5)])
    have p0_5 : 0 ≤ z_5 ∧ z_5 ≤ 1 := p0_5
    have p1_5 : z_5 = 1 → (v 8) = 1 := p1_5
    refine gi_zeq (tgt := 49) hx hb dX11_lawOf_44 (by decide) (by omega) (fun c_6 => ?_) (fun c_6 => ?_)
    · refine lv_aload_n hx hb dX11_lawOf_49 rfl (lv_at hl 0 rfl) ?_
      refine lv_bipush (v := iI 107) hx hb dX11_lawOf_50 (by decide) ?_
      refine lv_bipush (v := iI 101) hx hb dX11_lawOf_52 (by decide) ?_
      refine lv_bipush (v := iI 121) hx hb dX11_lawOf_54 (by decide) ?_
      refine lv_bipush (v := iI 115) hx hb dX11_lawOf_56 (by decide) ?_
      refine lv_iconst (v := iI 0) hx hb dX11_lawOf_58 rfl ?_
      refine lv_iconst (v := iI 0) hx hb dX11_lawOf_59 rfl ?_
      refine lv_iconst (v := iI 0) hx hb dX11_lawOf_60 rfl ?_
      refine g_cs (As := [.int (iI 107), .int (iI 101), .int (iI 121), .int (iI 115), .int (iI 0), .int (iI 0), .int (iI 0)]) (rest := [.ref (ad 0)]) (n := 7) C hml (m_X11_spelled l D k A ad hD v f g 107 101 121 115 0 0 0 (by decide) (by decide) (by decide) (by decide) (by decide) (by decide) (by decide)) mM_X11_228 mS_X11_spelled mN_X11 mC_X11_spelled (by decide +kernel) hP hS (fun _ h => h) ⟨Nat.le_of_ble_eq_true rfl, Nat.le_of_ble_eq_true rfl⟩ ⟨Nat.zero_le _, Nat.zero_le _⟩ hl.1 rfl rfl (Nat.le_of_ble_eq_true rfl) dX11_lawOf_61 (fun r_7 v_7 f_7 g_7 H locs hq_7 hP _ hS => ?_)
      obtain ⟨z_7, rfl, rfl, rfl, rfl⟩ := hq_7
      show W p l e (gRm 1 28) s m args below meth c _ _ 0 0 Q (F0 m 64 ls [.long (iL z_7), .ref (ad 0)])
      refine g_cv (As := [.long (iL z_7)]) (rest := []) (n := 1) C hml (m_X11_isWord l D k A ad hD v f g z_7) mM_X11_232 mI_X11_isWord mE_X11_isWord mN_X11 mC_X11_isWord (by decide +kernel) 0 (ci := 11) rfl rfl hP hS (fun _ h => h) ⟨Nat.le_of_ble_eq_true rfl, Nat.le_of_ble_eq_true rfl⟩ ⟨Nat.zero_le _, Nat.zero_le _⟩ hl.1 rfl rfl (Nat.le_of_ble_eq_true rfl) dX11_lawOf_64 (fun r_8 v_8 f_8 g_8 H locs hq_8 hP _ hS => ?_)
      obtain ⟨z_8, rfl, rfl, rfl, rfl, p0_8, p1_8⟩ := hq_8
      show W p l e (gRm 1 28) s m args below meth c _ _ 0 0 Q (F0 m 67 ls [.int (iI z_8)])
      have p0_8 : 0 ≤ z_8 ∧ z_8 ≤ 1 := p0_8
      have p1_8 : z_8 = 1 → (v 8) = 1 := p1_8
      refine gi_zeq (tgt := 72) hx hb dX11_lawOf_67 (by decide) (by omega) (fun c_9 => ?_) (fun c_9 => ?_)
      · refine lv_aload_n hx hb dX11_lawOf_72 rfl (lv_at hl 0 rfl) ?_
        refine lv_bipush (v := iI 116) hx hb dX11_lawOf_73 (by decide) ?_
        refine lv_bipush (v := iI 105) hx hb dX11_lawOf_75 (by decide) ?_
        refine lv_bipush (v := iI 101) hx hb dX11_lawOf_77 (by decide) ?_
        refine lv_bipush (v := iI 115) hx hb dX11_lawOf_79 (by decide) ?_
        refine lv_iconst (v := iI 0) hx hb dX11_lawOf_81 rfl ?_
        refine lv_iconst (v := iI 0) hx hb dX11_lawOf_82 rfl ?_
        refine lv_iconst (v := iI 0) hx hb dX11_lawOf_83 rfl ?_
        refine g_cs (As := [.int (iI 116), .int (iI 105), .int (iI 101), .int (iI 115), .int (iI 0), .int (iI 0), .int (iI 0)]) (rest := [.ref (ad 0)]) (n := 7) C hml (m_X11_spelled l D k A ad hD v f g 116 105 101 115 0 0 0 (by decide) (by decide) (by decide) (by decide) (by decide) (by decide) (by decide)) mM_X11_228 mS_X11_spelled mN_X11 mC_X11_spelled (by decide +kernel) hP hS (fun _ h => h) ⟨Nat.le_of_ble_eq_true rfl, Nat.le_of_ble_eq_true rfl⟩ ⟨Nat.zero_le _, Nat.zero_le _⟩ hl.1 rfl rfl (Nat.le_of_ble_eq_true rfl) dX11_lawOf_84 (fun r_10 v_10 f_10 g_10 H locs hq_10 hP _ hS => ?_)
        obtain ⟨z_10, rfl, rfl, rfl, rfl⟩ := hq_10
        show W p l e (gRm 1 28) s m args below meth c _ _ 0 0 Q (F0 m 87 ls [.long (iL z_10), .ref (ad 0)])
        refine g_cv (As := [.long (iL z_10)]) (rest := []) (n := 1) C hml (m_X11_isWord l D k A ad hD v f g z_10) mM_X11_232 mI_X11_isWord mE_X11_isWord mN_X11 mC_X11_isWord (by decide +kernel) 0 (ci := 11) rfl rfl hP hS (fun _ h => h) ⟨Nat.le_of_ble_eq_true rfl, Nat.le_of_ble_eq_true rfl⟩ ⟨Nat.zero_le _, Nat.zero_le _⟩ hl.1 rfl rfl (Nat.le_of_ble_eq_true rfl) dX11_lawOf_87 (fun r_11 v_11 f_11 g_11 H locs hq_11 hP _ hS => ?_)
        obtain ⟨z_11, rfl, rfl, rfl, rfl, p0_11, p1_11⟩ := hq_11
        show W p l e (gRm 1 28) s m args below meth c _ _ 0 0 Q (F0 m 90 ls [.int (iI z_11)])
        have p0_11 : 0 ≤ z_11 ∧ z_11 ≤ 1 := p0_11
        have p1_11 : z_11 = 1 → (v 8) = 1 := p1_11
        refine gi_zeq (tgt := 97) hx hb dX11_lawOf_90 (by decide) (by omega) (fun c_12 => ?_) (fun c_12 => ?_)
        · refine lv_iconst (v := iI (-1)) hx hb dX11_lawOf_97 rfl ?_
          exact g_iret hQ C hr hlocks hP hS dX11_lawOf_98 ⟨(-1), rfl, rfl, rfl, rfl, (by first | omega | (split <;> omega)), (by first | omega | (split <;> omega))⟩
        · refine lv_iconst (v := iI 3) hx hb dX11_lawOf_93 rfl ?_
          refine lv_goto (tgt := 98) hx hb dX11_lawOf_94 (by decide) ?_
          exact g_iret hQ C hr hlocks hP hS dX11_lawOf_98 ⟨3, rfl, rfl, rfl, rfl, (by first | omega | (split <;> omega)), (by first | omega | (split <;> omega))⟩
      · refine lv_iconst (v := iI 2) hx hb dX11_lawOf_70 rfl ?_
        exact g_iret hQ C hr hlocks hP hS dX11_lawOf_71 ⟨2, rfl, rfl, rfl, rfl, (by first | omega | (split <;> omega)), (by first | omega | (split <;> omega))⟩
    · refine lv_iconst (v := iI 1) hx hb dX11_lawOf_47 rfl ?_
      exact g_iret hQ C hr hlocks hP hS dX11_lawOf_48 ⟨1, rfl, rfl, rfl, rfl, (by first | omega | (split <;> omega)), (by first | omega | (split <;> omega))⟩
  · refine lv_iconst (v := iI 0) hx hb dX11_lawOf_22 rfl ?_
    exact g_iret hQ C hr hlocks hP hS dX11_lawOf_23 ⟨0, rfl, rfl, rfl, rfl, (by first | omega | (split <;> omega)), (by first | omega | (split <;> omega))⟩

set_option maxHeartbeats 4000000 in
set_option maxRecDepth 100000 in
theorem m_X11_nameOf (l : Launch) (D : va_G) (k : Nat → ClassId) (A : Nat → Prop) (ad : Nat → Nat) (hD : mdD A k ad) (v : gV) (f g : gF) : GM l D k A (mdT k ad) yX11_nameOf cX11_nameOf 1 (some .int) 1 28 [.ref (ad 0)] v f g (fun r v1 f1 g1 => ∃ (z : Int), r = some (.int (iI z)) ∧ v = v1 ∧ f = f1 ∧ g = g1 ∧ ((-1) ≤ z ∧ z ≤ 6) ∧ (0 < z → (v 8) = 1)) := by
  refine GM.of (by decide) (Nat.le_of_ble_eq_true rfl) ?_
  intro p e s m args below meth c Q ls hQ C hml hr hlocks hP hl
  have hx := C.1
  have hb := C.2.1
  have hok := hP.2
  have hS : va_S A s.heap s.heap [] := va_S.rf
  have hl : lv_has ls 1 [(0, .ref (ad 0))] := hl
  refine lv_aload_n hx hb dX11_nameOf_0 rfl (lv_at hl 0 rfl) ?_
  refine lv_bipush (v := iI 116) hx hb dX11_nameOf_1 (by decide) ?_
  refine lv_bipush (v := iI 111) hx hb dX11_nameOf_3 (by decide) ?_
  refine lv_bipush (v := iI 112) hx hb dX11_nameOf_5 (by decide) ?_
  refine lv_iconst (v := iI 0) hx hb dX11_nameOf_7 rfl ?_
  refine lv_iconst (v := iI 0) hx hb dX11_nameOf_8 rfl ?_
  refine lv_iconst (v := iI 0) hx hb dX11_nameOf_9 rfl ?_
  refine lv_iconst (v := iI 0) hx hb dX11_nameOf_10 rfl ?_
  refine g_cs (As := [.int (iI 116), .int (iI 111), .int (iI 112), .int (iI 0), .int (iI 0), .int (iI 0), .int (iI 0)]) (rest := [.ref (ad 0)]) (n := 7) C hml (m_X11_spelled l D k A ad hD v f g 116 111 112 0 0 0 0 (by decide) (by decide) (by decide) (by decide) (by decide) (by decide) (by decide)) mM_X11_228 mS_X11_spelled mN_X11 mC_X11_spelled (by decide +kernel) hP hS (fun _ h => h) ⟨Nat.le_of_ble_eq_true rfl, Nat.le_of_ble_eq_true rfl⟩ ⟨Nat.zero_le _, Nat.zero_le _⟩ hl.1 rfl rfl (Nat.le_of_ble_eq_true rfl) dX11_nameOf_11 (fun r_1 v_1 f_1 g_1 H locs hq_1 hP _ hS => ?_)
  obtain ⟨z_1, rfl, rfl, rfl, rfl⟩ := hq_1
  show W p l e (gRm 1 28) s m args below meth c _ _ 0 0 Q (F0 m 14 ls [.long (iL z_1), .ref (ad 0)])
  refine g_cv (As := [.long (iL z_1)]) (rest := []) (n := 1) C hml (m_X11_isWord l D k A ad hD v f g z_1) mM_X11_232 mI_X11_isWord mE_X11_isWord mN_X11 mC_X11_isWord (by decide +kernel) 0 (ci := 11) rfl rfl hP hS (fun _ h => h) ⟨Nat.le_of_ble_eq_true rfl, Nat.le_of_ble_eq_true rfl⟩ ⟨Nat.zero_le _, Nat.zero_le _⟩ hl.1 rfl rfl (Nat.le_of_ble_eq_true rfl) dX11_nameOf_14 (fun r_2 v_2 f_2 g_2 H locs hq_2 hP _ hS => ?_)
  obtain ⟨z_2, rfl, rfl, rfl, rfl, p0_2, p1_2⟩ := hq_2
  show W p l e (gRm 1 28) s m args below meth c _ _ 0 0 Q (F0 m 17 ls [.int (iI z_2)])
  have p0_2 : 0 ≤ z_2 ∧ z_2 ≤ 1 := p0_2
  have p1_2 : z_2 = 1 → (v 8) = 1 := p1_2
  refine gi_zeq (tgt := 22) hx hb dX11_nameOf_17 (by decide) (by omega) (fun c_3 => ?_) (fun c_3 => ?_)
  · refine lv_aload_n hx hb dX11_nameOf_22 rfl (lv_at hl 0 rfl) ?_
    refine lv_bipush (v := iI 122) hx hb dX11_nameOf_23 (by decide) ?_
    refine lv_bipush (v := iI 111) hx hb dX11_nameOf_25 (by decide) ?_
    refine lv_bipush (v := iI 110) hx hb dX11_nameOf_27 (by decide) ?_
    refine lv_bipush (v := iI 101) hx hb dX11_nameOf_29 (by decide) ?_
    refine lv_iconst (v := iI 0) hx hb dX11_nameOf_31 rfl ?_
    refine lv_iconst (v := iI 0) hx hb dX11_nameOf_32 rfl ?_
    refine lv_iconst (v := iI 0) hx hb dX11_nameOf_33 rfl ?_
    refine g_cs (As := [.int (iI 122), .int (iI 111), .int (iI 110), .int (iI 101), .int (iI 0), .int (iI 0), .int (iI 0)]) (rest := [.ref (ad 0)]) (n := 7) C hml (m_X11_spelled l D k A ad hD v f g 122 111 110 101 0 0 0 (by decide) (by decide) (by decide) (by decide) (by decide) (by decide) (by decide)) mM_X11_228 mS_X11_spelled mN_X11 mC_X11_spelled (by decide +kernel) hP hS (fun _ h => h) ⟨Nat.le_of_ble_eq_true rfl, Nat.le_of_ble_eq_true rfl⟩ ⟨Nat.zero_le _, Nat.zero_le _⟩ hl.1 rfl rfl (Nat.le_of_ble_eq_true rfl) dX11_nameOf_34 (fun r_4 v_4 f_4 g_4 H locs hq_4 hP _ hS => ?_)
    obtain ⟨z_4, rfl, rfl, rfl, rfl⟩ := hq_4
    show W p l e (gRm 1 28) s m args below meth c _ _ 0 0 Q (F0 m 37 ls [.long (iL z_4), .ref (ad 0)])
    refine g_cv (As := [.long (iL z_4)]) (rest := []) (n := 1) C hml (m_X11_isWord l D k A ad hD v f g z_4) mM_X11_232 mI_X11_isWord mE_X11_isWord mN_X11 mC_X11_isWord (by decide +kernel) 0 (ci := 11) rfl rfl hP hS (fun _ h => h) ⟨Nat.le_of_ble_eq_true rfl, Nat.le_of_ble_eq_true rfl⟩ ⟨Nat.zero_le _, Nat.zero_le _⟩ hl.1 rfl rfl (Nat.le_of_ble_eq_true rfl) dX11_nameOf_37 (fun r_5 v_5 f_5 g_5 H locs hq_5 hP _ hS => ?_)
    obtain ⟨z_5, rfl, rfl, rfl, rfl, p0_5, p1_5⟩ := hq_5
    show W p l e (gRm 1 28) s m args below meth c _ _ 0 0 Q (F0 m 40 ls [.int (iI z_5)])
    have p0_5 : 0 ≤ z_5 ∧ z_5 ≤ 1 := p0_5
    have p1_5 : z_5 = 1 → (v 8) = 1 := p1_5
    refine gi_zeq (tgt := 45) hx hb dX11_nameOf_40 (by decide) (by omega) (fun c_6 => ?_) (fun c_6 => ?_)
    · refine lv_aload_n hx hb dX11_nameOf_45 rfl (lv_at hl 0 rfl) ?_
      refine lv_bipush (v := iI 104) hx hb dX11_nameOf_46 (by decide) ?_
      refine lv_bipush (v := iI 111) hx hb dX11_nameOf_48 (by decide) ?_
      refine lv_bipush (v := iI 108) hx hb dX11_nameOf_50 (by decide) ?_
      refine lv_bipush (v := iI 100) hx hb dX11_nameOf_52 (by decide) ?_
      refine lv_iconst (v := iI 0) hx hb dX11_nameOf_54 rfl ?_
      refine lv_iconst (v := iI 0) hx hb dX11_nameOf_55 rfl ?_
      refine lv_iconst (v := iI 0) hx hb dX11_nameOf_56 rfl ?_
      refine g_cs (As := [.int (iI 104), .int (iI 111), .int (iI 108), .int (iI 100), .int (iI 0), .int (iI 0), .int (iI 0)]) (rest := [.ref (ad 0)]) (n := 7) C hml (m_X11_spelled l D k A ad hD v f g 104 111 108 100 0 0 0 (by decide) (by decide) (by decide) (by decide) (by decide) (by decide) (by decide)) mM_X11_228 mS_X11_spelled mN_X11 mC_X11_spelled (by decide +kernel) hP hS (fun _ h => h) ⟨Nat.le_of_ble_eq_true rfl, Nat.le_of_ble_eq_true rfl⟩ ⟨Nat.zero_le _, Nat.zero_le _⟩ hl.1 rfl rfl (Nat.le_of_ble_eq_true rfl) dX11_nameOf_57 (fun r_7 v_7 f_7 g_7 H locs hq_7 hP _ hS => ?_)
      obtain ⟨z_7, rfl, rfl, rfl, rfl⟩ := hq_7
      show W p l e (gRm 1 28) s m args below meth c _ _ 0 0 Q (F0 m 60 ls [.long (iL z_7), .ref (ad 0)])
      refine g_cv (As := [.long (iL z_7)]) (rest := []) (n := 1) C hml (m_X11_isWord l D k A ad hD v f g z_7) mM_X11_232 mI_X11_isWord mE_X11_isWord mN_X11 mC_X11_isWord (by decide +kernel) 0 (ci := 11) rfl rfl hP hS (fun _ h => h) ⟨Nat.le_of_ble_eq_true rfl, Nat.le_of_ble_eq_true rfl⟩ ⟨Nat.zero_le _, Nat.zero_le _⟩ hl.1 rfl rfl (Nat.le_of_ble_eq_true rfl) dX11_nameOf_60 (fun r_8 v_8 f_8 g_8 H locs hq_8 hP _ hS => ?_)
      obtain ⟨z_8, rfl, rfl, rfl, rfl, p0_8, p1_8⟩ := hq_8
      show W p l e (gRm 1 28) s m args below meth c _ _ 0 0 Q (F0 m 63 ls [.int (iI z_8)])
      have p0_8 : 0 ≤ z_8 ∧ z_8 ≤ 1 := p0_8
      have p1_8 : z_8 = 1 → (v 8) = 1 := p1_8
      refine gi_zeq (tgt := 68) hx hb dX11_nameOf_63 (by decide) (by omega) (fun c_9 => ?_) (fun c_9 => ?_)
      · refine lv_aload_n hx hb dX11_nameOf_68 rfl (lv_at hl 0 rfl) ?_
        refine lv_bipush (v := iI 116) hx hb dX11_nameOf_69 (by decide) ?_
        refine lv_bipush (v := iI 114) hx hb dX11_nameOf_71 (by decide) ?_
        refine lv_bipush (v := iI 105) hx hb dX11_nameOf_73 (by decide) ?_
        refine lv_bipush (v := iI 101) hx hb dX11_nameOf_75 (by decide) ?_
        refine lv_bipush (v := iI 115) hx hb dX11_nameOf_77 (by decide) ?_
        refine lv_iconst (v := iI 0) hx hb dX11_nameOf_79 rfl ?_
        refine lv_iconst (v := iI 0) hx hb dX11_nameOf_80 rfl ?_
        refine g_cs (As := [.int (iI 116), .int (iI 114), .int (iI 105), .int (iI 101), .int (iI 115), .int (iI 0), .int (iI 0)]) (rest := [.ref (ad 0)]) (n := 7) C hml (m_X11_spelled l D k A ad hD v f g 116 114 105 101 115 0 0 (by decide) (by decide) (by decide) (by decide) (by decide) (by decide) (by decide)) mM_X11_228 mS_X11_spelled mN_X11 mC_X11_spelled (by decide +kernel) hP hS (fun _ h => h) ⟨Nat.le_of_ble_eq_true rfl, Nat.le_of_ble_eq_true rfl⟩ ⟨Nat.zero_le _, Nat.zero_le _⟩ hl.1 rfl rfl (Nat.le_of_ble_eq_true rfl) dX11_nameOf_81 (fun r_10 v_10 f_10 g_10 H locs hq_10 hP _ hS => ?_)
        obtain ⟨z_10, rfl, rfl, rfl, rfl⟩ := hq_10
        show W p l e (gRm 1 28) s m args below meth c _ _ 0 0 Q (F0 m 84 ls [.long (iL z_10), .ref (ad 0)])
        refine g_cv (As := [.long (iL z_10)]) (rest := []) (n := 1) C hml (m_X11_isWord l D k A ad hD v f g z_10) mM_X11_232 mI_X11_isWord mE_X11_isWord mN_X11 mC_X11_isWord (by decide +kernel) 0 (ci := 11) rfl rfl hP hS (fun _ h => h) ⟨Nat.le_of_ble_eq_true rfl, Nat.le_of_ble_eq_true rfl⟩ ⟨Nat.zero_le _, Nat.zero_le _⟩ hl.1 rfl rfl (Nat.le_of_ble_eq_true rfl) dX11_nameOf_84 (fun r_11 v_11 f_11 g_11 H locs hq_11 hP _ hS => ?_)
        obtain ⟨z_11, rfl, rfl, rfl, rfl, p0_11, p1_11⟩ := hq_11
        show W p l e (gRm 1 28) s m args below meth c _ _ 0 0 Q (F0 m 87 ls [.int (iI z_11)])
        have p0_11 : 0 ≤ z_11 ∧ z_11 ≤ 1 := p0_11
        have p1_11 : z_11 = 1 → (v 8) = 1 := p1_11
        refine gi_zeq (tgt := 92) hx hb dX11_nameOf_87 (by decide) (by omega) (fun c_12 => ?_) (fun c_12 => ?_)
        · refine lv_aload_n hx hb dX11_nameOf_92 rfl (lv_at hl 0 rfl) ?_
          refine lv_bipush (v := iI 115) hx hb dX11_nameOf_93 (by decide) ?_
          refine lv_bipush (v := iI 101) hx hb dX11_nameOf_95 (by decide) ?_
          refine lv_bipush (v := iI 99) hx hb dX11_nameOf_97 (by decide) ?_
          refine lv_bipush (v := iI 111) hx hb dX11_nameOf_99 (by decide) ?_
          refine lv_bipush (v := iI 110) hx hb dX11_nameOf_101 (by decide) ?_
          refine lv_bipush (v := iI 100) hx hb dX11_nameOf_103 (by decide) ?_
          refine lv_bipush (v := iI 115) hx hb dX11_nameOf_105 (by decide) ?_
          refine g_cs (As := [.int (iI 115), .int (iI 101), .int (iI 99), .int (iI 111), .int (iI 110), .int (iI 100), .int (iI 115)]) (rest := [.ref (ad 0)]) (n := 7) C hml (m_X11_spelled l D k A ad hD v f g 115 101 99 111 110 100 115 (by decide) (by decide) (by decide) (by decide) (by decide) (by decide) (by decide)) mM_X11_228 mS_X11_spelled mN_X11 mC_X11_spelled (by decide +kernel) hP hS (fun _ h => h) ⟨Nat.le_of_ble_eq_true rfl, Nat.le_of_ble_eq_true rfl⟩ ⟨Nat.zero_le _, Nat.zero_le _⟩ hl.1 rfl rfl (Nat.le_of_ble_eq_true rfl) dX11_nameOf_107 (fun r_13 v_13 f_13 g_13 H locs hq_13 hP _ hS => ?_)
          obtain ⟨z_13, rfl, rfl, rfl, rfl⟩ := hq_13
          show W p l e (gRm 1 28) s m args below meth c _ _ 0 0 Q (F0 m 110 ls [.long (iL z_13), .ref (ad 0)])
          refine g_cv (As := [.long (iL z_13)]) (rest := []) (n := 1) C hml (m_X11_isWord l D k A ad hD v f g z_13) mM_X11_232 mI_X11_isWord mE_X11_isWord mN_X11 mC_X11_isWord (by decide +kernel) 0 (ci := 11) rfl rfl hP hS (fun _ h => h) ⟨Nat.le_of_ble_eq_true rfl, Nat.le_of_ble_eq_true rfl⟩ ⟨Nat.zero_le _, Nat.zero_le _⟩ hl.1 rfl rfl (Nat.le_of_ble_eq_true rfl) dX11_nameOf_110 (fun r_14 v_14 f_14 g_14 H locs hq_14 hP _ hS => ?_)
          obtain ⟨z_14, rfl, rfl, rfl, rfl, p0_14, p1_14⟩ := hq_14
          show W p l e (gRm 1 28) s m args below meth c _ _ 0 0 Q (F0 m 113 ls [.int (iI z_14)])
          have p0_14 : 0 ≤ z_14 ∧ z_14 ≤ 1 := p0_14
          have p1_14 : z_14 = 1 → (v 8) = 1 := p1_14
          refine gi_zeq (tgt := 118) hx hb dX11_nameOf_113 (by decide) (by omega) (fun c_15 => ?_) (fun c_15 => ?_)
          · refine lv_aload_n hx hb dX11_nameOf_118 rfl (lv_at hl 0 rfl) ?_
            refine lv_bipush (v := iI 102) hx hb dX11_nameOf_119 (by decide) ?_
            refine lv_bipush (v := iI 108) hx hb dX11_nameOf_121 (by decide) ?_
            refine lv_bipush (v := iI 97) hx hb dX11_nameOf_123 (by decide) ?_
            refine lv_bipush (v := iI 115) hx hb dX11_nameOf_125 (by decide) ?_
            refine lv_bipush (v := iI 104) hx hb dX11_nameOf_127 (by decide) ?_
            refine lv_iconst (v := iI 0) hx hb dX11_nameOf_129 rfl ?_
            refine lv_iconst (v := iI 0) hx hb dX11_nameOf_130 rfl ?_
            refine g_cs (As := [.int (iI 102), .int (iI 108), .int (iI 97), .int (iI 115), .int (iI 104), .int (iI 0), .int (iI 0)]) (rest := [.ref (ad 0)]) (n := 7) C hml (m_X11_spelled l D k A ad hD v f g 102 108 97 115 104 0 0 (by decide) (by decide) (by decide) (by decide) (by decide) (by decide) (by decide)) mM_X11_228 mS_X11_spelled mN_X11 mC_X11_spelled (by decide +kernel) hP hS (fun _ h => h) ⟨Nat.le_of_ble_eq_true rfl, Nat.le_of_ble_eq_true rfl⟩ ⟨Nat.zero_le _, Nat.zero_le _⟩ hl.1 rfl rfl (Nat.le_of_ble_eq_true rfl) dX11_nameOf_131 (fun r_16 v_16 f_16 g_16 H locs hq_16 hP _ hS => ?_)
            obtain ⟨z_16, rfl, rfl, rfl, rfl⟩ := hq_16
            show W p l e (gRm 1 28) s m args below meth c _ _ 0 0 Q (F0 m 134 ls [.long (iL z_16), .ref (ad 0)])
            refine g_cv (As := [.long (iL z_16)]) (rest := []) (n := 1) C hml (m_X11_isWord l D k A ad hD v f g z_16) mM_X11_232 mI_X11_isWord mE_X11_isWord mN_X11 mC_X11_isWord (by decide +kernel) 0 (ci := 11) rfl rfl hP hS (fun _ h => h) ⟨Nat.le_of_ble_eq_true rfl, Nat.le_of_ble_eq_true rfl⟩ ⟨Nat.zero_le _, Nat.zero_le _⟩ hl.1 rfl rfl (Nat.le_of_ble_eq_true rfl) dX11_nameOf_134 (fun r_17 v_17 f_17 g_17 H locs hq_17 hP _ hS => ?_)
            obtain ⟨z_17, rfl, rfl, rfl, rfl, p0_17, p1_17⟩ := hq_17
            show W p l e (gRm 1 28) s m args below meth c _ _ 0 0 Q (F0 m 137 ls [.int (iI z_17)])
            have p0_17 : 0 ≤ z_17 ∧ z_17 ≤ 1 := p0_17
            have p1_17 : z_17 = 1 → (v 8) = 1 := p1_17
            refine gi_zeq (tgt := 145) hx hb dX11_nameOf_137 (by decide) (by omega) (fun c_18 => ?_) (fun c_18 => ?_)
            · refine lv_iconst (v := iI (-1)) hx hb dX11_nameOf_145 rfl ?_
              exact g_iret hQ C hr hlocks hP hS dX11_nameOf_146 ⟨(-1), rfl, rfl, rfl, rfl, (by first | omega | (split <;> omega)), (by first | omega | (split <;> omega))⟩
            · refine lv_bipush (v := iI 6) hx hb dX11_nameOf_140 (by decide) ?_
              refine lv_goto (tgt := 146) hx hb dX11_nameOf_142 (by decide) ?_
              exact g_iret hQ C hr hlocks hP hS dX11_nameOf_146 ⟨6, rfl, rfl, rfl, rfl, (by first | omega | (split <;> omega)), (by first | omega | (split <;> omega))⟩
          · refine lv_iconst (v := iI 5) hx hb dX11_nameOf_116 rfl ?_
            exact g_iret hQ C hr hlocks hP hS dX11_nameOf_117 ⟨5, rfl, rfl, rfl, rfl, (by first | omega | (split <;> omega)), (by first | omega | (split <;> omega))⟩
        · refine lv_iconst (v := iI 4) hx hb dX11_nameOf_90 rfl ?_
          exact g_iret hQ C hr hlocks hP hS dX11_nameOf_91 ⟨4, rfl, rfl, rfl, rfl, (by first | omega | (split <;> omega)), (by first | omega | (split <;> omega))⟩
      · refine lv_iconst (v := iI 3) hx hb dX11_nameOf_66 rfl ?_
        exact g_iret hQ C hr hlocks hP hS dX11_nameOf_67 ⟨3, rfl, rfl, rfl, rfl, (by first | omega | (split <;> omega)), (by first | omega | (split <;> omega))⟩
    · refine lv_iconst (v := iI 2) hx hb dX11_nameOf_43 rfl ?_
      exact g_iret hQ C hr hlocks hP hS dX11_nameOf_44 ⟨2, rfl, rfl, rfl, rfl, (by first | omega | (split <;> omega)), (by first | omega | (split <;> omega))⟩
  · refine lv_iconst (v := iI 1) hx hb dX11_nameOf_20 rfl ?_
    exact g_iret hQ C hr hlocks hP hS dX11_nameOf_21 ⟨1, rfl, rfl, rfl, rfl, (by first | omega | (split <;> omega)), (by first | omega | (split <;> omega))⟩

set_option maxHeartbeats 4000000 in
set_option maxRecDepth 100000 in
theorem m_X11_counts (l : Launch) (D : va_G) (k : Nat → ClassId) (A : Nat → Prop) (ad : Nat → Nat) (hD : mdD A k ad) (v : gV) (f g : gF) (h1 : (v 27) ≤ 40) : GM l D k A (mdT k ad) yX11_counts cX11_counts 1 none 1 22 [.ref (ad 0)] v f g (fun r v1 f1 g1 => ∃ (w6 : Int) (w7 : Int), r = none ∧ (va_up (va_up (va_up v 6 w6) 7 w7) 27 ((v 27) + 1)) = v1 ∧ f = f1 ∧ g = g1 ∧ ((v 27) = 40 → 0 < w6) ∧ ((v 27) < 40 → w6 = (v 6)) ∧ (0 < (v 6) → 0 < w6)) := by
  refine GM.of (by decide) (Nat.le_of_ble_eq_true rfl) ?_
  intro p e s m args below meth c Q ls hQ C hml hr hlocks hP hl
  have hx := C.1
  have hb := C.2.1
  have hok := hP.2
  have hS : va_S A s.heap s.heap [] := va_S.rf
  have hl : lv_has ls 1 [(0, .ref (ad 0))] := hl
  have hP : gWd D (mdT k ad) (va_up (va_up (va_up v 6 (v 6)) 7 (v 7)) 27 (v 27)) f g s.heap := by rw [va_id, va_id, va_id]; exact hP
  refine lv_aload_n hx hb dX11_counts_0 rfl (lv_at hl 0 rfl) ?_
  refine mdG_counted C hP mF_X11_249 dX11_counts_1 ?_
  show W p l e (gRm 1 22) s m args below meth c _ _ 0 0 Q (F0 m 4 ls [.int (iI (v 27))])
  have r_1 : 0 ≤ (v 27) ∧ (v 27) ≤ 41 := hok.1 27
  refine lv_bipush (v := iI 40) hx hb dX11_counts_4 (by decide) ?_
  refine gi_cne (tgt := 18) hx hb dX11_counts_6 (by decide) (by omega) (by decide) (fun c_2 => ?_) (fun c_2 => ?_)
  · refine lv_aload_n hx hb dX11_counts_18 rfl (lv_at hl 0 rfl) ?_
    refine lv_dup hx hb dX11_counts_19 rfl ?_
    refine mdG_counted C hP mF_X11_249 dX11_counts_20 ?_
    show W p l e (gRm 1 22) s m args below meth c _ _ 0 0 Q (F0 m 23 ls [.int (iI (v 27)), .ref (ad 0)])
    refine lv_iconst (v := iI 1) hx hb dX11_counts_23 rfl ?_
    refine gi_add (z := ((v 27) + 1)) hx hb dX11_counts_24 rfl ?_
    refine mdP_counted (v1 := (va_up (va_up (va_up v 6 (v 6)) 7 (v 7)) 27 ((v 27) + 1))) C hP hD hS mF_X11_249 (by omega) rfl (Or.inr (gR_up (V := mdV) (F := mdF) (gR_up (V := mdV) (F := mdF) (gR_up (V := mdV) (F := mdF) ⟨hok.1, hok.2⟩ 6 (hP.2.1 6)) 7 (hP.2.1 7)) 27 (show 0 ≤ ((v 27) + 1) ∧ ((v 27) + 1) ≤ 41 from by omega))) dX11_counts_25 (fun H locs hP hS => ?_)
    exact g_vret hQ C hr hlocks hP hS dX11_counts_28 ⟨(v 6), (v 7), rfl, rfl, rfl, rfl, (by first | omega | (split <;> omega)), (by first | omega | (split <;> omega)), (by first | omega | (split <;> omega))⟩
  · refine lv_aload_n hx hb dX11_counts_9 rfl (lv_at hl 0 rfl) ?_
    refine lv_iconst (v := iI 3) hx hb dX11_counts_10 rfl ?_
    refine lv_aload_n hx hb dX11_counts_11 rfl (lv_at hl 0 rfl) ?_
    refine mdG_at C hP mF_X11_158 dX11_counts_12 ?_
    show W p l e (gRm 1 22) s m args below meth c _ _ 0 0 Q (F0 m 15 ls [.int (iI (v 9)), .int (iI 3), .ref (ad 0)])
    have r_3 : 0 ≤ (v 9) ∧ (v 9) ≤ 700 := hok.1 9
    refine g_cv (As := [.int (iI 3), .int (iI (v 9))]) (rest := []) (n := 2) C hml (m_X11_fail l D k A ad hD (va_up (va_up (va_up v 6 (v 6)) 7 (v 7)) 27 (v 27)) f g 3 (v 9) (by decide) (by omega) (show 1 ≤ (3 : Int) ∧ (3 : Int) ≤ 5 from by omega) (show 0 ≤ (v 9) ∧ (v 9) ≤ 700 from by omega)) mM_X11_194 mI_X11_fail mE_X11_fail mN_X11 mC_X11_fail (by decide +kernel) 0 (ci := 11) rfl rfl hP hS (fun _ h => h) ⟨Nat.le_of_ble_eq_true rfl, Nat.le_of_ble_eq_true rfl⟩ ⟨Nat.zero_le _, Nat.zero_le _⟩ hl.1 rfl rfl (Nat.le_of_ble_eq_true rfl) dX11_counts_15 (fun r_4 v_4 f_4 g_4 H locs hq_4 hP _ hS => ?_)
    obtain ⟨w6_4, w7_4, rfl, rfl, rfl, rfl, p0_4⟩ := hq_4
    show W p l e (gRm 1 22) s m args below meth c _ _ 0 0 Q (F0 m 18 ls [])
    have hP : gWd D (mdT k ad) (va_up (va_up (va_up v 6 w6_4) 7 w7_4) 27 (v 27)) f g H := ⟨hP.1, (gR_up (V := mdV) (F := mdF) (gR_up (V := mdV) (F := mdF) (gR_up (V := mdV) (F := mdF) ⟨hok.1, hok.2⟩ 6 (hP.2.1 6)) 7 (hP.2.1 7)) 27 (hP.2.1 27))⟩
    have p0_4 : 0 < w6_4 := p0_4
    have rw6_4 : 0 ≤ w6_4 ∧ w6_4 ≤ 5 := hP.2.1 6
    have rw7_4 : 0 ≤ w7_4 ∧ w7_4 ≤ 700 := hP.2.1 7
    refine lv_aload_n hx hb dX11_counts_18 rfl (lv_at hl 0 rfl) ?_
    refine lv_dup hx hb dX11_counts_19 rfl ?_
    refine mdG_counted C hP mF_X11_249 dX11_counts_20 ?_
    show W p l e (gRm 1 22) s m args below meth c _ _ 0 0 Q (F0 m 23 ls [.int (iI (v 27)), .ref (ad 0)])
    refine lv_iconst (v := iI 1) hx hb dX11_counts_23 rfl ?_
    refine gi_add (z := ((v 27) + 1)) hx hb dX11_counts_24 rfl ?_
    refine mdP_counted (v1 := (va_up (va_up (va_up v 6 w6_4) 7 w7_4) 27 ((v 27) + 1))) C hP hD hS mF_X11_249 (by omega) rfl (Or.inr (gR_up (V := mdV) (F := mdF) (gR_up (V := mdV) (F := mdF) (gR_up (V := mdV) (F := mdF) ⟨hok.1, hok.2⟩ 6 (hP.2.1 6)) 7 (hP.2.1 7)) 27 (show 0 ≤ ((v 27) + 1) ∧ ((v 27) + 1) ≤ 41 from by omega))) dX11_counts_25 (fun H locs hP hS => ?_)
    exact g_vret hQ C hr hlocks hP hS dX11_counts_28 ⟨w6_4, w7_4, rfl, rfl, rfl, rfl, (by first | omega | (split <;> omega)), (by first | omega | (split <;> omega)), (by first | omega | (split <;> omega))⟩

set_option maxHeartbeats 4000000 in
set_option maxRecDepth 100000 in
theorem m_X11_deeper (l : Launch) (D : va_G) (k : Nat → ClassId) (A : Nat → Prop) (ad : Nat → Nat) (hD : mdD A k ad) (v : gV) (f g : gF) (h1 : (v 21) ≤ 8) : GM l D k A (mdT k ad) yX11_deeper cX11_deeper 1 none 1 22 [.ref (ad 0)] v f g (fun r v1 f1 g1 => ∃ (w6 : Int) (w7 : Int), r = none ∧ (va_up (va_up (va_up v 6 w6) 7 w7) 21 ((v 21) + 1)) = v1 ∧ f = f1 ∧ g = g1 ∧ ((v 21) = 8 → 0 < w6) ∧ ((v 21) < 8 → w6 = (v 6)) ∧ (0 < (v 6) → 0 < w6)) := by
  refine GM.of (by decide) (Nat.le_of_ble_eq_true rfl) ?_
  intro p e s m args below meth c Q ls hQ C hml hr hlocks hP hl
  have hx := C.1
  have hb := C.2.1
  have hok := hP.2
  have hS : va_S A s.heap s.heap [] := va_S.rf
  have hl : lv_has ls 1 [(0, .ref (ad 0))] := hl
  have hP : gWd D (mdT k ad) (va_up (va_up (va_up v 6 (v 6)) 7 (v 7)) 21 (v 21)) f g s.heap := by rw [va_id, va_id, va_id]; exact hP
  refine lv_aload_n hx hb dX11_deeper_0 rfl (lv_at hl 0 rfl) ?_
  refine mdG_deep C hP mF_X11_252 dX11_deeper_1 ?_
  show W p l e (gRm 1 22) s m args below meth c _ _ 0 0 Q (F0 m 4 ls [.int (iI (v 21))])
  have r_1 : 0 ≤ (v 21) ∧ (v 21) ≤ 9 := hok.1 21
  refine lv_bipush (v := iI 8) hx hb dX11_deeper_4 (by decide) ?_
  refine gi_cne (tgt := 18) hx hb dX11_deeper_6 (by decide) (by omega) (by decide) (fun c_2 => ?_) (fun c_2 => ?_)
  · refine lv_aload_n hx hb dX11_deeper_18 rfl (lv_at hl 0 rfl) ?_
    refine lv_dup hx hb dX11_deeper_19 rfl ?_
    refine mdG_deep C hP mF_X11_252 dX11_deeper_20 ?_
    show W p l e (gRm 1 22) s m args below meth c _ _ 0 0 Q (F0 m 23 ls [.int (iI (v 21)), .ref (ad 0)])
    refine lv_iconst (v := iI 1) hx hb dX11_deeper_23 rfl ?_
    refine gi_add (z := ((v 21) + 1)) hx hb dX11_deeper_24 rfl ?_
    refine mdP_deep (v1 := (va_up (va_up (va_up v 6 (v 6)) 7 (v 7)) 21 ((v 21) + 1))) C hP hD hS mF_X11_252 (by omega) rfl (Or.inr (gR_up (V := mdV) (F := mdF) (gR_up (V := mdV) (F := mdF) (gR_up (V := mdV) (F := mdF) ⟨hok.1, hok.2⟩ 6 (hP.2.1 6)) 7 (hP.2.1 7)) 21 (show 0 ≤ ((v 21) + 1) ∧ ((v 21) + 1) ≤ 9 from by omega))) dX11_deeper_25 (fun H locs hP hS => ?_)
    exact g_vret hQ C hr hlocks hP hS dX11_deeper_28 ⟨(v 6), (v 7), rfl, rfl, rfl, rfl, (by first | omega | (split <;> omega)), (by first | omega | (split <;> omega)), (by first | omega | (split <;> omega))⟩
  · refine lv_aload_n hx hb dX11_deeper_9 rfl (lv_at hl 0 rfl) ?_
    refine lv_iconst (v := iI 3) hx hb dX11_deeper_10 rfl ?_
    refine lv_aload_n hx hb dX11_deeper_11 rfl (lv_at hl 0 rfl) ?_
    refine mdG_at C hP mF_X11_158 dX11_deeper_12 ?_
    show W p l e (gRm 1 22) s m args below meth c _ _ 0 0 Q (F0 m 15 ls [.int (iI (v 9)), .int (iI 3), .ref (ad 0)])
    have r_3 : 0 ≤ (v 9) ∧ (v 9) ≤ 700 := hok.1 9
    refine g_cv (As := [.int (iI 3), .int (iI (v 9))]) (rest := []) (n := 2) C hml (m_X11_fail l D k A ad hD (va_up (va_up (va_up v 6 (v 6)) 7 (v 7)) 21 (v 21)) f g 3 (v 9) (by decide) (by omega) (show 1 ≤ (3 : Int) ∧ (3 : Int) ≤ 5 from by omega) (show 0 ≤ (v 9) ∧ (v 9) ≤ 700 from by omega)) mM_X11_194 mI_X11_fail mE_X11_fail mN_X11 mC_X11_fail (by decide +kernel) 0 (ci := 11) rfl rfl hP hS (fun _ h => h) ⟨Nat.le_of_ble_eq_true rfl, Nat.le_of_ble_eq_true rfl⟩ ⟨Nat.zero_le _, Nat.zero_le _⟩ hl.1 rfl rfl (Nat.le_of_ble_eq_true rfl) dX11_deeper_15 (fun r_4 v_4 f_4 g_4 H locs hq_4 hP _ hS => ?_)
    obtain ⟨w6_4, w7_4, rfl, rfl, rfl, rfl, p0_4⟩ := hq_4
    show W p l e (gRm 1 22) s m args below meth c _ _ 0 0 Q (F0 m 18 ls [])
    have hP : gWd D (mdT k ad) (va_up (va_up (va_up v 6 w6_4) 7 w7_4) 21 (v 21)) f g H := ⟨hP.1, (gR_up (V := mdV) (F := mdF) (gR_up (V := mdV) (F := mdF) (gR_up (V := mdV) (F := mdF) ⟨hok.1, hok.2⟩ 6 (hP.2.1 6)) 7 (hP.2.1 7)) 21 (hP.2.1 21))⟩
    have p0_4 : 0 < w6_4 := p0_4
    have rw6_4 : 0 ≤ w6_4 ∧ w6_4 ≤ 5 := hP.2.1 6
    have rw7_4 : 0 ≤ w7_4 ∧ w7_4 ≤ 700 := hP.2.1 7
    refine lv_aload_n hx hb dX11_deeper_18 rfl (lv_at hl 0 rfl) ?_
    refine lv_dup hx hb dX11_deeper_19 rfl ?_
    refine mdG_deep C hP mF_X11_252 dX11_deeper_20 ?_
    show W p l e (gRm 1 22) s m args below meth c _ _ 0 0 Q (F0 m 23 ls [.int (iI (v 21)), .ref (ad 0)])
    refine lv_iconst (v := iI 1) hx hb dX11_deeper_23 rfl ?_
    refine gi_add (z := ((v 21) + 1)) hx hb dX11_deeper_24 rfl ?_
    refine mdP_deep (v1 := (va_up (va_up (va_up v 6 w6_4) 7 w7_4) 21 ((v 21) + 1))) C hP hD hS mF_X11_252 (by omega) rfl (Or.inr (gR_up (V := mdV) (F := mdF) (gR_up (V := mdV) (F := mdF) (gR_up (V := mdV) (F := mdF) ⟨hok.1, hok.2⟩ 6 (hP.2.1 6)) 7 (hP.2.1 7)) 21 (show 0 ≤ ((v 21) + 1) ∧ ((v 21) + 1) ≤ 9 from by omega))) dX11_deeper_25 (fun H locs hP hS => ?_)
    exact g_vret hQ C hr hlocks hP hS dX11_deeper_28 ⟨w6_4, w7_4, rfl, rfl, rfl, rfl, (by first | omega | (split <;> omega)), (by first | omega | (split <;> omega)), (by first | omega | (split <;> omega))⟩

set_option maxHeartbeats 4000000 in
set_option maxRecDepth 100000 in
theorem m_X11_puts (l : Launch) (D : va_G) (k : Nat → ClassId) (A : Nat → Prop) (ad : Nat → Nat) (hD : mdD A k ad) (v : gV) (f g : gF) (a1 : Int) (a2 : Int) (h_a1 : inR a1) (h_a2 : inR a2) (h0 : (v 16) ≤ 40) (h1 : 0 ≤ a1 ∧ a1 ≤ 11) (h2 : 0 ≤ a2 ∧ a2 ≤ 999999) : GM l D k A (mdT k ad) yX11_puts cX11_puts 3 none 0 0 [.ref (ad 0), .int (iI a1), .int (iI a2)] v f g (fun r v1 f1 g1 => ∃ (a12_ : Int → Int), r = none ∧ (va_up v 16 ((v 16) + 1)) = v1 ∧ (va_up (va_up f 11 (u1 (f 11) (v 16) a1)) 12 a12_) = f1 ∧ g = g1) := by
  refine GM.of (by decide) (Nat.le_of_ble_eq_true rfl) ?_
  intro p e s m args below meth c Q ls hQ C hml hr hlocks hP hl
  have hx := C.1
  have hb := C.2.1
  have hok := hP.2
  have hS : va_S A s.heap s.heap [] := va_S.rf
  have hl : lv_has ls 3 [(0, .ref (ad 0)), (1, .int (iI a1)), (2, .int (iI a2))] := hl
  have hP : gWd D (mdT k ad) (va_up v 16 (v 16)) (va_up (va_up f 11 (f 11)) 12 (f 12)) g s.heap := by rw [va_id, va_id, va_id]; exact hP
  refine lv_aload_n hx hb dX11_puts_0 rfl (lv_at hl 0 rfl) ?_
  refine mdG_newPart C hP mF_X11_51 dX11_puts_1 ?_
  refine lv_aload_n hx hb dX11_puts_4 rfl (lv_at hl 0 rfl) ?_
  refine mdG_newParts C hP mF_X11_217 dX11_puts_5 ?_
  show W p l e (gRm 0 0) s m args below meth c _ _ 0 0 Q (F0 m 8 ls [.int (iI (v 16)), .ref (ad 12)])
  have r_1 : 0 ≤ (v 16) ∧ (v 16) ≤ 41 := hok.1 16
  refine lv_iload_n hx hb dX11_puts_8 rfl (lv_at hl 1 rfl) ?_
  refine mdS_newPart (f1 := (va_up (va_up f 11 (u1 (f 11) (v 16) a1)) 12 (f 12))) C hP hD hS (by omega) (by omega) (by omega) rfl (Or.inr (gF_up (V := mdV) (F := mdF) (gF_up (V := mdV) (F := mdF) (gR_up (V := mdV) (F := mdF) ⟨hok.1, hok.2⟩ 16 (hP.2.1 16)) 11 (u1_rng (hP.2.2 11) (show 0 ≤ a1 ∧ a1 ≤ 11 from (by omega)))) 12 (hP.2.2 12))) dX11_puts_9 (fun H locs hP hS => ?_)
  refine lv_aload_n hx hb dX11_puts_10 rfl (lv_at hl 0 rfl) ?_
  refine mdG_newNumber C hP mF_X11_54 dX11_puts_11 ?_
  refine lv_aload_n hx hb dX11_puts_14 rfl (lv_at hl 0 rfl) ?_
  refine mdG_newParts C hP mF_X11_217 dX11_puts_15 ?_
  show W p l e (gRm 0 0) s m args below meth c _ _ 0 0 Q (F0 m 18 ls [.int (iI (v 16)), .ref (ad 13)])
  refine lv_iload_n hx hb dX11_puts_18 rfl (lv_at hl 2 rfl) ?_
  refine mdS_newNumber (f1 := (va_up (va_up f 11 (u1 (f 11) (v 16) a1)) 12 (u1 (f 12) (v 16) a2))) C hP hD hS (by omega) (by omega) (by omega) rfl (Or.inr (gF_up (V := mdV) (F := mdF) (gF_up (V := mdV) (F := mdF) (gR_up (V := mdV) (F := mdF) ⟨hok.1, hok.2⟩ 16 (hP.2.1 16)) 11 (hP.2.2 11)) 12 (u1_rng (hP.2.2 12) (show 0 ≤ a2 ∧ a2 ≤ 999999 from (by omega))))) dX11_puts_19 (fun H locs hP hS => ?_)
  refine lv_aload_n hx hb dX11_puts_20 rfl (lv_at hl 0 rfl) ?_
  refine lv_dup hx hb dX11_puts_21 rfl ?_
  refine mdG_newParts C hP mF_X11_217 dX11_puts_22 ?_
  show W p l e (gRm 0 0) s m args below meth c _ _ 0 0 Q (F0 m 25 ls [.int (iI (v 16)), .ref (ad 0)])
  refine lv_iconst (v := iI 1) hx hb dX11_puts_25 rfl ?_
  refine gi_add (z := ((v 16) + 1)) hx hb dX11_puts_26 rfl ?_
  refine mdP_newParts (v1 := (va_up v 16 ((v 16) + 1))) C hP hD hS mF_X11_217 (by omega) rfl (Or.inr (gF_up (V := mdV) (F := mdF) (gF_up (V := mdV) (F := mdF) (gR_up (V := mdV) (F := mdF) ⟨hok.1, hok.2⟩ 16 (show 0 ≤ ((v 16) + 1) ∧ ((v 16) + 1) ≤ 41 from by omega)) 11 (hP.2.2 11)) 12 (hP.2.2 12))) dX11_puts_27 (fun H locs hP hS => ?_)
  exact g_vret hQ C hr hlocks hP hS dX11_puts_30 ⟨(u1 (f 12) (v 16) a2), rfl, rfl, rfl, rfl⟩

set_option maxHeartbeats 4000000 in
set_option maxRecDepth 100000 in
theorem m_X11_waitFor (l : Launch) (D : va_G) (k : Nat → ClassId) (A : Nat → Prop) (ad : Nat → Nat) (hD : mdD A k ad) (v : gV) (f g : gF) (a1 : Int) (h_a1 : inR a1) (h0 : (v 20) ≤ 63) (h1 : 0 ≤ a1 ∧ a1 ≤ 11) : GM l D k A (mdT k ad) yX11_waitFor cX11_waitFor 2 none 0 0 [.ref (ad 0), .int (iI a1)] v f g (fun r v1 f1 g1 => r = none ∧ (va_up v 20 ((v 20) + 1)) = v1 ∧ (va_up f 17 (u1 (f 17) (v 20) a1)) = f1 ∧ g = g1) := by
  refine GM.of (by decide) (Nat.le_of_ble_eq_true rfl) ?_
  intro p e s m args below meth c Q ls hQ C hml hr hlocks hP hl
  have hx := C.1
  have hb := C.2.1
  have hok := hP.2
  have hS : va_S A s.heap s.heap [] := va_S.rf
  have hl : lv_has ls 2 [(0, .ref (ad 0)), (1, .int (iI a1))] := hl
  have hP : gWd D (mdT k ad) (va_up v 20 (v 20)) (va_up f 17 (f 17)) g s.heap := by rw [va_id, va_id]; exact hP
  refine lv_aload_n hx hb dX11_waitFor_0 rfl (lv_at hl 0 rfl) ?_
  refine mdG_waits C hP mF_X11_70 dX11_waitFor_1 ?_
  refine lv_aload_n hx hb dX11_waitFor_4 rfl (lv_at hl 0 rfl) ?_
  refine mdG_waiting C hP mF_X11_255 dX11_waitFor_5 ?_
  show W p l e (gRm 0 0) s m args below meth c _ _ 0 0 Q (F0 m 8 ls [.int (iI (v 20)), .ref (ad 18)])
  have r_1 : 0 ≤ (v 20) ∧ (v 20) ≤ 64 := hok.1 20
  refine lv_iload_n hx hb dX11_waitFor_8 rfl (lv_at hl 1 rfl) ?_
  refine mdS_waits (f1 := (va_up f 17 (u1 (f 17) (v 20) a1))) C hP hD hS (by omega) (by omega) (by omega) rfl (Or.inr (gF_up (V := mdV) (F := mdF) (gR_up (V := mdV) (F := mdF) ⟨hok.1, hok.2⟩ 20 (hP.2.1 20)) 17 (u1_rng (hP.2.2 17) (show 0 ≤ a1 ∧ a1 ≤ 11 from (by omega))))) dX11_waitFor_9 (fun H locs hP hS => ?_)
  refine lv_aload_n hx hb dX11_waitFor_10 rfl (lv_at hl 0 rfl) ?_
  refine lv_dup hx hb dX11_waitFor_11 rfl ?_
  refine mdG_waiting C hP mF_X11_255 dX11_waitFor_12 ?_
  show W p l e (gRm 0 0) s m args below meth c _ _ 0 0 Q (F0 m 15 ls [.int (iI (v 20)), .ref (ad 0)])
  refine lv_iconst (v := iI 1) hx hb dX11_waitFor_15 rfl ?_
  refine gi_add (z := ((v 20) + 1)) hx hb dX11_waitFor_16 rfl ?_
  refine mdP_waiting (v1 := (va_up v 20 ((v 20) + 1))) C hP hD hS mF_X11_255 (by omega) rfl (Or.inr (gF_up (V := mdV) (F := mdF) (gR_up (V := mdV) (F := mdF) ⟨hok.1, hok.2⟩ 20 (show 0 ≤ ((v 20) + 1) ∧ ((v 20) + 1) ≤ 64 from by omega)) 17 (hP.2.2 17))) dX11_waitFor_17 (fun H locs hP hS => ?_)
  exact g_vret hQ C hr hlocks hP hS dX11_waitFor_20 ⟨rfl, rfl, rfl, rfl⟩

set_option maxHeartbeats 4000000 in
set_option maxRecDepth 100000 in
theorem m_X11_strong (l : Launch) (D : va_G) (k : Nat → ClassId) (A : Nat → Prop) (ad : Nat → Nat) (hD : mdD A k ad) (v : gV) (f g : gF) (a1 : Int) (h_a1 : inR a1) : GM l D k A (mdT k ad) yX11_strong cX11_strong 1 (some .int) 0 0 [.int (iI a1)] v f g (fun r v1 f1 g1 => ∃ (z : Int), r = some (.int (iI z)) ∧ v = v1 ∧ f = f1 ∧ g = g1 ∧ (0 ≤ z ∧ z ≤ 2) ∧ (a1 = 9 → z = 2) ∧ (a1 < 9 → z = 1) ∧ (9 < a1 → z = 0)) := by
  refine GM.of (by decide) (Nat.le_of_ble_eq_true rfl) ?_
  intro p e s m args below meth c Q ls hQ C hml hr hlocks hP hl
  have hx := C.1
  have hb := C.2.1
  have hok := hP.2
  have hS : va_S A s.heap s.heap [] := va_S.rf
  have hl : lv_has ls 1 [(0, .int (iI a1))] := hl
  refine lv_iload_n hx hb dX11_strong_0 rfl (lv_at hl 0 rfl) ?_
  refine lv_bipush (v := iI 9) hx hb dX11_strong_1 (by decide) ?_
  refine gi_cne (tgt := 10) hx hb dX11_strong_3 (by decide) (by omega) (by decide) (fun c_1 => ?_) (fun c_1 => ?_)
  · refine lv_iload_n hx hb dX11_strong_10 rfl (lv_at hl 0 rfl) ?_
    refine lv_bipush (v := iI 9) hx hb dX11_strong_11 (by decide) ?_
    refine gi_cge (tgt := 20) hx hb dX11_strong_13 (by decide) (by omega) (by decide) (fun c_2 => ?_) (fun c_2 => ?_)
    · refine lv_iconst (v := iI 0) hx hb dX11_strong_20 rfl ?_
      exact g_iret hQ C hr hlocks hP hS dX11_strong_21 ⟨0, rfl, rfl, rfl, rfl, (by first | omega | (split <;> omega)), (by first | omega | (split <;> omega)), (by first | omega | (split <;> omega)), (by first | omega | (split <;> omega))⟩
    · refine lv_iconst (v := iI 1) hx hb dX11_strong_16 rfl ?_
      refine lv_goto (tgt := 21) hx hb dX11_strong_17 (by decide) ?_
      exact g_iret hQ C hr hlocks hP hS dX11_strong_21 ⟨1, rfl, rfl, rfl, rfl, (by first | omega | (split <;> omega)), (by first | omega | (split <;> omega)), (by first | omega | (split <;> omega)), (by first | omega | (split <;> omega))⟩
  · refine lv_iconst (v := iI 2) hx hb dX11_strong_6 rfl ?_
    refine lv_goto (tgt := 21) hx hb dX11_strong_7 (by decide) ?_
    exact g_iret hQ C hr hlocks hP hS dX11_strong_21 ⟨2, rfl, rfl, rfl, rfl, (by first | omega | (split <;> omega)), (by first | omega | (split <;> omega)), (by first | omega | (split <;> omega)), (by first | omega | (split <;> omega))⟩

set_option maxHeartbeats 4000000 in
set_option maxRecDepth 100000 in
theorem m_X11_reduce (l : Launch) (D : va_G) (k : Nat → ClassId) (A : Nat → Prop) (ad : Nat → Nat) (hD : mdD A k ad) (v : gV) (f g : gF) (a1 : Int) (h_a1 : inR a1) (he : eOk (v 16) (v 27) (v 21) (v 20) 1 (f 11) (f 17)) (h1 : 1 ≤ a1 ∧ a1 ≤ 2) : GM l D k A (mdT k ad) yX11_reduce cX11_reduce 2 none 1 22 [.ref (ad 0), .int (iI a1)] v f g (fun r v1 f1 g1 => ∃ (w16 : Int) (w20 : Int) (a11_ : Int → Int) (a12_ : Int → Int), r = none ∧ (va_up (va_up v 16 w16) 20 w20) = v1 ∧ (va_up (va_up f 11 a11_) 12 a12_) = f1 ∧ g = g1 ∧ (eOk w16 (v 27) (v 21) w20 1 a11_ (f 17)) ∧ (a1 = 1 → w20 = 0 ∨ 10 ≤ (f 17) (w20 - 1)) ∧ (wP (f 17) w20 = wP (f 17) (v 20))) := by
  refine GM.of (by decide) (Nat.le_of_ble_eq_true rfl) ?_
  intro p e s m args below meth c Q ls hQ C hml hr hlocks hP hl
  have hx := C.1
  have hb := C.2.1
  have hok := hP.2
  have hS : va_S A s.heap s.heap [] := va_S.rf
  have hl : lv_has ls 2 [(0, .ref (ad 0)), (1, .int (iI a1))] := hl
  have hP : gWd D (mdT k ad) (va_up (va_up v 16 (v 16)) 20 (v 20)) (va_up (va_up f 11 (f 11)) 12 (f 12)) g s.heap := by rw [va_id, va_id, va_id, va_id]; exact hP
  have r_1 : 0 ≤ (v 20) ∧ (v 20) ≤ 64 := hok.1 20
  have r_2 : 0 ≤ (v 16) ∧ (v 16) ≤ 41 := hok.1 16
  have L_3 : ∀ (n : Nat) (y16_3 : Int) (y20_3 : Int) (c11_3 : Int → Int) (c12_3 : Int → Int) (H : Heap) (locs : List Loc) (ls : Array Slot), y20_3 < (n : Int) → (eOk y16_3 (v 27) (v 21) y20_3 1 c11_3 (f 17)) → (wP (f 17) y20_3 = wP (f 17) (v 20)) → gWd D (mdT k ad) (va_up (va_up v 16 y16_3) 20 y20_3) (va_up (va_up f 11 c11_3) 12 c12_3) g H → va_S A s.heap H locs → lv_has ls 2 [(0, .ref (ad 0)), (1, .int (iI a1))] → W p l e (gRm 1 22) s m args below meth c H locs 0 0 Q (F0 m 0 ls []) := by
    intro n
    induction n with
    | zero =>
      intro y16_3 y20_3 c11_3 c12_3 H locs ls hn_3 i3_0 i3_1 hP hS hl
      have ry16_3 : 0 ≤ y16_3 ∧ y16_3 ≤ 41 := hP.2.1 16
      have ry20_3 : 0 ≤ y20_3 ∧ y20_3 ≤ 64 := hP.2.1 20
      exfalso; omega
    | succ n ih_0 =>
      intro y16_3 y20_3 c11_3 c12_3 H locs ls hn_3 i3_0 i3_1 hP hS hl
      have ry16_3 : 0 ≤ y16_3 ∧ y16_3 ≤ 41 := hP.2.1 16
      have ry20_3 : 0 ≤ y20_3 ∧ y20_3 ≤ 64 := hP.2.1 20
      have hr0 := eOk_rng i3_0
      have hst := fun h1 h2 => eOk_red i3_0 h1 h2
      refine lv_aload_n hx hb dX11_reduce_0 rfl (lv_at hl 0 rfl) ?_
      refine mdG_waiting C hP mF_X11_255 dX11_reduce_1 ?_
      show W p l e (gRm 1 22) s m args below meth c _ _ 0 0 Q (F0 m 4 ls [.int (iI y20_3)])
      have r_4 : 0 ≤ y20_3 ∧ y20_3 ≤ 64 := hP.2.1 20
      refine gi_zle (tgt := 68) hx hb dX11_reduce_4 (by decide) (by omega) (fun c_5 => ?_) (fun c_5 => ?_)
      · exact g_vret hQ C hr hlocks hP hS dX11_reduce_68 ⟨y16_3, y20_3, c11_3, c12_3, rfl, rfl, rfl, rfl, (by assumption), (by first | omega | (split <;> omega)), (by assumption)⟩
      · refine lv_aload_n hx hb dX11_reduce_7 rfl (lv_at hl 0 rfl) ?_
        refine mdG_waits C hP mF_X11_70 dX11_reduce_8 ?_
        refine lv_aload_n hx hb dX11_reduce_11 rfl (lv_at hl 0 rfl) ?_
        refine mdG_waiting C hP mF_X11_255 dX11_reduce_12 ?_
        show W p l e (gRm 1 22) s m args below meth c _ _ 0 0 Q (F0 m 15 ls [.int (iI y20_3), .ref (ad 18)])
        refine lv_iconst (v := iI 1) hx hb dX11_reduce_15 rfl ?_
        refine gi_sub (z := (y20_3 - 1)) hx hb dX11_reduce_16 rfl ?_
        refine mdL_waits C hP (by omega) (by omega) dX11_reduce_17 ?_
        show W p l e (gRm 1 22) s m args below meth c _ _ 0 0 Q (F0 m 18 ls [.int (iI (f 17 (y20_3 - 1)))])
        have r_6 : 0 ≤ (f 17 (y20_3 - 1)) ∧ (f 17 (y20_3 - 1)) ≤ 11 := hP.2.2 17 (y20_3 - 1)
        refine lv_bipush (v := iI 10) hx hb dX11_reduce_18 (by decide) ?_
        refine gi_cge (tgt := 68) hx hb dX11_reduce_20 (by decide) (by omega) (by decide) (fun c_7 => ?_) (fun c_7 => ?_)
        · exact g_vret hQ C hr hlocks hP hS dX11_reduce_68 ⟨y16_3, y20_3, c11_3, c12_3, rfl, rfl, rfl, rfl, (by assumption), (by first | omega | (split <;> omega)), (by assumption)⟩
        · refine lv_aload_n hx hb dX11_reduce_23 rfl (lv_at hl 0 rfl) ?_
          refine mdG_waits C hP mF_X11_70 dX11_reduce_24 ?_
          refine lv_aload_n hx hb dX11_reduce_27 rfl (lv_at hl 0 rfl) ?_
          refine mdG_waiting C hP mF_X11_255 dX11_reduce_28 ?_
          show W p l e (gRm 1 22) s m args below meth c _ _ 0 0 Q (F0 m 31 ls [.int (iI y20_3), .ref (ad 18)])
          refine lv_iconst (v := iI 1) hx hb dX11_reduce_31 rfl ?_
          refine gi_sub (z := (y20_3 - 1)) hx hb dX11_reduce_32 rfl ?_
          refine mdL_waits C hP (by omega) (by omega) dX11_reduce_33 ?_
          show W p l e (gRm 1 22) s m args below meth c _ _ 0 0 Q (F0 m 34 ls [.int (iI (f 17 (y20_3 - 1)))])
          refine g_cs (As := [.int (iI (f 17 (y20_3 - 1)))]) (rest := []) (n := 1) C hml (m_X11_strong l D k A ad hD (va_up (va_up v 16 y16_3) 20 y20_3) (va_up (va_up f 11 c11_3) 12 c12_3) g (f 17 (y20_3 - 1)) (by omega)) mM_X11_258 mS_X11_strong mN_X11 mC_X11_strong (by decide +kernel) hP hS (fun _ h => h) ⟨Nat.le_of_ble_eq_true rfl, Nat.le_of_ble_eq_true rfl⟩ ⟨Nat.zero_le _, Nat.zero_le _⟩ hl.1 rfl rfl (Nat.le_of_ble_eq_true rfl) dX11_reduce_34 (fun r_8 v_8 f_8 g_8 H locs hq_8 hP _ hS => ?_)
          obtain ⟨z_8, rfl, rfl, rfl, rfl, p0_8, p1_8, p2_8, p3_8⟩ := hq_8
          show W p l e (gRm 1 22) s m args below meth c _ _ 0 0 Q (F0 m 37 ls [.int (iI z_8)])
          have p0_8 : 0 ≤ z_8 ∧ z_8 ≤ 2 := p0_8
          have p1_8 : (f 17 (y20_3 - 1)) = 9 → z_8 = 2 := p1_8
          have p2_8 : (f 17 (y20_3 - 1)) < 9 → z_8 = 1 := p2_8
          have p3_8 : 9 < (f 17 (y20_3 - 1)) → z_8 = 0 := p3_8
          refine lv_iload_n hx hb dX11_reduce_37 rfl (lv_at hl 1 rfl) ?_
          refine gi_clt (tgt := 68) hx hb dX11_reduce_38 (by decide) (by omega) (by omega) (fun c_9 => ?_) (fun c_9 => ?_)
          · exact g_vret hQ C hr hlocks hP hS dX11_reduce_68 ⟨y16_3, y20_3, c11_3, c12_3, rfl, rfl, rfl, rfl, (by assumption), (by first | omega | (split <;> omega)), (by assumption)⟩
          · refine lv_aload_n hx hb dX11_reduce_41 rfl (lv_at hl 0 rfl) ?_
            refine lv_dup hx hb dX11_reduce_42 rfl ?_
            refine mdG_waiting C hP mF_X11_255 dX11_reduce_43 ?_
            show W p l e (gRm 1 22) s m args below meth c _ _ 0 0 Q (F0 m 46 ls [.int (iI y20_3), .ref (ad 0)])
            refine lv_iconst (v := iI 1) hx hb dX11_reduce_46 rfl ?_
            refine gi_sub (z := (y20_3 - 1)) hx hb dX11_reduce_47 rfl ?_
            refine mdP_waiting (v1 := (va_up (va_up v 16 y16_3) 20 (y20_3 - 1))) C hP hD hS mF_X11_255 (by omega) rfl (Or.inr (gF_up (V := mdV) (F := mdF) (gF_up (V := mdV) (F := mdF) (gR_up (V := mdV) (F := mdF) (gR_up (V := mdV) (F := mdF) ⟨hok.1, hok.2⟩ 16 (hP.2.1 16)) 20 (show 0 ≤ (y20_3 - 1) ∧ (y20_3 - 1) ≤ 64 from by omega)) 11 (hP.2.2 11)) 12 (hP.2.2 12))) dX11_reduce_48 (fun H locs hP hS => ?_)
            refine lv_aload_n hx hb dX11_reduce_51 rfl (lv_at hl 0 rfl) ?_
            refine lv_aload_n hx hb dX11_reduce_52 rfl (lv_at hl 0 rfl) ?_
            refine mdG_waits C hP mF_X11_70 dX11_reduce_53 ?_
            refine lv_aload_n hx hb dX11_reduce_56 rfl (lv_at hl 0 rfl) ?_
            refine mdG_waiting C hP mF_X11_255 dX11_reduce_57 ?_
            show W p l e (gRm 1 22) s m args below meth c _ _ 0 0 Q (F0 m 60 ls [.int (iI (y20_3 - 1)), .ref (ad 18), .ref (ad 0)])
            have r_10 : 0 ≤ (y20_3 - 1) ∧ (y20_3 - 1) ≤ 64 := hP.2.1 20
            refine mdL_waits C hP (by omega) (by omega) dX11_reduce_60 ?_
            show W p l e (gRm 1 22) s m args below meth c _ _ 0 0 Q (F0 m 61 ls [.int (iI (f 17 (y20_3 - 1))), .ref (ad 0)])
            refine lv_iconst (v := iI 0) hx hb dX11_reduce_61 rfl ?_
            refine g_cv (As := [.int (iI (f 17 (y20_3 - 1))), .int (iI 0)]) (rest := []) (n := 2) C hml (m_X11_puts l D k A ad hD (va_up (va_up v 16 y16_3) 20 (y20_3 - 1)) (va_up (va_up f 11 c11_3) 12 c12_3) g (f 17 (y20_3 - 1)) 0 (by omega) (by decide) (show y16_3 ≤ 40 from by omega) (show 0 ≤ (f 17 (y20_3 - 1)) ∧ (f 17 (y20_3 - 1)) ≤ 11 from by omega) (show 0 ≤ (0 : Int) ∧ (0 : Int) ≤ 999999 from by omega)) mM_X11_261 mI_X11_puts mE_X11_puts mN_X11 mC_X11_puts (by decide +kernel) 0 (ci := 11) rfl rfl hP hS (fun _ h => h) ⟨Nat.le_of_ble_eq_true rfl, Nat.le_of_ble_eq_true rfl⟩ ⟨Nat.zero_le _, Nat.zero_le _⟩ hl.1 rfl rfl (Nat.le_of_ble_eq_true rfl) dX11_reduce_62 (fun r_11 v_11 f_11 g_11 H locs hq_11 hP _ hS => ?_)
            obtain ⟨a12_11, rfl, rfl, rfl, rfl⟩ := hq_11
            show W p l e (gRm 1 22) s m args below meth c _ _ 0 0 Q (F0 m 65 ls [])
            have hP : gWd D (mdT k ad) (va_up (va_up v 16 (y16_3 + 1)) 20 (y20_3 - 1)) (va_up (va_up f 11 (u1 c11_3 y16_3 (f 17 (y20_3 - 1)))) 12 a12_11) g H := ⟨hP.1, (gF_up (V := mdV) (F := mdF) (gF_up (V := mdV) (F := mdF) (gR_up (V := mdV) (F := mdF) (gR_up (V := mdV) (F := mdF) ⟨hok.1, hok.2⟩ 16 (hP.2.1 16)) 20 (hP.2.1 20)) 11 (hP.2.2 11)) 12 (hP.2.2 12))⟩
            refine lv_goto (tgt := 0) hx hb dX11_reduce_65 (by decide) ?_
            exact ih_0 (y16_3 + 1) (y20_3 - 1) (u1 c11_3 y16_3 (f 17 (y20_3 - 1))) a12_11 _ _ _ (by omega) (hst (by omega) (by omega)).1 (by have := (hst (by omega) (by omega)).2; omega) hP hS (lv_sub hl [0, 1] rfl)
  exact L_3 65 (v 16) (v 20) (f 11) (f 12) _ _ _ (by omega) he rfl hP hS (lv_sub hl [0, 1] rfl)

set_option maxHeartbeats 4000000 in
set_option maxRecDepth 100000 in
theorem m_X11_isOpen (l : Launch) (D : va_G) (k : Nat → ClassId) (A : Nat → Prop) (ad : Nat → Nat) (hD : mdD A k ad) (v : gV) (f g : gF) : GM l D k A (mdT k ad) yX11_isOpen cX11_isOpen 2 (some .boolean) 0 0 [.ref (ad 0)] v f g (fun r v1 f1 g1 => ∃ (z : Int), r = some (.int (iI z)) ∧ v = v1 ∧ f = f1 ∧ g = g1 ∧ (0 ≤ z ∧ z ≤ 1) ∧ (z = 1 → 1 ≤ wP (f 17) (v 20))) := by
  refine GM.of (by decide) (Nat.le_of_ble_eq_true rfl) ?_
  intro p e s m args below meth c Q ls hQ C hml hr hlocks hP hl
  have hx := C.1
  have hb := C.2.1
  have hok := hP.2
  have hS : va_S A s.heap s.heap [] := va_S.rf
  have hl : lv_has ls 2 [(0, .ref (ad 0))] := hl
  have r_1 : 0 ≤ (v 20) ∧ (v 20) ≤ 64 := hok.1 20
  refine lv_iconst (v := iI 0) hx hb dX11_isOpen_0 rfl ?_
  refine lv_istore_n (lv' := [(1, .int (iI 0)), (0, .ref (ad 0))]) hx hb dX11_isOpen_1 rfl hl (by decide) rfl (fun ls hl => ?_)
  have L_2 : ∀ (n : Nat) (x1 : Int) (H : Heap) (locs : List Loc) (ls : Array Slot), 64 - x1 < (n : Int) → (0 ≤ x1 ∧ x1 ≤ (v 20)) → gWd D (mdT k ad) v f g H → va_S A s.heap H locs → lv_has ls 2 [(0, .ref (ad 0)), (1, .int (iI x1))] → W p l e (gRm 0 0) s m args below meth c H locs 0 0 Q (F0 m 2 ls []) := by
    intro n
    induction n with
    | zero =>
      intro x1 H locs ls hn_2 i2_0 hP hS hl
      exfalso; omega
    | succ n ih_2 =>
      intro x1 H locs ls hn_2 i2_0 hP hS hl
      refine lv_iload_n hx hb dX11_isOpen_2 rfl (lv_at hl 1 rfl) ?_
      refine lv_aload_n hx hb dX11_isOpen_3 rfl (lv_at hl 0 rfl) ?_
      refine mdG_waiting C hP mF_X11_255 dX11_isOpen_4 ?_
      refine gi_cge (tgt := 29) hx hb dX11_isOpen_7 (by decide) (by omega) (by omega) (fun c_3 => ?_) (fun c_3 => ?_)
      · refine lv_iconst (v := iI 0) hx hb dX11_isOpen_29 rfl ?_
        exact g_zret hQ C hr hlocks (by decide) hP hS dX11_isOpen_30 ⟨0, rfl, rfl, rfl, rfl, (by first | omega | (split <;> omega)), (by first | omega | (split <;> omega))⟩
      · refine lv_aload_n hx hb dX11_isOpen_10 rfl (lv_at hl 0 rfl) ?_
        refine mdG_waits C hP mF_X11_70 dX11_isOpen_11 ?_
        refine lv_iload_n hx hb dX11_isOpen_14 rfl (lv_at hl 1 rfl) ?_
        refine mdL_waits C hP (by omega) (by omega) dX11_isOpen_15 ?_
        have r_4 : 0 ≤ (f 17 x1) ∧ (f 17 x1) ≤ 11 := hP.2.2 17 x1
        refine lv_bipush (v := iI 11) hx hb dX11_isOpen_16 (by decide) ?_
        refine gi_cne (tgt := 23) hx hb dX11_isOpen_18 (by decide) (by omega) (by decide) (fun c_5 => ?_) (fun c_5 => ?_)
        · refine lv_iinc (v := iI (x1 + 1)) (lv' := [(1, .int (iI (x1 + 1))), (0, .ref (ad 0))]) hx hb dX11_isOpen_23 hl (k := 1) rfl (by show iI _ + iI 1 = _; rw [iI_add]) (by decide) rfl (fun ls hl => ?_)
          refine lv_goto (tgt := 2) hx hb dX11_isOpen_26 (by decide) ?_
          exact ih_2 (x1 + 1) _ _ _ (by omega) (by omega) hP hS (lv_sub hl [1, 0] rfl)
        · refine lv_iconst (v := iI 1) hx hb dX11_isOpen_21 rfl ?_
          exact g_zret hQ C hr hlocks (by decide) hP hS dX11_isOpen_22 ⟨1, rfl, rfl, rfl, rfl, (by first | omega | (split <;> omega)), (fun _ => wP_pos (i := x1) (by omega) (by omega) (by assumption))⟩
  exact L_2 65 0 _ _ _ (by omega) (by omega) hP hS (lv_sub hl [1, 0] rfl)

set_option maxHeartbeats 4000000 in
set_option maxRecDepth 100000 in
theorem m_X11_wholes (l : Launch) (D : va_G) (k : Nat → ClassId) (A : Nat → Prop) (ad : Nat → Nat) (hD : mdD A k ad) (v : gV) (f g : gF) (he : eOk (v 16) (v 27) (v 21) (v 20) 1 (f 11) (f 17)) : GM l D k A (mdT k ad) yX11_wholes cX11_wholes 1 none 1 22 [.ref (ad 0)] v f g (fun r v1 f1 g1 => ∃ (w16 : Int) (w20 : Int) (w21 : Int) (a11_ : Int → Int) (a12_ : Int → Int), r = none ∧ (va_up (va_up (va_up v 16 w16) 20 w20) 21 w21) = v1 ∧ (va_up (va_up f 11 a11_) 12 a12_) = f1 ∧ g = g1 ∧ (eOk w16 (v 27) w21 w20 1 a11_ (f 17))) := by
  refine GM.of (by decide) (Nat.le_of_ble_eq_true rfl) ?_
  intro p e s m args below meth c Q ls hQ C hml hr hlocks hP hl
  have hx := C.1
  have hb := C.2.1
  have hok := hP.2
  have hS : va_S A s.heap s.heap [] := va_S.rf
  have hl : lv_has ls 1 [(0, .ref (ad 0))] := hl
  have hP : gWd D (mdT k ad) (va_up (va_up (va_up v 16 (v 16)) 20 (v 20)) 21 (v 21)) (va_up (va_up f 11 (f 11)) 12 (f 12)) g s.heap := by rw [va_id, va_id, va_id, va_id, va_id]; exact hP
  have r_1 : 0 ≤ (v 20) ∧ (v 20) ≤ 64 := hok.1 20
  have r_2 : 0 ≤ (v 16) ∧ (v 16) ≤ 41 := hok.1 16
  have r_3 : 0 ≤ (v 21) ∧ (v 21) ≤ 9 := hok.1 21
  have L_4 : ∀ (n : Nat) (y16_4 : Int) (y20_4 : Int) (y21_4 : Int) (c11_4 : Int → Int) (c12_4 : Int → Int) (H : Heap) (locs : List Loc) (ls : Array Slot), y20_4 < (n : Int) → (eOk y16_4 (v 27) y21_4 y20_4 1 c11_4 (f 17)) → gWd D (mdT k ad) (va_up (va_up (va_up v 16 y16_4) 20 y20_4) 21 y21_4) (va_up (va_up f 11 c11_4) 12 c12_4) g H → va_S A s.heap H locs → lv_has ls 1 [(0, .ref (ad 0))] → W p l e (gRm 1 22) s m args below meth c H locs 0 0 Q (F0 m 0 ls []) := by
    intro n
    induction n with
    | zero =>
      intro y16_4 y20_4 y21_4 c11_4 c12_4 H locs ls hn_4 i4_0 hP hS hl
      have ry16_4 : 0 ≤ y16_4 ∧ y16_4 ≤ 41 := hP.2.1 16
      have ry20_4 : 0 ≤ y20_4 ∧ y20_4 ≤ 64 := hP.2.1 20
      have ry21_4 : 0 ≤ y21_4 ∧ y21_4 ≤ 9 := hP.2.1 21
      exfalso; omega
    | succ n ih_0 =>
      intro y16_4 y20_4 y21_4 c11_4 c12_4 H locs ls hn_4 i4_0 hP hS hl
      have ry16_4 : 0 ≤ y16_4 ∧ y16_4 ≤ 41 := hP.2.1 16
      have ry20_4 : 0 ≤ y20_4 ∧ y20_4 ≤ 64 := hP.2.1 20
      have ry21_4 : 0 ≤ y21_4 ∧ y21_4 ≤ 9 := hP.2.1 21
      have hr0 := eOk_rng i4_0
      have hst := fun h1 h2 => eOk_whole i4_0 h1 h2
      have hr1 : 0 < y20_4 → (f 17) (y20_4 - 1) = 10 → 1 ≤ y21_4 := fun h1 h2 => by have := eOk_rng (eOk_whole i4_0 h1 h2); omega
      refine lv_aload_n hx hb dX11_wholes_0 rfl (lv_at hl 0 rfl) ?_
      refine mdG_waiting C hP mF_X11_255 dX11_wholes_1 ?_
      show W p l e (gRm 1 22) s m args below meth c _ _ 0 0 Q (F0 m 4 ls [.int (iI y20_4)])
      have r_5 : 0 ≤ y20_4 ∧ y20_4 ≤ 64 := hP.2.1 20
      refine gi_zle (tgt := 53) hx hb dX11_wholes_4 (by decide) (by omega) (fun c_6 => ?_) (fun c_6 => ?_)
      · exact g_vret hQ C hr hlocks hP hS dX11_wholes_53 ⟨y16_4, y20_4, y21_4, c11_4, c12_4, rfl, rfl, rfl, rfl, (by assumption)⟩
      · refine lv_aload_n hx hb dX11_wholes_7 rfl (lv_at hl 0 rfl) ?_
        refine mdG_waits C hP mF_X11_70 dX11_wholes_8 ?_
        refine lv_aload_n hx hb dX11_wholes_11 rfl (lv_at hl 0 rfl) ?_
        refine mdG_waiting C hP mF_X11_255 dX11_wholes_12 ?_
        show W p l e (gRm 1 22) s m args below meth c _ _ 0 0 Q (F0 m 15 ls [.int (iI y20_4), .ref (ad 18)])
        refine lv_iconst (v := iI 1) hx hb dX11_wholes_15 rfl ?_
        refine gi_sub (z := (y20_4 - 1)) hx hb dX11_wholes_16 rfl ?_
        refine mdL_waits C hP (by omega) (by omega) dX11_wholes_17 ?_
        show W p l e (gRm 1 22) s m args below meth c _ _ 0 0 Q (F0 m 18 ls [.int (iI (f 17 (y20_4 - 1)))])
        have r_7 : 0 ≤ (f 17 (y20_4 - 1)) ∧ (f 17 (y20_4 - 1)) ≤ 11 := hP.2.2 17 (y20_4 - 1)
        refine lv_bipush (v := iI 10) hx hb dX11_wholes_18 (by decide) ?_
        refine gi_cne (tgt := 53) hx hb dX11_wholes_20 (by decide) (by omega) (by decide) (fun c_8 => ?_) (fun c_8 => ?_)
        · exact g_vret hQ C hr hlocks hP hS dX11_wholes_53 ⟨y16_4, y20_4, y21_4, c11_4, c12_4, rfl, rfl, rfl, rfl, (by assumption)⟩
        · refine lv_aload_n hx hb dX11_wholes_23 rfl (lv_at hl 0 rfl) ?_
          refine lv_dup hx hb dX11_wholes_24 rfl ?_
          refine mdG_waiting C hP mF_X11_255 dX11_wholes_25 ?_
          show W p l e (gRm 1 22) s m args below meth c _ _ 0 0 Q (F0 m 28 ls [.int (iI y20_4), .ref (ad 0)])
          refine lv_iconst (v := iI 1) hx hb dX11_wholes_28 rfl ?_
          refine gi_sub (z := (y20_4 - 1)) hx hb dX11_wholes_29 rfl ?_
          refine mdP_waiting (v1 := (va_up (va_up (va_up v 16 y16_4) 20 (y20_4 - 1)) 21 y21_4)) C hP hD hS mF_X11_255 (by omega) rfl (Or.inr (gF_up (V := mdV) (F := mdF) (gF_up (V := mdV) (F := mdF) (gR_up (V := mdV) (F := mdF) (gR_up (V := mdV) (F := mdF) (gR_up (V := mdV) (F := mdF) ⟨hok.1, hok.2⟩ 16 (hP.2.1 16)) 20 (show 0 ≤ (y20_4 - 1) ∧ (y20_4 - 1) ≤ 64 from by omega)) 21 (hP.2.1 21)) 11 (hP.2.2 11)) 12 (hP.2.2 12))) dX11_wholes_30 (fun H locs hP hS => ?_)
          refine lv_aload_n hx hb dX11_wholes_33 rfl (lv_at hl 0 rfl) ?_
          refine lv_dup hx hb dX11_wholes_34 rfl ?_
          refine mdG_deep C hP mF_X11_252 dX11_wholes_35 ?_
          show W p l e (gRm 1 22) s m args below meth c _ _ 0 0 Q (F0 m 38 ls [.int (iI y21_4), .ref (ad 0)])
          have r_9 : 0 ≤ y21_4 ∧ y21_4 ≤ 9 := hP.2.1 21
          refine lv_iconst (v := iI 1) hx hb dX11_wholes_38 rfl ?_
          refine gi_sub (z := (y21_4 - 1)) hx hb dX11_wholes_39 rfl ?_
          refine mdP_deep (v1 := (va_up (va_up (va_up v 16 y16_4) 20 (y20_4 - 1)) 21 (y21_4 - 1))) C hP hD hS mF_X11_252 (by omega) rfl (Or.inr (gF_up (V := mdV) (F := mdF) (gF_up (V := mdV) (F := mdF) (gR_up (V := mdV) (F := mdF) (gR_up (V := mdV) (F := mdF) (gR_up (V := mdV) (F := mdF) ⟨hok.1, hok.2⟩ 16 (hP.2.1 16)) 20 (hP.2.1 20)) 21 (show 0 ≤ (y21_4 - 1) ∧ (y21_4 - 1) ≤ 9 from by omega)) 11 (hP.2.2 11)) 12 (hP.2.2 12))) dX11_wholes_40 (fun H locs hP hS => ?_)
          refine lv_aload_n hx hb dX11_wholes_43 rfl (lv_at hl 0 rfl) ?_
          refine lv_bipush (v := iI 10) hx hb dX11_wholes_44 (by decide) ?_
          refine lv_iconst (v := iI 0) hx hb dX11_wholes_46 rfl ?_
          refine g_cv (As := [.int (iI 10), .int (iI 0)]) (rest := []) (n := 2) C hml (m_X11_puts l D k A ad hD (va_up (va_up (va_up v 16 y16_4) 20 (y20_4 - 1)) 21 (y21_4 - 1)) (va_up (va_up f 11 c11_4) 12 c12_4) g 10 0 (by decide) (by decide) (show y16_4 ≤ 40 from by omega) (show 0 ≤ (10 : Int) ∧ (10 : Int) ≤ 11 from by omega) (show 0 ≤ (0 : Int) ∧ (0 : Int) ≤ 999999 from by omega)) mM_X11_261 mI_X11_puts mE_X11_puts mN_X11 mC_X11_puts (by decide +kernel) 0 (ci := 11) rfl rfl hP hS (fun _ h => h) ⟨Nat.le_of_ble_eq_true rfl, Nat.le_of_ble_eq_true rfl⟩ ⟨Nat.zero_le _, Nat.zero_le _⟩ hl.1 rfl rfl (Nat.le_of_ble_eq_true rfl) dX11_wholes_47 (fun r_10 v_10 f_10 g_10 H locs hq_10 hP _ hS => ?_)
          obtain ⟨a12_10, rfl, rfl, rfl, rfl⟩ := hq_10
          show W p l e (gRm 1 22) s m args below meth c _ _ 0 0 Q (F0 m 50 ls [])
          have hP : gWd D (mdT k ad) (va_up (va_up (va_up v 16 (y16_4 + 1)) 20 (y20_4 - 1)) 21 (y21_4 - 1)) (va_up (va_up f 11 (u1 c11_4 y16_4 (10 : Int))) 12 a12_10) g H := ⟨hP.1, (gF_up (V := mdV) (F := mdF) (gF_up (V := mdV) (F := mdF) (gR_up (V := mdV) (F := mdF) (gR_up (V := mdV) (F := mdF) (gR_up (V := mdV) (F := mdF) ⟨hok.1, hok.2⟩ 16 (hP.2.1 16)) 20 (hP.2.1 20)) 21 (hP.2.1 21)) 11 (hP.2.2 11)) 12 (hP.2.2 12))⟩
          refine lv_goto (tgt := 0) hx hb dX11_wholes_50 (by decide) ?_
          exact ih_0 (y16_4 + 1) (y20_4 - 1) (y21_4 - 1) (u1 c11_4 y16_4 (10 : Int)) a12_10 _ _ _ (by omega) (hst (by omega) (by omega)) hP hS (lv_sub hl [0] rfl)
  exact L_4 65 (v 16) (v 20) (v 21) (f 11) (f 12) _ _ _ (by omega) he hP hS (lv_sub hl [0] rfl)
