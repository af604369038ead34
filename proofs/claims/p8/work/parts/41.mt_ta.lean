set_option maxHeartbeats 4000000 in
set_option maxRecDepth 100000 in
theorem n_isLetter (l : Launch) (D : va_G) (k : Nat → ClassId) (A : Nat → Prop) (ad : Nat → Nat) (hD : mdD A k ad) (v : gV) (f g : gF) (a1 : Int) (h_a1 : inR a1) : GM l D k A (mdT k ad) yX11_isLetter cX11_isLetter 1 (some .boolean) 0 0 [.int (iI a1)] v f g (fun r v1 f1 g1 => ∃ (z : Int), r = some (.int (iI z)) ∧ v = v1 ∧ f = f1 ∧ g = g1 ∧ (z = (if 97 ≤ a1 ∧ a1 ≤ 122 then 1 else 0))) := by
  refine GM.of (by decide) (Nat.le_of_ble_eq_true rfl) ?_
  intro p e s m args below meth c Q ls hQ C hml hr hlocks hP hl
  have hx := C.1
  have hb := C.2.1
  have hok := hP.2
  have hS : va_S A s.heap s.heap [] := va_S.rf
  have hl : lv_has ls 1 [(0, .int (iI a1))] := hl
  refine lv_iload_n hx hb dX11_isLetter_0 rfl (lv_at hl 0 rfl) ?_
  refine lv_bipush (v := iI 97) hx hb dX11_isLetter_1 (by decide) ?_
  refine gi_clt (tgt := 16) hx hb dX11_isLetter_3 (by decide) (by omega) (by decide) (fun c_1 => ?_) (fun c_1 => ?_)
  · refine lv_iconst (v := iI 0) hx hb dX11_isLetter_16 rfl ?_
    exact g_zret hQ C hr hlocks (by decide) hP hS dX11_isLetter_17 ⟨0, rfl, rfl, rfl, rfl, (by first | omega | (split <;> omega))⟩
  · refine lv_iload_n hx hb dX11_isLetter_6 rfl (lv_at hl 0 rfl) ?_
    refine lv_bipush (v := iI 122) hx hb dX11_isLetter_7 (by decide) ?_
    refine gi_cgt (tgt := 16) hx hb dX11_isLetter_9 (by decide) (by omega) (by decide) (fun c_2 => ?_) (fun c_2 => ?_)
    · refine lv_iconst (v := iI 0) hx hb dX11_isLetter_16 rfl ?_
      exact g_zret hQ C hr hlocks (by decide) hP hS dX11_isLetter_17 ⟨0, rfl, rfl, rfl, rfl, (by first | omega | (split <;> omega))⟩
    · refine lv_iconst (v := iI 1) hx hb dX11_isLetter_12 rfl ?_
      refine lv_goto (tgt := 17) hx hb dX11_isLetter_13 (by decide) ?_
      exact g_zret hQ C hr hlocks (by decide) hP hS dX11_isLetter_17 ⟨1, rfl, rfl, rfl, rfl, (by first | omega | (split <;> omega))⟩

set_option maxHeartbeats 4000000 in
set_option maxRecDepth 100000 in
theorem n_isDigit (l : Launch) (D : va_G) (k : Nat → ClassId) (A : Nat → Prop) (ad : Nat → Nat) (hD : mdD A k ad) (v : gV) (f g : gF) (a1 : Int) (h_a1 : inR a1) : GM l D k A (mdT k ad) yX11_isDigit cX11_isDigit 1 (some .boolean) 0 0 [.int (iI a1)] v f g (fun r v1 f1 g1 => ∃ (z : Int), r = some (.int (iI z)) ∧ v = v1 ∧ f = f1 ∧ g = g1 ∧ (z = (if 48 ≤ a1 ∧ a1 ≤ 57 then 1 else 0))) := by
  refine GM.of (by decide) (Nat.le_of_ble_eq_true rfl) ?_
  intro p e s m args below meth c Q ls hQ C hml hr hlocks hP hl
  have hx := C.1
  have hb := C.2.1
  have hok := hP.2
  have hS : va_S A s.heap s.heap [] := va_S.rf
  have hl : lv_has ls 1 [(0, .int (iI a1))] := hl
  refine lv_iload_n hx hb dX11_isDigit_0 rfl (lv_at hl 0 rfl) ?_
  refine lv_bipush (v := iI 48) hx hb dX11_isDigit_1 (by decide) ?_
  refine gi_clt (tgt := 16) hx hb dX11_isDigit_3 (by decide) (by omega) (by decide) (fun c_1 => ?_) (fun c_1 => ?_)
  · refine lv_iconst (v := iI 0) hx hb dX11_isDigit_16 rfl ?_
    exact g_zret hQ C hr hlocks (by decide) hP hS dX11_isDigit_17 ⟨0, rfl, rfl, rfl, rfl, (by first | omega | (split <;> omega))⟩
  · refine lv_iload_n hx hb dX11_isDigit_6 rfl (lv_at hl 0 rfl) ?_
    refine lv_bipush (v := iI 57) hx hb dX11_isDigit_7 (by decide) ?_
    refine gi_cgt (tgt := 16) hx hb dX11_isDigit_9 (by decide) (by omega) (by decide) (fun c_2 => ?_) (fun c_2 => ?_)
    · refine lv_iconst (v := iI 0) hx hb dX11_isDigit_16 rfl ?_
      exact g_zret hQ C hr hlocks (by decide) hP hS dX11_isDigit_17 ⟨0, rfl, rfl, rfl, rfl, (by first | omega | (split <;> omega))⟩
    · refine lv_iconst (v := iI 1) hx hb dX11_isDigit_12 rfl ?_
      refine lv_goto (tgt := 17) hx hb dX11_isDigit_13 (by decide) ?_
      exact g_zret hQ C hr hlocks (by decide) hP hS dX11_isDigit_17 ⟨1, rfl, rfl, rfl, rfl, (by first | omega | (split <;> omega))⟩

set_option maxHeartbeats 4000000 in
set_option maxRecDepth 100000 in
theorem n_look (l : Launch) (D : va_G) (k : Nat → ClassId) (A : Nat → Prop) (ad : Nat → Nat) (hD : mdD A k ad) (v : gV) (f g : gF) (a1 : Int) (B : Int → Int) (h_a1 : inR a1) (hB : ∀ k, (f 0) k % 256 = B k) (h1 : 0 ≤ a1) : GM l D k A (mdT k ad) yX11_look cX11_look 2 (some .int) 0 0 [.ref (ad 0), .int (iI a1)] v f g (fun r v1 f1 g1 => ∃ (z : Int), r = some (.int (iI z)) ∧ v = v1 ∧ f = f1 ∧ g = g1 ∧ (0 ≤ z ∧ z ≤ 255) ∧ (a1 < (v 3) → z = B a1) ∧ ((v 3) ≤ a1 → z = 0)) := by
  refine GM.of (by decide) (Nat.le_of_ble_eq_true rfl) ?_
  intro p e s m args below meth c Q ls hQ C hml hr hlocks hP hl
  have hx := C.1
  have hb := C.2.1
  have hok := hP.2
  have hS : va_S A s.heap s.heap [] := va_S.rf
  have hl : lv_has ls 2 [(0, .ref (ad 0)), (1, .int (iI a1))] := hl
  have r_1 : 0 ≤ (v 3) ∧ (v 3) ≤ 700 := hok.1 3
  refine lv_iload_n hx hb dX11_look_0 rfl (lv_at hl 1 rfl) ?_
  refine lv_aload_n hx hb dX11_look_1 rfl (lv_at hl 0 rfl) ?_
  refine mdG_end C hP mF_X11_152 dX11_look_2 ?_
  refine gi_cge (tgt := 21) hx hb dX11_look_5 (by decide) (by omega) (by omega) (fun c_2 => ?_) (fun c_2 => ?_)
  · refine lv_iconst (v := iI 0) hx hb dX11_look_21 rfl ?_
    exact g_iret hQ C hr hlocks hP hS dX11_look_22 ⟨0, rfl, rfl, rfl, rfl, (by first | omega | (split <;> omega)), (by first | exact fun _ => hB _ | (intro h; exfalso; omega)), (by first | omega | (split <;> omega))⟩
  · refine lv_aload_n hx hb dX11_look_8 rfl (lv_at hl 0 rfl) ?_
    refine mdG_tape C hP mF_X11_7 dX11_look_9 ?_
    refine lv_iload_n hx hb dX11_look_12 rfl (lv_at hl 1 rfl) ?_
    refine mdL_tape C hP (by omega) (by omega) dX11_look_13 ?_
    have r_3 : (-128) ≤ (f 0 a1) ∧ (f 0 a1) ≤ 127 := hP.2.2 0 a1
    refine lv_sipush (v := iI 255) hx hb dX11_look_14 (by decide) ?_
    refine gi_and (z := ((f 0 a1) % 256)) hx hb dX11_look_17 (gAnd255 (by omega)) ?_
    refine lv_goto (tgt := 22) hx hb dX11_look_18 (by decide) ?_
    exact g_iret hQ C hr hlocks hP hS dX11_look_22 ⟨((f 0 a1) % 256), rfl, rfl, rfl, rfl, (by first | omega | (split <;> omega)), (by first | exact fun _ => hB _ | (intro h; exfalso; omega)), (by first | omega | (split <;> omega))⟩

set_option maxHeartbeats 4000000 in
set_option maxRecDepth 100000 in
theorem n_next (l : Launch) (D : va_G) (k : Nat → ClassId) (A : Nat → Prop) (ad : Nat → Nat) (hD : mdD A k ad) (v : gV) (f g : gF) (B : Int → Int) (hB : ∀ k, (f 0) k % 256 = B k) (hj : 0 ≤ (v 10) ∧ (v 10) ≤ (v 3)) : GM l D k A (mdT k ad) yX11_next cX11_next 2 none 1 21 [.ref (ad 0)] v f g (fun r v1 f1 g1 => ∃ (w8 : Int) (w9 : Int) (w10 : Int) (w11 : Int) (b0_ : Int → Int), r = none ∧ (va_up (va_up (va_up (va_up v 8 w8) 9 w9) 10 w10) 11 w11) = v1 ∧ f = f1 ∧ (va_up g 0 b0_) = g1 ∧ (mAt B (v 3) w9 w10 w8 w11 (b0_ 0) (run bW B (v 3) (v 10)))) := by
  refine GM.of (by decide) (Nat.le_of_ble_eq_true rfl) ?_
  intro p e s m args below meth c Q ls hQ C hml hr hlocks hP hl
  have hx := C.1
  have hb := C.2.1
  have hok := hP.2
  have hS : va_S A s.heap s.heap [] := va_S.rf
  have hl : lv_has ls 2 [(0, .ref (ad 0))] := hl
  have hP : gWd D (mdT k ad) (va_up (va_up (va_up (va_up v 8 (v 8)) 9 (v 9)) 10 (v 10)) 11 (v 11)) f (va_up g 0 (g 0)) s.heap := by rw [va_id, va_id, va_id, va_id, va_id]; exact hP
  have r_1 : 0 ≤ (v 3) ∧ (v 3) ≤ 700 := hok.1 3
  have r_2 : 0 ≤ (v 10) ∧ (v 10) ≤ 700 := hok.1 10
  refine lv_aload_n hx hb dX11_next_0 rfl (lv_at hl 0 rfl) ?_
  refine lv_aload_n hx hb dX11_next_1 rfl (lv_at hl 0 rfl) ?_
  refine mdG_behind C hP mF_X11_155 dX11_next_2 ?_
  show W p l e (gRm 1 21) s m args below meth c _ _ 0 0 Q (F0 m 5 ls [.int (iI (v 10)), .ref (ad 0)])
  refine mdP_at (v1 := (va_up (va_up (va_up (va_up v 8 (v 8)) 9 (v 10)) 10 (v 10)) 11 (v 11))) C hP hD hS mF_X11_158 (by omega) rfl (Or.inr (gR_up (V := mdV) (F := mdF) (gR_up (V := mdV) (F := mdF) (gR_up (V := mdV) (F := mdF) (gR_up (V := mdV) (F := mdF) ⟨hok.1, hok.2⟩ 8 (hP.2.1 8)) 9 (show 0 ≤ (v 10) ∧ (v 10) ≤ 700 from by omega)) 10 (hP.2.1 10)) 11 (hP.2.1 11))) dX11_next_5 (fun H locs hP hS => ?_)
  have L_3 : ∀ (n : Nat) (y9_3 : Int) (H : Heap) (locs : List Loc) (ls : Array Slot), (v 3) - y9_3 < (n : Int) → ((v 10) ≤ y9_3 ∧ y9_3 ≤ (v 3)) → (∀ j, (v 10) ≤ j → j < y9_3 → j < (v 3) ∧ pW (B j)) → gWd D (mdT k ad) (va_up (va_up (va_up (va_up v 8 (v 8)) 9 y9_3) 10 (v 10)) 11 (v 11)) f (va_up g 0 (g 0)) H → va_S A s.heap H locs → lv_has ls 2 [(0, .ref (ad 0))] → W p l e (gRm 1 21) s m args below meth c H locs 0 0 Q (F0 m 8 ls []) := by
    intro n
    induction n with
    | zero =>
      intro y9_3 H locs ls hn_3 i3_0 i3_1 hP hS hl
      have ry9_3 : 0 ≤ y9_3 ∧ y9_3 ≤ 700 := hP.2.1 9
      exfalso; omega
    | succ n ih_8 =>
      intro y9_3 H locs ls hn_3 i3_0 i3_1 hP hS hl
      have ry9_3 : 0 ≤ y9_3 ∧ y9_3 ≤ 700 := hP.2.1 9
      have hI := i3_1
      refine lv_aload_n hx hb dX11_next_8 rfl (lv_at hl 0 rfl) ?_
      refine mdG_at C hP mF_X11_158 dX11_next_9 ?_
      show W p l e (gRm 1 21) s m args below meth c _ _ 0 0 Q (F0 m 12 ls [.int (iI y9_3)])
      have r_4 : 0 ≤ y9_3 ∧ y9_3 ≤ 700 := hP.2.1 9
      refine lv_aload_n hx hb dX11_next_12 rfl (lv_at hl 0 rfl) ?_
      refine mdG_end C hP mF_X11_152 dX11_next_13 ?_
      show W p l e (gRm 1 21) s m args below meth c _ _ 0 0 Q (F0 m 16 ls [.int (iI (v 3)), .int (iI y9_3)])
      refine gi_cge (tgt := 58) hx hb dX11_next_16 (by decide) (by omega) (by omega) (fun c_5 => ?_) (fun c_5 => ?_)
      · have hA : run bW B (v 3) (v 10) = y9_3 := runW_eq (by omega) hI (by omega)
        refine lv_aload_n hx hb dX11_next_58 rfl (lv_at hl 0 rfl) ?_
        refine lv_aload_n hx hb dX11_next_59 rfl (lv_at hl 0 rfl) ?_
        refine mdG_at C hP mF_X11_158 dX11_next_60 ?_
        show W p l e (gRm 1 21) s m args below meth c _ _ 0 0 Q (F0 m 63 ls [.int (iI y9_3), .ref (ad 0)])
        refine mdP_behind (v1 := (va_up (va_up (va_up (va_up v 8 (v 8)) 9 y9_3) 10 y9_3) 11 (v 11))) C hP hD hS mF_X11_155 (by omega) rfl (Or.inr (gR_up (V := mdV) (F := mdF) (gR_up (V := mdV) (F := mdF) (gR_up (V := mdV) (F := mdF) (gR_up (V := mdV) (F := mdF) ⟨hok.1, hok.2⟩ 8 (hP.2.1 8)) 9 (hP.2.1 9)) 10 (show 0 ≤ y9_3 ∧ y9_3 ≤ 700 from by omega)) 11 (hP.2.1 11))) dX11_next_63 (fun H locs hP hS => ?_)
        refine lv_aload_n hx hb dX11_next_66 rfl (lv_at hl 0 rfl) ?_
        refine mdG_at C hP mF_X11_158 dX11_next_67 ?_
        show W p l e (gRm 1 21) s m args below meth c _ _ 0 0 Q (F0 m 70 ls [.int (iI y9_3)])
        refine lv_aload_n hx hb dX11_next_70 rfl (lv_at hl 0 rfl) ?_
        refine mdG_end C hP mF_X11_152 dX11_next_71 ?_
        show W p l e (gRm 1 21) s m args below meth c _ _ 0 0 Q (F0 m 74 ls [.int (iI (v 3)), .int (iI y9_3)])
        refine gi_clt (tgt := 83) hx hb dX11_next_74 (by decide) (by omega) (by omega) (fun c_6 => ?_) (fun c_6 => ?_)
        · refine lv_aload_n hx hb dX11_next_83 rfl (lv_at hl 0 rfl) ?_
          refine lv_aload_n hx hb dX11_next_84 rfl (lv_at hl 0 rfl) ?_
          refine mdG_at C hP mF_X11_158 dX11_next_85 ?_
          show W p l e (gRm 1 21) s m args below meth c _ _ 0 0 Q (F0 m 88 ls [.int (iI y9_3), .ref (ad 0)])
          refine g_cv (As := [.int (iI y9_3)]) (rest := []) (n := 1) C hml (n_look l D k A ad hD (va_up (va_up (va_up (va_up v 8 (v 8)) 9 y9_3) 10 y9_3) 11 (v 11)) f (va_up g 0 (g 0)) y9_3 B (by omega) (show ∀ k, (f 0) k % 256 = B k from hB) (show 0 ≤ y9_3 from by omega)) mM_X11_161 mI_X11_look mE_X11_look mN_X11 mC_X11_look (by decide +kernel) 0 (ci := 11) rfl rfl hP hS (fun _ h => h) ⟨Nat.le_of_ble_eq_true rfl, Nat.le_of_ble_eq_true rfl⟩ ⟨Nat.zero_le _, Nat.zero_le _⟩ hl.1 rfl rfl (Nat.le_of_ble_eq_true rfl) dX11_next_88 (fun r_7 v_7 f_7 g_7 H locs hq_7 hP _ hS => ?_)
          obtain ⟨z_7, rfl, rfl, rfl, rfl, p0_7, p1_7, p2_7⟩ := hq_7
          show W p l e (gRm 1 21) s m args below meth c _ _ 0 0 Q (F0 m 91 ls [.int (iI z_7)])
          replace p0_7 : 0 ≤ z_7 ∧ z_7 ≤ 255 := p0_7
          replace p1_7 : y9_3 < (v 3) → z_7 = B y9_3 := p1_7
          replace p2_7 : (v 3) ≤ y9_3 → z_7 = 0 := p2_7
          refine lv_istore_n (lv' := [(1, .int (iI z_7)), (0, .ref (ad 0))]) hx hb dX11_next_91 rfl hl (by decide) rfl (fun ls hl => ?_)
          refine lv_iload_n hx hb dX11_next_92 rfl (lv_at hl 0 rfl) ?_
          refine g_cs (As := [.int (iI z_7)]) (rest := []) (n := 1) C hml (n_isLetter l D k A ad hD (va_up (va_up (va_up (va_up v 8 (v 8)) 9 y9_3) 10 y9_3) 11 (v 11)) f (va_up g 0 (g 0)) z_7 (by omega)) mM_X11_168 mS_X11_isLetter mN_X11 mC_X11_isLetter (by decide +kernel) hP hS (fun _ h => h) ⟨Nat.le_of_ble_eq_true rfl, Nat.le_of_ble_eq_true rfl⟩ ⟨Nat.zero_le _, Nat.zero_le _⟩ hl.1 rfl rfl (Nat.le_of_ble_eq_true rfl) dX11_next_93 (fun r_8 v_8 f_8 g_8 H locs hq_8 hP _ hS => ?_)
          obtain ⟨z_8, rfl, rfl, rfl, rfl, p0_8⟩ := hq_8
          show W p l e (gRm 1 21) s m args below meth c _ _ 0 0 Q (F0 m 96 ls [.int (iI z_8)])
          replace p0_8 : z_8 = (if 97 ≤ z_7 ∧ z_7 ≤ 122 then 1 else 0) := p0_8
          have w_8 := gif (P := 97 ≤ z_7 ∧ z_7 ≤ 122) p0_8
          have hz_8 : inR z_8 := (by first | omega | (rw [p0_8]; split <;> omega))
          refine gi_zeq (tgt := 182) hx hb dX11_next_96 (by decide) (by omega) (fun c_9 => ?_) (fun c_9 => ?_)
          · have v_8 := w_8.elim (fun q => absurd (q.1.symm.trans c_9) (by decide)) (fun q => q.2)
            clear w_8 p0_8
            refine lv_iload_n hx hb dX11_next_182 rfl (lv_at hl 0 rfl) ?_
            refine g_cs (As := [.int (iI z_7)]) (rest := []) (n := 1) C hml (n_isDigit l D k A ad hD (va_up (va_up (va_up (va_up v 8 (v 8)) 9 y9_3) 10 y9_3) 11 (v 11)) f (va_up g 0 (g 0)) z_7 (by omega)) mM_X11_182 mS_X11_isDigit mN_X11 mC_X11_isDigit (by decide +kernel) hP hS (fun _ h => h) ⟨Nat.le_of_ble_eq_true rfl, Nat.le_of_ble_eq_true rfl⟩ ⟨Nat.zero_le _, Nat.zero_le _⟩ hl.1 rfl rfl (Nat.le_of_ble_eq_true rfl) dX11_next_183 (fun r_10 v_10 f_10 g_10 H locs hq_10 hP _ hS => ?_)
            obtain ⟨z_10, rfl, rfl, rfl, rfl, p0_10⟩ := hq_10
            show W p l e (gRm 1 21) s m args below meth c _ _ 0 0 Q (F0 m 186 ls [.int (iI z_10)])
            replace p0_10 : z_10 = (if 48 ≤ z_7 ∧ z_7 ≤ 57 then 1 else 0) := p0_10
            have w_10 := gif (P := 48 ≤ z_7 ∧ z_7 ≤ 57) p0_10
            have hz_10 : inR z_10 := (by first | omega | (rw [p0_10]; split <;> omega))
            refine gi_zeq (tgt := 284) hx hb dX11_next_186 (by decide) (by omega) (fun c_11 => ?_) (fun c_11 => ?_)
            · have v_10 := w_10.elim (fun q => absurd (q.1.symm.trans c_11) (by decide)) (fun q => q.2)
              clear w_10 p0_10
              refine lv_aload_n hx hb dX11_next_284 rfl (lv_at hl 1 rfl) ?_
              refine lv_aload_n hx hb dX11_next_285 rfl (lv_at hl 1 rfl) ?_
              refine mdG_at C hP mF_X11_158 dX11_next_286 ?_
              show W p l e (gRm 1 21) s m args below meth c _ _ 0 0 Q (F0 m 289 ls [.int (iI y9_3), .ref (ad 0)])
              refine lv_iconst (v := iI 1) hx hb dX11_next_289 rfl ?_
              refine gi_add (z := (y9_3 + 1)) hx hb dX11_next_290 rfl ?_
              refine mdP_behind (v1 := (va_up (va_up (va_up (va_up v 8 (v 8)) 9 y9_3) 10 (y9_3 + 1)) 11 (v 11))) C hP hD hS mF_X11_155 (by omega) rfl (Or.inr (gR_up (V := mdV) (F := mdF) (gR_up (V := mdV) (F := mdF) (gR_up (V := mdV) (F := mdF) (gR_up (V := mdV) (F := mdF) ⟨hok.1, hok.2⟩ 8 (hP.2.1 8)) 9 (hP.2.1 9)) 10 (show 0 ≤ (y9_3 + 1) ∧ (y9_3 + 1) ≤ 700 from by omega)) 11 (hP.2.1 11))) dX11_next_291 (fun H locs hP hS => ?_)
              refine lv_aload_n hx hb dX11_next_294 rfl (lv_at hl 1 rfl) ?_
              refine lv_iload_n hx hb dX11_next_295 rfl (lv_at hl 0 rfl) ?_
              refine mdP_number (v1 := (va_up (va_up (va_up (va_up v 8 (v 8)) 9 y9_3) 10 (y9_3 + 1)) 11 z_7)) C hP hD hS mF_X11_185 (by omega) rfl (Or.inr (gR_up (V := mdV) (F := mdF) (gR_up (V := mdV) (F := mdF) (gR_up (V := mdV) (F := mdF) (gR_up (V := mdV) (F := mdF) ⟨hok.1, hok.2⟩ 8 (hP.2.1 8)) 9 (hP.2.1 9)) 10 (hP.2.1 10)) 11 (show 0 ≤ z_7 ∧ z_7 ≤ 999999 from by omega))) dX11_next_296 (fun H locs hP hS => ?_)
              refine lv_aload_n hx hb dX11_next_299 rfl (lv_at hl 1 rfl) ?_
              refine lv_iload_n hx hb dX11_next_300 rfl (lv_at hl 0 rfl) ?_
              refine lv_bipush (v := iI 43) hx hb dX11_next_301 (by decide) ?_
              refine gi_ceq (tgt := 342) hx hb dX11_next_303 (by decide) (by omega) (by decide) (fun c_12 => ?_) (fun c_12 => ?_)
              · refine lv_iconst (v := iI 3) hx hb dX11_next_342 rfl ?_
                refine lv_goto (tgt := 347) hx hb dX11_next_343 (by decide) ?_
                refine mdP_sort (v1 := (va_up (va_up (va_up (va_up v 8 3) 9 y9_3) 10 (y9_3 + 1)) 11 z_7)) C hP hD hS mF_X11_165 (by decide) rfl (Or.inr (gR_up (V := mdV) (F := mdF) (gR_up (V := mdV) (F := mdF) (gR_up (V := mdV) (F := mdF) (gR_up (V := mdV) (F := mdF) ⟨hok.1, hok.2⟩ 8 (show 0 ≤ 3 ∧ 3 ≤ 4 from by decide)) 9 (hP.2.1 9)) 10 (hP.2.1 10)) 11 (hP.2.1 11))) dX11_next_347 (fun H locs hP hS => ?_)
                exact g_vret hQ C hr hlocks hP hS dX11_next_350 ⟨3, y9_3, (y9_3 + 1), z_7, (g 0), rfl, rfl, rfl, rfl, (by rw [hA]; first | exact ⟨rfl, by omega, by omega, (tE_N (by omega)).symm, tok_end (by omega)⟩ | (have q := tok_word (B := B) (n := (v 3)) (p := y9_3) (y := (y9_3 + 1)) (nu := z_7) (w := (g 0) 0) (by omega) (by omega) (runL_eq (by omega) hL (by omega)) hW; exact ⟨rfl, by omega, by omega, q.2, q.1⟩) | (have q := tok_num (B := B) (n := (v 3)) (p := y9_3) (y := (y9_3 + 1)) (nu := z_7) (w := (g 0) 0) (by omega) (by omega) (runD_eq (by omega) hL (by omega)) hW; first | exact ⟨rfl, by omega, by omega, q.2.2, q.1 (by omega)⟩ | exact ⟨rfl, by omega, by omega, q.2.2, q.2.1 (by omega)⟩) | (have q := tok_sign (B := B) (n := (v 3)) (p := y9_3) (nu := z_7) (w := (g 0) 0) (by omega) (by omega) (by omega); exact ⟨rfl, by omega, by omega, q.2, q.1⟩) | (have q := tok_bad (B := B) (n := (v 3)) (p := y9_3) (nu := z_7) (w := (g 0) 0) (by omega) (by omega) (by omega) (by omega); exact ⟨rfl, by omega, by omega, q.2, q.1⟩))⟩
              · refine lv_iload_n hx hb dX11_next_306 rfl (lv_at hl 0 rfl) ?_
                refine lv_bipush (v := iI 45) hx hb dX11_next_307 (by decide) ?_
                refine gi_ceq (tgt := 342) hx hb dX11_next_309 (by decide) (by omega) (by decide) (fun c_13 => ?_) (fun c_13 => ?_)
                · refine lv_iconst (v := iI 3) hx hb dX11_next_342 rfl ?_
                  refine lv_goto (tgt := 347) hx hb dX11_next_343 (by decide) ?_
                  refine mdP_sort (v1 := (va_up (va_up (va_up (va_up v 8 3) 9 y9_3) 10 (y9_3 + 1)) 11 z_7)) C hP hD hS mF_X11_165 (by decide) rfl (Or.inr (gR_up (V := mdV) (F := mdF) (gR_up (V := mdV) (F := mdF) (gR_up (V := mdV) (F := mdF) (gR_up (V := mdV) (F := mdF) ⟨hok.1, hok.2⟩ 8 (show 0 ≤ 3 ∧ 3 ≤ 4 from by decide)) 9 (hP.2.1 9)) 10 (hP.2.1 10)) 11 (hP.2.1 11))) dX11_next_347 (fun H locs hP hS => ?_)
                  exact g_vret hQ C hr hlocks hP hS dX11_next_350 ⟨3, y9_3, (y9_3 + 1), z_7, (g 0), rfl, rfl, rfl, rfl, (by rw [hA]; first | exact ⟨rfl, by omega, by omega, (tE_N (by omega)).symm, tok_end (by omega)⟩ | (have q := tok_word (B := B) (n := (v 3)) (p := y9_3) (y := (y9_3 + 1)) (nu := z_7) (w := (g 0) 0) (by omega) (by omega) (runL_eq (by omega) hL (by omega)) hW; exact ⟨rfl, by omega, by omega, q.2, q.1⟩) | (have q := tok_num (B := B) (n := (v 3)) (p := y9_3) (y := (y9_3 + 1)) (nu := z_7) (w := (g 0) 0) (by omega) (by omega) (runD_eq (by omega) hL (by omega)) hW; first | exact ⟨rfl, by omega, by omega, q.2.2, q.1 (by omega)⟩ | exact ⟨rfl, by omega, by omega, q.2.2, q.2.1 (by omega)⟩) | (have q := tok_sign (B := B) (n := (v 3)) (p := y9_3) (nu := z_7) (w := (g 0) 0) (by omega) (by omega) (by omega); exact ⟨rfl, by omega, by omega, q.2, q.1⟩) | (have q := tok_bad (B := B) (n := (v 3)) (p := y9_3) (nu := z_7) (w := (g 0) 0) (by omega) (by omega) (by omega) (by omega); exact ⟨rfl, by omega, by omega, q.2, q.1⟩))⟩
                · refine lv_iload_n hx hb dX11_next_312 rfl (lv_at hl 0 rfl) ?_
                  refine lv_bipush (v := iI 42) hx hb dX11_next_313 (by decide) ?_
                  refine gi_ceq (tgt := 342) hx hb dX11_next_315 (by decide) (by omega) (by decide) (fun c_14 => ?_) (fun c_14 => ?_)
                  · refine lv_iconst (v := iI 3) hx hb dX11_next_342 rfl ?_
                    refine lv_goto (tgt := 347) hx hb dX11_next_343 (by decide) ?_
                    refine mdP_sort (v1 := (va_up (va_up (va_up (va_up v 8 3) 9 y9_3) 10 (y9_3 + 1)) 11 z_7)) C hP hD hS mF_X11_165 (by decide) rfl (Or.inr (gR_up (V := mdV) (F := mdF) (gR_up (V := mdV) (F := mdF) (gR_up (V := mdV) (F := mdF) (gR_up (V := mdV) (F := mdF) ⟨hok.1, hok.2⟩ 8 (show 0 ≤ 3 ∧ 3 ≤ 4 from by decide)) 9 (hP.2.1 9)) 10 (hP.2.1 10)) 11 (hP.2.1 11))) dX11_next_347 (fun H locs hP hS => ?_)
                    exact g_vret hQ C hr hlocks hP hS dX11_next_350 ⟨3, y9_3, (y9_3 + 1), z_7, (g 0), rfl, rfl, rfl, rfl, (by rw [hA]; first | exact ⟨rfl, by omega, by omega, (tE_N (by omega)).symm, tok_end (by omega)⟩ | (have q := tok_word (B := B) (n := (v 3)) (p := y9_3) (y := (y9_3 + 1)) (nu := z_7) (w := (g 0) 0) (by omega) (by omega) (runL_eq (by omega) hL (by omega)) hW; exact ⟨rfl, by omega, by omega, q.2, q.1⟩) | (have q := tok_num (B := B) (n := (v 3)) (p := y9_3) (y := (y9_3 + 1)) (nu := z_7) (w := (g 0) 0) (by omega) (by omega) (runD_eq (by omega) hL (by omega)) hW; first | exact ⟨rfl, by omega, by omega, q.2.2, q.1 (by omega)⟩ | exact ⟨rfl, by omega, by omega, q.2.2, q.2.1 (by omega)⟩) | (have q := tok_sign (B := B) (n := (v 3)) (p := y9_3) (nu := z_7) (w := (g 0) 0) (by omega) (by omega) (by omega); exact ⟨rfl, by omega, by omega, q.2, q.1⟩) | (have q := tok_bad (B := B) (n := (v 3)) (p := y9_3) (nu := z_7) (w := (g 0) 0) (by omega) (by omega) (by omega) (by omega); exact ⟨rfl, by omega, by omega, q.2, q.1⟩))⟩
                  · refine lv_iload_n hx hb dX11_next_318 rfl (lv_at hl 0 rfl) ?_
                    refine lv_bipush (v := iI 40) hx hb dX11_next_319 (by decide) ?_
                    refine gi_ceq (tgt := 342) hx hb dX11_next_321 (by decide) (by omega) (by decide) (fun c_15 => ?_) (fun c_15 => ?_)
                    · refine lv_iconst (v := iI 3) hx hb dX11_next_342 rfl ?_
                      refine lv_goto (tgt := 347) hx hb dX11_next_343 (by decide) ?_
                      refine mdP_sort (v1 := (va_up (va_up (va_up (va_up v 8 3) 9 y9_3) 10 (y9_3 + 1)) 11 z_7)) C hP hD hS mF_X11_165 (by decide) rfl (Or.inr (gR_up (V := mdV) (F := mdF) (gR_up (V := mdV) (F := mdF) (gR_up (V := mdV) (F := mdF) (gR_up (V := mdV) (F := mdF) ⟨hok.1, hok.2⟩ 8 (show 0 ≤ 3 ∧ 3 ≤ 4 from by decide)) 9 (hP.2.1 9)) 10 (hP.2.1 10)) 11 (hP.2.1 11))) dX11_next_347 (fun H locs hP hS => ?_)
                      exact g_vret hQ C hr hlocks hP hS dX11_next_350 ⟨3, y9_3, (y9_3 + 1), z_7, (g 0), rfl, rfl, rfl, rfl, (by rw [hA]; first | exact ⟨rfl, by omega, by omega, (tE_N (by omega)).symm, tok_end (by omega)⟩ | (have q := tok_word (B := B) (n := (v 3)) (p := y9_3) (y := (y9_3 + 1)) (nu := z_7) (w := (g 0) 0) (by omega) (by omega) (runL_eq (by omega) hL (by omega)) hW; exact ⟨rfl, by omega, by omega, q.2, q.1⟩) | (have q := tok_num (B := B) (n := (v 3)) (p := y9_3) (y := (y9_3 + 1)) (nu := z_7) (w := (g 0) 0) (by omega) (by omega) (runD_eq (by omega) hL (by omega)) hW; first | exact ⟨rfl, by omega, by omega, q.2.2, q.1 (by omega)⟩ | exact ⟨rfl, by omega, by omega, q.2.2, q.2.1 (by omega)⟩) | (have q := tok_sign (B := B) (n := (v 3)) (p := y9_3) (nu := z_7) (w := (g 0) 0) (by omega) (by omega) (by omega); exact ⟨rfl, by omega, by omega, q.2, q.1⟩) | (have q := tok_bad (B := B) (n := (v 3)) (p := y9_3) (nu := z_7) (w := (g 0) 0) (by omega) (by omega) (by omega) (by omega); exact ⟨rfl, by omega, by omega, q.2, q.1⟩))⟩
                    · refine lv_iload_n hx hb dX11_next_324 rfl (lv_at hl 0 rfl) ?_
                      refine lv_bipush (v := iI 41) hx hb dX11_next_325 (by decide) ?_
                      refine gi_ceq (tgt := 342) hx hb dX11_next_327 (by decide) (by omega) (by decide) (fun c_16 => ?_) (fun c_16 => ?_)
                      · refine lv_iconst (v := iI 3) hx hb dX11_next_342 rfl ?_
                        refine lv_goto (tgt := 347) hx hb dX11_next_343 (by decide) ?_
                        refine mdP_sort (v1 := (va_up (va_up (va_up (va_up v 8 3) 9 y9_3) 10 (y9_3 + 1)) 11 z_7)) C hP hD hS mF_X11_165 (by decide) rfl (Or.inr (gR_up (V := mdV) (F := mdF) (gR_up (V := mdV) (F := mdF) (gR_up (V := mdV) (F := mdF) (gR_up (V := mdV) (F := mdF) ⟨hok.1, hok.2⟩ 8 (show 0 ≤ 3 ∧ 3 ≤ 4 from by decide)) 9 (hP.2.1 9)) 10 (hP.2.1 10)) 11 (hP.2.1 11))) dX11_next_347 (fun H locs hP hS => ?_)
                        exact g_vret hQ C hr hlocks hP hS dX11_next_350 ⟨3, y9_3, (y9_3 + 1), z_7, (g 0), rfl, rfl, rfl, rfl, (by rw [hA]; first | exact ⟨rfl, by omega, by omega, (tE_N (by omega)).symm, tok_end (by omega)⟩ | (have q := tok_word (B := B) (n := (v 3)) (p := y9_3) (y := (y9_3 + 1)) (nu := z_7) (w := (g 0) 0) (by omega) (by omega) (runL_eq (by omega) hL (by omega)) hW; exact ⟨rfl, by omega, by omega, q.2, q.1⟩) | (have q := tok_num (B := B) (n := (v 3)) (p := y9_3) (y := (y9_3 + 1)) (nu := z_7) (w := (g 0) 0) (by omega) (by omega) (runD_eq (by omega) hL (by omega)) hW; first | exact ⟨rfl, by omega, by omega, q.2.2, q.1 (by omega)⟩ | exact ⟨rfl, by omega, by omega, q.2.2, q.2.1 (by omega)⟩) | (have q := tok_sign (B := B) (n := (v 3)) (p := y9_3) (nu := z_7) (w := (g 0) 0) (by omega) (by omega) (by omega); exact ⟨rfl, by omega, by omega, q.2, q.1⟩) | (have q := tok_bad (B := B) (n := (v 3)) (p := y9_3) (nu := z_7) (w := (g 0) 0) (by omega) (by omega) (by omega) (by omega); exact ⟨rfl, by omega, by omega, q.2, q.1⟩))⟩
                      · refine lv_iload_n hx hb dX11_next_330 rfl (lv_at hl 0 rfl) ?_
                        refine lv_bipush (v := iI 44) hx hb dX11_next_331 (by decide) ?_
                        refine gi_ceq (tgt := 342) hx hb dX11_next_333 (by decide) (by omega) (by decide) (fun c_17 => ?_) (fun c_17 => ?_)
                        · refine lv_iconst (v := iI 3) hx hb dX11_next_342 rfl ?_
                          refine lv_goto (tgt := 347) hx hb dX11_next_343 (by decide) ?_
                          refine mdP_sort (v1 := (va_up (va_up (va_up (va_up v 8 3) 9 y9_3) 10 (y9_3 + 1)) 11 z_7)) C hP hD hS mF_X11_165 (by decide) rfl (Or.inr (gR_up (V := mdV) (F := mdF) (gR_up (V := mdV) (F := mdF) (gR_up (V := mdV) (F := mdF) (gR_up (V := mdV) (F := mdF) ⟨hok.1, hok.2⟩ 8 (show 0 ≤ 3 ∧ 3 ≤ 4 from by decide)) 9 (hP.2.1 9)) 10 (hP.2.1 10)) 11 (hP.2.1 11))) dX11_next_347 (fun H locs hP hS => ?_)
                          exact g_vret hQ C hr hlocks hP hS dX11_next_350 ⟨3, y9_3, (y9_3 + 1), z_7, (g 0), rfl, rfl, rfl, rfl, (by rw [hA]; first | exact ⟨rfl, by omega, by omega, (tE_N (by omega)).symm, tok_end (by omega)⟩ | (have q := tok_word (B := B) (n := (v 3)) (p := y9_3) (y := (y9_3 + 1)) (nu := z_7) (w := (g 0) 0) (by omega) (by omega) (runL_eq (by omega) hL (by omega)) hW; exact ⟨rfl, by omega, by omega, q.2, q.1⟩) | (have q := tok_num (B := B) (n := (v 3)) (p := y9_3) (y := (y9_3 + 1)) (nu := z_7) (w := (g 0) 0) (by omega) (by omega) (runD_eq (by omega) hL (by omega)) hW; first | exact ⟨rfl, by omega, by omega, q.2.2, q.1 (by omega)⟩ | exact ⟨rfl, by omega, by omega, q.2.2, q.2.1 (by omega)⟩) | (have q := tok_sign (B := B) (n := (v 3)) (p := y9_3) (nu := z_7) (w := (g 0) 0) (by omega) (by omega) (by omega); exact ⟨rfl, by omega, by omega, q.2, q.1⟩) | (have q := tok_bad (B := B) (n := (v 3)) (p := y9_3) (nu := z_7) (w := (g 0) 0) (by omega) (by omega) (by omega) (by omega); exact ⟨rfl, by omega, by omega, q.2, q.1⟩))⟩
                        · refine lv_iload_n hx hb dX11_next_336 rfl (lv_at hl 0 rfl) ?_
                          refine lv_bipush (v := iI 59) hx hb dX11_next_337 (by decide) ?_
                          refine gi_cne (tgt := 346) hx hb dX11_next_339 (by decide) (by omega) (by decide) (fun c_18 => ?_) (fun c_18 => ?_)
                          · refine lv_iconst (v := iI 4) hx hb dX11_next_346 rfl ?_
                            refine mdP_sort (v1 := (va_up (va_up (va_up (va_up v 8 4) 9 y9_3) 10 (y9_3 + 1)) 11 z_7)) C hP hD hS mF_X11_165 (by decide) rfl (Or.inr (gR_up (V := mdV) (F := mdF) (gR_up (V := mdV) (F := mdF) (gR_up (V := mdV) (F := mdF) (gR_up (V := mdV) (F := mdF) ⟨hok.1, hok.2⟩ 8 (show 0 ≤ 4 ∧ 4 ≤ 4 from by decide)) 9 (hP.2.1 9)) 10 (hP.2.1 10)) 11 (hP.2.1 11))) dX11_next_347 (fun H locs hP hS => ?_)
                            exact g_vret hQ C hr hlocks hP hS dX11_next_350 ⟨4, y9_3, (y9_3 + 1), z_7, (g 0), rfl, rfl, rfl, rfl, (by rw [hA]; first | exact ⟨rfl, by omega, by omega, (tE_N (by omega)).symm, tok_end (by omega)⟩ | (have q := tok_word (B := B) (n := (v 3)) (p := y9_3) (y := (y9_3 + 1)) (nu := z_7) (w := (g 0) 0) (by omega) (by omega) (runL_eq (by omega) hL (by omega)) hW; exact ⟨rfl, by omega, by omega, q.2, q.1⟩) | (have q := tok_num (B := B) (n := (v 3)) (p := y9_3) (y := (y9_3 + 1)) (nu := z_7) (w := (g 0) 0) (by omega) (by omega) (runD_eq (by omega) hL (by omega)) hW; first | exact ⟨rfl, by omega, by omega, q.2.2, q.1 (by omega)⟩ | exact ⟨rfl, by omega, by omega, q.2.2, q.2.1 (by omega)⟩) | (have q := tok_sign (B := B) (n := (v 3)) (p := y9_3) (nu := z_7) (w := (g 0) 0) (by omega) (by omega) (by omega); exact ⟨rfl, by omega, by omega, q.2, q.1⟩) | (have q := tok_bad (B := B) (n := (v 3)) (p := y9_3) (nu := z_7) (w := (g 0) 0) (by omega) (by omega) (by omega) (by omega); exact ⟨rfl, by omega, by omega, q.2, q.1⟩))⟩
                          · refine lv_iconst (v := iI 3) hx hb dX11_next_342 rfl ?_
                            refine lv_goto (tgt := 347) hx hb dX11_next_343 (by decide) ?_
                            refine mdP_sort (v1 := (va_up (va_up (va_up (va_up v 8 3) 9 y9_3) 10 (y9_3 + 1)) 11 z_7)) C hP hD hS mF_X11_165 (by decide) rfl (Or.inr (gR_up (V := mdV) (F := mdF) (gR_up (V := mdV) (F := mdF) (gR_up (V := mdV) (F := mdF) (gR_up (V := mdV) (F := mdF) ⟨hok.1, hok.2⟩ 8 (show 0 ≤ 3 ∧ 3 ≤ 4 from by decide)) 9 (hP.2.1 9)) 10 (hP.2.1 10)) 11 (hP.2.1 11))) dX11_next_347 (fun H locs hP hS => ?_)
                            exact g_vret hQ C hr hlocks hP hS dX11_next_350 ⟨3, y9_3, (y9_3 + 1), z_7, (g 0), rfl, rfl, rfl, rfl, (by rw [hA]; first | exact ⟨rfl, by omega, by omega, (tE_N (by omega)).symm, tok_end (by omega)⟩ | (have q := tok_word (B := B) (n := (v 3)) (p := y9_3) (y := (y9_3 + 1)) (nu := z_7) (w := (g 0) 0) (by omega) (by omega) (runL_eq (by omega) hL (by omega)) hW; exact ⟨rfl, by omega, by omega, q.2, q.1⟩) | (have q := tok_num (B := B) (n := (v 3)) (p := y9_3) (y := (y9_3 + 1)) (nu := z_7) (w := (g 0) 0) (by omega) (by omega) (runD_eq (by omega) hL (by omega)) hW; first | exact ⟨rfl, by omega, by omega, q.2.2, q.1 (by omega)⟩ | exact ⟨rfl, by omega, by omega, q.2.2, q.2.1 (by omega)⟩) | (have q := tok_sign (B := B) (n := (v 3)) (p := y9_3) (nu := z_7) (w := (g 0) 0) (by omega) (by omega) (by omega); exact ⟨rfl, by omega, by omega, q.2, q.1⟩) | (have q := tok_bad (B := B) (n := (v 3)) (p := y9_3) (nu := z_7) (w := (g 0) 0) (by omega) (by omega) (by omega) (by omega); exact ⟨rfl, by omega, by omega, q.2, q.1⟩))⟩
            · have v_10 := w_10.elim (fun q => q.2) (fun q => absurd q.1 c_11)
              clear w_10 p0_10
              refine lv_aload_n hx hb dX11_next_189 rfl (lv_at hl 1 rfl) ?_
              refine lv_iconst (v := iI 0) hx hb dX11_next_190 rfl ?_
              refine mdP_number (v1 := (va_up (va_up (va_up (va_up v 8 (v 8)) 9 y9_3) 10 y9_3) 11 0)) C hP hD hS mF_X11_185 (by decide) rfl (Or.inr (gR_up (V := mdV) (F := mdF) (gR_up (V := mdV) (F := mdF) (gR_up (V := mdV) (F := mdF) (gR_up (V := mdV) (F := mdF) ⟨hok.1, hok.2⟩ 8 (hP.2.1 8)) 9 (hP.2.1 9)) 10 (hP.2.1 10)) 11 (show 0 ≤ 0 ∧ 0 ≤ 999999 from by decide))) dX11_next_191 (fun H locs hP hS => ?_)
              have L_19 : ∀ (n : Nat) (y10_19 : Int) (y11_19 : Int) (H : Heap) (locs : List Loc) (ls : Array Slot), (v 3) - y10_19 < (n : Int) → (y9_3 ≤ y10_19 ∧ y10_19 ≤ (v 3)) → (∀ j, y9_3 ≤ j → j < y10_19 → j < (v 3) ∧ pD (B j)) → (y11_19 = nV B y9_3 (y10_19 - y9_3).toNat) → gWd D (mdT k ad) (va_up (va_up (va_up (va_up v 8 (v 8)) 9 y9_3) 10 y10_19) 11 y11_19) f (va_up g 0 (g 0)) H → va_S A s.heap H locs → lv_has ls 2 [(0, .ref (ad 0)), (1, .int (iI z_7))] → W p l e (gRm 1 21) s m args below meth c H locs 0 0 Q (F0 m 194 ls []) := by
                intro n
                induction n with
                | zero =>
                  intro y10_19 y11_19 H locs ls hn_19 i19_0 i19_1 i19_2 hP hS hl
                  have ry10_19 : 0 ≤ y10_19 ∧ y10_19 ≤ 700 := hP.2.1 10
                  have ry11_19 : 0 ≤ y11_19 ∧ y11_19 ≤ 999999 := hP.2.1 11
                  exfalso; omega
                | succ n ih_194 =>
                  intro y10_19 y11_19 H locs ls hn_19 i19_0 i19_1 i19_2 hP hS hl
                  have ry10_19 : 0 ≤ y10_19 ∧ y10_19 ≤ 700 := hP.2.1 10
                  have ry11_19 : 0 ≤ y11_19 ∧ y11_19 ≤ 999999 := hP.2.1 11
                  have hL := i19_1
                  have hW := i19_2
                  have hR := nV_rng (B := B) (q := y9_3) (y10_19 - y9_3).toNat (runD_mem (fun j b1 b2 => (hL j b1 b2).2) (by omega))
                  refine lv_aload_n hx hb dX11_next_194 rfl (lv_at hl 0 rfl) ?_
                  refine lv_aload_n hx hb dX11_next_195 rfl (lv_at hl 0 rfl) ?_
                  refine mdG_behind C hP mF_X11_155 dX11_next_196 ?_
                  show W p l e (gRm 1 21) s m args below meth c _ _ 0 0 Q (F0 m 199 ls [.int (iI y10_19), .ref (ad 0)])
                  have r_20 : 0 ≤ y10_19 ∧ y10_19 ≤ 700 := hP.2.1 10
                  refine g_cv (As := [.int (iI y10_19)]) (rest := []) (n := 1) C hml (n_look l D k A ad hD (va_up (va_up (va_up (va_up v 8 (v 8)) 9 y9_3) 10 y10_19) 11 y11_19) f (va_up g 0 (g 0)) y10_19 B (by omega) (show ∀ k, (f 0) k % 256 = B k from hB) (show 0 ≤ y10_19 from by omega)) mM_X11_161 mI_X11_look mE_X11_look mN_X11 mC_X11_look (by decide +kernel) 0 (ci := 11) rfl rfl hP hS (fun _ h => h) ⟨Nat.le_of_ble_eq_true rfl, Nat.le_of_ble_eq_true rfl⟩ ⟨Nat.zero_le _, Nat.zero_le _⟩ hl.1 rfl rfl (Nat.le_of_ble_eq_true rfl) dX11_next_199 (fun r_21 v_21 f_21 g_21 H locs hq_21 hP _ hS => ?_)
                  obtain ⟨z_21, rfl, rfl, rfl, rfl, p0_21, p1_21, p2_21⟩ := hq_21
                  show W p l e (gRm 1 21) s m args below meth c _ _ 0 0 Q (F0 m 202 ls [.int (iI z_21)])
                  replace p0_21 : 0 ≤ z_21 ∧ z_21 ≤ 255 := p0_21
                  replace p1_21 : y10_19 < (v 3) → z_21 = B y10_19 := p1_21
                  replace p2_21 : (v 3) ≤ y10_19 → z_21 = 0 := p2_21
                  refine g_cs (As := [.int (iI z_21)]) (rest := []) (n := 1) C hml (n_isDigit l D k A ad hD (va_up (va_up (va_up (va_up v 8 (v 8)) 9 y9_3) 10 y10_19) 11 y11_19) f (va_up g 0 (g 0)) z_21 (by omega)) mM_X11_182 mS_X11_isDigit mN_X11 mC_X11_isDigit (by decide +kernel) hP hS (fun _ h => h) ⟨Nat.le_of_ble_eq_true rfl, Nat.le_of_ble_eq_true rfl⟩ ⟨Nat.zero_le _, Nat.zero_le _⟩ hl.1 rfl rfl (Nat.le_of_ble_eq_true rfl) dX11_next_202 (fun r_22 v_22 f_22 g_22 H locs hq_22 hP _ hS => ?_)
                  obtain ⟨z_22, rfl, rfl, rfl, rfl, p0_22⟩ := hq_22
                  show W p l e (gRm 1 21) s m args below meth c _ _ 0 0 Q (F0 m 205 ls [.int (iI z_22)])
                  replace p0_22 : z_22 = (if 48 ≤ z_21 ∧ z_21 ≤ 57 then 1 else 0) := p0_22
                  have w_22 := gif (P := 48 ≤ z_21 ∧ z_21 ≤ 57) p0_22
                  have hz_22 : inR z_22 := (by first | omega | (rw [p0_22]; split <;> omega))
                  refine gi_zeq (tgt := 258) hx hb dX11_next_205 (by decide) (by omega) (fun c_23 => ?_) (fun c_23 => ?_)
                  · have v_22 := w_22.elim (fun q => absurd (q.1.symm.trans c_23) (by decide)) (fun q => q.2)
                    clear w_22 p0_22
                    refine lv_aload_n hx hb dX11_next_258 rfl (lv_at hl 0 rfl) ?_
                    refine lv_aload_n hx hb dX11_next_259 rfl (lv_at hl 0 rfl) ?_
                    refine mdG_behind C hP mF_X11_155 dX11_next_260 ?_
                    show W p l e (gRm 1 21) s m args below meth c _ _ 0 0 Q (F0 m 263 ls [.int (iI y10_19), .ref (ad 0)])
                    refine lv_aload_n hx hb dX11_next_263 rfl (lv_at hl 0 rfl) ?_
                    refine mdG_at C hP mF_X11_158 dX11_next_264 ?_
                    show W p l e (gRm 1 21) s m args below meth c _ _ 0 0 Q (F0 m 267 ls [.int (iI y9_3), .int (iI y10_19), .ref (ad 0)])
                    refine gi_sub (z := (y10_19 - y9_3)) hx hb dX11_next_267 rfl ?_
                    refine lv_bipush (v := iI 6) hx hb dX11_next_268 (by decide) ?_
                    refine gi_cle (tgt := 277) hx hb dX11_next_270 (by decide) (by omega) (by decide) (fun c_24 => ?_) (fun c_24 => ?_)
                    · refine lv_iconst (v := iI 2) hx hb dX11_next_277 rfl ?_
                      refine mdP_sort (v1 := (va_up (va_up (va_up (va_up v 8 2) 9 y9_3) 10 y10_19) 11 y11_19)) C hP hD hS mF_X11_165 (by decide) rfl (Or.inr (gR_up (V := mdV) (F := mdF) (gR_up (V := mdV) (F := mdF) (gR_up (V := mdV) (F := mdF) (gR_up (V := mdV) (F := mdF) ⟨hok.1, hok.2⟩ 8 (show 0 ≤ 2 ∧ 2 ≤ 4 from by decide)) 9 (hP.2.1 9)) 10 (hP.2.1 10)) 11 (hP.2.1 11))) dX11_next_278 (fun H locs hP hS => ?_)
                      refine lv_goto (tgt := 350) hx hb dX11_next_281 (by decide) ?_
                      exact g_vret hQ C hr hlocks hP hS dX11_next_350 ⟨2, y9_3, y10_19, y11_19, (g 0), rfl, rfl, rfl, rfl, (by rw [hA]; first | exact ⟨rfl, by omega, by omega, (tE_N (by omega)).symm, tok_end (by omega)⟩ | (have q := tok_word (B := B) (n := (v 3)) (p := y9_3) (y := y10_19) (nu := y11_19) (w := (g 0) 0) (by omega) (by omega) (runL_eq (by omega) hL (by omega)) hW; exact ⟨rfl, by omega, by omega, q.2, q.1⟩) | (have q := tok_num (B := B) (n := (v 3)) (p := y9_3) (y := y10_19) (nu := y11_19) (w := (g 0) 0) (by omega) (by omega) (runD_eq (by omega) hL (by omega)) hW; first | exact ⟨rfl, by omega, by omega, q.2.2, q.1 (by omega)⟩ | exact ⟨rfl, by omega, by omega, q.2.2, q.2.1 (by omega)⟩) | (have q := tok_sign (B := B) (n := (v 3)) (p := y9_3) (nu := y11_19) (w := (g 0) 0) (by omega) (by omega) (by omega); exact ⟨rfl, by omega, by omega, q.2, q.1⟩) | (have q := tok_bad (B := B) (n := (v 3)) (p := y9_3) (nu := y11_19) (w := (g 0) 0) (by omega) (by omega) (by omega) (by omega); exact ⟨rfl, by omega, by omega, q.2, q.1⟩))⟩
                    · refine lv_iconst (v := iI 4) hx hb dX11_next_273 rfl ?_
                      refine lv_goto (tgt := 278) hx hb dX11_next_274 (by decide) ?_
                      refine mdP_sort (v1 := (va_up (va_up (va_up (va_up v 8 4) 9 y9_3) 10 y10_19) 11 y11_19)) C hP hD hS mF_X11_165 (by decide) rfl (Or.inr (gR_up (V := mdV) (F := mdF) (gR_up (V := mdV) (F := mdF) (gR_up (V := mdV) (F := mdF) (gR_up (V := mdV) (F := mdF) ⟨hok.1, hok.2⟩ 8 (show 0 ≤ 4 ∧ 4 ≤ 4 from by decide)) 9 (hP.2.1 9)) 10 (hP.2.1 10)) 11 (hP.2.1 11))) dX11_next_278 (fun H locs hP hS => ?_)
                      refine lv_goto (tgt := 350) hx hb dX11_next_281 (by decide) ?_
                      exact g_vret hQ C hr hlocks hP hS dX11_next_350 ⟨4, y9_3, y10_19, y11_19, (g 0), rfl, rfl, rfl, rfl, (by rw [hA]; first | exact ⟨rfl, by omega, by omega, (tE_N (by omega)).symm, tok_end (by omega)⟩ | (have q := tok_word (B := B) (n := (v 3)) (p := y9_3) (y := y10_19) (nu := y11_19) (w := (g 0) 0) (by omega) (by omega) (runL_eq (by omega) hL (by omega)) hW; exact ⟨rfl, by omega, by omega, q.2, q.1⟩) | (have q := tok_num (B := B) (n := (v 3)) (p := y9_3) (y := y10_19) (nu := y11_19) (w := (g 0) 0) (by omega) (by omega) (runD_eq (by omega) hL (by omega)) hW; first | exact ⟨rfl, by omega, by omega, q.2.2, q.1 (by omega)⟩ | exact ⟨rfl, by omega, by omega, q.2.2, q.2.1 (by omega)⟩) | (have q := tok_sign (B := B) (n := (v 3)) (p := y9_3) (nu := y11_19) (w := (g 0) 0) (by omega) (by omega) (by omega); exact ⟨rfl, by omega, by omega, q.2, q.1⟩) | (have q := tok_bad (B := B) (n := (v 3)) (p := y9_3) (nu := y11_19) (w := (g 0) 0) (by omega) (by omega) (by omega) (by omega); exact ⟨rfl, by omega, by omega, q.2, q.1⟩))⟩
                  · have v_22 := w_22.elim (fun q => q.2) (fun q => absurd q.1 c_23)
                    clear w_22 p0_22
                    refine lv_aload_n hx hb dX11_next_208 rfl (lv_at hl 0 rfl) ?_
                    refine mdG_behind C hP mF_X11_155 dX11_next_209 ?_
                    show W p l e (gRm 1 21) s m args below meth c _ _ 0 0 Q (F0 m 212 ls [.int (iI y10_19)])
                    refine lv_aload_n hx hb dX11_next_212 rfl (lv_at hl 0 rfl) ?_
                    refine mdG_at C hP mF_X11_158 dX11_next_213 ?_
                    show W p l e (gRm 1 21) s m args below meth c _ _ 0 0 Q (F0 m 216 ls [.int (iI y9_3), .int (iI y10_19)])
                    refine gi_sub (z := (y10_19 - y9_3)) hx hb dX11_next_216 rfl ?_
                    refine lv_bipush (v := iI 6) hx hb dX11_next_217 (by decide) ?_
                    refine gi_cge (tgt := 245) hx hb dX11_next_219 (by decide) (by omega) (by decide) (fun c_25 => ?_) (fun c_25 => ?_)
                    · refine lv_aload_n hx hb dX11_next_245 rfl (lv_at hl 0 rfl) ?_
                      refine lv_dup hx hb dX11_next_246 rfl ?_
                      refine mdG_behind C hP mF_X11_155 dX11_next_247 ?_
                      show W p l e (gRm 1 21) s m args below meth c _ _ 0 0 Q (F0 m 250 ls [.int (iI y10_19), .ref (ad 0)])
                      refine lv_iconst (v := iI 1) hx hb dX11_next_250 rfl ?_
                      refine gi_add (z := (y10_19 + 1)) hx hb dX11_next_251 rfl ?_
                      refine mdP_behind (v1 := (va_up (va_up (va_up (va_up v 8 (v 8)) 9 y9_3) 10 (y10_19 + 1)) 11 y11_19)) C hP hD hS mF_X11_155 (by omega) rfl (Or.inr (gR_up (V := mdV) (F := mdF) (gR_up (V := mdV) (F := mdF) (gR_up (V := mdV) (F := mdF) (gR_up (V := mdV) (F := mdF) ⟨hok.1, hok.2⟩ 8 (hP.2.1 8)) 9 (hP.2.1 9)) 10 (show 0 ≤ (y10_19 + 1) ∧ (y10_19 + 1) ≤ 700 from by omega)) 11 (hP.2.1 11))) dX11_next_252 (fun H locs hP hS => ?_)
                      refine lv_goto (tgt := 194) hx hb dX11_next_255 (by decide) ?_
                      exact ih_194 (y10_19 + 1) y11_19 _ _ _ (by omega) (by omega) (run_snoc hL (by omega) (by omega)) (by rw [nV_up (by omega)]; first | (rw [if_pos (by omega)]; omega) | (rw [if_neg (by omega)]; omega)) hP hS (lv_sub hl [0, 1] rfl)
                    · refine lv_aload_n hx hb dX11_next_222 rfl (lv_at hl 0 rfl) ?_
                      refine lv_bipush (v := iI 10) hx hb dX11_next_223 (by decide) ?_
                      refine lv_aload_n hx hb dX11_next_225 rfl (lv_at hl 0 rfl) ?_
                      refine mdG_number C hP mF_X11_185 dX11_next_226 ?_
                      show W p l e (gRm 1 21) s m args below meth c _ _ 0 0 Q (F0 m 229 ls [.int (iI y11_19), .int (iI 10), .ref (ad 0)])
                      have r_26 : 0 ≤ y11_19 ∧ y11_19 ≤ 999999 := hP.2.1 11
                      refine gi_mul (z := (10 * y11_19)) hx hb dX11_next_229 rfl ?_
                      refine lv_aload_n hx hb dX11_next_230 rfl (lv_at hl 0 rfl) ?_
                      refine lv_aload_n hx hb dX11_next_231 rfl (lv_at hl 0 rfl) ?_
                      refine mdG_behind C hP mF_X11_155 dX11_next_232 ?_
                      show W p l e (gRm 1 21) s m args below meth c _ _ 0 0 Q (F0 m 235 ls [.int (iI y10_19), .ref (ad 0), .int (iI (10 * y11_19)), .ref (ad 0)])
                      refine g_cv (As := [.int (iI y10_19)]) (rest := [.int (iI (10 * y11_19)), .ref (ad 0)]) (n := 1) C hml (n_look l D k A ad hD (va_up (va_up (va_up (va_up v 8 (v 8)) 9 y9_3) 10 y10_19) 11 y11_19) f (va_up g 0 (g 0)) y10_19 B (by omega) (show ∀ k, (f 0) k % 256 = B k from hB) (show 0 ≤ y10_19 from by omega)) mM_X11_161 mI_X11_look mE_X11_look mN_X11 mC_X11_look (by decide +kernel) 0 (ci := 11) rfl rfl hP hS (fun _ h => h) ⟨Nat.le_of_ble_eq_true rfl, Nat.le_of_ble_eq_true rfl⟩ ⟨Nat.zero_le _, Nat.zero_le _⟩ hl.1 rfl rfl (Nat.le_of_ble_eq_true rfl) dX11_next_235 (fun r_27 v_27 f_27 g_27 H locs hq_27 hP _ hS => ?_)
                      obtain ⟨z_27, rfl, rfl, rfl, rfl, p0_27, p1_27, p2_27⟩ := hq_27
                      show W p l e (gRm 1 21) s m args below meth c _ _ 0 0 Q (F0 m 238 ls [.int (iI z_27), .int (iI (10 * y11_19)), .ref (ad 0)])
                      replace p0_27 : 0 ≤ z_27 ∧ z_27 ≤ 255 := p0_27
                      replace p1_27 : y10_19 < (v 3) → z_27 = B y10_19 := p1_27
                      replace p2_27 : (v 3) ≤ y10_19 → z_27 = 0 := p2_27
                      refine gi_add (z := ((10 * y11_19) + z_27)) hx hb dX11_next_238 rfl ?_
                      refine lv_bipush (v := iI 48) hx hb dX11_next_239 (by decide) ?_
                      refine gi_sub (z := (((10 * y11_19) + z_27) - 48)) hx hb dX11_next_241 rfl ?_
                      refine mdP_number (v1 := (va_up (va_up (va_up (va_up v 8 (v 8)) 9 y9_3) 10 y10_19) 11 (((10 * y11_19) + z_27) - 48))) C hP hD hS mF_X11_185 (by omega) rfl (Or.inr (gR_up (V := mdV) (F := mdF) (gR_up (V := mdV) (F := mdF) (gR_up (V := mdV) (F := mdF) (gR_up (V := mdV) (F := mdF) ⟨hok.1, hok.2⟩ 8 (hP.2.1 8)) 9 (hP.2.1 9)) 10 (hP.2.1 10)) 11 (show 0 ≤ (((10 * y11_19) + z_27) - 48) ∧ (((10 * y11_19) + z_27) - 48) ≤ 999999 from by omega))) dX11_next_242 (fun H locs hP hS => ?_)
                      refine lv_aload_n hx hb dX11_next_245 rfl (lv_at hl 0 rfl) ?_
                      refine lv_dup hx hb dX11_next_246 rfl ?_
                      refine mdG_behind C hP mF_X11_155 dX11_next_247 ?_
                      show W p l e (gRm 1 21) s m args below meth c _ _ 0 0 Q (F0 m 250 ls [.int (iI y10_19), .ref (ad 0)])
                      refine lv_iconst (v := iI 1) hx hb dX11_next_250 rfl ?_
                      refine gi_add (z := (y10_19 + 1)) hx hb dX11_next_251 rfl ?_
                      refine mdP_behind (v1 := (va_up (va_up (va_up (va_up v 8 (v 8)) 9 y9_3) 10 (y10_19 + 1)) 11 (((10 * y11_19) + z_27) - 48))) C hP hD hS mF_X11_155 (by omega) rfl (Or.inr (gR_up (V := mdV) (F := mdF) (gR_up (V := mdV) (F := mdF) (gR_up (V := mdV) (F := mdF) (gR_up (V := mdV) (F := mdF) ⟨hok.1, hok.2⟩ 8 (hP.2.1 8)) 9 (hP.2.1 9)) 10 (show 0 ≤ (y10_19 + 1) ∧ (y10_19 + 1) ≤ 700 from by omega)) 11 (hP.2.1 11))) dX11_next_252 (fun H locs hP hS => ?_)
                      refine lv_goto (tgt := 194) hx hb dX11_next_255 (by decide) ?_
                      exact ih_194 (y10_19 + 1) (((10 * y11_19) + z_27) - 48) _ _ _ (by omega) (by omega) (run_snoc hL (by omega) (by omega)) (by rw [nV_up (by omega)]; first | (rw [if_pos (by omega)]; omega) | (rw [if_neg (by omega)]; omega)) hP hS (lv_sub hl [0, 1] rfl)
              exact L_19 701 y9_3 0 _ _ _ (by omega) (by omega) run_none (by rw [show (y9_3 - y9_3).toNat = 0 by omega]; rfl) hP hS (lv_sub hl [1, 0] rfl)
          · have v_8 := w_8.elim (fun q => q.2) (fun q => absurd q.1 c_9)
            clear w_8 p0_8
            refine lv_aload_n hx hb dX11_next_99 rfl (lv_at hl 1 rfl) ?_
            refine lv_iconst (v := iI 1) hx hb dX11_next_100 rfl ?_
            refine mdP_sort (v1 := (va_up (va_up (va_up (va_up v 8 1) 9 y9_3) 10 y9_3) 11 (v 11))) C hP hD hS mF_X11_165 (by decide) rfl (Or.inr (gR_up (V := mdV) (F := mdF) (gR_up (V := mdV) (F := mdF) (gR_up (V := mdV) (F := mdF) (gR_up (V := mdV) (F := mdF) ⟨hok.1, hok.2⟩ 8 (show 0 ≤ 1 ∧ 1 ≤ 4 from by decide)) 9 (hP.2.1 9)) 10 (hP.2.1 10)) 11 (hP.2.1 11))) dX11_next_101 (fun H locs hP hS => ?_)
            refine lv_aload_n hx hb dX11_next_104 rfl (lv_at hl 1 rfl) ?_
            refine lv_lconst (v := iL 0) hx hb dX11_next_105 (by decide) ?_
            refine mdP_word (g1 := (va_up g 0 (fun _ => 0))) C hP hD hS mF_X11_172 rfl dX11_next_106 (fun H locs hP hS => ?_)
            have L_28 : ∀ (n : Nat) (y10_28 : Int) (d0_28 : Int → Int) (H : Heap) (locs : List Loc) (ls : Array Slot), (v 3) - y10_28 < (n : Int) → (y9_3 ≤ y10_28 ∧ y10_28 ≤ (v 3)) → (∀ j, y9_3 ≤ j → j < y10_28 → j < (v 3) ∧ pL (B j)) → (d0_28 0 = hs B y9_3 (y10_28 - y9_3).toNat) → gWd D (mdT k ad) (va_up (va_up (va_up (va_up v 8 1) 9 y9_3) 10 y10_28) 11 (v 11)) f (va_up g 0 d0_28) H → va_S A s.heap H locs → lv_has ls 2 [(0, .ref (ad 0)), (1, .int (iI z_7))] → W p l e (gRm 1 21) s m args below meth c H locs 0 0 Q (F0 m 109 ls []) := by
              intro n
              induction n with
              | zero =>
                intro y10_28 d0_28 H locs ls hn_28 i28_0 i28_1 i28_2 hP hS hl
                have ry10_28 : 0 ≤ y10_28 ∧ y10_28 ≤ 700 := hP.2.1 10
                exfalso; omega
              | succ n ih_109 =>
                intro y10_28 d0_28 H locs ls hn_28 i28_0 i28_1 i28_2 hP hS hl
                have ry10_28 : 0 ≤ y10_28 ∧ y10_28 ≤ 700 := hP.2.1 10
                have hL := i28_1
                have hW := i28_2
                refine lv_aload_n hx hb dX11_next_109 rfl (lv_at hl 0 rfl) ?_
                refine lv_aload_n hx hb dX11_next_110 rfl (lv_at hl 0 rfl) ?_
                refine mdG_behind C hP mF_X11_155 dX11_next_111 ?_
                show W p l e (gRm 1 21) s m args below meth c _ _ 0 0 Q (F0 m 114 ls [.int (iI y10_28), .ref (ad 0)])
                have r_29 : 0 ≤ y10_28 ∧ y10_28 ≤ 700 := hP.2.1 10
                refine g_cv (As := [.int (iI y10_28)]) (rest := []) (n := 1) C hml (n_look l D k A ad hD (va_up (va_up (va_up (va_up v 8 1) 9 y9_3) 10 y10_28) 11 (v 11)) f (va_up g 0 d0_28) y10_28 B (by omega) (show ∀ k, (f 0) k % 256 = B k from hB) (show 0 ≤ y10_28 from by omega)) mM_X11_161 mI_X11_look mE_X11_look mN_X11 mC_X11_look (by decide +kernel) 0 (ci := 11) rfl rfl hP hS (fun _ h => h) ⟨Nat.le_of_ble_eq_true rfl, Nat.le_of_ble_eq_true rfl⟩ ⟨Nat.zero_le _, Nat.zero_le _⟩ hl.1 rfl rfl (Nat.le_of_ble_eq_true rfl) dX11_next_114 (fun r_30 v_30 f_30 g_30 H locs hq_30 hP _ hS => ?_)
                obtain ⟨z_30, rfl, rfl, rfl, rfl, p0_30, p1_30, p2_30⟩ := hq_30
                show W p l e (gRm 1 21) s m args below meth c _ _ 0 0 Q (F0 m 117 ls [.int (iI z_30)])
                replace p0_30 : 0 ≤ z_30 ∧ z_30 ≤ 255 := p0_30
                replace p1_30 : y10_28 < (v 3) → z_30 = B y10_28 := p1_30
                replace p2_30 : (v 3) ≤ y10_28 → z_30 = 0 := p2_30
                refine g_cs (As := [.int (iI z_30)]) (rest := []) (n := 1) C hml (n_isLetter l D k A ad hD (va_up (va_up (va_up (va_up v 8 1) 9 y9_3) 10 y10_28) 11 (v 11)) f (va_up g 0 d0_28) z_30 (by omega)) mM_X11_168 mS_X11_isLetter mN_X11 mC_X11_isLetter (by decide +kernel) hP hS (fun _ h => h) ⟨Nat.le_of_ble_eq_true rfl, Nat.le_of_ble_eq_true rfl⟩ ⟨Nat.zero_le _, Nat.zero_le _⟩ hl.1 rfl rfl (Nat.le_of_ble_eq_true rfl) dX11_next_117 (fun r_31 v_31 f_31 g_31 H locs hq_31 hP _ hS => ?_)
                obtain ⟨z_31, rfl, rfl, rfl, rfl, p0_31⟩ := hq_31
                show W p l e (gRm 1 21) s m args below meth c _ _ 0 0 Q (F0 m 120 ls [.int (iI z_31)])
                replace p0_31 : z_31 = (if 97 ≤ z_30 ∧ z_30 ≤ 122 then 1 else 0) := p0_31
                have w_31 := gif (P := 97 ≤ z_30 ∧ z_30 ≤ 122) p0_31
                have hz_31 : inR z_31 := (by first | omega | (rw [p0_31]; split <;> omega))
                refine gi_zeq (tgt := 350) hx hb dX11_next_120 (by decide) (by omega) (fun c_32 => ?_) (fun c_32 => ?_)
                · have v_31 := w_31.elim (fun q => absurd (q.1.symm.trans c_32) (by decide)) (fun q => q.2)
                  clear w_31 p0_31
                  exact g_vret hQ C hr hlocks hP hS dX11_next_350 ⟨1, y9_3, y10_28, (v 11), d0_28, rfl, rfl, rfl, rfl, (by rw [hA]; first | exact ⟨rfl, by omega, by omega, (tE_N (by omega)).symm, tok_end (by omega)⟩ | (have q := tok_word (B := B) (n := (v 3)) (p := y9_3) (y := y10_28) (nu := (v 11)) (w := d0_28 0) (by omega) (by omega) (runL_eq (by omega) hL (by omega)) hW; exact ⟨rfl, by omega, by omega, q.2, q.1⟩) | (have q := tok_num (B := B) (n := (v 3)) (p := y9_3) (y := y10_28) (nu := (v 11)) (w := d0_28 0) (by omega) (by omega) (runD_eq (by omega) hL (by omega)) hW; first | exact ⟨rfl, by omega, by omega, q.2.2, q.1 (by omega)⟩ | exact ⟨rfl, by omega, by omega, q.2.2, q.2.1 (by omega)⟩) | (have q := tok_sign (B := B) (n := (v 3)) (p := y9_3) (nu := (v 11)) (w := d0_28 0) (by omega) (by omega) (by omega); exact ⟨rfl, by omega, by omega, q.2, q.1⟩) | (have q := tok_bad (B := B) (n := (v 3)) (p := y9_3) (nu := (v 11)) (w := d0_28 0) (by omega) (by omega) (by omega) (by omega); exact ⟨rfl, by omega, by omega, q.2, q.1⟩))⟩
                · have v_31 := w_31.elim (fun q => q.2) (fun q => absurd q.1 c_32)
                  clear w_31 p0_31
                  refine lv_aload_n hx hb dX11_next_123 rfl (lv_at hl 0 rfl) ?_
                  refine lv_aload_n hx hb dX11_next_124 rfl (lv_at hl 0 rfl) ?_
                  refine mdG_behind C hP mF_X11_155 dX11_next_125 ?_
                  show W p l e (gRm 1 21) s m args below meth c _ _ 0 0 Q (F0 m 128 ls [.int (iI y10_28), .ref (ad 0)])
                  refine lv_aload_n hx hb dX11_next_128 rfl (lv_at hl 0 rfl) ?_
                  refine mdG_at C hP mF_X11_158 dX11_next_129 ?_
                  show W p l e (gRm 1 21) s m args below meth c _ _ 0 0 Q (F0 m 132 ls [.int (iI y9_3), .int (iI y10_28), .ref (ad 0)])
                  refine gi_sub (z := (y10_28 - y9_3)) hx hb dX11_next_132 rfl ?_
                  refine lv_bipush (v := iI 12) hx hb dX11_next_133 (by decide) ?_
                  refine gi_cge (tgt := 163) hx hb dX11_next_135 (by decide) (by omega) (by decide) (fun c_33 => ?_) (fun c_33 => ?_)
                  · refine lv_ldc2 (v := iL (-1)) hx hb C.2.2.2.1 (C.2.2.1 _ (show Cond.constantLong RX11 180 (iL (-1)) ∈ gWs from mD_X11_180)) dX11_next_163 ?_
                    refine mdP_word (g1 := (va_up g 0 (fun _ => (-1)))) C hP hD hS mF_X11_172 rfl dX11_next_166 (fun H locs hP hS => ?_)
                    refine lv_aload_n hx hb dX11_next_169 rfl (lv_at hl 0 rfl) ?_
                    refine lv_dup hx hb dX11_next_170 rfl ?_
                    refine mdG_behind C hP mF_X11_155 dX11_next_171 ?_
                    show W p l e (gRm 1 21) s m args below meth c _ _ 0 0 Q (F0 m 174 ls [.int (iI y10_28), .ref (ad 0)])
                    refine lv_iconst (v := iI 1) hx hb dX11_next_174 rfl ?_
                    refine gi_add (z := (y10_28 + 1)) hx hb dX11_next_175 rfl ?_
                    refine mdP_behind (v1 := (va_up (va_up (va_up (va_up v 8 1) 9 y9_3) 10 (y10_28 + 1)) 11 (v 11))) C hP hD hS mF_X11_155 (by omega) rfl (Or.inr (gR_up (V := mdV) (F := mdF) (gR_up (V := mdV) (F := mdF) (gR_up (V := mdV) (F := mdF) (gR_up (V := mdV) (F := mdF) ⟨hok.1, hok.2⟩ 8 (hP.2.1 8)) 9 (hP.2.1 9)) 10 (show 0 ≤ (y10_28 + 1) ∧ (y10_28 + 1) ≤ 700 from by omega)) 11 (hP.2.1 11))) dX11_next_176 (fun H locs hP hS => ?_)
                    refine lv_goto (tgt := 109) hx hb dX11_next_179 (by decide) ?_
                    exact ih_109 (y10_28 + 1) (fun _ => (-1)) _ _ _ (by omega) (by omega) (run_snoc hL (by omega) (by omega)) (by rw [hs_up (by omega)]; first | (rw [if_pos (by omega)]; omega) | (rw [if_neg (by omega)])) hP hS (lv_sub hl [0, 1] rfl)
                  · refine lv_aload_n hx hb dX11_next_138 rfl (lv_at hl 0 rfl) ?_
                    refine mdG_word C hP mF_X11_172 dX11_next_139 ?_
                    show W p l e (gRm 1 21) s m args below meth c _ _ 0 0 Q (F0 m 142 ls [.long (iL (d0_28 0)), .ref (ad 0)])
                    refine lv_ldc2 (v := iL 32) hx hb C.2.2.2.1 (C.2.2.1 _ (show Cond.constantLong RX11 176 (iL 32) ∈ gWs from mD_X11_176)) dX11_next_142 ?_
                    refine gl_mul (z := ((d0_28 0) * 32)) hx hb dX11_next_145 rfl ?_
                    refine lv_aload_n hx hb dX11_next_146 rfl (lv_at hl 0 rfl) ?_
                    refine lv_aload_n hx hb dX11_next_147 rfl (lv_at hl 0 rfl) ?_
                    refine mdG_behind C hP mF_X11_155 dX11_next_148 ?_
                    show W p l e (gRm 1 21) s m args below meth c _ _ 0 0 Q (F0 m 151 ls [.int (iI y10_28), .ref (ad 0), .long (iL ((d0_28 0) * 32)), .ref (ad 0)])
                    refine g_cv (As := [.int (iI y10_28)]) (rest := [.long (iL ((d0_28 0) * 32)), .ref (ad 0)]) (n := 1) C hml (n_look l D k A ad hD (va_up (va_up (va_up (va_up v 8 1) 9 y9_3) 10 y10_28) 11 (v 11)) f (va_up g 0 d0_28) y10_28 B (by omega) (show ∀ k, (f 0) k % 256 = B k from hB) (show 0 ≤ y10_28 from by omega)) mM_X11_161 mI_X11_look mE_X11_look mN_X11 mC_X11_look (by decide +kernel) 0 (ci := 11) rfl rfl hP hS (fun _ h => h) ⟨Nat.le_of_ble_eq_true rfl, Nat.le_of_ble_eq_true rfl⟩ ⟨Nat.zero_le _, Nat.zero_le _⟩ hl.1 rfl rfl (Nat.le_of_ble_eq_true rfl) dX11_next_151 (fun r_34 v_34 f_34 g_34 H locs hq_34 hP _ hS => ?_)
                    obtain ⟨z_34, rfl, rfl, rfl, rfl, p0_34, p1_34, p2_34⟩ := hq_34
                    show W p l e (gRm 1 21) s m args below meth c _ _ 0 0 Q (F0 m 154 ls [.int (iI z_34), .long (iL ((d0_28 0) * 32)), .ref (ad 0)])
                    replace p0_34 : 0 ≤ z_34 ∧ z_34 ≤ 255 := p0_34
                    replace p1_34 : y10_28 < (v 3) → z_34 = B y10_28 := p1_34
                    replace p2_34 : (v 3) ≤ y10_28 → z_34 = 0 := p2_34
                    refine gi_i2l hx hb (by omega) dX11_next_154 ?_
                    refine gl_add (z := (((d0_28 0) * 32) + z_34)) hx hb dX11_next_155 rfl ?_
                    refine lv_ldc2 (v := iL 96) hx hb C.2.2.2.1 (C.2.2.1 _ (show Cond.constantLong RX11 178 (iL 96) ∈ gWs from mD_X11_178)) dX11_next_156 ?_
                    refine gl_sub (z := ((((d0_28 0) * 32) + z_34) - 96)) hx hb dX11_next_159 rfl ?_
                    refine lv_goto (tgt := 166) hx hb dX11_next_160 (by decide) ?_
                    refine mdP_word (g1 := (va_up g 0 (fun _ => ((((d0_28 0) * 32) + z_34) - 96)))) C hP hD hS mF_X11_172 rfl dX11_next_166 (fun H locs hP hS => ?_)
                    refine lv_aload_n hx hb dX11_next_169 rfl (lv_at hl 0 rfl) ?_
                    refine lv_dup hx hb dX11_next_170 rfl ?_
                    refine mdG_behind C hP mF_X11_155 dX11_next_171 ?_
                    show W p l e (gRm 1 21) s m args below meth c _ _ 0 0 Q (F0 m 174 ls [.int (iI y10_28), .ref (ad 0)])
                    refine lv_iconst (v := iI 1) hx hb dX11_next_174 rfl ?_
                    refine gi_add (z := (y10_28 + 1)) hx hb dX11_next_175 rfl ?_
                    refine mdP_behind (v1 := (va_up (va_up (va_up (va_up v 8 1) 9 y9_3) 10 (y10_28 + 1)) 11 (v 11))) C hP hD hS mF_X11_155 (by omega) rfl (Or.inr (gR_up (V := mdV) (F := mdF) (gR_up (V := mdV) (F := mdF) (gR_up (V := mdV) (F := mdF) (gR_up (V := mdV) (F := mdF) ⟨hok.1, hok.2⟩ 8 (hP.2.1 8)) 9 (hP.2.1 9)) 10 (show 0 ≤ (y10_28 + 1) ∧ (y10_28 + 1) ≤ 700 from by omega)) 11 (hP.2.1 11))) dX11_next_176 (fun H locs hP hS => ?_)
                    refine lv_goto (tgt := 109) hx hb dX11_next_179 (by decide) ?_
                    exact ih_109 (y10_28 + 1) (fun _ => ((((d0_28 0) * 32) + z_34) - 96)) _ _ _ (by omega) (by omega) (run_snoc hL (by omega) (by omega)) (by rw [hs_up (by omega)]; first | (rw [if_pos (by omega)]; omega) | (rw [if_neg (by omega)])) hP hS (lv_sub hl [0, 1] rfl)
            exact L_28 701 y9_3 (fun _ => 0) _ _ _ (by omega) (by omega) run_none (by rw [show (y9_3 - y9_3).toNat = 0 by omega]; rfl) hP hS (lv_sub hl [1, 0] rfl)
        · refine lv_aload_n hx hb dX11_next_77 rfl (lv_at hl 0 rfl) ?_
          refine lv_iconst (v := iI 0) hx hb dX11_next_78 rfl ?_
          refine mdP_sort (v1 := (va_up (va_up (va_up (va_up v 8 0) 9 y9_3) 10 y9_3) 11 (v 11))) C hP hD hS mF_X11_165 (by decide) rfl (Or.inr (gR_up (V := mdV) (F := mdF) (gR_up (V := mdV) (F := mdF) (gR_up (V := mdV) (F := mdF) (gR_up (V := mdV) (F := mdF) ⟨hok.1, hok.2⟩ 8 (show 0 ≤ 0 ∧ 0 ≤ 4 from by decide)) 9 (hP.2.1 9)) 10 (hP.2.1 10)) 11 (hP.2.1 11))) dX11_next_79 (fun H locs hP hS => ?_)
          exact g_vret hQ C hr hlocks hP hS dX11_next_82 ⟨0, y9_3, y9_3, (v 11), (g 0), rfl, rfl, rfl, rfl, (by rw [hA]; first | exact ⟨rfl, by omega, by omega, (tE_N (by omega)).symm, tok_end (by omega)⟩ | (have q := tok_word (B := B) (n := (v 3)) (p := y9_3) (y := y9_3) (nu := (v 11)) (w := (g 0) 0) (by omega) (by omega) (runL_eq (by omega) hL (by omega)) hW; exact ⟨rfl, by omega, by omega, q.2, q.1⟩) | (have q := tok_num (B := B) (n := (v 3)) (p := y9_3) (y := y9_3) (nu := (v 11)) (w := (g 0) 0) (by omega) (by omega) (runD_eq (by omega) hL (by omega)) hW; first | exact ⟨rfl, by omega, by omega, q.2.2, q.1 (by omega)⟩ | exact ⟨rfl, by omega, by omega, q.2.2, q.2.1 (by omega)⟩) | (have q := tok_sign (B := B) (n := (v 3)) (p := y9_3) (nu := (v 11)) (w := (g 0) 0) (by omega) (by omega) (by omega); exact ⟨rfl, by omega, by omega, q.2, q.1⟩) | (have q := tok_bad (B := B) (n := (v 3)) (p := y9_3) (nu := (v 11)) (w := (g 0) 0) (by omega) (by omega) (by omega) (by omega); exact ⟨rfl, by omega, by omega, q.2, q.1⟩))⟩
      · refine lv_aload_n hx hb dX11_next_19 rfl (lv_at hl 0 rfl) ?_
        refine lv_aload_n hx hb dX11_next_20 rfl (lv_at hl 0 rfl) ?_
        refine mdG_at C hP mF_X11_158 dX11_next_21 ?_
        show W p l e (gRm 1 21) s m args below meth c _ _ 0 0 Q (F0 m 24 ls [.int (iI y9_3), .ref (ad 0)])
        refine g_cv (As := [.int (iI y9_3)]) (rest := []) (n := 1) C hml (n_look l D k A ad hD (va_up (va_up (va_up (va_up v 8 (v 8)) 9 y9_3) 10 (v 10)) 11 (v 11)) f (va_up g 0 (g 0)) y9_3 B (by omega) (show ∀ k, (f 0) k % 256 = B k from hB) (show 0 ≤ y9_3 from by omega)) mM_X11_161 mI_X11_look mE_X11_look mN_X11 mC_X11_look (by decide +kernel) 0 (ci := 11) rfl rfl hP hS (fun _ h => h) ⟨Nat.le_of_ble_eq_true rfl, Nat.le_of_ble_eq_true rfl⟩ ⟨Nat.zero_le _, Nat.zero_le _⟩ hl.1 rfl rfl (Nat.le_of_ble_eq_true rfl) dX11_next_24 (fun r_35 v_35 f_35 g_35 H locs hq_35 hP _ hS => ?_)
        obtain ⟨z_35, rfl, rfl, rfl, rfl, p0_35, p1_35, p2_35⟩ := hq_35
        show W p l e (gRm 1 21) s m args below meth c _ _ 0 0 Q (F0 m 27 ls [.int (iI z_35)])
        replace p0_35 : 0 ≤ z_35 ∧ z_35 ≤ 255 := p0_35
        replace p1_35 : y9_3 < (v 3) → z_35 = B y9_3 := p1_35
        replace p2_35 : (v 3) ≤ y9_3 → z_35 = 0 := p2_35
        refine lv_bipush (v := iI 10) hx hb dX11_next_27 (by decide) ?_
        refine gi_ceq (tgt := 45) hx hb dX11_next_29 (by decide) (by omega) (by decide) (fun c_36 => ?_) (fun c_36 => ?_)
        · refine lv_aload_n hx hb dX11_next_45 rfl (lv_at hl 0 rfl) ?_
          refine lv_dup hx hb dX11_next_46 rfl ?_
          refine mdG_at C hP mF_X11_158 dX11_next_47 ?_
          show W p l e (gRm 1 21) s m args below meth c _ _ 0 0 Q (F0 m 50 ls [.int (iI y9_3), .ref (ad 0)])
          refine lv_iconst (v := iI 1) hx hb dX11_next_50 rfl ?_
          refine gi_add (z := (y9_3 + 1)) hx hb dX11_next_51 rfl ?_
          refine mdP_at (v1 := (va_up (va_up (va_up (va_up v 8 (v 8)) 9 (y9_3 + 1)) 10 (v 10)) 11 (v 11))) C hP hD hS mF_X11_158 (by omega) rfl (Or.inr (gR_up (V := mdV) (F := mdF) (gR_up (V := mdV) (F := mdF) (gR_up (V := mdV) (F := mdF) (gR_up (V := mdV) (F := mdF) ⟨hok.1, hok.2⟩ 8 (hP.2.1 8)) 9 (show 0 ≤ (y9_3 + 1) ∧ (y9_3 + 1) ≤ 700 from by omega)) 10 (hP.2.1 10)) 11 (hP.2.1 11))) dX11_next_52 (fun H locs hP hS => ?_)
          refine lv_goto (tgt := 8) hx hb dX11_next_55 (by decide) ?_
          exact ih_8 (y9_3 + 1) _ _ _ (by omega) (by omega) (run_snoc hI (by omega) (by omega)) hP hS (lv_sub hl [0] rfl)
        · refine lv_aload_n hx hb dX11_next_32 rfl (lv_at hl 0 rfl) ?_
          refine lv_aload_n hx hb dX11_next_33 rfl (lv_at hl 0 rfl) ?_
          refine mdG_at C hP mF_X11_158 dX11_next_34 ?_
          show W p l e (gRm 1 21) s m args below meth c _ _ 0 0 Q (F0 m 37 ls [.int (iI y9_3), .ref (ad 0)])
          refine g_cv (As := [.int (iI y9_3)]) (rest := []) (n := 1) C hml (n_look l D k A ad hD (va_up (va_up (va_up (va_up v 8 (v 8)) 9 y9_3) 10 (v 10)) 11 (v 11)) f (va_up g 0 (g 0)) y9_3 B (by omega) (show ∀ k, (f 0) k % 256 = B k from hB) (show 0 ≤ y9_3 from by omega)) mM_X11_161 mI_X11_look mE_X11_look mN_X11 mC_X11_look (by decide +kernel) 0 (ci := 11) rfl rfl hP hS (fun _ h => h) ⟨Nat.le_of_ble_eq_true rfl, Nat.le_of_ble_eq_true rfl⟩ ⟨Nat.zero_le _, Nat.zero_le _⟩ hl.1 rfl rfl (Nat.le_of_ble_eq_true rfl) dX11_next_37 (fun r_37 v_37 f_37 g_37 H locs hq_37 hP _ hS => ?_)
          obtain ⟨z_37, rfl, rfl, rfl, rfl, p0_37, p1_37, p2_37⟩ := hq_37
          show W p l e (gRm 1 21) s m args below meth c _ _ 0 0 Q (F0 m 40 ls [.int (iI z_37)])
          replace p0_37 : 0 ≤ z_37 ∧ z_37 ≤ 255 := p0_37
          replace p1_37 : y9_3 < (v 3) → z_37 = B y9_3 := p1_37
          replace p2_37 : (v 3) ≤ y9_3 → z_37 = 0 := p2_37
          refine lv_bipush (v := iI 32) hx hb dX11_next_40 (by decide) ?_
          refine gi_cne (tgt := 58) hx hb dX11_next_42 (by decide) (by omega) (by decide) (fun c_38 => ?_) (fun c_38 => ?_)
          · have hA : run bW B (v 3) (v 10) = y9_3 := runW_eq (by omega) hI (by omega)
            refine lv_aload_n hx hb dX11_next_58 rfl (lv_at hl 0 rfl) ?_
            refine lv_aload_n hx hb dX11_next_59 rfl (lv_at hl 0 rfl) ?_
            refine mdG_at C hP mF_X11_158 dX11_next_60 ?_
            show W p l e (gRm 1 21) s m args below meth c _ _ 0 0 Q (F0 m 63 ls [.int (iI y9_3), .ref (ad 0)])
            refine mdP_behind (v1 := (va_up (va_up (va_up (va_up v 8 (v 8)) 9 y9_3) 10 y9_3) 11 (v 11))) C hP hD hS mF_X11_155 (by omega) rfl (Or.inr (gR_up (V := mdV) (F := mdF) (gR_up (V := mdV) (F := mdF) (gR_up (V := mdV) (F := mdF) (gR_up (V := mdV) (F := mdF) ⟨hok.1, hok.2⟩ 8 (hP.2.1 8)) 9 (hP.2.1 9)) 10 (show 0 ≤ y9_3 ∧ y9_3 ≤ 700 from by omega)) 11 (hP.2.1 11))) dX11_next_63 (fun H locs hP hS => ?_)
            refine lv_aload_n hx hb dX11_next_66 rfl (lv_at hl 0 rfl) ?_
            refine mdG_at C hP mF_X11_158 dX11_next_67 ?_
            show W p l e (gRm 1 21) s m args below meth c _ _ 0 0 Q (F0 m 70 ls [.int (iI y9_3)])
            refine lv_aload_n hx hb dX11_next_70 rfl (lv_at hl 0 rfl) ?_
            refine mdG_end C hP mF_X11_152 dX11_next_71 ?_
            show W p l e (gRm 1 21) s m args below meth c _ _ 0 0 Q (F0 m 74 ls [.int (iI (v 3)), .int (iI y9_3)])
            refine gi_clt (tgt := 83) hx hb dX11_next_74 (by decide) (by omega) (by omega) (fun c_39 => ?_) (fun c_39 => ?_)
            · refine lv_aload_n hx hb dX11_next_83 rfl (lv_at hl 0 rfl) ?_
              refine lv_aload_n hx hb dX11_next_84 rfl (lv_at hl 0 rfl) ?_
              refine mdG_at C hP mF_X11_158 dX11_next_85 ?_
              show W p l e (gRm 1 21) s m args below meth c _ _ 0 0 Q (F0 m 88 ls [.int (iI y9_3), .ref (ad 0)])
              refine g_cv (As := [.int (iI y9_3)]) (rest := []) (n := 1) C hml (n_look l D k A ad hD (va_up (va_up (va_up (va_up v 8 (v 8)) 9 y9_3) 10 y9_3) 11 (v 11)) f (va_up g 0 (g 0)) y9_3 B (by omega) (show ∀ k, (f 0) k % 256 = B k from hB) (show 0 ≤ y9_3 from by omega)) mM_X11_161 mI_X11_look mE_X11_look mN_X11 mC_X11_look (by decide +kernel) 0 (ci := 11) rfl rfl hP hS (fun _ h => h) ⟨Nat.le_of_ble_eq_true rfl, Nat.le_of_ble_eq_true rfl⟩ ⟨Nat.zero_le _, Nat.zero_le _⟩ hl.1 rfl rfl (Nat.le_of_ble_eq_true rfl) dX11_next_88 (fun r_40 v_40 f_40 g_40 H locs hq_40 hP _ hS => ?_)
              obtain ⟨z_40, rfl, rfl, rfl, rfl, p0_40, p1_40, p2_40⟩ := hq_40
              show W p l e (gRm 1 21) s m args below meth c _ _ 0 0 Q (F0 m 91 ls [.int (iI z_40)])
              replace p0_40 : 0 ≤ z_40 ∧ z_40 ≤ 255 := p0_40
              replace p1_40 : y9_3 < (v 3) → z_40 = B y9_3 := p1_40
              replace p2_40 : (v 3) ≤ y9_3 → z_40 = 0 := p2_40
              refine lv_istore_n (lv' := [(1, .int (iI z_40)), (0, .ref (ad 0))]) hx hb dX11_next_91 rfl hl (by decide) rfl (fun ls hl => ?_)
              refine lv_iload_n hx hb dX11_next_92 rfl (lv_at hl 0 rfl) ?_
              refine g_cs (As := [.int (iI z_40)]) (rest := []) (n := 1) C hml (n_isLetter l D k A ad hD (va_up (va_up (va_up (va_up v 8 (v 8)) 9 y9_3) 10 y9_3) 11 (v 11)) f (va_up g 0 (g 0)) z_40 (by omega)) mM_X11_168 mS_X11_isLetter mN_X11 mC_X11_isLetter (by decide +kernel) hP hS (fun _ h => h) ⟨Nat.le_of_ble_eq_true rfl, Nat.le_of_ble_eq_true rfl⟩ ⟨Nat.zero_le _, Nat.zero_le _⟩ hl.1 rfl rfl (Nat.le_of_ble_eq_true rfl) dX11_next_93 (fun r_41 v_41 f_41 g_41 H locs hq_41 hP _ hS => ?_)
              obtain ⟨z_41, rfl, rfl, rfl, rfl, p0_41⟩ := hq_41
              show W p l e (gRm 1 21) s m args below meth c _ _ 0 0 Q (F0 m 96 ls [.int (iI z_41)])
              replace p0_41 : z_41 = (if 97 ≤ z_40 ∧ z_40 ≤ 122 then 1 else 0) := p0_41
              have w_41 := gif (P := 97 ≤ z_40 ∧ z_40 ≤ 122) p0_41
              have hz_41 : inR z_41 := (by first | omega | (rw [p0_41]; split <;> omega))
              refine gi_zeq (tgt := 182) hx hb dX11_next_96 (by decide) (by omega) (fun c_42 => ?_) (fun c_42 => ?_)
              · have v_41 := w_41.elim (fun q => absurd (q.1.symm.trans c_42) (by decide)) (fun q => q.2)
                clear w_41 p0_41
                refine lv_iload_n hx hb dX11_next_182 rfl (lv_at hl 0 rfl) ?_
                refine g_cs (As := [.int (iI z_40)]) (rest := []) (n := 1) C hml (n_isDigit l D k A ad hD (va_up (va_up (va_up (va_up v 8 (v 8)) 9 y9_3) 10 y9_3) 11 (v 11)) f (va_up g 0 (g 0)) z_40 (by omega)) mM_X11_182 mS_X11_isDigit mN_X11 mC_X11_isDigit (by decide +kernel) hP hS (fun _ h => h) ⟨Nat.le_of_ble_eq_true rfl, Nat.le_of_ble_eq_true rfl⟩ ⟨Nat.zero_le _, Nat.zero_le _⟩ hl.1 rfl rfl (Nat.le_of_ble_eq_true rfl) dX11_next_183 (fun r_43 v_43 f_43 g_43 H locs hq_43 hP _ hS => ?_)
                obtain ⟨z_43, rfl, rfl, rfl, rfl, p0_43⟩ := hq_43
                show W p l e (gRm 1 21) s m args below meth c _ _ 0 0 Q (F0 m 186 ls [.int (iI z_43)])
                replace p0_43 : z_43 = (if 48 ≤ z_40 ∧ z_40 ≤ 57 then 1 else 0) := p0_43
                have w_43 := gif (P := 48 ≤ z_40 ∧ z_40 ≤ 57) p0_43
                have hz_43 : inR z_43 := (by first | omega | (rw [p0_43]; split <;> omega))
                refine gi_zeq (tgt := 284) hx hb dX11_next_186 (by decide) (by omega) (fun c_44 => ?_) (fun c_44 => ?_)
                · have v_43 := w_43.elim (fun q => absurd (q.1.symm.trans c_44) (by decide)) (fun q => q.2)
                  clear w_43 p0_43
                  refine lv_aload_n hx hb dX11_next_284 rfl (lv_at hl 1 rfl) ?_
                  refine lv_aload_n hx hb dX11_next_285 rfl (lv_at hl 1 rfl) ?_
                  refine mdG_at C hP mF_X11_158 dX11_next_286 ?_
                  show W p l e (gRm 1 21) s m args below meth c _ _ 0 0 Q (F0 m 289 ls [.int (iI y9_3), .ref (ad 0)])
                  refine lv_iconst (v := iI 1) hx hb dX11_next_289 rfl ?_
                  refine gi_add (z := (y9_3 + 1)) hx hb dX11_next_290 rfl ?_
                  refine mdP_behind (v1 := (va_up (va_up (va_up (va_up v 8 (v 8)) 9 y9_3) 10 (y9_3 + 1)) 11 (v 11))) C hP hD hS mF_X11_155 (by omega) rfl (Or.inr (gR_up (V := mdV) (F := mdF) (gR_up (V := mdV) (F := mdF) (gR_up (V := mdV) (F := mdF) (gR_up (V := mdV) (F := mdF) ⟨hok.1, hok.2⟩ 8 (hP.2.1 8)) 9 (hP.2.1 9)) 10 (show 0 ≤ (y9_3 + 1) ∧ (y9_3 + 1) ≤ 700 from by omega)) 11 (hP.2.1 11))) dX11_next_291 (fun H locs hP hS => ?_)
                  refine lv_aload_n hx hb dX11_next_294 rfl (lv_at hl 1 rfl) ?_
                  refine lv_iload_n hx hb dX11_next_295 rfl (lv_at hl 0 rfl) ?_
                  refine mdP_number (v1 := (va_up (va_up (va_up (va_up v 8 (v 8)) 9 y9_3) 10 (y9_3 + 1)) 11 z_40)) C hP hD hS mF_X11_185 (by omega) rfl (Or.inr (gR_up (V := mdV) (F := mdF) (gR_up (V := mdV) (F := mdF) (gR_up (V := mdV) (F := mdF) (gR_up (V := mdV) (F := mdF) ⟨hok.1, hok.2⟩ 8 (hP.2.1 8)) 9 (hP.2.1 9)) 10 (hP.2.1 10)) 11 (show 0 ≤ z_40 ∧ z_40 ≤ 999999 from by omega))) dX11_next_296 (fun H locs hP hS => ?_)
                  refine lv_aload_n hx hb dX11_next_299 rfl (lv_at hl 1 rfl) ?_
                  refine lv_iload_n hx hb dX11_next_300 rfl (lv_at hl 0 rfl) ?_
                  refine lv_bipush (v := iI 43) hx hb dX11_next_301 (by decide) ?_
                  refine gi_ceq (tgt := 342) hx hb dX11_next_303 (by decide) (by omega) (by decide) (fun c_45 => ?_) (fun c_45 => ?_)
                  · refine lv_iconst (v := iI 3) hx hb dX11_next_342 rfl ?_
                    refine lv_goto (tgt := 347) hx hb dX11_next_343 (by decide) ?_
                    refine mdP_sort (v1 := (va_up (va_up (va_up (va_up v 8 3) 9 y9_3) 10 (y9_3 + 1)) 11 z_40)) C hP hD hS mF_X11_165 (by decide) rfl (Or.inr (gR_up (V := mdV) (F := mdF) (gR_up (V := mdV) (F := mdF) (gR_up (V := mdV) (F := mdF) (gR_up (V := mdV) (F := mdF) ⟨hok.1, hok.2⟩ 8 (show 0 ≤ 3 ∧ 3 ≤ 4 from by decide)) 9 (hP.2.1 9)) 10 (hP.2.1 10)) 11 (hP.2.1 11))) dX11_next_347 (fun H locs hP hS => ?_)
                    exact g_vret hQ C hr hlocks hP hS dX11_next_350 ⟨3, y9_3, (y9_3 + 1), z_40, (g 0), rfl, rfl, rfl, rfl, (by rw [hA]; first | exact ⟨rfl, by omega, by omega, (tE_N (by omega)).symm, tok_end (by omega)⟩ | (have q := tok_word (B := B) (n := (v 3)) (p := y9_3) (y := (y9_3 + 1)) (nu := z_40) (w := (g 0) 0) (by omega) (by omega) (runL_eq (by omega) hL (by omega)) hW; exact ⟨rfl, by omega, by omega, q.2, q.1⟩) | (have q := tok_num (B := B) (n := (v 3)) (p := y9_3) (y := (y9_3 + 1)) (nu := z_40) (w := (g 0) 0) (by omega) (by omega) (runD_eq (by omega) hL (by omega)) hW; first | exact ⟨rfl, by omega, by omega, q.2.2, q.1 (by omega)⟩ | exact ⟨rfl, by omega, by omega, q.2.2, q.2.1 (by omega)⟩) | (have q := tok_sign (B := B) (n := (v 3)) (p := y9_3) (nu := z_40) (w := (g 0) 0) (by omega) (by omega) (by omega); exact ⟨rfl, by omega, by omega, q.2, q.1⟩) | (have q := tok_bad (B := B) (n := (v 3)) (p := y9_3) (nu := z_40) (w := (g 0) 0) (by omega) (by omega) (by omega) (by omega); exact ⟨rfl, by omega, by omega, q.2, q.1⟩))⟩
                  · refine lv_iload_n hx hb dX11_next_306 rfl (lv_at hl 0 rfl) ?_
                    refine lv_bipush (v := iI 45) hx hb dX11_next_307 (by decide) ?_
                    refine gi_ceq (tgt := 342) hx hb dX11_next_309 (by decide) (by omega) (by decide) (fun c_46 => ?_) (fun c_46 => ?_)
                    · refine lv_iconst (v := iI 3) hx hb dX11_next_342 rfl ?_
                      refine lv_goto (tgt := 347) hx hb dX11_next_343 (by decide) ?_
                      refine mdP_sort (v1 := (va_up (va_up (va_up (va_up v 8 3) 9 y9_3) 10 (y9_3 + 1)) 11 z_40)) C hP hD hS mF_X11_165 (by decide) rfl (Or.inr (gR_up (V := mdV) (F := mdF) (gR_up (V := mdV) (F := mdF) (gR_up (V := mdV) (F := mdF) (gR_up (V := mdV) (F := mdF) ⟨hok.1, hok.2⟩ 8 (show 0 ≤ 3 ∧ 3 ≤ 4 from by decide)) 9 (hP.2.1 9)) 10 (hP.2.1 10)) 11 (hP.2.1 11))) dX11_next_347 (fun H locs hP hS => ?_)
                      exact g_vret hQ C hr hlocks hP hS dX11_next_350 ⟨3, y9_3, (y9_3 + 1), z_40, (g 0), rfl, rfl, rfl, rfl, (by rw [hA]; first | exact ⟨rfl, by omega, by omega, (tE_N (by omega)).symm, tok_end (by omega)⟩ | (have q := tok_word (B := B) (n := (v 3)) (p := y9_3) (y := (y9_3 + 1)) (nu := z_40) (w := (g 0) 0) (by omega) (by omega) (runL_eq (by omega) hL (by omega)) hW; exact ⟨rfl, by omega, by omega, q.2, q.1⟩) | (have q := tok_num (B := B) (n := (v 3)) (p := y9_3) (y := (y9_3 + 1)) (nu := z_40) (w := (g 0) 0) (by omega) (by omega) (runD_eq (by omega) hL (by omega)) hW; first | exact ⟨rfl, by omega, by omega, q.2.2, q.1 (by omega)⟩ | exact ⟨rfl, by omega, by omega, q.2.2, q.2.1 (by omega)⟩) | (have q := tok_sign (B := B) (n := (v 3)) (p := y9_3) (nu := z_40) (w := (g 0) 0) (by omega) (by omega) (by omega); exact ⟨rfl, by omega, by omega, q.2, q.1⟩) | (have q := tok_bad (B := B) (n := (v 3)) (p := y9_3) (nu := z_40) (w := (g 0) 0) (by omega) (by omega) (by omega) (by omega); exact ⟨rfl, by omega, by omega, q.2, q.1⟩))⟩
                    · refine lv_iload_n hx hb dX11_next_312 rfl (lv_at hl 0 rfl) ?_
                      refine lv_bipush (v := iI 42) hx hb dX11_next_313 (by decide) ?_
                      refine gi_ceq (tgt := 342) hx hb dX11_next_315 (by decide) (by omega) (by decide) (fun c_47 => ?_) (fun c_47 => ?_)
                      · refine lv_iconst (v := iI 3) hx hb dX11_next_342 rfl ?_
                        refine lv_goto (tgt := 347) hx hb dX11_next_343 (by decide) ?_
                        refine mdP_sort (v1 := (va_up (va_up (va_up (va_up v 8 3) 9 y9_3) 10 (y9_3 + 1)) 11 z_40)) C hP hD hS mF_X11_165 (by decide) rfl (Or.inr (gR_up (V := mdV) (F := mdF) (gR_up (V := mdV) (F := mdF) (gR_up (V := mdV) (F := mdF) (gR_up (V := mdV) (F := mdF) ⟨hok.1, hok.2⟩ 8 (show 0 ≤ 3 ∧ 3 ≤ 4 from by decide)) 9 (hP.2.1 9)) 10 (hP.2.1 10)) 11 (hP.2.1 11))) dX11_next_347 (fun H locs hP hS => ?_)
                        exact g_vret hQ C hr hlocks hP hS dX11_next_350 ⟨3, y9_3, (y9_3 + 1), z_40, (g 0), rfl, rfl, rfl, rfl, (by rw [hA]; first | exact ⟨rfl, by omega, by omega, (tE_N (by omega)).symm, tok_end (by omega)⟩ | (have q := tok_word (B := B) (n := (v 3)) (p := y9_3) (y := (y9_3 + 1)) (nu := z_40) (w := (g 0) 0) (by omega) (by omega) (runL_eq (by omega) hL (by omega)) hW; exact ⟨rfl, by omega, by omega, q.2, q.1⟩) | (have q := tok_num (B := B) (n := (v 3)) (p := y9_3) (y := (y9_3 + 1)) (nu := z_40) (w := (g 0) 0) (by omega) (by omega) (runD_eq (by omega) hL (by omega)) hW; first | exact ⟨rfl, by omega, by omega, q.2.2, q.1 (by omega)⟩ | exact ⟨rfl, by omega, by omega, q.2.2, q.2.1 (by omega)⟩) | (have q := tok_sign (B := B) (n := (v 3)) (p := y9_3) (nu := z_40) (w := (g 0) 0) (by omega) (by omega) (by omega); exact ⟨rfl, by omega, by omega, q.2, q.1⟩) | (have q := tok_bad (B := B) (n := (v 3)) (p := y9_3) (nu := z_40) (w := (g 0) 0) (by omega) (by omega) (by omega) (by omega); exact ⟨rfl, by omega, by omega, q.2, q.1⟩))⟩
                      · refine lv_iload_n hx hb dX11_next_318 rfl (lv_at hl 0 rfl) ?_
                        refine lv_bipush (v := iI 40) hx hb dX11_next_319 (by decide) ?_
                        refine gi_ceq (tgt := 342) hx hb dX11_next_321 (by decide) (by omega) (by decide) (fun c_48 => ?_) (fun c_48 => ?_)
                        · refine lv_iconst (v := iI 3) hx hb dX11_next_342 rfl ?_
                          refine lv_goto (tgt := 347) hx hb dX11_next_343 (by decide) ?_
                          refine mdP_sort (v1 := (va_up (va_up (va_up (va_up v 8 3) 9 y9_3) 10 (y9_3 + 1)) 11 z_40)) C hP hD hS mF_X11_165 (by decide) rfl (Or.inr (gR_up (V := mdV) (F := mdF) (gR_up (V := mdV) (F := mdF) (gR_up (V := mdV) (F := mdF) (gR_up (V := mdV) (F := mdF) ⟨hok.1, hok.2⟩ 8 (show 0 ≤ 3 ∧ 3 ≤ 4 from by decide)) 9 (hP.2.1 9)) 10 (hP.2.1 10)) 11 (hP.2.1 11))) dX11_next_347 (fun H locs hP hS => ?_)
                          exact g_vret hQ C hr hlocks hP hS dX11_next_350 ⟨3, y9_3, (y9_3 + 1), z_40, (g 0), rfl, rfl, rfl, rfl, (by rw [hA]; first | exact ⟨rfl, by omega, by omega, (tE_N (by omega)).symm, tok_end (by omega)⟩ | (have q := tok_word (B := B) (n := (v 3)) (p := y9_3) (y := (y9_3 + 1)) (nu := z_40) (w := (g 0) 0) (by omega) (by omega) (runL_eq (by omega) hL (by omega)) hW; exact ⟨rfl, by omega, by omega, q.2, q.1⟩) | (have q := tok_num (B := B) (n := (v 3)) (p := y9_3) (y := (y9_3 + 1)) (nu := z_40) (w := (g 0) 0) (by omega) (by omega) (runD_eq (by omega) hL (by omega)) hW; first | exact ⟨rfl, by omega, by omega, q.2.2, q.1 (by omega)⟩ | exact ⟨rfl, by omega, by omega, q.2.2, q.2.1 (by omega)⟩) | (have q := tok_sign (B := B) (n := (v 3)) (p := y9_3) (nu := z_40) (w := (g 0) 0) (by omega) (by omega) (by omega); exact ⟨rfl, by omega, by omega, q.2, q.1⟩) | (have q := tok_bad (B := B) (n := (v 3)) (p := y9_3) (nu := z_40) (w := (g 0) 0) (by omega) (by omega) (by omega) (by omega); exact ⟨rfl, by omega, by omega, q.2, q.1⟩))⟩
                        · refine lv_iload_n hx hb dX11_next_324 rfl (lv_at hl 0 rfl) ?_
                          refine lv_bipush (v := iI 41) hx hb dX11_next_325 (by decide) ?_
                          refine gi_ceq (tgt := 342) hx hb dX11_next_327 (by decide) (by omega) (by decide) (fun c_49 => ?_) (fun c_49 => ?_)
                          · refine lv_iconst (v := iI 3) hx hb dX11_next_342 rfl ?_
                            refine lv_goto (tgt := 347) hx hb dX11_next_343 (by decide) ?_
                            refine mdP_sort (v1 := (va_up (va_up (va_up (va_up v 8 3) 9 y9_3) 10 (y9_3 + 1)) 11 z_40)) C hP hD hS mF_X11_165 (by decide) rfl (Or.inr (gR_up (V := mdV) (F := mdF) (gR_up (V := mdV) (F := mdF) (gR_up (V := mdV) (F := mdF) (gR_up (V := mdV) (F := mdF) ⟨hok.1, hok.2⟩ 8 (show 0 ≤ 3 ∧ 3 ≤ 4 from by decide)) 9 (hP.2.1 9)) 10 (hP.2.1 10)) 11 (hP.2.1 11))) dX11_next_347 (fun H locs hP hS => ?_)
                            exact g_vret hQ C hr hlocks hP hS dX11_next_350 ⟨3, y9_3, (y9_3 + 1), z_40, (g 0), rfl, rfl, rfl, rfl, (by rw [hA]; first | exact ⟨rfl, by omega, by omega, (tE_N (by omega)).symm, tok_end (by omega)⟩ | (have q := tok_word (B := B) (n := (v 3)) (p := y9_3) (y := (y9_3 + 1)) (nu := z_40) (w := (g 0) 0) (by omega) (by omega) (runL_eq (by omega) hL (by omega)) hW; exact ⟨rfl, by omega, by omega, q.2, q.1⟩) | (have q := tok_num (B := B) (n := (v 3)) (p := y9_3) (y := (y9_3 + 1)) (nu := z_40) (w := (g 0) 0) (by omega) (by omega) (runD_eq (by omega) hL (by omega)) hW; first | exact ⟨rfl, by omega, by omega, q.2.2, q.1 (by omega)⟩ | exact ⟨rfl, by omega, by omega, q.2.2, q.2.1 (by omega)⟩) | (have q := tok_sign (B := B) (n := (v 3)) (p := y9_3) (nu := z_40) (w := (g 0) 0) (by omega) (by omega) (by omega); exact ⟨rfl, by omega, by omega, q.2, q.1⟩) | (have q := tok_bad (B := B) (n := (v 3)) (p := y9_3) (nu := z_40) (w := (g 0) 0) (by omega) (by omega) (by omega) (by omega); exact ⟨rfl, by omega, by omega, q.2, q.1⟩))⟩
                          · refine lv_iload_n hx hb dX11_next_330 rfl (lv_at hl 0 rfl) ?_
                            refine lv_bipush (v := iI 44) hx hb dX11_next_331 (by decide) ?_
                            refine gi_ceq (tgt := 342) hx hb dX11_next_333 (by decide) (by omega) (by decide) (fun c_50 => ?_) (fun c_50 => ?_)
                            · refine lv_iconst (v := iI 3) hx hb dX11_next_342 rfl ?_
                              refine lv_goto (tgt := 347) hx hb dX11_next_343 (by decide) ?_
                              refine mdP_sort (v1 := (va_up (va_up (va_up (va_up v 8 3) 9 y9_3) 10 (y9_3 + 1)) 11 z_40)) C hP hD hS mF_X11_165 (by decide) rfl (Or.inr (gR_up (V := mdV) (F := mdF) (gR_up (V := mdV) (F := mdF) (gR_up (V := mdV) (F := mdF) (gR_up (V := mdV) (F := mdF) ⟨hok.1, hok.2⟩ 8 (show 0 ≤ 3 ∧ 3 ≤ 4 from by decide)) 9 (hP.2.1 9)) 10 (hP.2.1 10)) 11 (hP.2.1 11))) dX11_next_347 (fun H locs hP hS => ?_)
                              exact g_vret hQ C hr hlocks hP hS dX11_next_350 ⟨3, y9_3, (y9_3 + 1), z_40, (g 0), rfl, rfl, rfl, rfl, (by rw [hA]; first | exact ⟨rfl, by omega, by omega, (tE_N (by omega)).symm, tok_end (by omega)⟩ | (have q := tok_word (B := B) (n := (v 3)) (p := y9_3) (y := (y9_3 + 1)) (nu := z_40) (w := (g 0) 0) (by omega) (by omega) (runL_eq (by omega) hL (by omega)) hW; exact ⟨rfl, by omega, by omega, q.2, q.1⟩) | (have q := tok_num (B := B) (n := (v 3)) (p := y9_3) (y := (y9_3 + 1)) (nu := z_40) (w := (g 0) 0) (by omega) (by omega) (runD_eq (by omega) hL (by omega)) hW; first | exact ⟨rfl, by omega, by omega, q.2.2, q.1 (by omega)⟩ | exact ⟨rfl, by omega, by omega, q.2.2, q.2.1 (by omega)⟩) | (have q := tok_sign (B := B) (n := (v 3)) (p := y9_3) (nu := z_40) (w := (g 0) 0) (by omega) (by omega) (by omega); exact ⟨rfl, by omega, by omega, q.2, q.1⟩) | (have q := tok_bad (B := B) (n := (v 3)) (p := y9_3) (nu := z_40) (w := (g 0) 0) (by omega) (by omega) (by omega) (by omega); exact ⟨rfl, by omega, by omega, q.2, q.1⟩))⟩
                            · refine lv_iload_n hx hb dX11_next_336 rfl (lv_at hl 0 rfl) ?_
                              refine lv_bipush (v := iI 59) hx hb dX11_next_337 (by decide) ?_
                              refine gi_cne (tgt := 346) hx hb dX11_next_339 (by decide) (by omega) (by decide) (fun c_51 => ?_) (fun c_51 => ?_)
                              · refine lv_iconst (v := iI 4) hx hb dX11_next_346 rfl ?_
                                refine mdP_sort (v1 := (va_up (va_up (va_up (va_up v 8 4) 9 y9_3) 10 (y9_3 + 1)) 11 z_40)) C hP hD hS mF_X11_165 (by decide) rfl (Or.inr (gR_up (V := mdV) (F := mdF) (gR_up (V := mdV) (F := mdF) (gR_up (V := mdV) (F := mdF) (gR_up (V := mdV) (F := mdF) ⟨hok.1, hok.2⟩ 8 (show 0 ≤ 4 ∧ 4 ≤ 4 from by decide)) 9 (hP.2.1 9)) 10 (hP.2.1 10)) 11 (hP.2.1 11))) dX11_next_347 (fun H locs hP hS => ?_)
                                exact g_vret hQ C hr hlocks hP hS dX11_next_350 ⟨4, y9_3, (y9_3 + 1), z_40, (g 0), rfl, rfl, rfl, rfl, (by rw [hA]; first | exact ⟨rfl, by omega, by omega, (tE_N (by omega)).symm, tok_end (by omega)⟩ | (have q := tok_word (B := B) (n := (v 3)) (p := y9_3) (y := (y9_3 + 1)) (nu := z_40) (w := (g 0) 0) (by omega) (by omega) (runL_eq (by omega) hL (by omega)) hW; exact ⟨rfl, by omega, by omega, q.2, q.1⟩) | (have q := tok_num (B := B) (n := (v 3)) (p := y9_3) (y := (y9_3 + 1)) (nu := z_40) (w := (g 0) 0) (by omega) (by omega) (runD_eq (by omega) hL (by omega)) hW; first | exact ⟨rfl, by omega, by omega, q.2.2, q.1 (by omega)⟩ | exact ⟨rfl, by omega, by omega, q.2.2, q.2.1 (by omega)⟩) | (have q := tok_sign (B := B) (n := (v 3)) (p := y9_3) (nu := z_40) (w := (g 0) 0) (by omega) (by omega) (by omega); exact ⟨rfl, by omega, by omega, q.2, q.1⟩) | (have q := tok_bad (B := B) (n := (v 3)) (p := y9_3) (nu := z_40) (w := (g 0) 0) (by omega) (by omega) (by omega) (by omega); exact ⟨rfl, by omega, by omega, q.2, q.1⟩))⟩
                              · refine lv_iconst (v := iI 3) hx hb dX11_next_342 rfl ?_
                                refine lv_goto (tgt := 347) hx hb dX11_next_343 (by decide) ?_
                                refine mdP_sort (v1 := (va_up (va_up (va_up (va_up v 8 3) 9 y9_3) 10 (y9_3 + 1)) 11 z_40)) C hP hD hS mF_X11_165 (by decide) rfl (Or.inr (gR_up (V := mdV) (F := mdF) (gR_up (V := mdV) (F := mdF) (gR_up (V := mdV) (F := mdF) (gR_up (V := mdV) (F := mdF) ⟨hok.1, hok.2⟩ 8 (show 0 ≤ 3 ∧ 3 ≤ 4 from by decide)) 9 (hP.2.1 9)) 10 (hP.2.1 10)) 11 (hP.2.1 11))) dX11_next_347 (fun H locs hP hS => ?_)
                                exact g_vret hQ C hr hlocks hP hS dX11_next_350 ⟨3, y9_3, (y9_3 + 1), z_40, (g 0), rfl, rfl, rfl, rfl, (by rw [hA]; first | exact ⟨rfl, by omega, by omega, (tE_N (by omega)).symm, tok_end (by omega)⟩ | (have q := tok_word (B := B) (n := (v 3)) (p := y9_3) (y := (y9_3 + 1)) (nu := z_40) (w := (g 0) 0) (by omega) (by omega) (runL_eq (by omega) hL (by omega)) hW; exact ⟨rfl, by omega, by omega, q.2, q.1⟩) | (have q := tok_num (B := B) (n := (v 3)) (p := y9_3) (y := (y9_3 + 1)) (nu := z_40) (w := (g 0) 0) (by omega) (by omega) (runD_eq (by omega) hL (by omega)) hW; first | exact ⟨rfl, by omega, by omega, q.2.2, q.1 (by omega)⟩ | exact ⟨rfl, by omega, by omega, q.2.2, q.2.1 (by omega)⟩) | (have q := tok_sign (B := B) (n := (v 3)) (p := y9_3) (nu := z_40) (w := (g 0) 0) (by omega) (by omega) (by omega); exact ⟨rfl, by omega, by omega, q.2, q.1⟩) | (have q := tok_bad (B := B) (n := (v 3)) (p := y9_3) (nu := z_40) (w := (g 0) 0) (by omega) (by omega) (by omega) (by omega); exact ⟨rfl, by omega, by omega, q.2, q.1⟩))⟩
                · have v_43 := w_43.elim (fun q => q.2) (fun q => absurd q.1 c_44)
                  clear w_43 p0_43
                  refine lv_aload_n hx hb dX11_next_189 rfl (lv_at hl 1 rfl) ?_
                  refine lv_iconst (v := iI 0) hx hb dX11_next_190 rfl ?_
                  refine mdP_number (v1 := (va_up (va_up (va_up (va_up v 8 (v 8)) 9 y9_3) 10 y9_3) 11 0)) C hP hD hS mF_X11_185 (by decide) rfl (Or.inr (gR_up (V := mdV) (F := mdF) (gR_up (V := mdV) (F := mdF) (gR_up (V := mdV) (F := mdF) (gR_up (V := mdV) (F := mdF) ⟨hok.1, hok.2⟩ 8 (hP.2.1 8)) 9 (hP.2.1 9)) 10 (hP.2.1 10)) 11 (show 0 ≤ 0 ∧ 0 ≤ 999999 from by decide))) dX11_next_191 (fun H locs hP hS => ?_)
                  have L_52 : ∀ (n : Nat) (y10_52 : Int) (y11_52 : Int) (H : Heap) (locs : List Loc) (ls : Array Slot), (v 3) - y10_52 < (n : Int) → (y9_3 ≤ y10_52 ∧ y10_52 ≤ (v 3)) → (∀ j, y9_3 ≤ j → j < y10_52 → j < (v 3) ∧ pD (B j)) → (y11_52 = nV B y9_3 (y10_52 - y9_3).toNat) → gWd D (mdT k ad) (va_up (va_up (va_up (va_up v 8 (v 8)) 9 y9_3) 10 y10_52) 11 y11_52) f (va_up g 0 (g 0)) H → va_S A s.heap H locs → lv_has ls 2 [(0, .ref (ad 0)), (1, .int (iI z_40))] → W p l e (gRm 1 21) s m args below meth c H locs 0 0 Q (F0 m 194 ls []) := by
                    intro n
                    induction n with
                    | zero =>
                      intro y10_52 y11_52 H locs ls hn_52 i52_0 i52_1 i52_2 hP hS hl
                      have ry10_52 : 0 ≤ y10_52 ∧ y10_52 ≤ 700 := hP.2.1 10
                      have ry11_52 : 0 ≤ y11_52 ∧ y11_52 ≤ 999999 := hP.2.1 11
                      exfalso; omega
                    | succ n ih_194 =>
                      intro y10_52 y11_52 H locs ls hn_52 i52_0 i52_1 i52_2 hP hS hl
                      have ry10_52 : 0 ≤ y10_52 ∧ y10_52 ≤ 700 := hP.2.1 10
                      have ry11_52 : 0 ≤ y11_52 ∧ y11_52 ≤ 999999 := hP.2.1 11
                      have hL := i52_1
                      have hW := i52_2
                      have hR := nV_rng (B := B) (q := y9_3) (y10_52 - y9_3).toNat (runD_mem (fun j b1 b2 => (hL j b1 b2).2) (by omega))
                      refine lv_aload_n hx hb dX11_next_194 rfl (lv_at hl 0 rfl) ?_
                      refine lv_aload_n hx hb dX11_next_195 rfl (lv_at hl 0 rfl) ?_
                      refine mdG_behind C hP mF_X11_155 dX11_next_196 ?_
                      show W p l e (gRm 1 21) s m args below meth c _ _ 0 0 Q (F0 m 199 ls [.int (iI y10_52), .ref (ad 0)])
                      have r_53 : 0 ≤ y10_52 ∧ y10_52 ≤ 700 := hP.2.1 10
                      refine g_cv (As := [.int (iI y10_52)]) (rest := []) (n := 1) C hml (n_look l D k A ad hD (va_up (va_up (va_up (va_up v 8 (v 8)) 9 y9_3) 10 y10_52) 11 y11_52) f (va_up g 0 (g 0)) y10_52 B (by omega) (show ∀ k, (f 0) k % 256 = B k from hB) (show 0 ≤ y10_52 from by omega)) mM_X11_161 mI_X11_look mE_X11_look mN_X11 mC_X11_look (by decide +kernel) 0 (ci := 11) rfl rfl hP hS (fun _ h => h) ⟨Nat.le_of_ble_eq_true rfl, Nat.le_of_ble_eq_true rfl⟩ ⟨Nat.zero_le _, Nat.zero_le _⟩ hl.1 rfl rfl (Nat.le_of_ble_eq_true rfl) dX11_next_199 (fun r_54 v_54 f_54 g_54 H locs hq_54 hP _ hS => ?_)
                      obtain ⟨z_54, rfl, rfl, rfl, rfl, p0_54, p1_54, p2_54⟩ := hq_54
                      show W p l e (gRm 1 21) s m args below meth c _ _ 0 0 Q (F0 m 202 ls [.int (iI z_54)])
                      replace p0_54 : 0 ≤ z_54 ∧ z_54 ≤ 255 := p0_54
                      replace p1_54 : y10_52 < (v 3) → z_54 = B y10_52 := p1_54
                      replace p2_54 : (v 3) ≤ y10_52 → z_54 = 0 := p2_54
                      refine g_cs (As := [.int (iI z_54)]) (rest := []) (n := 1) C hml (n_isDigit l D k A ad hD (va_up (va_up (va_up (va_up v 8 (v 8)) 9 y9_3) 10 y10_52) 11 y11_52) f (va_up g 0 (g 0)) z_54 (by omega)) mM_X11_182 mS_X11_isDigit mN_X11 mC_X11_isDigit (by decide +kernel) hP hS (fun _ h => h) ⟨Nat.le_of_ble_eq_true rfl, Nat.le_of_ble_eq_true rfl⟩ ⟨Nat.zero_le _, Nat.zero_le _⟩ hl.1 rfl rfl (Nat.le_of_ble_eq_true rfl) dX11_next_202 (fun r_55 v_55 f_55 g_55 H locs hq_55 hP _ hS => ?_)
                      obtain ⟨z_55, rfl, rfl, rfl, rfl, p0_55⟩ := hq_55
                      show W p l e (gRm 1 21) s m args below meth c _ _ 0 0 Q (F0 m 205 ls [.int (iI z_55)])
                      replace p0_55 : z_55 = (if 48 ≤ z_54 ∧ z_54 ≤ 57 then 1 else 0) := p0_55
                      have w_55 := gif (P := 48 ≤ z_54 ∧ z_54 ≤ 57) p0_55
                      have hz_55 : inR z_55 := (by first | omega | (rw [p0_55]; split <;> omega))
                      refine gi_zeq (tgt := 258) hx hb dX11_next_205 (by decide) (by omega) (fun c_56 => ?_) (fun c_56 => ?_)
                      · have v_55 := w_55.elim (fun q => absurd (q.1.symm.trans c_56) (by decide)) (fun q => q.2)
                        clear w_55 p0_55
                        refine lv_aload_n hx hb dX11_next_258 rfl (lv_at hl 0 rfl) ?_
                        refine lv_aload_n hx hb dX11_next_259 rfl (lv_at hl 0 rfl) ?_
                        refine mdG_behind C hP mF_X11_155 dX11_next_260 ?_
                        show W p l e (gRm 1 21) s m args below meth c _ _ 0 0 Q (F0 m 263 ls [.int (iI y10_52), .ref (ad 0)])
                        refine lv_aload_n hx hb dX11_next_263 rfl (lv_at hl 0 rfl) ?_
                        refine mdG_at C hP mF_X11_158 dX11_next_264 ?_
                        show W p l e (gRm 1 21) s m args below meth c _ _ 0 0 Q (F0 m 267 ls [.int (iI y9_3), .int (iI y10_52), .ref (ad 0)])
                        refine gi_sub (z := (y10_52 - y9_3)) hx hb dX11_next_267 rfl ?_
                        refine lv_bipush (v := iI 6) hx hb dX11_next_268 (by decide) ?_
                        refine gi_cle (tgt := 277) hx hb dX11_next_270 (by decide) (by omega) (by decide) (fun c_57 => ?_) (fun c_57 => ?_)
                        · refine lv_iconst (v := iI 2) hx hb dX11_next_277 rfl ?_
                          refine mdP_sort (v1 := (va_up (va_up (va_up (va_up v 8 2) 9 y9_3) 10 y10_52) 11 y11_52)) C hP hD hS mF_X11_165 (by decide) rfl (Or.inr (gR_up (V := mdV) (F := mdF) (gR_up (V := mdV) (F := mdF) (gR_up (V := mdV) (F := mdF) (gR_up (V := mdV) (F := mdF) ⟨hok.1, hok.2⟩ 8 (show 0 ≤ 2 ∧ 2 ≤ 4 from by decide)) 9 (hP.2.1 9)) 10 (hP.2.1 10)) 11 (hP.2.1 11))) dX11_next_278 (fun H locs hP hS => ?_)
                          refine lv_goto (tgt := 350) hx hb dX11_next_281 (by decide) ?_
                          exact g_vret hQ C hr hlocks hP hS dX11_next_350 ⟨2, y9_3, y10_52, y11_52, (g 0), rfl, rfl, rfl, rfl, (by rw [hA]; first | exact ⟨rfl, by omega, by omega, (tE_N (by omega)).symm, tok_end (by omega)⟩ | (have q := tok_word (B := B) (n := (v 3)) (p := y9_3) (y := y10_52) (nu := y11_52) (w := (g 0) 0) (by omega) (by omega) (runL_eq (by omega) hL (by omega)) hW; exact ⟨rfl, by omega, by omega, q.2, q.1⟩) | (have q := tok_num (B := B) (n := (v 3)) (p := y9_3) (y := y10_52) (nu := y11_52) (w := (g 0) 0) (by omega) (by omega) (runD_eq (by omega) hL (by omega)) hW; first | exact ⟨rfl, by omega, by omega, q.2.2, q.1 (by omega)⟩ | exact ⟨rfl, by omega, by omega, q.2.2, q.2.1 (by omega)⟩) | (have q := tok_sign (B := B) (n := (v 3)) (p := y9_3) (nu := y11_52) (w := (g 0) 0) (by omega) (by omega) (by omega); exact ⟨rfl, by omega, by omega, q.2, q.1⟩) | (have q := tok_bad (B := B) (n := (v 3)) (p := y9_3) (nu := y11_52) (w := (g 0) 0) (by omega) (by omega) (by omega) (by omega); exact ⟨rfl, by omega, by omega, q.2, q.1⟩))⟩
                        · refine lv_iconst (v := iI 4) hx hb dX11_next_273 rfl ?_
                          refine lv_goto (tgt := 278) hx hb dX11_next_274 (by decide) ?_
                          refine mdP_sort (v1 := (va_up (va_up (va_up (va_up v 8 4) 9 y9_3) 10 y10_52) 11 y11_52)) C hP hD hS mF_X11_165 (by decide) rfl (Or.inr (gR_up (V := mdV) (F := mdF) (gR_up (V := mdV) (F := mdF) (gR_up (V := mdV) (F := mdF) (gR_up (V := mdV) (F := mdF) ⟨hok.1, hok.2⟩ 8 (show 0 ≤ 4 ∧ 4 ≤ 4 from by decide)) 9 (hP.2.1 9)) 10 (hP.2.1 10)) 11 (hP.2.1 11))) dX11_next_278 (fun H locs hP hS => ?_)
                          refine lv_goto (tgt := 350) hx hb dX11_next_281 (by decide) ?_
                          exact g_vret hQ C hr hlocks hP hS dX11_next_350 ⟨4, y9_3, y10_52, y11_52, (g 0), rfl, rfl, rfl, rfl, (by rw [hA]; first | exact ⟨rfl, by omega, by omega, (tE_N (by omega)).symm, tok_end (by omega)⟩ | (have q := tok_word (B := B) (n := (v 3)) (p := y9_3) (y := y10_52) (nu := y11_52) (w := (g 0) 0) (by omega) (by omega) (runL_eq (by omega) hL (by omega)) hW; exact ⟨rfl, by omega, by omega, q.2, q.1⟩) | (have q := tok_num (B := B) (n := (v 3)) (p := y9_3) (y := y10_52) (nu := y11_52) (w := (g 0) 0) (by omega) (by omega) (runD_eq (by omega) hL (by omega)) hW; first | exact ⟨rfl, by omega, by omega, q.2.2, q.1 (by omega)⟩ | exact ⟨rfl, by omega, by omega, q.2.2, q.2.1 (by omega)⟩) | (have q := tok_sign (B := B) (n := (v 3)) (p := y9_3) (nu := y11_52) (w := (g 0) 0) (by omega) (by omega) (by omega); exact ⟨rfl, by omega, by omega, q.2, q.1⟩) | (have q := tok_bad (B := B) (n := (v 3)) (p := y9_3) (nu := y11_52) (w := (g 0) 0) (by omega) (by omega) (by omega) (by omega); exact ⟨rfl, by omega, by omega, q.2, q.1⟩))⟩
                      · have v_55 := w_55.elim (fun q => q.2) (fun q => absurd q.1 c_56)
                        clear w_55 p0_55
                        refine lv_aload_n hx hb dX11_next_208 rfl (lv_at hl 0 rfl) ?_
                        refine mdG_behind C hP mF_X11_155 dX11_next_209 ?_
                        show W p l e (gRm 1 21) s m args below meth c _ _ 0 0 Q (F0 m 212 ls [.int (iI y10_52)])
                        refine lv_aload_n hx hb dX11_next_212 rfl (lv_at hl 0 rfl) ?_
                        refine mdG_at C hP mF_X11_158 dX11_next_213 ?_
                        show W p l e (gRm 1 21) s m args below meth c _ _ 0 0 Q (F0 m 216 ls [.int (iI y9_3), .int (iI y10_52)])
                        refine gi_sub (z := (y10_52 - y9_3)) hx hb dX11_next_216 rfl ?_
                        refine lv_bipush (v := iI 6) hx hb dX11_next_217 (by decide) ?_
                        refine gi_cge (tgt := 245) hx hb dX11_next_219 (by decide) (by omega) (by decide) (fun c_58 => ?_) (fun c_58 => ?_)
                        · refine lv_aload_n hx hb dX11_next_245 rfl (lv_at hl 0 rfl) ?_
                          refine lv_dup hx hb dX11_next_246 rfl ?_
                          refine mdG_behind C hP mF_X11_155 dX11_next_247 ?_
                          show W p l e (gRm 1 21) s m args below meth c _ _ 0 0 Q (F0 m 250 ls [.int (iI y10_52), .ref (ad 0)])
                          refine lv_iconst (v := iI 1) hx hb dX11_next_250 rfl ?_
                          refine gi_add (z := (y10_52 + 1)) hx hb dX11_next_251 rfl ?_
                          refine mdP_behind (v1 := (va_up (va_up (va_up (va_up v 8 (v 8)) 9 y9_3) 10 (y10_52 + 1)) 11 y11_52)) C hP hD hS mF_X11_155 (by omega) rfl (Or.inr (gR_up (V := mdV) (F := mdF) (gR_up (V := mdV) (F := mdF) (gR_up (V := mdV) (F := mdF) (gR_up (V := mdV) (F := mdF) ⟨hok.1, hok.2⟩ 8 (hP.2.1 8)) 9 (hP.2.1 9)) 10 (show 0 ≤ (y10_52 + 1) ∧ (y10_52 + 1) ≤ 700 from by omega)) 11 (hP.2.1 11))) dX11_next_252 (fun H locs hP hS => ?_)
                          refine lv_goto (tgt := 194) hx hb dX11_next_255 (by decide) ?_
                          exact ih_194 (y10_52 + 1) y11_52 _ _ _ (by omega) (by omega) (run_snoc hL (by omega) (by omega)) (by rw [nV_up (by omega)]; first | (rw [if_pos (by omega)]; omega) | (rw [if_neg (by omega)]; omega)) hP hS (lv_sub hl [0, 1] rfl)
                        · refine lv_aload_n hx hb dX11_next_222 rfl (lv_at hl 0 rfl) ?_
                          refine lv_bipush (v := iI 10) hx hb dX11_next_223 (by decide) ?_
                          refine lv_aload_n hx hb dX11_next_225 rfl (lv_at hl 0 rfl) ?_
                          refine mdG_number C hP mF_X11_185 dX11_next_226 ?_
                          show W p l e (gRm 1 21) s m args below meth c _ _ 0 0 Q (F0 m 229 ls [.int (iI y11_52), .int (iI 10), .ref (ad 0)])
                          have r_59 : 0 ≤ y11_52 ∧ y11_52 ≤ 999999 := hP.2.1 11
                          refine gi_mul (z := (10 * y11_52)) hx hb dX11_next_229 rfl ?_
                          refine lv_aload_n hx hb dX11_next_230 rfl (lv_at hl 0 rfl) ?_
                          refine lv_aload_n hx hb dX11_next_231 rfl (lv_at hl 0 rfl) ?_
                          refine mdG_behind C hP mF_X11_155 dX11_next_232 ?_
                          show W p l e (gRm 1 21) s m args below meth c _ _ 0 0 Q (F0 m 235 ls [.int (iI y10_52), .ref (ad 0), .int (iI (10 * y11_52)), .ref (ad 0)])
                          refine g_cv (As := [.int (iI y10_52)]) (rest := [.int (iI (10 * y11_52)), .ref (ad 0)]) (n := 1) C hml (n_look l D k A ad hD (va_up (va_up (va_up (va_up v 8 (v 8)) 9 y9_3) 10 y10_52) 11 y11_52) f (va_up g 0 (g 0)) y10_52 B (by omega) (show ∀ k, (f 0) k % 256 = B k from hB) (show 0 ≤ y10_52 from by omega)) mM_X11_161 mI_X11_look mE_X11_look mN_X11 mC_X11_look (by decide +kernel) 0 (ci := 11) rfl rfl hP hS (fun _ h => h) ⟨Nat.le_of_ble_eq_true rfl, Nat.le_of_ble_eq_true rfl⟩ ⟨Nat.zero_le _, Nat.zero_le _⟩ hl.1 rfl rfl (Nat.le_of_ble_eq_true rfl) dX11_next_235 (fun r_60 v_60 f_60 g_60 H locs hq_60 hP _ hS => ?_)
                          obtain ⟨z_60, rfl, rfl, rfl, rfl, p0_60, p1_60, p2_60⟩ := hq_60
                          show W p l e (gRm 1 21) s m args below meth c _ _ 0 0 Q (F0 m 238 ls [.int (iI z_60), .int (iI (10 * y11_52)), .ref (ad 0)])
                          replace p0_60 : 0 ≤ z_60 ∧ z_60 ≤ 255 := p0_60
                          replace p1_60 : y10_52 < (v 3) → z_60 = B y10_52 := p1_60
                          replace p2_60 : (v 3) ≤ y10_52 → z_60 = 0 := p2_60
                          refine gi_add (z := ((10 * y11_52) + z_60)) hx hb dX11_next_238 rfl ?_
                          refine lv_bipush (v := iI 48) hx hb dX11_next_239 (by decide) ?_
                          refine gi_sub (z := (((10 * y11_52) + z_60) - 48)) hx hb dX11_next_241 rfl ?_
                          refine mdP_number (v1 := (va_up (va_up (va_up (va_up v 8 (v 8)) 9 y9_3) 10 y10_52) 11 (((10 * y11_52) + z_60) - 48))) C hP hD hS mF_X11_185 (by omega) rfl (Or.inr (gR_up (V := mdV) (F := mdF) (gR_up (V := mdV) (F := mdF) (gR_up (V := mdV) (F := mdF) (gR_up (V := mdV) (F := mdF) ⟨hok.1, hok.2⟩ 8 (hP.2.1 8)) 9 (hP.2.1 9)) 10 (hP.2.1 10)) 11 (show 0 ≤ (((10 * y11_52) + z_60) - 48) ∧ (((10 * y11_52) + z_60) - 48) ≤ 999999 from by omega))) dX11_next_242 (fun H locs hP hS => ?_)
                          refine lv_aload_n hx hb dX11_next_245 rfl (lv_at hl 0 rfl) ?_
                          refine lv_dup hx hb dX11_next_246 rfl ?_
                          refine mdG_behind C hP mF_X11_155 dX11_next_247 ?_
                          show W p l e (gRm 1 21) s m args below meth c _ _ 0 0 Q (F0 m 250 ls [.int (iI y10_52), .ref (ad 0)])
                          refine lv_iconst (v := iI 1) hx hb dX11_next_250 rfl ?_
                          refine gi_add (z := (y10_52 + 1)) hx hb dX11_next_251 rfl ?_
                          refine mdP_behind (v1 := (va_up (va_up (va_up (va_up v 8 (v 8)) 9 y9_3) 10 (y10_52 + 1)) 11 (((10 * y11_52) + z_60) - 48))) C hP hD hS mF_X11_155 (by omega) rfl (Or.inr (gR_up (V := mdV) (F := mdF) (gR_up (V := mdV) (F := mdF) (gR_up (V := mdV) (F := mdF) (gR_up (V := mdV) (F := mdF) ⟨hok.1, hok.2⟩ 8 (hP.2.1 8)) 9 (hP.2.1 9)) 10 (show 0 ≤ (y10_52 + 1) ∧ (y10_52 + 1) ≤ 700 from by omega)) 11 (hP.2.1 11))) dX11_next_252 (fun H locs hP hS => ?_)
                          refine lv_goto (tgt := 194) hx hb dX11_next_255 (by decide) ?_
                          exact ih_194 (y10_52 + 1) (((10 * y11_52) + z_60) - 48) _ _ _ (by omega) (by omega) (run_snoc hL (by omega) (by omega)) (by rw [nV_up (by omega)]; first | (rw [if_pos (by omega)]; omega) | (rw [if_neg (by omega)]; omega)) hP hS (lv_sub hl [0, 1] rfl)
                  exact L_52 701 y9_3 0 _ _ _ (by omega) (by omega) run_none (by rw [show (y9_3 - y9_3).toNat = 0 by omega]; rfl) hP hS (lv_sub hl [1, 0] rfl)
              · have v_41 := w_41.elim (fun q => q.2) (fun q => absurd q.1 c_42)
                clear w_41 p0_41
                refine lv_aload_n hx hb dX11_next_99 rfl (lv_at hl 1 rfl) ?_
                refine lv_iconst (v := iI 1) hx hb dX11_next_100 rfl ?_
                refine mdP_sort (v1 := (va_up (va_up (va_up (va_up v 8 1) 9 y9_3) 10 y9_3) 11 (v 11))) C hP hD hS mF_X11_165 (by decide) rfl (Or.inr (gR_up (V := mdV) (F := mdF) (gR_up (V := mdV) (F := mdF) (gR_up (V := mdV) (F := mdF) (gR_up (V := mdV) (F := mdF) ⟨hok.1, hok.2⟩ 8 (show 0 ≤ 1 ∧ 1 ≤ 4 from by decide)) 9 (hP.2.1 9)) 10 (hP.2.1 10)) 11 (hP.2.1 11))) dX11_next_101 (fun H locs hP hS => ?_)
                refine lv_aload_n hx hb dX11_next_104 rfl (lv_at hl 1 rfl) ?_
                refine lv_lconst (v := iL 0) hx hb dX11_next_105 (by decide) ?_
                refine mdP_word (g1 := (va_up g 0 (fun _ => 0))) C hP hD hS mF_X11_172 rfl dX11_next_106 (fun H locs hP hS => ?_)
                have L_61 : ∀ (n : Nat) (y10_61 : Int) (d0_61 : Int → Int) (H : Heap) (locs : List Loc) (ls : Array Slot), (v 3) - y10_61 < (n : Int) → (y9_3 ≤ y10_61 ∧ y10_61 ≤ (v 3)) → (∀ j, y9_3 ≤ j → j < y10_61 → j < (v 3) ∧ pL (B j)) → (d0_61 0 = hs B y9_3 (y10_61 - y9_3).toNat) → gWd D (mdT k ad) (va_up (va_up (va_up (va_up v 8 1) 9 y9_3) 10 y10_61) 11 (v 11)) f (va_up g 0 d0_61) H → va_S A s.heap H locs → lv_has ls 2 [(0, .ref (ad 0)), (1, .int (iI z_40))] → W p l e (gRm 1 21) s m args below meth c H locs 0 0 Q (F0 m 109 ls []) := by
                  intro n
                  induction n with
                  | zero =>
                    intro y10_61 d0_61 H locs ls hn_61 i61_0 i61_1 i61_2 hP hS hl
                    have ry10_61 : 0 ≤ y10_61 ∧ y10_61 ≤ 700 := hP.2.1 10
                    exfalso; omega
                  | succ n ih_109 =>
                    intro y10_61 d0_61 H locs ls hn_61 i61_0 i61_1 i61_2 hP hS hl
                    have ry10_61 : 0 ≤ y10_61 ∧ y10_61 ≤ 700 := hP.2.1 10
                    have hL := i61_1
                    have hW := i61_2
                    refine lv_aload_n hx hb dX11_next_109 rfl (lv_at hl 0 rfl) ?_
                    refine lv_aload_n hx hb dX11_next_110 rfl (lv_at hl 0 rfl) ?_
                    refine mdG_behind C hP mF_X11_155 dX11_next_111 ?_
                    show W p l e (gRm 1 21) s m args below meth c _ _ 0 0 Q (F0 m 114 ls [.int (iI y10_61), .ref (ad 0)])
                    have r_62 : 0 ≤ y10_61 ∧ y10_61 ≤ 700 := hP.2.1 10
                    refine g_cv (As := [.int (iI y10_61)]) (rest := []) (n := 1) C hml (n_look l D k A ad hD (va_up (va_up (va_up (va_up v 8 1) 9 y9_3) 10 y10_61) 11 (v 11)) f (va_up g 0 d0_61) y10_61 B (by omega) (show ∀ k, (f 0) k % 256 = B k from hB) (show 0 ≤ y10_61 from by omega)) mM_X11_161 mI_X11_look mE_X11_look mN_X11 mC_X11_look (by decide +kernel) 0 (ci := 11) rfl rfl hP hS (fun _ h => h) ⟨Nat.le_of_ble_eq_true rfl, Nat.le_of_ble_eq_true rfl⟩ ⟨Nat.zero_le _, Nat.zero_le _⟩ hl.1 rfl rfl (Nat.le_of_ble_eq_true rfl) dX11_next_114 (fun r_63 v_63 f_63 g_63 H locs hq_63 hP _ hS => ?_)
                    obtain ⟨z_63, rfl, rfl, rfl, rfl, p0_63, p1_63, p2_63⟩ := hq_63
                    show W p l e (gRm 1 21) s m args below meth c _ _ 0 0 Q (F0 m 117 ls [.int (iI z_63)])
                    replace p0_63 : 0 ≤ z_63 ∧ z_63 ≤ 255 := p0_63
                    replace p1_63 : y10_61 < (v 3) → z_63 = B y10_61 := p1_63
                    replace p2_63 : (v 3) ≤ y10_61 → z_63 = 0 := p2_63
                    refine g_cs (As := [.int (iI z_63)]) (rest := []) (n := 1) C hml (n_isLetter l D k A ad hD (va_up (va_up (va_up (va_up v 8 1) 9 y9_3) 10 y10_61) 11 (v 11)) f (va_up g 0 d0_61) z_63 (by omega)) mM_X11_168 mS_X11_isLetter mN_X11 mC_X11_isLetter (by decide +kernel) hP hS (fun _ h => h) ⟨Nat.le_of_ble_eq_true rfl, Nat.le_of_ble_eq_true rfl⟩ ⟨Nat.zero_le _, Nat.zero_le _⟩ hl.1 rfl rfl (Nat.le_of_ble_eq_true rfl) dX11_next_117 (fun r_64 v_64 f_64 g_64 H locs hq_64 hP _ hS => ?_)
                    obtain ⟨z_64, rfl, rfl, rfl, rfl, p0_64⟩ := hq_64
                    show W p l e (gRm 1 21) s m args below meth c _ _ 0 0 Q (F0 m 120 ls [.int (iI z_64)])
                    replace p0_64 : z_64 = (if 97 ≤ z_63 ∧ z_63 ≤ 122 then 1 else 0) := p0_64
                    have w_64 := gif (P := 97 ≤ z_63 ∧ z_63 ≤ 122) p0_64
                    have hz_64 : inR z_64 := (by first | omega | (rw [p0_64]; split <;> omega))
                    refine gi_zeq (tgt := 350) hx hb dX11_next_120 (by decide) (by omega) (fun c_65 => ?_) (fun c_65 => ?_)
                    · have v_64 := w_64.elim (fun q => absurd (q.1.symm.trans c_65) (by decide)) (fun q => q.2)
                      clear w_64 p0_64
                      exact g_vret hQ C hr hlocks hP hS dX11_next_350 ⟨1, y9_3, y10_61, (v 11), d0_61, rfl, rfl, rfl, rfl, (by rw [hA]; first | exact ⟨rfl, by omega, by omega, (tE_N (by omega)).symm, tok_end (by omega)⟩ | (have q := tok_word (B := B) (n := (v 3)) (p := y9_3) (y := y10_61) (nu := (v 11)) (w := d0_61 0) (by omega) (by omega) (runL_eq (by omega) hL (by omega)) hW; exact ⟨rfl, by omega, by omega, q.2, q.1⟩) | (have q := tok_num (B := B) (n := (v 3)) (p := y9_3) (y := y10_61) (nu := (v 11)) (w := d0_61 0) (by omega) (by omega) (runD_eq (by omega) hL (by omega)) hW; first | exact ⟨rfl, by omega, by omega, q.2.2, q.1 (by omega)⟩ | exact ⟨rfl, by omega, by omega, q.2.2, q.2.1 (by omega)⟩) | (have q := tok_sign (B := B) (n := (v 3)) (p := y9_3) (nu := (v 11)) (w := d0_61 0) (by omega) (by omega) (by omega); exact ⟨rfl, by omega, by omega, q.2, q.1⟩) | (have q := tok_bad (B := B) (n := (v 3)) (p := y9_3) (nu := (v 11)) (w := d0_61 0) (by omega) (by omega) (by omega) (by omega); exact ⟨rfl, by omega, by omega, q.2, q.1⟩))⟩
                    · have v_64 := w_64.elim (fun q => q.2) (fun q => absurd q.1 c_65)
                      clear w_64 p0_64
                      refine lv_aload_n hx hb dX11_next_123 rfl (lv_at hl 0 rfl) ?_
                      refine lv_aload_n hx hb dX11_next_124 rfl (lv_at hl 0 rfl) ?_
                      refine mdG_behind C hP mF_X11_155 dX11_next_125 ?_
                      show W p l e (gRm 1 21) s m args below meth c _ _ 0 0 Q (F0 m 128 ls [.int (iI y10_61), .ref (ad 0)])
                      refine lv_aload_n hx hb dX11_next_128 rfl (lv_at hl 0 rfl) ?_
                      refine mdG_at C hP mF_X11_158 dX11_next_129 ?_
                      show W p l e (gRm 1 21) s m args below meth c _ _ 0 0 Q (F0 m 132 ls [.int (iI y9_3), .int (iI y10_61), .ref (ad 0)])
                      refine gi_sub (z := (y10_61 - y9_3)) hx hb dX11_next_132 rfl ?_
                      refine lv_bipush (v := iI 12) hx hb dX11_next_133 (by decide) ?_
                      refine gi_cge (tgt := 163) hx hb dX11_next_135 (by decide) (by omega) (by decide) (fun c_66 => ?_) (fun c_66 => ?_)
                      · refine lv_ldc2 (v := iL (-1)) hx hb C.2.2.2.1 (C.2.2.1 _ (show Cond.constantLong RX11 180 (iL (-1)) ∈ gWs from mD_X11_180)) dX11_next_163 ?_
                        refine mdP_word (g1 := (va_up g 0 (fun _ => (-1)))) C hP hD hS mF_X11_172 rfl dX11_next_166 (fun H locs hP hS => ?_)
                        refine lv_aload_n hx hb dX11_next_169 rfl (lv_at hl 0 rfl) ?_
                        refine lv_dup hx hb dX11_next_170 rfl ?_
                        refine mdG_behind C hP mF_X11_155 dX11_next_171 ?_
                        show W p l e (gRm 1 21) s m args below meth c _ _ 0 0 Q (F0 m 174 ls [.int (iI y10_61), .ref (ad 0)])
                        refine lv_iconst (v := iI 1) hx hb dX11_next_174 rfl ?_
                        refine gi_add (z := (y10_61 + 1)) hx hb dX11_next_175 rfl ?_
                        refine mdP_behind (v1 := (va_up (va_up (va_up (va_up v 8 1) 9 y9_3) 10 (y10_61 + 1)) 11 (v 11))) C hP hD hS mF_X11_155 (by omega) rfl (Or.inr (gR_up (V := mdV) (F := mdF) (gR_up (V := mdV) (F := mdF) (gR_up (V := mdV) (F := mdF) (gR_up (V := mdV) (F := mdF) ⟨hok.1, hok.2⟩ 8 (hP.2.1 8)) 9 (hP.2.1 9)) 10 (show 0 ≤ (y10_61 + 1) ∧ (y10_61 + 1) ≤ 700 from by omega)) 11 (hP.2.1 11))) dX11_next_176 (fun H locs hP hS => ?_)
                        refine lv_goto (tgt := 109) hx hb dX11_next_179 (by decide) ?_
                        exact ih_109 (y10_61 + 1) (fun _ => (-1)) _ _ _ (by omega) (by omega) (run_snoc hL (by omega) (by omega)) (by rw [hs_up (by omega)]; first | (rw [if_pos (by omega)]; omega) | (rw [if_neg (by omega)])) hP hS (lv_sub hl [0, 1] rfl)
                      · refine lv_aload_n hx hb dX11_next_138 rfl (lv_at hl 0 rfl) ?_
                        refine mdG_word C hP mF_X11_172 dX11_next_139 ?_
                        show W p l e (gRm 1 21) s m args below meth c _ _ 0 0 Q (F0 m 142 ls [.long (iL (d0_61 0)), .ref (ad 0)])
                        refine lv_ldc2 (v := iL 32) hx hb C.2.2.2.1 (C.2.2.1 _ (show Cond.constantLong RX11 176 (iL 32) ∈ gWs from mD_X11_176)) dX11_next_142 ?_
                        refine gl_mul (z := ((d0_61 0) * 32)) hx hb dX11_next_145 rfl ?_
                        refine lv_aload_n hx hb dX11_next_146 rfl (lv_at hl 0 rfl) ?_
                        refine lv_aload_n hx hb dX11_next_147 rfl (lv_at hl 0 rfl) ?_
                        refine mdG_behind C hP mF_X11_155 dX11_next_148 ?_
                        show W p l e (gRm 1 21) s m args below meth c _ _ 0 0 Q (F0 m 151 ls [.int (iI y10_61), .ref (ad 0), .long (iL ((d0_61 0) * 32)), .ref (ad 0)])
                        refine g_cv (As := [.int (iI y10_61)]) (rest := [.long (iL ((d0_61 0) * 32)), .ref (ad 0)]) (n := 1) C hml (n_look l D k A ad hD (va_up (va_up (va_up (va_up v 8 1) 9 y9_3) 10 y10_61) 11 (v 11)) f (va_up g 0 d0_61) y10_61 B (by omega) (show ∀ k, (f 0) k % 256 = B k from hB) (show 0 ≤ y10_61 from by omega)) mM_X11_161 mI_X11_look mE_X11_look mN_X11 mC_X11_look (by decide +kernel) 0 (ci := 11) rfl rfl hP hS (fun _ h => h) ⟨Nat.le_of_ble_eq_true rfl, Nat.le_of_ble_eq_true rfl⟩ ⟨Nat.zero_le _, Nat.zero_le _⟩ hl.1 rfl rfl (Nat.le_of_ble_eq_true rfl) dX11_next_151 (fun r_67 v_67 f_67 g_67 H locs hq_67 hP _ hS => ?_)
                        obtain ⟨z_67, rfl, rfl, rfl, rfl, p0_67, p1_67, p2_67⟩ := hq_67
                        show W p l e (gRm 1 21) s m args below meth c _ _ 0 0 Q (F0 m 154 ls [.int (iI z_67), .long (iL ((d0_61 0) * 32)), .ref (ad 0)])
                        replace p0_67 : 0 ≤ z_67 ∧ z_67 ≤ 255 := p0_67
                        replace p1_67 : y10_61 < (v 3) → z_67 = B y10_61 := p1_67
                        replace p2_67 : (v 3) ≤ y10_61 → z_67 = 0 := p2_67
                        refine gi_i2l hx hb (by omega) dX11_next_154 ?_
                        refine gl_add (z := (((d0_61 0) * 32) + z_67)) hx hb dX11_next_155 rfl ?_
                        refine lv_ldc2 (v := iL 96) hx hb C.2.2.2.1 (C.2.2.1 _ (show Cond.constantLong RX11 178 (iL 96) ∈ gWs from mD_X11_178)) dX11_next_156 ?_
                        refine gl_sub (z := ((((d0_61 0) * 32) + z_67) - 96)) hx hb dX11_next_159 rfl ?_
                        refine lv_goto (tgt := 166) hx hb dX11_next_160 (by decide) ?_
                        refine mdP_word (g1 := (va_up g 0 (fun _ => ((((d0_61 0) * 32) + z_67) - 96)))) C hP hD hS mF_X11_172 rfl dX11_next_166 (fun H locs hP hS => ?_)
                        refine lv_aload_n hx hb dX11_next_169 rfl (lv_at hl 0 rfl) ?_
                        refine lv_dup hx hb dX11_next_170 rfl ?_
                        refine mdG_behind C hP mF_X11_155 dX11_next_171 ?_
                        show W p l e (gRm 1 21) s m args below meth c _ _ 0 0 Q (F0 m 174 ls [.int (iI y10_61), .ref (ad 0)])
                        refine lv_iconst (v := iI 1) hx hb dX11_next_174 rfl ?_
                        refine gi_add (z := (y10_61 + 1)) hx hb dX11_next_175 rfl ?_
                        refine mdP_behind (v1 := (va_up (va_up (va_up (va_up v 8 1) 9 y9_3) 10 (y10_61 + 1)) 11 (v 11))) C hP hD hS mF_X11_155 (by omega) rfl (Or.inr (gR_up (V := mdV) (F := mdF) (gR_up (V := mdV) (F := mdF) (gR_up (V := mdV) (F := mdF) (gR_up (V := mdV) (F := mdF) ⟨hok.1, hok.2⟩ 8 (hP.2.1 8)) 9 (hP.2.1 9)) 10 (show 0 ≤ (y10_61 + 1) ∧ (y10_61 + 1) ≤ 700 from by omega)) 11 (hP.2.1 11))) dX11_next_176 (fun H locs hP hS => ?_)
                        refine lv_goto (tgt := 109) hx hb dX11_next_179 (by decide) ?_
                        exact ih_109 (y10_61 + 1) (fun _ => ((((d0_61 0) * 32) + z_67) - 96)) _ _ _ (by omega) (by omega) (run_snoc hL (by omega) (by omega)) (by rw [hs_up (by omega)]; first | (rw [if_pos (by omega)]; omega) | (rw [if_neg (by omega)])) hP hS (lv_sub hl [0, 1] rfl)
                exact L_61 701 y9_3 (fun _ => 0) _ _ _ (by omega) (by omega) run_none (by rw [show (y9_3 - y9_3).toNat = 0 by omega]; rfl) hP hS (lv_sub hl [1, 0] rfl)
            · refine lv_aload_n hx hb dX11_next_77 rfl (lv_at hl 0 rfl) ?_
              refine lv_iconst (v := iI 0) hx hb dX11_next_78 rfl ?_
              refine mdP_sort (v1 := (va_up (va_up (va_up (va_up v 8 0) 9 y9_3) 10 y9_3) 11 (v 11))) C hP hD hS mF_X11_165 (by decide) rfl (Or.inr (gR_up (V := mdV) (F := mdF) (gR_up (V := mdV) (F := mdF) (gR_up (V := mdV) (F := mdF) (gR_up (V := mdV) (F := mdF) ⟨hok.1, hok.2⟩ 8 (show 0 ≤ 0 ∧ 0 ≤ 4 from by decide)) 9 (hP.2.1 9)) 10 (hP.2.1 10)) 11 (hP.2.1 11))) dX11_next_79 (fun H locs hP hS => ?_)
              exact g_vret hQ C hr hlocks hP hS dX11_next_82 ⟨0, y9_3, y9_3, (v 11), (g 0), rfl, rfl, rfl, rfl, (by rw [hA]; first | exact ⟨rfl, by omega, by omega, (tE_N (by omega)).symm, tok_end (by omega)⟩ | (have q := tok_word (B := B) (n := (v 3)) (p := y9_3) (y := y9_3) (nu := (v 11)) (w := (g 0) 0) (by omega) (by omega) (runL_eq (by omega) hL (by omega)) hW; exact ⟨rfl, by omega, by omega, q.2, q.1⟩) | (have q := tok_num (B := B) (n := (v 3)) (p := y9_3) (y := y9_3) (nu := (v 11)) (w := (g 0) 0) (by omega) (by omega) (runD_eq (by omega) hL (by omega)) hW; first | exact ⟨rfl, by omega, by omega, q.2.2, q.1 (by omega)⟩ | exact ⟨rfl, by omega, by omega, q.2.2, q.2.1 (by omega)⟩) | (have q := tok_sign (B := B) (n := (v 3)) (p := y9_3) (nu := (v 11)) (w := (g 0) 0) (by omega) (by omega) (by omega); exact ⟨rfl, by omega, by omega, q.2, q.1⟩) | (have q := tok_bad (B := B) (n := (v 3)) (p := y9_3) (nu := (v 11)) (w := (g 0) 0) (by omega) (by omega) (by omega) (by omega); exact ⟨rfl, by omega, by omega, q.2, q.1⟩))⟩
          · refine lv_aload_n hx hb dX11_next_45 rfl (lv_at hl 0 rfl) ?_
            refine lv_dup hx hb dX11_next_46 rfl ?_
            refine mdG_at C hP mF_X11_158 dX11_next_47 ?_
            show W p l e (gRm 1 21) s m args below meth c _ _ 0 0 Q (F0 m 50 ls [.int (iI y9_3), .ref (ad 0)])
            refine lv_iconst (v := iI 1) hx hb dX11_next_50 rfl ?_
            refine gi_add (z := (y9_3 + 1)) hx hb dX11_next_51 rfl ?_
            refine mdP_at (v1 := (va_up (va_up (va_up (va_up v 8 (v 8)) 9 (y9_3 + 1)) 10 (v 10)) 11 (v 11))) C hP hD hS mF_X11_158 (by omega) rfl (Or.inr (gR_up (V := mdV) (F := mdF) (gR_up (V := mdV) (F := mdF) (gR_up (V := mdV) (F := mdF) (gR_up (V := mdV) (F := mdF) ⟨hok.1, hok.2⟩ 8 (hP.2.1 8)) 9 (show 0 ≤ (y9_3 + 1) ∧ (y9_3 + 1) ≤ 700 from by omega)) 10 (hP.2.1 10)) 11 (hP.2.1 11))) dX11_next_52 (fun H locs hP hS => ?_)
            refine lv_goto (tgt := 8) hx hb dX11_next_55 (by decide) ?_
            exact ih_8 (y9_3 + 1) _ _ _ (by omega) (by omega) (run_snoc hI (by omega) (by omega)) hP hS (lv_sub hl [0] rfl)
  exact L_3 701 (v 10) _ _ _ (by omega) (by omega) run_none hP hS (lv_sub hl [0] rfl)

set_option maxHeartbeats 4000000 in
set_option maxRecDepth 100000 in
theorem n_spelled (l : Launch) (D : va_G) (k : Nat → ClassId) (A : Nat → Prop) (ad : Nat → Nat) (hD : mdD A k ad) (v : gV) (f g : gF) (a1 : Int) (a2 : Int) (a3 : Int) (a4 : Int) (a5 : Int) (a6 : Int) (a7 : Int) (h_a1 : inR a1) (h_a2 : inR a2) (h_a3 : inR a3) (h_a4 : inR a4) (h_a5 : inR a5) (h_a6 : inR a6) (h_a7 : inR a7) : GM l D k A (mdT k ad) yX11_spelled cX11_spelled 9 (some .long) 0 0 [.int (iI a1), .int (iI a2), .int (iI a3), .int (iI a4), .int (iI a5), .int (iI a6), .int (iI a7)] v f g (fun r v1 f1 g1 => ∃ (z : Int), r = some (.long (iL z)) ∧ v = v1 ∧ f = f1 ∧ g = g1 ∧ (z = (spW a1 a2 a3 a4 a5 a6 a7))) := by
  refine GM.of (by decide) (Nat.le_of_ble_eq_true rfl) ?_
  intro p e s m args below meth c Q ls hQ C hml hr hlocks hP hl
  have hx := C.1
  have hb := C.2.1
  have hok := hP.2
  have hS : va_S A s.heap s.heap [] := va_S.rf
  have hl : lv_has ls 9 [(0, .int (iI a1)), (1, .int (iI a2)), (2, .int (iI a3)), (3, .int (iI a4)), (4, .int (iI a5)), (5, .int (iI a6)), (6, .int (iI a7))] := hl
  refine lv_iload_n hx hb dX11_spelled_0 rfl (lv_at hl 0 rfl) ?_
  refine gi_i2l hx hb (by omega) dX11_spelled_1 ?_
  refine lv_ldc2 (v := iL 96) hx hb C.2.2.2.1 (C.2.2.1 _ (show Cond.constantLong RX11 178 (iL 96) ∈ gWs from mD_X11_178)) dX11_spelled_2 ?_
  refine gl_sub (z := (a1 - 96)) hx hb dX11_spelled_5 rfl ?_
  refine lv_lstore (lv' := [(7, .long (iL (a1 - 96))), (0, .int (iI a1)), (1, .int (iI a2)), (2, .int (iI a3)), (3, .int (iI a4)), (4, .int (iI a5)), (5, .int (iI a6)), (6, .int (iI a7))]) hx hb dX11_spelled_6 hl (by decide) rfl (fun ls hl => ?_)
  refine lv_iload_n hx hb dX11_spelled_8 rfl (lv_at hl 2 rfl) ?_
  refine gi_zle (tgt := 28) hx hb dX11_spelled_9 (by decide) (by omega) (fun c_1 => ?_) (fun c_1 => ?_)
  · refine lv_lload hx hb dX11_spelled_28 (lv_at hl 0 rfl) ?_
    refine lv_lstore (lv' := [(7, .long (iL (a1 - 96))), (0, .int (iI a1)), (1, .int (iI a2)), (2, .int (iI a3)), (3, .int (iI a4)), (4, .int (iI a5)), (5, .int (iI a6)), (6, .int (iI a7))]) hx hb dX11_spelled_30 hl (by decide) rfl (fun ls hl => ?_)
    refine lv_iload_n hx hb dX11_spelled_32 rfl (lv_at hl 3 rfl) ?_
    refine gi_zle (tgt := 52) hx hb dX11_spelled_33 (by decide) (by omega) (fun c_2 => ?_) (fun c_2 => ?_)
    · refine lv_lload hx hb dX11_spelled_52 (lv_at hl 0 rfl) ?_
      refine lv_lstore (lv' := [(7, .long (iL (a1 - 96))), (0, .int (iI a1)), (1, .int (iI a2)), (2, .int (iI a3)), (3, .int (iI a4)), (4, .int (iI a5)), (5, .int (iI a6)), (6, .int (iI a7))]) hx hb dX11_spelled_54 hl (by decide) rfl (fun ls hl => ?_)
      refine lv_iload_n hx hb dX11_spelled_56 rfl (lv_at hl 4 rfl) ?_
      refine gi_zle (tgt := 76) hx hb dX11_spelled_57 (by decide) (by omega) (fun c_3 => ?_) (fun c_3 => ?_)
      · refine lv_lload hx hb dX11_spelled_76 (lv_at hl 0 rfl) ?_
        refine lv_lstore (lv' := [(7, .long (iL (a1 - 96))), (0, .int (iI a1)), (1, .int (iI a2)), (2, .int (iI a3)), (3, .int (iI a4)), (4, .int (iI a5)), (5, .int (iI a6)), (6, .int (iI a7))]) hx hb dX11_spelled_78 hl (by decide) rfl (fun ls hl => ?_)
        refine lv_iload hx hb dX11_spelled_80 (lv_at hl 5 rfl) ?_
        refine gi_zle (tgt := 102) hx hb dX11_spelled_82 (by decide) (by omega) (fun c_4 => ?_) (fun c_4 => ?_)
        · refine lv_lload hx hb dX11_spelled_102 (lv_at hl 0 rfl) ?_
          refine lv_lstore (lv' := [(7, .long (iL (a1 - 96))), (0, .int (iI a1)), (1, .int (iI a2)), (2, .int (iI a3)), (3, .int (iI a4)), (4, .int (iI a5)), (5, .int (iI a6)), (6, .int (iI a7))]) hx hb dX11_spelled_104 hl (by decide) rfl (fun ls hl => ?_)
          refine lv_iload hx hb dX11_spelled_106 (lv_at hl 6 rfl) ?_
          refine gi_zle (tgt := 128) hx hb dX11_spelled_108 (by decide) (by omega) (fun c_5 => ?_) (fun c_5 => ?_)
          · refine lv_lload hx hb dX11_spelled_128 (lv_at hl 0 rfl) ?_
            refine lv_lstore (lv' := [(7, .long (iL (a1 - 96))), (0, .int (iI a1)), (1, .int (iI a2)), (2, .int (iI a3)), (3, .int (iI a4)), (4, .int (iI a5)), (5, .int (iI a6)), (6, .int (iI a7))]) hx hb dX11_spelled_130 hl (by decide) rfl (fun ls hl => ?_)
            refine lv_iload hx hb dX11_spelled_132 (lv_at hl 7 rfl) ?_
            refine gi_zle (tgt := 154) hx hb dX11_spelled_134 (by decide) (by omega) (fun c_6 => ?_) (fun c_6 => ?_)
            · refine lv_lload hx hb dX11_spelled_154 (lv_at hl 0 rfl) ?_
              exact g_lret hQ C hr hlocks hP hS dX11_spelled_156 ⟨(a1 - 96), rfl, rfl, rfl, rfl, (by unfold spW; (first | rw [stp_p (x := a2) (by omega)] | rw [stp_n (x := a2) (by omega)]); (first | rw [stp_p (x := a3) (by omega)] | rw [stp_n (x := a3) (by omega)]); (first | rw [stp_p (x := a4) (by omega)] | rw [stp_n (x := a4) (by omega)]); (first | rw [stp_p (x := a5) (by omega)] | rw [stp_n (x := a5) (by omega)]); (first | rw [stp_p (x := a6) (by omega)] | rw [stp_n (x := a6) (by omega)]); (first | rw [stp_p (x := a7) (by omega)] | rw [stp_n (x := a7) (by omega)]))⟩
            · refine lv_lload hx hb dX11_spelled_137 (lv_at hl 0 rfl) ?_
              refine lv_ldc2 (v := iL 32) hx hb C.2.2.2.1 (C.2.2.1 _ (show Cond.constantLong RX11 176 (iL 32) ∈ gWs from mD_X11_176)) dX11_spelled_139 ?_
              refine gl_mul (z := ((a1 - 96) * 32)) hx hb dX11_spelled_142 rfl ?_
              refine lv_iload hx hb dX11_spelled_143 (lv_at hl 7 rfl) ?_
              refine gi_i2l hx hb (by omega) dX11_spelled_145 ?_
              refine gl_add (z := (((a1 - 96) * 32) + a7)) hx hb dX11_spelled_146 rfl ?_
              refine lv_ldc2 (v := iL 96) hx hb C.2.2.2.1 (C.2.2.1 _ (show Cond.constantLong RX11 178 (iL 96) ∈ gWs from mD_X11_178)) dX11_spelled_147 ?_
              refine gl_sub (z := ((((a1 - 96) * 32) + a7) - 96)) hx hb dX11_spelled_150 rfl ?_
              refine lv_goto (tgt := 156) hx hb dX11_spelled_151 (by decide) ?_
              exact g_lret hQ C hr hlocks hP hS dX11_spelled_156 ⟨((((a1 - 96) * 32) + a7) - 96), rfl, rfl, rfl, rfl, (by unfold spW; (first | rw [stp_p (x := a2) (by omega)] | rw [stp_n (x := a2) (by omega)]); (first | rw [stp_p (x := a3) (by omega)] | rw [stp_n (x := a3) (by omega)]); (first | rw [stp_p (x := a4) (by omega)] | rw [stp_n (x := a4) (by omega)]); (first | rw [stp_p (x := a5) (by omega)] | rw [stp_n (x := a5) (by omega)]); (first | rw [stp_p (x := a6) (by omega)] | rw [stp_n (x := a6) (by omega)]); (first | rw [stp_p (x := a7) (by omega)] | rw [stp_n (x := a7) (by omega)]))⟩
          · refine lv_lload hx hb dX11_spelled_111 (lv_at hl 0 rfl) ?_
            refine lv_ldc2 (v := iL 32) hx hb C.2.2.2.1 (C.2.2.1 _ (show Cond.constantLong RX11 176 (iL 32) ∈ gWs from mD_X11_176)) dX11_spelled_113 ?_
            refine gl_mul (z := ((a1 - 96) * 32)) hx hb dX11_spelled_116 rfl ?_
            refine lv_iload hx hb dX11_spelled_117 (lv_at hl 6 rfl) ?_
            refine gi_i2l hx hb (by omega) dX11_spelled_119 ?_
            refine gl_add (z := (((a1 - 96) * 32) + a6)) hx hb dX11_spelled_120 rfl ?_
            refine lv_ldc2 (v := iL 96) hx hb C.2.2.2.1 (C.2.2.1 _ (show Cond.constantLong RX11 178 (iL 96) ∈ gWs from mD_X11_178)) dX11_spelled_121 ?_
            refine gl_sub (z := ((((a1 - 96) * 32) + a6) - 96)) hx hb dX11_spelled_124 rfl ?_
            refine lv_goto (tgt := 130) hx hb dX11_spelled_125 (by decide) ?_
            refine lv_lstore (lv' := [(7, .long (iL ((((a1 - 96) * 32) + a6) - 96))), (0, .int (iI a1)), (1, .int (iI a2)), (2, .int (iI a3)), (3, .int (iI a4)), (4, .int (iI a5)), (5, .int (iI a6)), (6, .int (iI a7))]) hx hb dX11_spelled_130 hl (by decide) rfl (fun ls hl => ?_)
            refine lv_iload hx hb dX11_spelled_132 (lv_at hl 7 rfl) ?_
            refine gi_zle (tgt := 154) hx hb dX11_spelled_134 (by decide) (by omega) (fun c_7 => ?_) (fun c_7 => ?_)
            · refine lv_lload hx hb dX11_spelled_154 (lv_at hl 0 rfl) ?_
              exact g_lret hQ C hr hlocks hP hS dX11_spelled_156 ⟨((((a1 - 96) * 32) + a6) - 96), rfl, rfl, rfl, rfl, (by unfold spW; (first | rw [stp_p (x := a2) (by omega)] | rw [stp_n (x := a2) (by omega)]); (first | rw [stp_p (x := a3) (by omega)] | rw [stp_n (x := a3) (by omega)]); (first | rw [stp_p (x := a4) (by omega)] | rw [stp_n (x := a4) (by omega)]); (first | rw [stp_p (x := a5) (by omega)] | rw [stp_n (x := a5) (by omega)]); (first | rw [stp_p (x := a6) (by omega)] | rw [stp_n (x := a6) (by omega)]); (first | rw [stp_p (x := a7) (by omega)] | rw [stp_n (x := a7) (by omega)]))⟩
            · refine lv_lload hx hb dX11_spelled_137 (lv_at hl 0 rfl) ?_
              refine lv_ldc2 (v := iL 32) hx hb C.2.2.2.1 (C.2.2.1 _ (show Cond.constantLong RX11 176 (iL 32) ∈ gWs from mD_X11_176)) dX11_spelled_139 ?_
              refine gl_mul (z := (((((a1 - 96) * 32) + a6) - 96) * 32)) hx hb dX11_spelled_142 rfl ?_
              refine lv_iload hx hb dX11_spelled_143 (lv_at hl 7 rfl) ?_
              refine gi_i2l hx hb (by omega) dX11_spelled_145 ?_
              refine gl_add (z := ((((((a1 - 96) * 32) + a6) - 96) * 32) + a7)) hx hb dX11_spelled_146 rfl ?_
              refine lv_ldc2 (v := iL 96) hx hb C.2.2.2.1 (C.2.2.1 _ (show Cond.constantLong RX11 178 (iL 96) ∈ gWs from mD_X11_178)) dX11_spelled_147 ?_
              refine gl_sub (z := (((((((a1 - 96) * 32) + a6) - 96) * 32) + a7) - 96)) hx hb dX11_spelled_150 rfl ?_
              refine lv_goto (tgt := 156) hx hb dX11_spelled_151 (by decide) ?_
              exact g_lret hQ C hr hlocks hP hS dX11_spelled_156 ⟨(((((((a1 - 96) * 32) + a6) - 96) * 32) + a7) - 96), rfl, rfl, rfl, rfl, (by unfold spW; (first | rw [stp_p (x := a2) (by omega)] | rw [stp_n (x := a2) (by omega)]); (first | rw [stp_p (x := a3) (by omega)] | rw [stp_n (x := a3) (by omega)]); (first | rw [stp_p (x := a4) (by omega)] | rw [stp_n (x := a4) (by omega)]); (first | rw [stp_p (x := a5) (by omega)] | rw [stp_n (x := a5) (by omega)]); (first | rw [stp_p (x := a6) (by omega)] | rw [stp_n (x := a6) (by omega)]); (first | rw [stp_p (x := a7) (by omega)] | rw [stp_n (x := a7) (by omega)]))⟩
        · refine lv_lload hx hb dX11_spelled_85 (lv_at hl 0 rfl) ?_
          refine lv_ldc2 (v := iL 32) hx hb C.2.2.2.1 (C.2.2.1 _ (show Cond.constantLong RX11 176 (iL 32) ∈ gWs from mD_X11_176)) dX11_spelled_87 ?_
          refine gl_mul (z := ((a1 - 96) * 32)) hx hb dX11_spelled_90 rfl ?_
          refine lv_iload hx hb dX11_spelled_91 (lv_at hl 5 rfl) ?_
          refine gi_i2l hx hb (by omega) dX11_spelled_93 ?_
          refine gl_add (z := (((a1 - 96) * 32) + a5)) hx hb dX11_spelled_94 rfl ?_
          refine lv_ldc2 (v := iL 96) hx hb C.2.2.2.1 (C.2.2.1 _ (show Cond.constantLong RX11 178 (iL 96) ∈ gWs from mD_X11_178)) dX11_spelled_95 ?_
          refine gl_sub (z := ((((a1 - 96) * 32) + a5) - 96)) hx hb dX11_spelled_98 rfl ?_
          refine lv_goto (tgt := 104) hx hb dX11_spelled_99 (by decide) ?_
          refine lv_lstore (lv' := [(7, .long (iL ((((a1 - 96) * 32) + a5) - 96))), (0, .int (iI a1)), (1, .int (iI a2)), (2, .int (iI a3)), (3, .int (iI a4)), (4, .int (iI a5)), (5, .int (iI a6)), (6, .int (iI a7))]) hx hb dX11_spelled_104 hl (by decide) rfl (fun ls hl => ?_)
          refine lv_iload hx hb dX11_spelled_106 (lv_at hl 6 rfl) ?_
          refine gi_zle (tgt := 128) hx hb dX11_spelled_108 (by decide) (by omega) (fun c_8 => ?_) (fun c_8 => ?_)
          · refine lv_lload hx hb dX11_spelled_128 (lv_at hl 0 rfl) ?_
            refine lv_lstore (lv' := [(7, .long (iL ((((a1 - 96) * 32) + a5) - 96))), (0, .int (iI a1)), (1, .int (iI a2)), (2, .int (iI a3)), (3, .int (iI a4)), (4, .int (iI a5)), (5, .int (iI a6)), (6, .int (iI a7))]) hx hb dX11_spelled_130 hl (by decide) rfl (fun ls hl => ?_)
            refine lv_iload hx hb dX11_spelled_132 (lv_at hl 7 rfl) ?_
            refine gi_zle (tgt := 154) hx hb dX11_spelled_134 (by decide) (by omega) (fun c_9 => ?_) (fun c_9 => ?_)
            · refine lv_lload hx hb dX11_spelled_154 (lv_at hl 0 rfl) ?_
              exact g_lret hQ C hr hlocks hP hS dX11_spelled_156 ⟨((((a1 - 96) * 32) + a5) - 96), rfl, rfl, rfl, rfl, (by unfold spW; (first | rw [stp_p (x := a2) (by omega)] | rw [stp_n (x := a2) (by omega)]); (first | rw [stp_p (x := a3) (by omega)] | rw [stp_n (x := a3) (by omega)]); (first | rw [stp_p (x := a4) (by omega)] | rw [stp_n (x := a4) (by omega)]); (first | rw [stp_p (x := a5) (by omega)] | rw [stp_n (x := a5) (by omega)]); (first | rw [stp_p (x := a6) (by omega)] | rw [stp_n (x := a6) (by omega)]); (first | rw [stp_p (x := a7) (by omega)] | rw [stp_n (x := a7) (by omega)]))⟩
            · refine lv_lload hx hb dX11_spelled_137 (lv_at hl 0 rfl) ?_
              refine lv_ldc2 (v := iL 32) hx hb C.2.2.2.1 (C.2.2.1 _ (show Cond.constantLong RX11 176 (iL 32) ∈ gWs from mD_X11_176)) dX11_spelled_139 ?_
              refine gl_mul (z := (((((a1 - 96) * 32) + a5) - 96) * 32)) hx hb dX11_spelled_142 rfl ?_
              refine lv_iload hx hb dX11_spelled_143 (lv_at hl 7 rfl) ?_
              refine gi_i2l hx hb (by omega) dX11_spelled_145 ?_
              refine gl_add (z := ((((((a1 - 96) * 32) + a5) - 96) * 32) + a7)) hx hb dX11_spelled_146 rfl ?_
              refine lv_ldc2 (v := iL 96) hx hb C.2.2.2.1 (C.2.2.1 _ (show Cond.constantLong RX11 178 (iL 96) ∈ gWs from mD_X11_178)) dX11_spelled_147 ?_
              refine gl_sub (z := (((((((a1 - 96) * 32) + a5) - 96) * 32) + a7) - 96)) hx hb dX11_spelled_150 rfl ?_
              refine lv_goto (tgt := 156) hx hb dX11_spelled_151 (by decide) ?_
              exact g_lret hQ C hr hlocks hP hS dX11_spelled_156 ⟨(((((((a1 - 96) * 32) + a5) - 96) * 32) + a7) - 96), rfl, rfl, rfl, rfl, (by unfold spW; (first | rw [stp_p (x := a2) (by omega)] | rw [stp_n (x := a2) (by omega)]); (first | rw [stp_p (x := a3) (by omega)] | rw [stp_n (x := a3) (by omega)]); (first | rw [stp_p (x := a4) (by omega)] | rw [stp_n (x := a4) (by omega)]); (first | rw [stp_p (x := a5) (by omega)] | rw [stp_n (x := a5) (by omega)]); (first | rw [stp_p (x := a6) (by omega)] | rw [stp_n (x := a6) (by omega)]); (first | rw [stp_p (x := a7) (by omega)] | rw [stp_n (x := a7) (by omega)]))⟩
          · refine lv_lload hx hb dX11_spelled_111 (lv_at hl 0 rfl) ?_
            refine lv_ldc2 (v := iL 32) hx hb C.2.2.2.1 (C.2.2.1 _ (show Cond.constantLong RX11 176 (iL 32) ∈ gWs from mD_X11_176)) dX11_spelled_113 ?_
            refine gl_mul (z := (((((a1 - 96) * 32) + a5) - 96) * 32)) hx hb dX11_spelled_116 rfl ?_
            refine lv_iload hx hb dX11_spelled_117 (lv_at hl 6 rfl) ?_
            refine gi_i2l hx hb (by omega) dX11_spelled_119 ?_
            refine gl_add (z := ((((((a1 - 96) * 32) + a5) - 96) * 32) + a6)) hx hb dX11_spelled_120 rfl ?_
            refine lv_ldc2 (v := iL 96) hx hb C.2.2.2.1 (C.2.2.1 _ (show Cond.constantLong RX11 178 (iL 96) ∈ gWs from mD_X11_178)) dX11_spelled_121 ?_
            refine gl_sub (z := (((((((a1 - 96) * 32) + a5) - 96) * 32) + a6) - 96)) hx hb dX11_spelled_124 rfl ?_
            refine lv_goto (tgt := 130) hx hb dX11_spelled_125 (by decide) ?_
            refine lv_lstore (lv' := [(7, .long (iL (((((((a1 - 96) * 32) + a5) - 96) * 32) + a6) - 96))), (0, .int (iI a1)), (1, .int (iI a2)), (2, .int (iI a3)), (3, .int (iI a4)), (4, .int (iI a5)), (5, .int (iI a6)), (6, .int (iI a7))]) hx hb dX11_spelled_130 hl (by decide) rfl (fun ls hl => ?_)
            refine lv_iload hx hb dX11_spelled_132 (lv_at hl 7 rfl) ?_
            refine gi_zle (tgt := 154) hx hb dX11_spelled_134 (by decide) (by omega) (fun c_10 => ?_) (fun c_10 => ?_)
            · refine lv_lload hx hb dX11_spelled_154 (lv_at hl 0 rfl) ?_
              exact g_lret hQ C hr hlocks hP hS dX11_spelled_156 ⟨(((((((a1 - 96) * 32) + a5) - 96) * 32) + a6) - 96), rfl, rfl, rfl, rfl, (by unfold spW; (first | rw [stp_p (x := a2) (by omega)] | rw [stp_n (x := a2) (by omega)]); (first | rw [stp_p (x := a3) (by omega)] | rw [stp_n (x := a3) (by omega)]); (first | rw [stp_p (x := a4) (by omega)] | rw [stp_n (x := a4) (by omega)]); (first | rw [stp_p (x := a5) (by omega)] | rw [stp_n (x := a5) (by omega)]); (first | rw [stp_p (x := a6) (by omega)] | rw [stp_n (x := a6) (by omega)]); (first | rw [stp_p (x := a7) (by omega)] | rw [stp_n (x := a7) (by omega)]))⟩
            · refine lv_lload hx hb dX11_spelled_137 (lv_at hl 0 rfl) ?_
              refine lv_ldc2 (v := iL 32) hx hb C.2.2.2.1 (C.2.2.1 _ (show Cond.constantLong RX11 176 (iL 32) ∈ gWs from mD_X11_176)) dX11_spelled_139 ?_
              refine gl_mul (z := ((((((((a1 - 96) * 32) + a5) - 96) * 32) + a6) - 96) * 32)) hx hb dX11_spelled_142 rfl ?_
              refine lv_iload hx hb dX11_spelled_143 (lv_at hl 7 rfl) ?_
              refine gi_i2l hx hb (by omega) dX11_spelled_145 ?_
              refine gl_add (z := (((((((((a1 - 96) * 32) + a5) - 96) * 32) + a6) - 96) * 32) + a7)) hx hb dX11_spelled_146 rfl ?_
              refine lv_ldc2 (v := iL 96) hx hb C.2.2.2.1 (C.2.2.1 _ (show Cond.constantLong RX11 178 (iL 96) ∈ gWs from mD_X11_178)) dX11_spelled_147 ?_
              refine gl_sub (z := ((((((((((a1 - 96) * 32) + a5) - 96) * 32) + a6) - 96) * 32) + a7) - 96)) hx hb dX11_spelled_150 rfl ?_
              refine lv_goto (tgt := 156) hx hb dX11_spelled_151 (by decide) ?_
              exact g_lret hQ C hr hlocks hP hS dX11_spelled_156 ⟨((((((((((a1 - 96) * 32) + a5) - 96) * 32) + a6) - 96) * 32) + a7) - 96), rfl, rfl, rfl, rfl, (by unfold spW; (first | rw [stp_p (x := a2) (by omega)] | rw [stp_n (x := a2) (by omega)]); (first | rw [stp_p (x := a3) (by omega)] | rw [stp_n (x := a3) (by omega)]); (first | rw [stp_p (x := a4) (by omega)] | rw [stp_n (x := a4) (by omega)]); (first | rw [stp_p (x := a5) (by omega)] | rw [stp_n (x := a5) (by omega)]); (first | rw [stp_p (x := a6) (by omega)] | rw [stp_n (x := a6) (by omega)]); (first | rw [stp_p (x := a7) (by omega)] | rw [stp_n (x := a7) (by omega)]))⟩
      · refine lv_lload hx hb dX11_spelled_60 (lv_at hl 0 rfl) ?_
        refine lv_ldc2 (v := iL 32) hx hb C.2.2.2.1 (C.2.2.1 _ (show Cond.constantLong RX11 176 (iL 32) ∈ gWs from mD_X11_176)) dX11_spelled_62 ?_
        refine gl_mul (z := ((a1 - 96) * 32)) hx hb dX11_spelled_65 rfl ?_
        refine lv_iload_n hx hb dX11_spelled_66 rfl (lv_at hl 4 rfl) ?_
        refine gi_i2l hx hb (by omega) dX11_spelled_67 ?_
        refine gl_add (z := (((a1 - 96) * 32) + a4)) hx hb dX11_spelled_68 rfl ?_
        refine lv_ldc2 (v := iL 96) hx hb C.2.2.2.1 (C.2.2.1 _ (show Cond.constantLong RX11 178 (iL 96) ∈ gWs from mD_X11_178)) dX11_spelled_69 ?_
        refine gl_sub (z := ((((a1 - 96) * 32) + a4) - 96)) hx hb dX11_spelled_72 rfl ?_
        refine lv_goto (tgt := 78) hx hb dX11_spelled_73 (by decide) ?_
        refine lv_lstore (lv' := [(7, .long (iL ((((a1 - 96) * 32) + a4) - 96))), (0, .int (iI a1)), (1, .int (iI a2)), (2, .int (iI a3)), (3, .int (iI a4)), (4, .int (iI a5)), (5, .int (iI a6)), (6, .int (iI a7))]) hx hb dX11_spelled_78 hl (by decide) rfl (fun ls hl => ?_)
        refine lv_iload hx hb dX11_spelled_80 (lv_at hl 5 rfl) ?_
        refine gi_zle (tgt := 102) hx hb dX11_spelled_82 (by decide) (by omega) (fun c_11 => ?_) (fun c_11 => ?_)
        · refine lv_lload hx hb dX11_spelled_102 (lv_at hl 0 rfl) ?_
          refine lv_lstore (lv' := [(7, .long (iL ((((a1 - 96) * 32) + a4) - 96))), (0, .int (iI a1)), (1, .int (iI a2)), (2, .int (iI a3)), (3, .int (iI a4)), (4, .int (iI a5)), (5, .int (iI a6)), (6, .int (iI a7))]) hx hb dX11_spelled_104 hl (by decide) rfl (fun ls hl => ?_)
          refine lv_iload hx hb dX11_spelled_106 (lv_at hl 6 rfl) ?_
          refine gi_zle (tgt := 128) hx hb dX11_spelled_108 (by decide) (by omega) (fun c_12 => ?_) (fun c_12 => ?_)
          · refine lv_lload hx hb dX11_spelled_128 (lv_at hl 0 rfl) ?_
            refine lv_lstore (lv' := [(7, .long (iL ((((a1 - 96) * 32) + a4) - 96))), (0, .int (iI a1)), (1, .int (iI a2)), (2, .int (iI a3)), (3, .int (iI a4)), (4, .int (iI a5)), (5, .int (iI a6)), (6, .int (iI a7))]) hx hb dX11_spelled_130 hl (by decide) rfl (fun ls hl => ?_)
            refine lv_iload hx hb dX11_spelled_132 (lv_at hl 7 rfl) ?_
            refine gi_zle (tgt := 154) hx hb dX11_spelled_134 (by decide) (by omega) (fun c_13 => ?_) (fun c_13 => ?_)
            · refine lv_lload hx hb dX11_spelled_154 (lv_at hl 0 rfl) ?_
              exact g_lret hQ C hr hlocks hP hS dX11_spelled_156 ⟨((((a1 - 96) * 32) + a4) - 96), rfl, rfl, rfl, rfl, (by unfold spW; (first | rw [stp_p (x := a2) (by omega)] | rw [stp_n (x := a2) (by omega)]); (first | rw [stp_p (x := a3) (by omega)] | rw [stp_n (x := a3) (by omega)]); (first | rw [stp_p (x := a4) (by omega)] | rw [stp_n (x := a4) (by omega)]); (first | rw [stp_p (x := a5) (by omega)] | rw [stp_n (x := a5) (by omega)]); (first | rw [stp_p (x := a6) (by omega)] | rw [stp_n (x := a6) (by omega)]); (first | rw [stp_p (x := a7) (by omega)] | rw [stp_n (x := a7) (by omega)]))⟩
            · refine lv_lload hx hb dX11_spelled_137 (lv_at hl 0 rfl) ?_
              refine lv_ldc2 (v := iL 32) hx hb C.2.2.2.1 (C.2.2.1 _ (show Cond.constantLong RX11 176 (iL 32) ∈ gWs from mD_X11_176)) dX11_spelled_139 ?_
              refine gl_mul (z := (((((a1 - 96) * 32) + a4) - 96) * 32)) hx hb dX11_spelled_142 rfl ?_
              refine lv_iload hx hb dX11_spelled_143 (lv_at hl 7 rfl) ?_
              refine gi_i2l hx hb (by omega) dX11_spelled_145 ?_
              refine gl_add (z := ((((((a1 - 96) * 32) + a4) - 96) * 32) + a7)) hx hb dX11_spelled_146 rfl ?_
              refine lv_ldc2 (v := iL 96) hx hb C.2.2.2.1 (C.2.2.1 _ (show Cond.constantLong RX11 178 (iL 96) ∈ gWs from mD_X11_178)) dX11_spelled_147 ?_
              refine gl_sub (z := (((((((a1 - 96) * 32) + a4) - 96) * 32) + a7) - 96)) hx hb dX11_spelled_150 rfl ?_
              refine lv_goto (tgt := 156) hx hb dX11_spelled_151 (by decide) ?_
              exact g_lret hQ C hr hlocks hP hS dX11_spelled_156 ⟨(((((((a1 - 96) * 32) + a4) - 96) * 32) + a7) - 96), rfl, rfl, rfl, rfl, (by unfold spW; (first | rw [stp_p (x := a2) (by omega)] | rw [stp_n (x := a2) (by omega)]); (first | rw [stp_p (x := a3) (by omega)] | rw [stp_n (x := a3) (by omega)]); (first | rw [stp_p (x := a4) (by omega)] | rw [stp_n (x := a4) (by omega)]); (first | rw [stp_p (x := a5) (by omega)] | rw [stp_n (x := a5) (by omega)]); (first | rw [stp_p (x := a6) (by omega)] | rw [stp_n (x := a6) (by omega)]); (first | rw [stp_p (x := a7) (by omega)] | rw [stp_n (x := a7) (by omega)]))⟩
          · refine lv_lload hx hb dX11_spelled_111 (lv_at hl 0 rfl) ?_
            refine lv_ldc2 (v := iL 32) hx hb C.2.2.2.1 (C.2.2.1 _ (show Cond.constantLong RX11 176 (iL 32) ∈ gWs from mD_X11_176)) dX11_spelled_113 ?_
            refine gl_mul (z := (((((a1 - 96) * 32) + a4) - 96) * 32)) hx hb dX11_spelled_116 rfl ?_
            refine lv_iload hx hb dX11_spelled_117 (lv_at hl 6 rfl) ?_
            refine gi_i2l hx hb (by omega) dX11_spelled_119 ?_
            refine gl_add (z := ((((((a1 - 96) * 32) + a4) - 96) * 32) + a6)) hx hb dX11_spelled_120 rfl ?_
            refine lv_ldc2 (v := iL 96) hx hb C.2.2.2.1 (C.2.2.1 _ (show Cond.constantLong RX11 178 (iL 96) ∈ gWs from mD_X11_178)) dX11_spelled_121 ?_
            refine gl_sub (z := (((((((a1 - 96) * 32) + a4) - 96) * 32) + a6) - 96)) hx hb dX11_spelled_124 rfl ?_
            refine lv_goto (tgt := 130) hx hb dX11_spelled_125 (by decide) ?_
            refine lv_lstore (lv' := [(7, .long (iL (((((((a1 - 96) * 32) + a4) - 96) * 32) + a6) - 96))), (0, .int (iI a1)), (1, .int (iI a2)), (2, .int (iI a3)), (3, .int (iI a4)), (4, .int (iI a5)), (5, .int (iI a6)), (6, .int (iI a7))]) hx hb dX11_spelled_130 hl (by decide) rfl (fun ls hl => ?_)
            refine lv_iload hx hb dX11_spelled_132 (lv_at hl 7 rfl) ?_
            refine gi_zle (tgt := 154) hx hb dX11_spelled_134 (by decide) (by omega) (fun c_14 => ?_) (fun c_14 => ?_)
            · refine lv_lload hx hb dX11_spelled_154 (lv_at hl 0 rfl) ?_
              exact g_lret hQ C hr hlocks hP hS dX11_spelled_156 ⟨(((((((a1 - 96) * 32) + a4) - 96) * 32) + a6) - 96), rfl, rfl, rfl, rfl, (by unfold spW; (first | rw [stp_p (x := a2) (by omega)] | rw [stp_n (x := a2) (by omega)]); (first | rw [stp_p (x := a3) (by omega)] | rw [stp_n (x := a3) (by omega)]); (first | rw [stp_p (x := a4) (by omega)] | rw [stp_n (x := a4) (by omega)]); (first | rw [stp_p (x := a5) (by omega)] | rw [stp_n (x := a5) (by omega)]); (first | rw [stp_p (x := a6) (by omega)] | rw [stp_n (x := a6) (by omega)]); (first | rw [stp_p (x := a7) (by omega)] | rw [stp_n (x := a7) (by omega)]))⟩
            · refine lv_lload hx hb dX11_spelled_137 (lv_at hl 0 rfl) ?_
              refine lv_ldc2 (v := iL 32) hx hb C.2.2.2.1 (C.2.2.1 _ (show Cond.constantLong RX11 176 (iL 32) ∈ gWs from mD_X11_176)) dX11_spelled_139 ?_
              refine gl_mul (z := ((((((((a1 - 96) * 32) + a4) - 96) * 32) + a6) - 96) * 32)) hx hb dX11_spelled_142 rfl ?_
              refine lv_iload hx hb dX11_spelled_143 (lv_at hl 7 rfl) ?_
              refine gi_i2l hx hb (by omega) dX11_spelled_145 ?_
              refine gl_add (z := (((((((((a1 - 96) * 32) + a4) - 96) * 32) + a6) - 96) * 32) + a7)) hx hb dX11_spelled_146 rfl ?_
              refine lv_ldc2 (v := iL 96) hx hb C.2.2.2.1 (C.2.2.1 _ (show Cond.constantLong RX11 178 (iL 96) ∈ gWs from mD_X11_178)) dX11_spelled_147 ?_
              refine gl_sub (z := ((((((((((a1 - 96) * 32) + a4) - 96) * 32) + a6) - 96) * 32) + a7) - 96)) hx hb dX11_spelled_150 rfl ?_
              refine lv_goto (tgt := 156) hx hb dX11_spelled_151 (by decide) ?_
              exact g_lret hQ C hr hlocks hP hS dX11_spelled_156 ⟨((((((((((a1 - 96) * 32) + a4) - 96) * 32) + a6) - 96) * 32) + a7) - 96), rfl, rfl, rfl, rfl, (by unfold spW; (first | rw [stp_p (x := a2) (by omega)] | rw [stp_n (x := a2) (by omega)]); (first | rw [stp_p (x := a3) (by omega)] | rw [stp_n (x := a3) (by omega)]); (first | rw [stp_p (x := a4) (by omega)] | rw [stp_n (x := a4) (by omega)]); (first | rw [stp_p (x := a5) (by omega)] | rw [stp_n (x := a5) (by omega)]); (first | rw [stp_p (x := a6) (by omega)] | rw [stp_n (x := a6) (by omega)]); (first | rw [stp_p (x := a7) (by omega)] | rw [stp_n (x := a7) (by omega)]))⟩
        · refine lv_lload hx hb dX11_spelled_85 (lv_at hl 0 rfl) ?_
          refine lv_ldc2 (v := iL 32) hx hb C.2.2.2.1 (C.2.2.1 _ (show Cond.constantLong RX11 176 (iL 32) ∈ gWs from mD_X11_176)) dX11_spelled_87 ?_
          refine gl_mul (z := (((((a1 - 96) * 32) + a4) - 96) * 32)) hx hb dX11_spelled_90 rfl ?_
          refine lv_iload hx hb dX11_spelled_91 (lv_at hl 5 rfl) ?_
          refine gi_i2l hx hb (by omega) dX11_spelled_93 ?_
          refine gl_add (z := ((((((a1 - 96) * 32) + a4) - 96) * 32) + a5)) hx hb dX11_spelled_94 rfl ?_
          refine lv_ldc2 (v := iL 96) hx hb C.2.2.2.1 (C.2.2.1 _ (show Cond.constantLong RX11 178 (iL 96) ∈ gWs from mD_X11_178)) dX11_spelled_95 ?_
          refine gl_sub (z := (((((((a1 - 96) * 32) + a4) - 96) * 32) + a5) - 96)) hx hb dX11_spelled_98 rfl ?_
          refine lv_goto (tgt := 104) hx hb dX11_spelled_99 (by decide) ?_
          refine lv_lstore (lv' := [(7, .long (iL (((((((a1 - 96) * 32) + a4) - 96) * 32) + a5) - 96))), (0, .int (iI a1)), (1, .int (iI a2)), (2, .int (iI a3)), (3, .int (iI a4)), (4, .int (iI a5)), (5, .int (iI a6)), (6, .int (iI a7))]) hx hb dX11_spelled_104 hl (by decide) rfl (fun ls hl => ?_)
          refine lv_iload hx hb dX11_spelled_106 (lv_at hl 6 rfl) ?_
          refine gi_zle (tgt := 128) hx hb dX11_spelled_108 (by decide) (by omega) (fun c_15 => ?_) (fun c_15 => ?_)
          · refine lv_lload hx hb dX11_spelled_128 (lv_at hl 0 rfl) ?_
            refine lv_lstore (lv' := [(7, .long (iL (((((((a1 - 96) * 32) + a4) - 96) * 32) + a5) - 96))), (0, .int (iI a1)), (1, .int (iI a2)), (2, .int (iI a3)), (3, .int (iI a4)), (4, .int (iI a5)), (5, .int (iI a6)), (6, .int (iI a7))]) hx hb dX11_spelled_130 hl (by decide) rfl (fun ls hl => ?_)
            refine lv_iload hx hb dX11_spelled_132 (lv_at hl 7 rfl) ?_
            refine gi_zle (tgt := 154) hx hb dX11_spelled_134 (by decide) (by omega) (fun c_16 => ?_) (fun c_16 => ?_)
            · refine lv_lload hx hb dX11_spelled_154 (lv_at hl 0 rfl) ?_
              exact g_lret hQ C hr hlocks hP hS dX11_spelled_156 ⟨(((((((a1 - 96) * 32) + a4) - 96) * 32) + a5) - 96), rfl, rfl, rfl, rfl, (by unfold spW; (first | rw [stp_p (x := a2) (by omega)] | rw [stp_n (x := a2) (by omega)]); (first | rw [stp_p (x := a3) (by omega)] | rw [stp_n (x := a3) (by omega)]); (first | rw [stp_p (x := a4) (by omega)] | rw [stp_n (x := a4) (by omega)]); (first | rw [stp_p (x := a5) (by omega)] | rw [stp_n (x := a5) (by omega)]); (first | rw [stp_p (x := a6) (by omega)] | rw [stp_n (x := a6) (by omega)]); (first | rw [stp_p (x := a7) (by omega)] | rw [stp_n (x := a7) (by omega)]))⟩
            · refine lv_lload hx hb dX11_spelled_137 (lv_at hl 0 rfl) ?_
              refine lv_ldc2 (v := iL 32) hx hb C.2.2.2.1 (C.2.2.1 _ (show Cond.constantLong RX11 176 (iL 32) ∈ gWs from mD_X11_176)) dX11_spelled_139 ?_
              refine gl_mul (z := ((((((((a1 - 96) * 32) + a4) - 96) * 32) + a5) - 96) * 32)) hx hb dX11_spelled_142 rfl ?_
              refine lv_iload hx hb dX11_spelled_143 (lv_at hl 7 rfl) ?_
              refine gi_i2l hx hb (by omega) dX11_spelled_145 ?_
              refine gl_add (z := (((((((((a1 - 96) * 32) + a4) - 96) * 32) + a5) - 96) * 32) + a7)) hx hb dX11_spelled_146 rfl ?_
              refine lv_ldc2 (v := iL 96) hx hb C.2.2.2.1 (C.2.2.1 _ (show Cond.constantLong RX11 178 (iL 96) ∈ gWs from mD_X11_178)) dX11_spelled_147 ?_
              refine gl_sub (z := ((((((((((a1 - 96) * 32) + a4) - 96) * 32) + a5) - 96) * 32) + a7) - 96)) hx hb dX11_spelled_150 rfl ?_
              refine lv_goto (tgt := 156) hx hb dX11_spelled_151 (by decide) ?_
              exact g_lret hQ C hr hlocks hP hS dX11_spelled_156 ⟨((((((((((a1 - 96) * 32) + a4) - 96) * 32) + a5) - 96) * 32) + a7) - 96), rfl, rfl, rfl, rfl, (by unfold spW; (first | rw [stp_p (x := a2) (by omega)] | rw [stp_n (x := a2) (by omega)]); (first | rw [stp_p (x := a3) (by omega)] | rw [stp_n (x := a3) (by omega)]); (first | rw [stp_p (x := a4) (by omega)] | rw [stp_n (x := a4) (by omega)]); (first | rw [stp_p (x := a5) (by omega)] | rw [stp_n (x := a5) (by omega)]); (first | rw [stp_p (x := a6) (by omega)] | rw [stp_n (x := a6) (by omega)]); (first | rw [stp_p (x := a7) (by omega)] | rw [stp_n (x := a7) (by omega)]))⟩
          · refine lv_lload hx hb dX11_spelled_111 (lv_at hl 0 rfl) ?_
            refine lv_ldc2 (v := iL 32) hx hb C.2.2.2.1 (C.2.2.1 _ (show Cond.constantLong RX11 176 (iL 32) ∈ gWs from mD_X11_176)) dX11_spelled_113 ?_
            refine gl_mul (z := ((((((((a1 - 96) * 32) + a4) - 96) * 32) + a5) - 96) * 32)) hx hb dX11_spelled_116 rfl ?_
            refine lv_iload hx hb dX11_spelled_117 (lv_at hl 6 rfl) ?_
            refine gi_i2l hx hb (by omega) dX11_spelled_119 ?_
            refine gl_add (z := (((((((((a1 - 96) * 32) + a4) - 96) * 32) + a5) - 96) * 32) + a6)) hx hb dX11_spelled_120 rfl ?_
            refine lv_ldc2 (v := iL 96) hx hb C.2.2.2.1 (C.2.2.1 _ (show Cond.constantLong RX11 178 (iL 96) ∈ gWs from mD_X11_178)) dX11_spelled_121 ?_
            refine gl_sub (z := ((((((((((a1 - 96) * 32) + a4) - 96) * 32) + a5) - 96) * 32) + a6) - 96)) hx hb dX11_spelled_124 rfl ?_
            refine lv_goto (tgt := 130) hx hb dX11_spelled_125 (by decide) ?_
            refine lv_lstore (lv' := [(7, .long (iL ((((((((((a1 - 96) * 32) + a4) - 96) * 32) + a5) - 96) * 32) + a6) - 96))), (0, .int (iI a1)), (1, .int (iI a2)), (2, .int (iI a3)), (3, .int (iI a4)), (4, .int (iI a5)), (5, .int (iI a6)), (6, .int (iI a7))]) hx hb dX11_spelled_130 hl (by decide) rfl (fun ls hl => ?_)
            refine lv_iload hx hb dX11_spelled_132 (lv_at hl 7 rfl) ?_
            refine gi_zle (tgt := 154) hx hb dX11_spelled_134 (by decide) (by omega) (fun c_17 => ?_) (fun c_17 => ?_)
            · refine lv_lload hx hb dX11_spelled_154 (lv_at hl 0 rfl) ?_
              exact g_lret hQ C hr hlocks hP hS dX11_spelled_156 ⟨((((((((((a1 - 96) * 32) + a4) - 96) * 32) + a5) - 96) * 32) + a6) - 96), rfl, rfl, rfl, rfl, (by unfold spW; (first | rw [stp_p (x := a2) (by omega)] | rw [stp_n (x := a2) (by omega)]); (first | rw [stp_p (x := a3) (by omega)] | rw [stp_n (x := a3) (by omega)]); (first | rw [stp_p (x := a4) (by omega)] | rw [stp_n (x := a4) (by omega)]); (first | rw [stp_p (x := a5) (by omega)] | rw [stp_n (x := a5) (by omega)]); (first | rw [stp_p (x := a6) (by omega)] | rw [stp_n (x := a6) (by omega)]); (first | rw [stp_p (x := a7) (by omega)] | rw [stp_n (x := a7) (by omega)]))⟩
            · refine lv_lload hx hb dX11_spelled_137 (lv_at hl 0 rfl) ?_
              refine lv_ldc2 (v := iL 32) hx hb C.2.2.2.1 (C.2.2.1 _ (show Cond.constantLong RX11 176 (iL 32) ∈ gWs from mD_X11_176)) dX11_spelled_139 ?_
              refine gl_mul (z := (((((((((((a1 - 96) * 32) + a4) - 96) * 32) + a5) - 96) * 32) + a6) - 96) * 32)) hx hb dX11_spelled_142 rfl ?_
              refine lv_iload hx hb dX11_spelled_143 (lv_at hl 7 rfl) ?_
              refine gi_i2l hx hb (by omega) dX11_spelled_145 ?_
              refine gl_add (z := ((((((((((((a1 - 96) * 32) + a4) - 96) * 32) + a5) - 96) * 32) + a6) - 96) * 32) + a7)) hx hb dX11_spelled_146 rfl ?_
              refine lv_ldc2 (v := iL 96) hx hb C.2.2.2.1 (C.2.2.1 _ (show Cond.constantLong RX11 178 (iL 96) ∈ gWs from mD_X11_178)) dX11_spelled_147 ?_
              refine gl_sub (z := (((((((((((((a1 - 96) * 32) + a4) - 96) * 32) + a5) - 96) * 32) + a6) - 96) * 32) + a7) - 96)) hx hb dX11_spelled_150 rfl ?_
              refine lv_goto (tgt := 156) hx hb dX11_spelled_151 (by decide) ?_
              exact g_lret hQ C hr hlocks hP hS dX11_spelled_156 ⟨(((((((((((((a1 - 96) * 32) + a4) - 96) * 32) + a5) - 96) * 32) + a6) - 96) * 32) + a7) - 96), rfl, rfl, rfl, rfl, (by unfold spW; (first | rw [stp_p (x := a2) (by omega)] | rw [stp_n (x := a2) (by omega)]); (first | rw [stp_p (x := a3) (by omega)] | rw [stp_n (x := a3) (by omega)]); (first | rw [stp_p (x := a4) (by omega)] | rw [stp_n (x := a4) (by omega)]); (first | rw [stp_p (x := a5) (by omega)] | rw [stp_n (x := a5) (by omega)]); (first | rw [stp_p (x := a6) (by omega)] | rw [stp_n (x := a6) (by omega)]); (first | rw [stp_p (x := a7) (by omega)] | rw [stp_n (x := a7) (by omega)]))⟩
    · refine lv_lload hx hb dX11_spelled_36 (lv_at hl 0 rfl) ?_
      refine lv_ldc2 (v := iL 32) hx hb C.2.2.2.1 (C.2.2.1 _ (show Cond.constantLong RX11 176 (iL 32) ∈ gWs from mD_X11_176)) dX11_spelled_38 ?_
      refine gl_mul (z := ((a1 - 96) * 32)) hx hb dX11_spelled_41 rfl ?_
      refine lv_iload_n hx hb dX11_spelled_42 rfl (lv_at hl 3 rfl) ?_
      refine gi_i2l hx hb (by omega) dX11_spelled_43 ?_
      refine gl_add (z := (((a1 - 96) * 32) + a3)) hx hb dX11_spelled_44 rfl ?_
      refine lv_ldc2 (v := iL 96) hx hb C.2.2.2.1 (C.2.2.1 _ (show Cond.constantLong RX11 178 (iL 96) ∈ gWs from mD_X11_178)) dX11_spelled_45 ?_
      refine gl_sub (z := ((((a1 - 96) * 32) + a3) - 96)) hx hb dX11_spelled_48 rfl ?_
      refine lv_goto (tgt := 54) hx hb dX11_spelled_49 (by decide) ?_
      refine lv_lstore (lv' := [(7, .long (iL ((((a1 - 96) * 32) + a3) - 96))), (0, .int (iI a1)), (1, .int (iI a2)), (2, .int (iI a3)), (3, .int (iI a4)), (4, .int (iI a5)), (5, .int (iI a6)), (6, .int (iI a7))]) hx hb dX11_spelled_54 hl (by decide) rfl (fun ls hl => ?_)
      refine lv_iload_n hx hb dX11_spelled_56 rfl (lv_at hl 4 rfl) ?_
      refine gi_zle (tgt := 76) hx hb dX11_spelled_57 (by decide) (by omega) (fun c_18 => ?_) (fun c_18 => ?_)
      · refine lv_lload hx hb dX11_spelled_76 (lv_at hl 0 rfl) ?_
        refine lv_lstore (lv' := [(7, .long (iL ((((a1 - 96) * 32) + a3) - 96))), (0, .int (iI a1)), (1, .int (iI a2)), (2, .int (iI a3)), (3, .int (iI a4)), (4, .int (iI a5)), (5, .int (iI a6)), (6, .int (iI a7))]) hx hb dX11_spelled_78 hl (by decide) rfl (fun ls hl => ?_)
        refine lv_iload hx hb dX11_spelled_80 (lv_at hl 5 rfl) ?_
        refine gi_zle (tgt := 102) hx hb dX11_spelled_82 (by decide) (by omega) (fun c_19 => ?_) (fun c_19 => ?_)
        · refine lv_lload hx hb dX11_spelled_102 (lv_at hl 0 rfl) ?_
          refine lv_lstore (lv' := [(7, .long (iL ((((a1 - 96) * 32) + a3) - 96))), (0, .int (iI a1)), (1, .int (iI a2)), (2, .int (iI a3)), (3, .int (iI a4)), (4, .int (iI a5)), (5, .int (iI a6)), (6, .int (iI a7))]) hx hb dX11_spelled_104 hl (by decide) rfl (fun ls hl => ?_)
          refine lv_iload hx hb dX11_spelled_106 (lv_at hl 6 rfl) ?_
          refine gi_zle (tgt := 128) hx hb dX11_spelled_108 (by decide) (by omega) (fun c_20 => ?_) (fun c_20 => ?_)
          · refine lv_lload hx hb dX11_spelled_128 (lv_at hl 0 rfl) ?_
            refine lv_lstore (lv' := [(7, .long (iL ((((a1 - 96) * 32) + a3) - 96))), (0, .int (iI a1)), (1, .int (iI a2)), (2, .int (iI a3)), (3, .int (iI a4)), (4, .int (iI a5)), (5, .int (iI a6)), (6, .int (iI a7))]) hx hb dX11_spelled_130 hl (by decide) rfl (fun ls hl => ?_)
            refine lv_iload hx hb dX11_spelled_132 (lv_at hl 7 rfl) ?_
            refine gi_zle (tgt := 154) hx hb dX11_spelled_134 (by decide) (by omega) (fun c_21 => ?_) (fun c_21 => ?_)
            · refine lv_lload hx hb dX11_spelled_154 (lv_at hl 0 rfl) ?_
              exact g_lret hQ C hr hlocks hP hS dX11_spelled_156 ⟨((((a1 - 96) * 32) + a3) - 96), rfl, rfl, rfl, rfl, (by unfold spW; (first | rw [stp_p (x := a2) (by omega)] | rw [stp_n (x := a2) (by omega)]); (first | rw [stp_p (x := a3) (by omega)] | rw [stp_n (x := a3) (by omega)]); (first | rw [stp_p (x := a4) (by omega)] | rw [stp_n (x := a4) (by omega)]); (first | rw [stp_p (x := a5) (by omega)] | rw [stp_n (x := a5) (by omega)]); (first | rw [stp_p (x := a6) (by omega)] | rw [stp_n (x := a6) (by omega)]); (first | rw [stp_p (x := a7) (by omega)] | rw [stp_n (x := a7) (by omega)]))⟩
            · refine lv_lload hx hb dX11_spelled_137 (lv_at hl 0 rfl) ?_
              refine lv_ldc2 (v := iL 32) hx hb C.2.2.2.1 (C.2.2.1 _ (show Cond.constantLong RX11 176 (iL 32) ∈ gWs from mD_X11_176)) dX11_spelled_139 ?_
              refine gl_mul (z := (((((a1 - 96) * 32) + a3) - 96) * 32)) hx hb dX11_spelled_142 rfl ?_
              refine lv_iload hx hb dX11_spelled_143 (lv_at hl 7 rfl) ?_
              refine gi_i2l hx hb (by omega) dX11_spelled_145 ?_
              refine gl_add (z := ((((((a1 - 96) * 32) + a3) - 96) * 32) + a7)) hx hb dX11_spelled_146 rfl ?_
              refine lv_ldc2 (v := iL 96) hx hb C.2.2.2.1 (C.2.2.1 _ (show Cond.constantLong RX11 178 (iL 96) ∈ gWs from mD_X11_178)) dX11_spelled_147 ?_
              refine gl_sub (z := (((((((a1 - 96) * 32) + a3) - 96) * 32) + a7) - 96)) hx hb dX11_spelled_150 rfl ?_
              refine lv_goto (tgt := 156) hx hb dX11_spelled_151 (by decide) ?_
              exact g_lret hQ C hr hlocks hP hS dX11_spelled_156 ⟨(((((((a1 - 96) * 32) + a3) - 96) * 32) + a7) - 96), rfl, rfl, rfl, rfl, (by unfold spW; (first | rw [stp_p (x := a2) (by omega)] | rw [stp_n (x := a2) (by omega)]); (first | rw [stp_p (x := a3) (by omega)] | rw [stp_n (x := a3) (by omega)]); (first | rw [stp_p (x := a4) (by omega)] | rw [stp_n (x := a4) (by omega)]); (first | rw [stp_p (x := a5) (by omega)] | rw [stp_n (x := a5) (by omega)]); (first | rw [stp_p (x := a6) (by omega)] | rw [stp_n (x := a6) (by omega)]); (first | rw [stp_p (x := a7) (by omega)] | rw [stp_n (x := a7) (by omega)]))⟩
          · refine lv_lload hx hb dX11_spelled_111 (lv_at hl 0 rfl) ?_
            refine lv_ldc2 (v := iL 32) hx hb C.2.2.2.1 (C.2.2.1 _ (show Cond.constantLong RX11 176 (iL 32) ∈ gWs from mD_X11_176)) dX11_spelled_113 ?_
            refine gl_mul (z := (((((a1 - 96) * 32) + a3) - 96) * 32)) hx hb dX11_spelled_116 rfl ?_
            refine lv_iload hx hb dX11_spelled_117 (lv_at hl 6 rfl) ?_
            refine gi_i2l hx hb (by omega) dX11_spelled_119 ?_
            refine gl_add (z := ((((((a1 - 96) * 32) + a3) - 96) * 32) + a6)) hx hb dX11_spelled_120 rfl ?_
            refine lv_ldc2 (v := iL 96) hx hb C.2.2.2.1 (C.2.2.1 _ (show Cond.constantLong RX11 178 (iL 96) ∈ gWs from mD_X11_178)) dX11_spelled_121 ?_
            refine gl_sub (z := (((((((a1 - 96) * 32) + a3) - 96) * 32) + a6) - 96)) hx hb dX11_spelled_124 rfl ?_
            refine lv_goto (tgt := 130) hx hb dX11_spelled_125 (by decide) ?_
            refine lv_lstore (lv' := [(7, .long (iL (((((((a1 - 96) * 32) + a3) - 96) * 32) + a6) - 96))), (0, .int (iI a1)), (1, .int (iI a2)), (2, .int (iI a3)), (3, .int (iI a4)), (4, .int (iI a5)), (5, .int (iI a6)), (6, .int (iI a7))]) hx hb dX11_spelled_130 hl (by decide) rfl (fun ls hl => ?_)
            refine lv_iload hx hb dX11_spelled_132 (lv_at hl 7 rfl) ?_
            refine gi_zle (tgt := 154) hx hb dX11_spelled_134 (by decide) (by omega) (fun c_22 => ?_) (fun c_22 => ?_)
            · refine lv_lload hx hb dX11_spelled_154 (lv_at hl 0 rfl) ?_
              exact g_lret hQ C hr hlocks hP hS dX11_spelled_156 ⟨(((((((a1 - 96) * 32) + a3) - 96) * 32) + a6) - 96), rfl, rfl, rfl, rfl, (by unfold spW; (first | rw [stp_p (x := a2) (by omega)] | rw [stp_n (x := a2) (by omega)]); (first | rw [stp_p (x := a3) (by omega)] | rw [stp_n (x := a3) (by omega)]); (first | rw [stp_p (x := a4) (by omega)] | rw [stp_n (x := a4) (by omega)]); (first | rw [stp_p (x := a5) (by omega)] | rw [stp_n (x := a5) (by omega)]); (first | rw [stp_p (x := a6) (by omega)] | rw [stp_n (x := a6) (by omega)]); (first | rw [stp_p (x := a7) (by omega)] | rw [stp_n (x := a7) (by omega)]))⟩
            · refine lv_lload hx hb dX11_spelled_137 (lv_at hl 0 rfl) ?_
              refine lv_ldc2 (v := iL 32) hx hb C.2.2.2.1 (C.2.2.1 _ (show Cond.constantLong RX11 176 (iL 32) ∈ gWs from mD_X11_176)) dX11_spelled_139 ?_
              refine gl_mul (z := ((((((((a1 - 96) * 32) + a3) - 96) * 32) + a6) - 96) * 32)) hx hb dX11_spelled_142 rfl ?_
              refine lv_iload hx hb dX11_spelled_143 (lv_at hl 7 rfl) ?_
              refine gi_i2l hx hb (by omega) dX11_spelled_145 ?_
              refine gl_add (z := (((((((((a1 - 96) * 32) + a3) - 96) * 32) + a6) - 96) * 32) + a7)) hx hb dX11_spelled_146 rfl ?_
              refine lv_ldc2 (v := iL 96) hx hb C.2.2.2.1 (C.2.2.1 _ (show Cond.constantLong RX11 178 (iL 96) ∈ gWs from mD_X11_178)) dX11_spelled_147 ?_
              refine gl_sub (z := ((((((((((a1 - 96) * 32) + a3) - 96) * 32) + a6) - 96) * 32) + a7) - 96)) hx hb dX11_spelled_150 rfl ?_
              refine lv_goto (tgt := 156) hx hb dX11_spelled_151 (by decide) ?_
              exact g_lret hQ C hr hlocks hP hS dX11_spelled_156 ⟨((((((((((a1 - 96) * 32) + a3) - 96) * 32) + a6) - 96) * 32) + a7) - 96), rfl, rfl, rfl, rfl, (by unfold spW; (first | rw [stp_p (x := a2) (by omega)] | rw [stp_n (x := a2) (by omega)]); (first | rw [stp_p (x := a3) (by omega)] | rw [stp_n (x := a3) (by omega)]); (first | rw [stp_p (x := a4) (by omega)] | rw [stp_n (x := a4) (by omega)]); (first | rw [stp_p (x := a5) (by omega)] | rw [stp_n (x := a5) (by omega)]); (first | rw [stp_p (x := a6) (by omega)] | rw [stp_n (x := a6) (by omega)]); (first | rw [stp_p (x := a7) (by omega)] | rw [stp_n (x := a7) (by omega)]))⟩
        · refine lv_lload hx hb dX11_spelled_85 (lv_at hl 0 rfl) ?_
          refine lv_ldc2 (v := iL 32) hx hb C.2.2.2.1 (C.2.2.1 _ (show Cond.constantLong RX11 176 (iL 32) ∈ gWs from mD_X11_176)) dX11_spelled_87 ?_
          refine gl_mul (z := (((((a1 - 96) * 32) + a3) - 96) * 32)) hx hb dX11_spelled_90 rfl ?_
          refine lv_iload hx hb dX11_spelled_91 (lv_at hl 5 rfl) ?_
          refine gi_i2l hx hb (by omega) dX11_spelled_93 ?_
          refine gl_add (z := ((((((a1 - 96) * 32) + a3) - 96) * 32) + a5)) hx hb dX11_spelled_94 rfl ?_
          refine lv_ldc2 (v := iL 96) hx hb C.2.2.2.1 (C.2.2.1 _ (show Cond.constantLong RX11 178 (iL 96) ∈ gWs from mD_X11_178)) dX11_spelled_95 ?_
          refine gl_sub (z := (((((((a1 - 96) * 32) + a3) - 96) * 32) + a5) - 96)) hx hb dX11_spelled_98 rfl ?_
          refine lv_goto (tgt := 104) hx hb dX11_spelled_99 (by decide) ?_
          refine lv_lstore (lv' := [(7, .long (iL (((((((a1 - 96) * 32) + a3) - 96) * 32) + a5) - 96))), (0, .int (iI a1)), (1, .int (iI a2)), (2, .int (iI a3)), (3, .int (iI a4)), (4, .int (iI a5)), (5, .int (iI a6)), (6, .int (iI a7))]) hx hb dX11_spelled_104 hl (by decide) rfl (fun ls hl => ?_)
          refine lv_iload hx hb dX11_spelled_106 (lv_at hl 6 rfl) ?_
          refine gi_zle (tgt := 128) hx hb dX11_spelled_108 (by decide) (by omega) (fun c_23 => ?_) (fun c_23 => ?_)
          · refine lv_lload hx hb dX11_spelled_128 (lv_at hl 0 rfl) ?_
            refine lv_lstore (lv' := [(7, .long (iL (((((((a1 - 96) * 32) + a3) - 96) * 32) + a5) - 96))), (0, .int (iI a1)), (1, .int (iI a2)), (2, .int (iI a3)), (3, .int (iI a4)), (4, .int (iI a5)), (5, .int (iI a6)), (6, .int (iI a7))]) hx hb dX11_spelled_130 hl (by decide) rfl (fun ls hl => ?_)
            refine lv_iload hx hb dX11_spelled_132 (lv_at hl 7 rfl) ?_
            refine gi_zle (tgt := 154) hx hb dX11_spelled_134 (by decide) (by omega) (fun c_24 => ?_) (fun c_24 => ?_)
            · refine lv_lload hx hb dX11_spelled_154 (lv_at hl 0 rfl) ?_
              exact g_lret hQ C hr hlocks hP hS dX11_spelled_156 ⟨(((((((a1 - 96) * 32) + a3) - 96) * 32) + a5) - 96), rfl, rfl, rfl, rfl, (by unfold spW; (first | rw [stp_p (x := a2) (by omega)] | rw [stp_n (x := a2) (by omega)]); (first | rw [stp_p (x := a3) (by omega)] | rw [stp_n (x := a3) (by omega)]); (first | rw [stp_p (x := a4) (by omega)] | rw [stp_n (x := a4) (by omega)]); (first | rw [stp_p (x := a5) (by omega)] | rw [stp_n (x := a5) (by omega)]); (first | rw [stp_p (x := a6) (by omega)] | rw [stp_n (x := a6) (by omega)]); (first | rw [stp_p (x := a7) (by omega)] | rw [stp_n (x := a7) (by omega)]))⟩
            · refine lv_lload hx hb dX11_spelled_137 (lv_at hl 0 rfl) ?_
              refine lv_ldc2 (v := iL 32) hx hb C.2.2.2.1 (C.2.2.1 _ (show Cond.constantLong RX11 176 (iL 32) ∈ gWs from mD_X11_176)) dX11_spelled_139 ?_
              refine gl_mul (z := ((((((((a1 - 96) * 32) + a3) - 96) * 32) + a5) - 96) * 32)) hx hb dX11_spelled_142 rfl ?_
              refine lv_iload hx hb dX11_spelled_143 (lv_at hl 7 rfl) ?_
              refine gi_i2l hx hb (by omega) dX11_spelled_145 ?_
              refine gl_add (z := (((((((((a1 - 96) * 32) + a3) - 96) * 32) + a5) - 96) * 32) + a7)) hx hb dX11_spelled_146 rfl ?_
              refine lv_ldc2 (v := iL 96) hx hb C.2.2.2.1 (C.2.2.1 _ (show Cond.constantLong RX11 178 (iL 96) ∈ gWs from mD_X11_178)) dX11_spelled_147 ?_
              refine gl_sub (z := ((((((((((a1 - 96) * 32) + a3) - 96) * 32) + a5) - 96) * 32) + a7) - 96)) hx hb dX11_spelled_150 rfl ?_
              refine lv_goto (tgt := 156) hx hb dX11_spelled_151 (by decide) ?_
              exact g_lret hQ C hr hlocks hP hS dX11_spelled_156 ⟨((((((((((a1 - 96) * 32) + a3) - 96) * 32) + a5) - 96) * 32) + a7) - 96), rfl, rfl, rfl, rfl, (by unfold spW; (first | rw [stp_p (x := a2) (by omega)] | rw [stp_n (x := a2) (by omega)]); (first | rw [stp_p (x := a3) (by omega)] | rw [stp_n (x := a3) (by omega)]); (first | rw [stp_p (x := a4) (by omega)] | rw [stp_n (x := a4) (by omega)]); (first | rw [stp_p (x := a5) (by omega)] | rw [stp_n (x := a5) (by omega)]); (first | rw [stp_p (x := a6) (by omega)] | rw [stp_n (x := a6) (by omega)]); (first | rw [stp_p (x := a7) (by omega)] | rw [stp_n (x := a7) (by omega)]))⟩
          · refine lv_lload hx hb dX11_spelled_111 (lv_at hl 0 rfl) ?_
            refine lv_ldc2 (v := iL 32) hx hb C.2.2.2.1 (C.2.2.1 _ (show Cond.constantLong RX11 176 (iL 32) ∈ gWs from mD_X11_176)) dX11_spelled_113 ?_
            refine gl_mul (z := ((((((((a1 - 96) * 32) + a3) - 96) * 32) + a5) - 96) * 32)) hx hb dX11_spelled_116 rfl ?_
            refine lv_iload hx hb dX11_spelled_117 (lv_at hl 6 rfl) ?_
            refine gi_i2l hx hb (by omega) dX11_spelled_119 ?_
            refine gl_add (z := (((((((((a1 - 96) * 32) + a3) - 96) * 32) + a5) - 96) * 32) + a6)) hx hb dX11_spelled_120 rfl ?_
            refine lv_ldc2 (v := iL 96) hx hb C.2.2.2.1 (C.2.2.1 _ (show Cond.constantLong RX11 178 (iL 96) ∈ gWs from mD_X11_178)) dX11_spelled_121 ?_
            refine gl_sub (z := ((((((((((a1 - 96) * 32) + a3) - 96) * 32) + a5) - 96) * 32) + a6) - 96)) hx hb dX11_spelled_124 rfl ?_
            refine lv_goto (tgt := 130) hx hb dX11_spelled_125 (by decide) ?_
            refine lv_lstore (lv' := [(7, .long (iL ((((((((((a1 - 96) * 32) + a3) - 96) * 32) + a5) - 96) * 32) + a6) - 96))), (0, .int (iI a1)), (1, .int (iI a2)), (2, .int (iI a3)), (3, .int (iI a4)), (4, .int (iI a5)), (5, .int (iI a6)), (6, .int (iI a7))]) hx hb dX11_spelled_130 hl (by decide) rfl (fun ls hl => ?_)
            refine lv_iload hx hb dX11_spelled_132 (lv_at hl 7 rfl) ?_
            refine gi_zle (tgt := 154) hx hb dX11_spelled_134 (by decide) (by omega) (fun c_25 => ?_) (fun c_25 => ?_)
            · refine lv_lload hx hb dX11_spelled_154 (lv_at hl 0 rfl) ?_
              exact g_lret hQ C hr hlocks hP hS dX11_spelled_156 ⟨((((((((((a1 - 96) * 32) + a3) - 96) * 32) + a5) - 96) * 32) + a6) - 96), rfl, rfl, rfl, rfl, (by unfold spW; (first | rw [stp_p (x := a2) (by omega)] | rw [stp_n (x := a2) (by omega)]); (first | rw [stp_p (x := a3) (by omega)] | rw [stp_n (x := a3) (by omega)]); (first | rw [stp_p (x := a4) (by omega)] | rw [stp_n (x := a4) (by omega)]); (first | rw [stp_p (x := a5) (by omega)] | rw [stp_n (x := a5) (by omega)]); (first | rw [stp_p (x := a6) (by omega)] | rw [stp_n (x := a6) (by omega)]); (first | rw [stp_p (x := a7) (by omega)] | rw [stp_n (x := a7) (by omega)]))⟩
            · refine lv_lload hx hb dX11_spelled_137 (lv_at hl 0 rfl) ?_
              refine lv_ldc2 (v := iL 32) hx hb C.2.2.2.1 (C.2.2.1 _ (show Cond.constantLong RX11 176 (iL 32) ∈ gWs from mD_X11_176)) dX11_spelled_139 ?_
              refine gl_mul (z := (((((((((((a1 - 96) * 32) + a3) - 96) * 32) + a5) - 96) * 32) + a6) - 96) * 32)) hx hb dX11_spelled_142 rfl ?_
              refine lv_iload hx hb dX11_spelled_143 (lv_at hl 7 rfl) ?_
              refine gi_i2l hx hb (by omega) dX11_spelled_145 ?_
              refine gl_add (z := ((((((((((((a1 - 96) * 32) + a3) - 96) * 32) + a5) - 96) * 32) + a6) - 96) * 32) + a7)) hx hb dX11_spelled_146 rfl ?_
              refine lv_ldc2 (v := iL 96) hx hb C.2.2.2.1 (C.2.2.1 _ (show Cond.constantLong RX11 178 (iL 96) ∈ gWs from mD_X11_178)) dX11_spelled_147 ?_
              refine gl_sub (z := (((((((((((((a1 - 96) * 32) + a3) - 96) * 32) + a5) - 96) * 32) + a6) - 96) * 32) + a7) - 96)) hx hb dX11_spelled_150 rfl ?_
              refine lv_goto (tgt := 156) hx hb dX11_spelled_151 (by decide) ?_
              exact g_lret hQ C hr hlocks hP hS dX11_spelled_156 ⟨(((((((((((((a1 - 96) * 32) + a3) - 96) * 32) + a5) - 96) * 32) + a6) - 96) * 32) + a7) - 96), rfl, rfl, rfl, rfl, (by unfold spW; (first | rw [stp_p (x := a2) (by omega)] | rw [stp_n (x := a2) (by omega)]); (first | rw [stp_p (x := a3) (by omega)] | rw [stp_n (x := a3) (by omega)]); (first | rw [stp_p (x := a4) (by omega)] | rw [stp_n (x := a4) (by omega)]); (first | rw [stp_p (x := a5) (by omega)] | rw [stp_n (x := a5) (by omega)]); (first | rw [stp_p (x := a6) (by omega)] | rw [stp_n (x := a6) (by omega)]); (first | rw [stp_p (x := a7) (by omega)] | rw [stp_n (x := a7) (by omega)]))⟩
      · refine lv_lload hx hb dX11_spelled_60 (lv_at hl 0 rfl) ?_
        refine lv_ldc2 (v := iL 32) hx hb C.2.2.2.1 (C.2.2.1 _ (show Cond.constantLong RX11 176 (iL 32) ∈ gWs from mD_X11_176)) dX11_spelled_62 ?_
        refine gl_mul (z := (((((a1 - 96) * 32) + a3) - 96) * 32)) hx hb dX11_spelled_65 rfl ?_
        refine lv_iload_n hx hb dX11_spelled_66 rfl (lv_at hl 4 rfl) ?_
        refine gi_i2l hx hb (by omega) dX11_spelled_67 ?_
        refine gl_add (z := ((((((a1 - 96) * 32) + a3) - 96) * 32) + a4)) hx hb dX11_spelled_68 rfl ?_
        refine lv_ldc2 (v := iL 96) hx hb C.2.2.2.1 (C.2.2.1 _ (show Cond.constantLong RX11 178 (iL 96) ∈ gWs from mD_X11_178)) dX11_spelled_69 ?_
        refine gl_sub (z := (((((((a1 - 96) * 32) + a3) - 96) * 32) + a4) - 96)) hx hb dX11_spelled_72 rfl ?_
        refine lv_goto (tgt := 78) hx hb dX11_spelled_73 (by decide) ?_
        refine lv_lstore (lv' := [(7, .long (iL (((((((a1 - 96) * 32) + a3) - 96) * 32) + a4) - 96))), (0, .int (iI a1)), (1, .int (iI a2)), (2, .int (iI a3)), (3, .int (iI a4)), (4, .int (iI a5)), (5, .int (iI a6)), (6, .int (iI a7))]) hx hb dX11_spelled_78 hl (by decide) rfl (fun ls hl => ?_)
        refine lv_iload hx hb dX11_spelled_80 (lv_at hl 5 rfl) ?_
        refine gi_zle (tgt := 102) hx hb dX11_spelled_82 (by decide) (by omega) (fun c_26 => ?_) (fun c_26 => ?_)
        · refine lv_lload hx hb dX11_spelled_102 (lv_at hl 0 rfl) ?_
          refine lv_lstore (lv' := [(7, .long (iL (((((((a1 - 96) * 32) + a3) - 96) * 32) + a4) - 96))), (0, .int (iI a1)), (1, .int (iI a2)), (2, .int (iI a3)), (3, .int (iI a4)), (4, .int (iI a5)), (5, .int (iI a6)), (6, .int (iI a7))]) hx hb dX11_spelled_104 hl (by decide) rfl (fun ls hl => ?_)
          refine lv_iload hx hb dX11_spelled_106 (lv_at hl 6 rfl) ?_
          refine gi_zle (tgt := 128) hx hb dX11_spelled_108 (by decide) (by omega) (fun c_27 => ?_) (fun c_27 => ?_)
          · refine lv_lload hx hb dX11_spelled_128 (lv_at hl 0 rfl) ?_
            refine lv_lstore (lv' := [(7, .long (iL (((((((a1 - 96) * 32) + a3) - 96) * 32) + a4) - 96))), (0, .int (iI a1)), (1, .int (iI a2)), (2, .int (iI a3)), (3, .int (iI a4)), (4, .int (iI a5)), (5, .int (iI a6)), (6, .int (iI a7))]) hx hb dX11_spelled_130 hl (by decide) rfl (fun ls hl => ?_)
            refine lv_iload hx hb dX11_spelled_132 (lv_at hl 7 rfl) ?_
            refine gi_zle (tgt := 154) hx hb dX11_spelled_134 (by decide) (by omega) (fun c_28 => ?_) (fun c_28 => ?_)
            · refine lv_lload hx hb dX11_spelled_154 (lv_at hl 0 rfl) ?_
              exact g_lret hQ C hr hlocks hP hS dX11_spelled_156 ⟨(((((((a1 - 96) * 32) + a3) - 96) * 32) + a4) - 96), rfl, rfl, rfl, rfl, (by unfold spW; (first | rw [stp_p (x := a2) (by omega)] | rw [stp_n (x := a2) (by omega)]); (first | rw [stp_p (x := a3) (by omega)] | rw [stp_n (x := a3) (by omega)]); (first | rw [stp_p (x := a4) (by omega)] | rw [stp_n (x := a4) (by omega)]); (first | rw [stp_p (x := a5) (by omega)] | rw [stp_n (x := a5) (by omega)]); (first | rw [stp_p (x := a6) (by omega)] | rw [stp_n (x := a6) (by omega)]); (first | rw [stp_p (x := a7) (by omega)] | rw [stp_n (x := a7) (by omega)]))⟩
            · refine lv_lload hx hb dX11_spelled_137 (lv_at hl 0 rfl) ?_
              refine lv_ldc2 (v := iL 32) hx hb C.2.2.2.1 (C.2.2.1 _ (show Cond.constantLong RX11 176 (iL 32) ∈ gWs from mD_X11_176)) dX11_spelled_139 ?_
              refine gl_mul (z := ((((((((a1 - 96) * 32) + a3) - 96) * 32) + a4) - 96) * 32)) hx hb dX11_spelled_142 rfl ?_
              refine lv_iload hx hb dX11_spelled_143 (lv_at hl 7 rfl) ?_
              refine gi_i2l hx hb (by omega) dX11_spelled_145 ?_
              refine gl_add (z := (((((((((a1 - 96) * 32) + a3) - 96) * 32) + a4) - 96) * 32) + a7)) hx hb dX11_spelled_146 rfl ?_
              refine lv_ldc2 (v := iL 96) hx hb C.2.2.2.1 (C.2.2.1 _ (show Cond.constantLong RX11 178 (iL 96) ∈ gWs from mD_X11_178)) dX11_spelled_147 ?_
              refine gl_sub (z := ((((((((((a1 - 96) * 32) + a3) - 96) * 32) + a4) - 96) * 32) + a7) - 96)) hx hb dX11_spelled_150 rfl ?_
              refine lv_goto (tgt := 156) hx hb dX11_spelled_151 (by decide) ?_
              exact g_lret hQ C hr hlocks hP hS dX11_spelled_156 ⟨((((((((((a1 - 96) * 32) + a3) - 96) * 32) + a4) - 96) * 32) + a7) - 96), rfl, rfl, rfl, rfl, (by unfold spW; (first | rw [stp_p (x := a2) (by omega)] | rw [stp_n (x := a2) (by omega)]); (first | rw [stp_p (x := a3) (by omega)] | rw [stp_n (x := a3) (by omega)]); (first | rw [stp_p (x := a4) (by omega)] | rw [stp_n (x := a4) (by omega)]); (first | rw [stp_p (x := a5) (by omega)] | rw [stp_n (x := a5) (by omega)]); (first | rw [stp_p (x := a6) (by omega)] | rw [stp_n (x := a6) (by omega)]); (first | rw [stp_p (x := a7) (by omega)] | rw [stp_n (x := a7) (by omega)]))⟩
          · refine lv_lload hx hb dX11_spelled_111 (lv_at hl 0 rfl) ?_
            refine lv_ldc2 (v := iL 32) hx hb C.2.2.2.1 (C.2.2.1 _ (show Cond.constantLong RX11 176 (iL 32) ∈ gWs from mD_X11_176)) dX11_spelled_113 ?_
            refine gl_mul (z := ((((((((a1 - 96) * 32) + a3) - 96) * 32) + a4) - 96) * 32)) hx hb dX11_spelled_116 rfl ?_
            refine lv_iload hx hb dX11_spelled_117 (lv_at hl 6 rfl) ?_
            refine gi_i2l hx hb (by omega) dX11_spelled_119 ?_
            refine gl_add (z := (((((((((a1 - 96) * 32) + a3) - 96) * 32) + a4) - 96) * 32) + a6)) hx hb dX11_spelled_120 rfl ?_
            refine lv_ldc2 (v := iL 96) hx hb C.2.2.2.1 (C.2.2.1 _ (show Cond.constantLong RX11 178 (iL 96) ∈ gWs from mD_X11_178)) dX11_spelled_121 ?_
            refine gl_sub (z := ((((((((((a1 - 96) * 32) + a3) - 96) * 32) + a4) - 96) * 32) + a6) - 96)) hx hb dX11_spelled_124 rfl ?_
            refine lv_goto (tgt := 130) hx hb dX11_spelled_125 (by decide) ?_
            refine lv_lstore (lv' := [(7, .long (iL ((((((((((a1 - 96) * 32) + a3) - 96) * 32) + a4) - 96) * 32) + a6) - 96))), (0, .int (iI a1)), (1, .int (iI a2)), (2, .int (iI a3)), (3, .int (iI a4)), (4, .int (iI a5)), (5, .int (iI a6)), (6, .int (iI a7))]) hx hb dX11_spelled_130 hl (by decide) rfl (fun ls hl => ?_)
            refine lv_iload hx hb dX11_spelled_132 (lv_at hl 7 rfl) ?_
            refine gi_zle (tgt := 154) hx hb dX11_spelled_134 (by decide) (by omega) (fun c_29 => ?_) (fun c_29 => ?_)
            · refine lv_lload hx hb dX11_spelled_154 (lv_at hl 0 rfl) ?_
              exact g_lret hQ C hr hlocks hP hS dX11_spelled_156 ⟨((((((((((a1 - 96) * 32) + a3) - 96) * 32) + a4) - 96) * 32) + a6) - 96), rfl, rfl, rfl, rfl, (by unfold spW; (first | rw [stp_p (x := a2) (by omega)] | rw [stp_n (x := a2) (by omega)]); (first | rw [stp_p (x := a3) (by omega)] | rw [stp_n (x := a3) (by omega)]); (first | rw [stp_p (x := a4) (by omega)] | rw [stp_n (x := a4) (by omega)]); (first | rw [stp_p (x := a5) (by omega)] | rw [stp_n (x := a5) (by omega)]); (first | rw [stp_p (x := a6) (by omega)] | rw [stp_n (x := a6) (by omega)]); (first | rw [stp_p (x := a7) (by omega)] | rw [stp_n (x := a7) (by omega)]))⟩
            · refine lv_lload hx hb dX11_spelled_137 (lv_at hl 0 rfl) ?_
              refine lv_ldc2 (v := iL 32) hx hb C.2.2.2.1 (C.2.2.1 _ (show Cond.constantLong RX11 176 (iL 32) ∈ gWs from mD_X11_176)) dX11_spelled_139 ?_
              refine gl_mul (z := (((((((((((a1 - 96) * 32) + a3) - 96) * 32) + a4) - 96) * 32) + a6) - 96) * 32)) hx hb dX11_spelled_142 rfl ?_
              refine lv_iload hx hb dX11_spelled_143 (lv_at hl 7 rfl) ?_
              refine gi_i2l hx hb (by omega) dX11_spelled_145 ?_
              refine gl_add (z := ((((((((((((a1 - 96) * 32) + a3) - 96) * 32) + a4) - 96) * 32) + a6) - 96) * 32) + a7)) hx hb dX11_spelled_146 rfl ?_
              refine lv_ldc2 (v := iL 96) hx hb C.2.2.2.1 (C.2.2.1 _ (show Cond.constantLong RX11 178 (iL 96) ∈ gWs from mD_X11_178)) dX11_spelled_147 ?_
              refine gl_sub (z := (((((((((((((a1 - 96) * 32) + a3) - 96) * 32) + a4) - 96) * 32) + a6) - 96) * 32) + a7) - 96)) hx hb dX11_spelled_150 rfl ?_
              refine lv_goto (tgt := 156) hx hb dX11_spelled_151 (by decide) ?_
              exact g_lret hQ C hr hlocks hP hS dX11_spelled_156 ⟨(((((((((((((a1 - 96) * 32) + a3) - 96) * 32) + a4) - 96) * 32) + a6) - 96) * 32) + a7) - 96), rfl, rfl, rfl, rfl, (by unfold spW; (first | rw [stp_p (x := a2) (by omega)] | rw [stp_n (x := a2) (by omega)]); (first | rw [stp_p (x := a3) (by omega)] | rw [stp_n (x := a3) (by omega)]); (first | rw [stp_p (x := a4) (by omega)] | rw [stp_n (x := a4) (by omega)]); (first | rw [stp_p (x := a5) (by omega)] | rw [stp_n (x := a5) (by omega)]); (first | rw [stp_p (x := a6) (by omega)] | rw [stp_n (x := a6) (by omega)]); (first | rw [stp_p (x := a7) (by omega)] | rw [stp_n (x := a7) (by omega)]))⟩
        · refine lv_lload hx hb dX11_spelled_85 (lv_at hl 0 rfl) ?_
          refine lv_ldc2 (v := iL 32) hx hb C.2.2.2.1 (C.2.2.1 _ (show Cond.constantLong RX11 176 (iL 32) ∈ gWs from mD_X11_176)) dX11_spelled_87 ?_
          refine gl_mul (z := ((((((((a1 - 96) * 32) + a3) - 96) * 32) + a4) - 96) * 32)) hx hb dX11_spelled_90 rfl ?_
          refine lv_iload hx hb dX11_spelled_91 (lv_at hl 5 rfl) ?_
          refine gi_i2l hx hb (by omega) dX11_spelled_93 ?_
          refine gl_add (z := (((((((((a1 - 96) * 32) + a3) - 96) * 32) + a4) - 96) * 32) + a5)) hx hb dX11_spelled_94 rfl ?_
          refine lv_ldc2 (v := iL 96) hx hb C.2.2.2.1 (C.2.2.1 _ (show Cond.constantLong RX11 178 (iL 96) ∈ gWs from mD_X11_178)) dX11_spelled_95 ?_
          refine gl_sub (z := ((((((((((a1 - 96) * 32) + a3) - 96) * 32) + a4) - 96) * 32) + a5) - 96)) hx hb dX11_spelled_98 rfl ?_
          refine lv_goto (tgt := 104) hx hb dX11_spelled_99 (by decide) ?_
          refine lv_lstore (lv' := [(7, .long (iL ((((((((((a1 - 96) * 32) + a3) - 96) * 32) + a4) - 96) * 32) + a5) - 96))), (0, .int (iI a1)), (1, .int (iI a2)), (2, .int (iI a3)), (3, .int (iI a4)), (4, .int (iI a5)), (5, .int (iI a6)), (6, .int (iI a7))]) hx hb dX11_spelled_104 hl (by decide) rfl (fun ls hl => ?_)
          refine lv_iload hx hb dX11_spelled_106 (lv_at hl 6 rfl) ?_
          refine gi_zle (tgt := 128) hx hb dX11_spelled_108 (by decide) (by omega) (fun c_30 => ?_) (fun c_30 => ?_)
          · refine lv_lload hx hb dX11_spelled_128 (lv_at hl 0 rfl) ?_
            refine lv_lstore (lv' := [(7, .long (iL ((((((((((a1 - 96) * 32) + a3) - 96) * 32) + a4) - 96) * 32) + a5) - 96))), (0, .int (iI a1)), (1, .int (iI a2)), (2, .int (iI a3)), (3, .int (iI a4)), (4, .int (iI a5)), (5, .int (iI a6)), (6, .int (iI a7))]) hx hb dX11_spelled_130 hl (by decide) rfl (fun ls hl => ?_)
            refine lv_iload hx hb dX11_spelled_132 (lv_at hl 7 rfl) ?_
            refine gi_zle (tgt := 154) hx hb dX11_spelled_134 (by decide) (by omega) (fun c_31 => ?_) (fun c_31 => ?_)
            · refine lv_lload hx hb dX11_spelled_154 (lv_at hl 0 rfl) ?_
              exact g_lret hQ C hr hlocks hP hS dX11_spelled_156 ⟨((((((((((a1 - 96) * 32) + a3) - 96) * 32) + a4) - 96) * 32) + a5) - 96), rfl, rfl, rfl, rfl, (by unfold spW; (first | rw [stp_p (x := a2) (by omega)] | rw [stp_n (x := a2) (by omega)]); (first | rw [stp_p (x := a3) (by omega)] | rw [stp_n (x := a3) (by omega)]); (first | rw [stp_p (x := a4) (by omega)] | rw [stp_n (x := a4) (by omega)]); (first | rw [stp_p (x := a5) (by omega)] | rw [stp_n (x := a5) (by omega)]); (first | rw [stp_p (x := a6) (by omega)] | rw [stp_n (x := a6) (by omega)]); (first | rw [stp_p (x := a7) (by omega)] | rw [stp_n (x := a7) (by omega)]))⟩
            · refine lv_lload hx hb dX11_spelled_137 (lv_at hl 0 rfl) ?_
              refine lv_ldc2 (v := iL 32) hx hb C.2.2.2.1 (C.2.2.1 _ (show Cond.constantLong RX11 176 (iL 32) ∈ gWs from mD_X11_176)) dX11_spelled_139 ?_
              refine gl_mul (z := (((((((((((a1 - 96) * 32) + a3) - 96) * 32) + a4) - 96) * 32) + a5) - 96) * 32)) hx hb dX11_spelled_142 rfl ?_
              refine lv_iload hx hb dX11_spelled_143 (lv_at hl 7 rfl) ?_
              refine gi_i2l hx hb (by omega) dX11_spelled_145 ?_
              refine gl_add (z := ((((((((((((a1 - 96) * 32) + a3) - 96) * 32) + a4) - 96) * 32) + a5) - 96) * 32) + a7)) hx hb dX11_spelled_146 rfl ?_
              refine lv_ldc2 (v := iL 96) hx hb C.2.2.2.1 (C.2.2.1 _ (show Cond.constantLong RX11 178 (iL 96) ∈ gWs from mD_X11_178)) dX11_spelled_147 ?_
              refine gl_sub (z := (((((((((((((a1 - 96) * 32) + a3) - 96) * 32) + a4) - 96) * 32) + a5) - 96) * 32) + a7) - 96)) hx hb dX11_spelled_150 rfl ?_
              refine lv_goto (tgt := 156) hx hb dX11_spelled_151 (by decide) ?_
              exact g_lret hQ C hr hlocks hP hS dX11_spelled_156 ⟨(((((((((((((a1 - 96) * 32) + a3) - 96) * 32) + a4) - 96) * 32) + a5) - 96) * 32) + a7) - 96), rfl, rfl, rfl, rfl, (by unfold spW; (first | rw [stp_p (x := a2) (by omega)] | rw [stp_n (x := a2) (by omega)]); (first | rw [stp_p (x := a3) (by omega)] | rw [stp_n (x := a3) (by omega)]); (first | rw [stp_p (x := a4) (by omega)] | rw [stp_n (x := a4) (by omega)]); (first | rw [stp_p (x := a5) (by omega)] | rw [stp_n (x := a5) (by omega)]); (first | rw [stp_p (x := a6) (by omega)] | rw [stp_n (x := a6) (by omega)]); (first | rw [stp_p (x := a7) (by omega)] | rw [stp_n (x := a7) (by omega)]))⟩
          · refine lv_lload hx hb dX11_spelled_111 (lv_at hl 0 rfl) ?_
            refine lv_ldc2 (v := iL 32) hx hb C.2.2.2.1 (C.2.2.1 _ (show Cond.constantLong RX11 176 (iL 32) ∈ gWs from mD_X11_176)) dX11_spelled_113 ?_
            refine gl_mul (z := (((((((((((a1 - 96) * 32) + a3) - 96) * 32) + a4) - 96) * 32) + a5) - 96) * 32)) hx hb dX11_spelled_116 rfl ?_
            refine lv_iload hx hb dX11_spelled_117 (lv_at hl 6 rfl) ?_
            refine gi_i2l hx hb (by omega) dX11_spelled_119 ?_
            refine gl_add (z := ((((((((((((a1 - 96) * 32) + a3) - 96) * 32) + a4) - 96) * 32) + a5) - 96) * 32) + a6)) hx hb dX11_spelled_120 rfl ?_
            refine lv_ldc2 (v := iL 96) hx hb C.2.2.2.1 (C.2.2.1 _ (show Cond.constantLong RX11 178 (iL 96) ∈ gWs from mD_X11_178)) dX11_spelled_121 ?_
            refine gl_sub (z := (((((((((((((a1 - 96) * 32) + a3) - 96) * 32) + a4) - 96) * 32) + a5) - 96) * 32) + a6) - 96)) hx hb dX11_spelled_124 rfl ?_
            refine lv_goto (tgt := 130) hx hb dX11_spelled_125 (by decide) ?_
            refine lv_lstore (lv' := [(7, .long (iL (((((((((((((a1 - 96) * 32) + a3) - 96) * 32) + a4) - 96) * 32) + a5) - 96) * 32) + a6) - 96))), (0, .int (iI a1)), (1, .int (iI a2)), (2, .int (iI a3)), (3, .int (iI a4)), (4, .int (iI a5)), (5, .int (iI a6)), (6, .int (iI a7))]) hx hb dX11_spelled_130 hl (by decide) rfl (fun ls hl => ?_)
            refine lv_iload hx hb dX11_spelled_132 (lv_at hl 7 rfl) ?_
            refine gi_zle (tgt := 154) hx hb dX11_spelled_134 (by decide) (by omega) (fun c_32 => ?_) (fun c_32 => ?_)
            · refine lv_lload hx hb dX11_spelled_154 (lv_at hl 0 rfl) ?_
              exact g_lret hQ C hr hlocks hP hS dX11_spelled_156 ⟨(((((((((((((a1 - 96) * 32) + a3) - 96) * 32) + a4) - 96) * 32) + a5) - 96) * 32) + a6) - 96), rfl, rfl, rfl, rfl, (by unfold spW; (first | rw [stp_p (x := a2) (by omega)] | rw [stp_n (x := a2) (by omega)]); (first | rw [stp_p (x := a3) (by omega)] | rw [stp_n (x := a3) (by omega)]); (first | rw [stp_p (x := a4) (by omega)] | rw [stp_n (x := a4) (by omega)]); (first | rw [stp_p (x := a5) (by omega)] | rw [stp_n (x := a5) (by omega)]); (first | rw [stp_p (x := a6) (by omega)] | rw [stp_n (x := a6) (by omega)]); (first | rw [stp_p (x := a7) (by omega)] | rw [stp_n (x := a7) (by omega)]))⟩
            · refine lv_lload hx hb dX11_spelled_137 (lv_at hl 0 rfl) ?_
              refine lv_ldc2 (v := iL 32) hx hb C.2.2.2.1 (C.2.2.1 _ (show Cond.constantLong RX11 176 (iL 32) ∈ gWs from mD_X11_176)) dX11_spelled_139 ?_
              refine gl_mul (z := ((((((((((((((a1 - 96) * 32) + a3) - 96) * 32) + a4) - 96) * 32) + a5) - 96) * 32) + a6) - 96) * 32)) hx hb dX11_spelled_142 rfl ?_
              refine lv_iload hx hb dX11_spelled_143 (lv_at hl 7 rfl) ?_
              refine gi_i2l hx hb (by omega) dX11_spelled_145 ?_
              refine gl_add (z := (((((((((((((((a1 - 96) * 32) + a3) - 96) * 32) + a4) - 96) * 32) + a5) - 96) * 32) + a6) - 96) * 32) + a7)) hx hb dX11_spelled_146 rfl ?_
              refine lv_ldc2 (v := iL 96) hx hb C.2.2.2.1 (C.2.2.1 _ (show Cond.constantLong RX11 178 (iL 96) ∈ gWs from mD_X11_178)) dX11_spelled_147 ?_
              refine gl_sub (z := ((((((((((((((((a1 - 96) * 32) + a3) - 96) * 32) + a4) - 96) * 32) + a5) - 96) * 32) + a6) - 96) * 32) + a7) - 96)) hx hb dX11_spelled_150 rfl ?_
              refine lv_goto (tgt := 156) hx hb dX11_spelled_151 (by decide) ?_
              exact g_lret hQ C hr hlocks hP hS dX11_spelled_156 ⟨((((((((((((((((a1 - 96) * 32) + a3) - 96) * 32) + a4) - 96) * 32) + a5) - 96) * 32) + a6) - 96) * 32) + a7) - 96), rfl, rfl, rfl, rfl, (by unfold spW; (first | rw [stp_p (x := a2) (by omega)] | rw [stp_n (x := a2) (by omega)]); (first | rw [stp_p (x := a3) (by omega)] | rw [stp_n (x := a3) (by omega)]); (first | rw [stp_p (x := a4) (by omega)] | rw [stp_n (x := a4) (by omega)]); (first | rw [stp_p (x := a5) (by omega)] | rw [stp_n (x := a5) (by omega)]); (first | rw [stp_p (x := a6) (by omega)] | rw [stp_n (x := a6) (by omega)]); (first | rw [stp_p (x := a7) (by omega)] | rw [stp_n (x := a7) (by omega)]))⟩
  · refine lv_lload hx hb dX11_spelled_12 (lv_at hl 0 rfl) ?_
    refine lv_ldc2 (v := iL 32) hx hb C.2.2.2.1 (C.2.2.1 _ (show Cond.constantLong RX11 176 (iL 32) ∈ gWs from mD_X11_176)) dX11_spelled_14 ?_
    refine gl_mul (z := ((a1 - 96) * 32)) hx hb dX11_spelled_17 rfl ?_
    refine lv_iload_n hx hb dX11_spelled_18 rfl (lv_at hl 2 rfl) ?_
    refine gi_i2l hx hb (by omega) dX11_spelled_19 ?_
    refine gl_add (z := (((a1 - 96) * 32) + a2)) hx hb dX11_spelled_20 rfl ?_
    refine lv_ldc2 (v := iL 96) hx hb C.2.2.2.1 (C.2.2.1 _ (show Cond.constantLong RX11 178 (iL 96) ∈ gWs from mD_X11_178)) dX11_spelled_21 ?_
    refine gl_sub (z := ((((a1 - 96) * 32) + a2) - 96)) hx hb dX11_spelled_24 rfl ?_
    refine lv_goto (tgt := 30) hx hb dX11_spelled_25 (by decide) ?_
    refine lv_lstore (lv' := [(7, .long (iL ((((a1 - 96) * 32) + a2) - 96))), (0, .int (iI a1)), (1, .int (iI a2)), (2, .int (iI a3)), (3, .int (iI a4)), (4, .int (iI a5)), (5, .int (iI a6)), (6, .int (iI a7))]) hx hb dX11_spelled_30 hl (by decide) rfl (fun ls hl => ?_)
    refine lv_iload_n hx hb dX11_spelled_32 rfl (lv_at hl 3 rfl) ?_
    refine gi_zle (tgt := 52) hx hb dX11_spelled_33 (by decide) (by omega) (fun c_33 => ?_) (fun c_33 => ?_)
    · refine lv_lload hx hb dX11_spelled_52 (lv_at hl 0 rfl) ?_
      refine lv_lstore (lv' := [(7, .long (iL ((((a1 - 96) * 32) + a2) - 96))), (0, .int (iI a1)), (1, .int (iI a2)), (2, .int (iI a3)), (3, .int (iI a4)), (4, .int (iI a5)), (5, .int (iI a6)), (6, .int (iI a7))]) hx hb dX11_spelled_54 hl (by decide) rfl (fun ls hl => ?_)
      refine lv_iload_n hx hb dX11_spelled_56 rfl (lv_at hl 4 rfl) ?_
      refine gi_zle (tgt := 76) hx hb dX11_spelled_57 (by decide) (by omega) (fun c_34 => ?_) (fun c_34 => ?_)
      · refine lv_lload hx hb dX11_spelled_76 (lv_at hl 0 rfl) ?_
        refine lv_lstore (lv' := [(7, .long (iL ((((a1 - 96) * 32) + a2) - 96))), (0, .int (iI a1)), (1, .int (iI a2)), (2, .int (iI a3)), (3, .int (iI a4)), (4, .int (iI a5)), (5, .int (iI a6)), (6, .int (iI a7))]) hx hb dX11_spelled_78 hl (by decide) rfl (fun ls hl => ?_)
        refine lv_iload hx hb dX11_spelled_80 (lv_at hl 5 rfl) ?_
        refine gi_zle (tgt := 102) hx hb dX11_spelled_82 (by decide) (by omega) (fun c_35 => ?_) (fun c_35 => ?_)
        · refine lv_lload hx hb dX11_spelled_102 (lv_at hl 0 rfl) ?_
          refine lv_lstore (lv' := [(7, .long (iL ((((a1 - 96) * 32) + a2) - 96))), (0, .int (iI a1)), (1, .int (iI a2)), (2, .int (iI a3)), (3, .int (iI a4)), (4, .int (iI a5)), (5, .int (iI a6)), (6, .int (iI a7))]) hx hb dX11_spelled_104 hl (by decide) rfl (fun ls hl => ?_)
          refine lv_iload hx hb dX11_spelled_106 (lv_at hl 6 rfl) ?_
          refine gi_zle (tgt := 128) hx hb dX11_spelled_108 (by decide) (by omega) (fun c_36 => ?_) (fun c_36 => ?_)
          · refine lv_lload hx hb dX11_spelled_128 (lv_at hl 0 rfl) ?_
            refine lv_lstore (lv' := [(7, .long (iL ((((a1 - 96) * 32) + a2) - 96))), (0, .int (iI a1)), (1, .int (iI a2)), (2, .int (iI a3)), (3, .int (iI a4)), (4, .int (iI a5)), (5, .int (iI a6)), (6, .int (iI a7))]) hx hb dX11_spelled_130 hl (by decide) rfl (fun ls hl => ?_)
            refine lv_iload hx hb dX11_spelled_132 (lv_at hl 7 rfl) ?_
            refine gi_zle (tgt := 154) hx hb dX11_spelled_134 (by decide) (by omega) (fun c_37 => ?_) (fun c_37 => ?_)
            · refine lv_lload hx hb dX11_spelled_154 (lv_at hl 0 rfl) ?_
              exact g_lret hQ C hr hlocks hP hS dX11_spelled_156 ⟨((((a1 - 96) * 32) + a2) - 96), rfl, rfl, rfl, rfl, (by unfold spW; (first | rw [stp_p (x := a2) (by omega)] | rw [stp_n (x := a2) (by omega)]); (first | rw [stp_p (x := a3) (by omega)] | rw [stp_n (x := a3) (by omega)]); (first | rw [stp_p (x := a4) (by omega)] | rw [stp_n (x := a4) (by omega)]); (first | rw [stp_p (x := a5) (by omega)] | rw [stp_n (x := a5) (by omega)]); (first | rw [stp_p (x := a6) (by omega)] | rw [stp_n (x := a6) (by omega)]); (first | rw [stp_p (x := a7) (by omega)] | rw [stp_n (x := a7) (by omega)]))⟩
            · refine lv_lload hx hb dX11_spelled_137 (lv_at hl 0 rfl) ?_
              refine lv_ldc2 (v := iL 32) hx hb C.2.2.2.1 (C.2.2.1 _ (show Cond.constantLong RX11 176 (iL 32) ∈ gWs from mD_X11_176)) dX11_spelled_139 ?_
              refine gl_mul (z := (((((a1 - 96) * 32) + a2) - 96) * 32)) hx hb dX11_spelled_142 rfl ?_
              refine lv_iload hx hb dX11_spelled_143 (lv_at hl 7 rfl) ?_
              refine gi_i2l hx hb (by omega) dX11_spelled_145 ?_
              refine gl_add (z := ((((((a1 - 96) * 32) + a2) - 96) * 32) + a7)) hx hb dX11_spelled_146 rfl ?_
              refine lv_ldc2 (v := iL 96) hx hb C.2.2.2.1 (C.2.2.1 _ (show Cond.constantLong RX11 178 (iL 96) ∈ gWs from mD_X11_178)) dX11_spelled_147 ?_
              refine gl_sub (z := (((((((a1 - 96) * 32) + a2) - 96) * 32) + a7) - 96)) hx hb dX11_spelled_150 rfl ?_
              refine lv_goto (tgt := 156) hx hb dX11_spelled_151 (by decide) ?_
              exact g_lret hQ C hr hlocks hP hS dX11_spelled_156 ⟨(((((((a1 - 96) * 32) + a2) - 96) * 32) + a7) - 96), rfl, rfl, rfl, rfl, (by unfold spW; (first | rw [stp_p (x := a2) (by omega)] | rw [stp_n (x := a2) (by omega)]); (first | rw [stp_p (x := a3) (by omega)] | rw [stp_n (x := a3) (by omega)]); (first | rw [stp_p (x := a4) (by omega)] | rw [stp_n (x := a4) (by omega)]); (first | rw [stp_p (x := a5) (by omega)] | rw [stp_n (x := a5) (by omega)]); (first | rw [stp_p (x := a6) (by omega)] | rw [stp_n (x := a6) (by omega)]); (first | rw [stp_p (x := a7) (by omega)] | rw [stp_n (x := a7) (by omega)]))⟩
          · refine lv_lload hx hb dX11_spelled_111 (lv_at hl 0 rfl) ?_
            refine lv_ldc2 (v := iL 32) hx hb C.2.2.2.1 (C.2.2.1 _ (show Cond.constantLong RX11 176 (iL 32) ∈ gWs from mD_X11_176)) dX11_spelled_113 ?_
            refine gl_mul (z := (((((a1 - 96) * 32) + a2) - 96) * 32)) hx hb dX11_spelled_116 rfl ?_
            refine lv_iload hx hb dX11_spelled_117 (lv_at hl 6 rfl) ?_
            refine gi_i2l hx hb (by omega) dX11_spelled_119 ?_
            refine gl_add (z := ((((((a1 - 96) * 32) + a2) - 96) * 32) + a6)) hx hb dX11_spelled_120 rfl ?_
            refine lv_ldc2 (v := iL 96) hx hb C.2.2.2.1 (C.2.2.1 _ (show Cond.constantLong RX11 178 (iL 96) ∈ gWs from mD_X11_178)) dX11_spelled_121 ?_
            refine gl_sub (z := (((((((a1 - 96) * 32) + a2) - 96) * 32) + a6) - 96)) hx hb dX11_spelled_124 rfl ?_
            refine lv_goto (tgt := 130) hx hb dX11_spelled_125 (by decide) ?_
            refine lv_lstore (lv' := [(7, .long (iL (((((((a1 - 96) * 32) + a2) - 96) * 32) + a6) - 96))), (0, .int (iI a1)), (1, .int (iI a2)), (2, .int (iI a3)), (3, .int (iI a4)), (4, .int (iI a5)), (5, .int (iI a6)), (6, .int (iI a7))]) hx hb dX11_spelled_130 hl (by decide) rfl (fun ls hl => ?_)
            refine lv_iload hx hb dX11_spelled_132 (lv_at hl 7 rfl) ?_
            refine gi_zle (tgt := 154) hx hb dX11_spelled_134 (by decide) (by omega) (fun c_38 => ?_) (fun c_38 => ?_)
            · refine lv_lload hx hb dX11_spelled_154 (lv_at hl 0 rfl) ?_
              exact g_lret hQ C hr hlocks hP hS dX11_spelled_156 ⟨(((((((a1 - 96) * 32) + a2) - 96) * 32) + a6) - 96), rfl, rfl, rfl, rfl, (by unfold spW; (first | rw [stp_p (x := a2) (by omega)] | rw [stp_n (x := a2) (by omega)]); (first | rw [stp_p (x := a3) (by omega)] | rw [stp_n (x := a3) (by omega)]); (first | rw [stp_p (x := a4) (by omega)] | rw [stp_n (x := a4) (by omega)]); (first | rw [stp_p (x := a5) (by omega)] | rw [stp_n (x := a5) (by omega)]); (first | rw [stp_p (x := a6) (by omega)] | rw [stp_n (x := a6) (by omega)]); (first | rw [stp_p (x := a7) (by omega)] | rw [stp_n (x := a7) (by omega)]))⟩
            · refine lv_lload hx hb dX11_spelled_137 (lv_at hl 0 rfl) ?_
              refine lv_ldc2 (v := iL 32) hx hb C.2.2.2.1 (C.2.2.1 _ (show Cond.constantLong RX11 176 (iL 32) ∈ gWs from mD_X11_176)) dX11_spelled_139 ?_
              refine gl_mul (z := ((((((((a1 - 96) * 32) + a2) - 96) * 32) + a6) - 96) * 32)) hx hb dX11_spelled_142 rfl ?_
              refine lv_iload hx hb dX11_spelled_143 (lv_at hl 7 rfl) ?_
              refine gi_i2l hx hb (by omega) dX11_spelled_145 ?_
              refine gl_add (z := (((((((((a1 - 96) * 32) + a2) - 96) * 32) + a6) - 96) * 32) + a7)) hx hb dX11_spelled_146 rfl ?_
              refine lv_ldc2 (v := iL 96) hx hb C.2.2.2.1 (C.2.2.1 _ (show Cond.constantLong RX11 178 (iL 96) ∈ gWs from mD_X11_178)) dX11_spelled_147 ?_
              refine gl_sub (z := ((((((((((a1 - 96) * 32) + a2) - 96) * 32) + a6) - 96) * 32) + a7) - 96)) hx hb dX11_spelled_150 rfl ?_
              refine lv_goto (tgt := 156) hx hb dX11_spelled_151 (by decide) ?_
              exact g_lret hQ C hr hlocks hP hS dX11_spelled_156 ⟨((((((((((a1 - 96) * 32) + a2) - 96) * 32) + a6) - 96) * 32) + a7) - 96), rfl, rfl, rfl, rfl, (by unfold spW; (first | rw [stp_p (x := a2) (by omega)] | rw [stp_n (x := a2) (by omega)]); (first | rw [stp_p (x := a3) (by omega)] | rw [stp_n (x := a3) (by omega)]); (first | rw [stp_p (x := a4) (by omega)] | rw [stp_n (x := a4) (by omega)]); (first | rw [stp_p (x := a5) (by omega)] | rw [stp_n (x := a5) (by omega)]); (first | rw [stp_p (x := a6) (by omega)] | rw [stp_n (x := a6) (by omega)]); (first | rw [stp_p (x := a7) (by omega)] | rw [stp_n (x := a7) (by omega)]))⟩
        · refine lv_lload hx hb dX11_spelled_85 (lv_at hl 0 rfl) ?_
          refine lv_ldc2 (v := iL 32) hx hb C.2.2.2.1 (C.2.2.1 _ (show Cond.constantLong RX11 176 (iL 32) ∈ gWs from mD_X11_176)) dX11_spelled_87 ?_
          refine gl_mul (z := (((((a1 - 96) * 32) + a2) - 96) * 32)) hx hb dX11_spelled_90 rfl ?_
          refine lv_iload hx hb dX11_spelled_91 (lv_at hl 5 rfl) ?_
          refine gi_i2l hx hb (by omega) dX11_spelled_93 ?_
          refine gl_add (z := ((((((a1 - 96) * 32) + a2) - 96) * 32) + a5)) hx hb dX11_spelled_94 rfl ?_
          refine lv_ldc2 (v := iL 96) hx hb C.2.2.2.1 (C.2.2.1 _ (show Cond.constantLong RX11 178 (iL 96) ∈ gWs from mD_X11_178)) dX11_spelled_95 ?_
          refine gl_sub (z := (((((((a1 - 96) * 32) + a2) - 96) * 32) + a5) - 96)) hx hb dX11_spelled_98 rfl ?_
          refine lv_goto (tgt := 104) hx hb dX11_spelled_99 (by decide) ?_
          refine lv_lstore (lv' := [(7, .long (iL (((((((a1 - 96) * 32) + a2) - 96) * 32) + a5) - 96))), (0, .int (iI a1)), (1, .int (iI a2)), (2, .int (iI a3)), (3, .int (iI a4)), (4, .int (iI a5)), (5, .int (iI a6)), (6, .int (iI a7))]) hx hb dX11_spelled_104 hl (by decide) rfl (fun ls hl => ?_)
          refine lv_iload hx hb dX11_spelled_106 (lv_at hl 6 rfl) ?_
          refine gi_zle (tgt := 128) hx hb dX11_spelled_108 (by decide) (by omega) (fun c_39 => ?_) (fun c_39 => ?_)
          · refine lv_lload hx hb dX11_spelled_128 (lv_at hl 0 rfl) ?_
            refine lv_lstore (lv' := [(7, .long (iL (((((((a1 - 96) * 32) + a2) - 96) * 32) + a5) - 96))), (0, .int (iI a1)), (1, .int (iI a2)), (2, .int (iI a3)), (3, .int (iI a4)), (4, .int (iI a5)), (5, .int (iI a6)), (6, .int (iI a7))]) hx hb dX11_spelled_130 hl (by decide) rfl (fun ls hl => ?_)
            refine lv_iload hx hb dX11_spelled_132 (lv_at hl 7 rfl) ?_
            refine gi_zle (tgt := 154) hx hb dX11_spelled_134 (by decide) (by omega) (fun c_40 => ?_) (fun c_40 => ?_)
            · refine lv_lload hx hb dX11_spelled_154 (lv_at hl 0 rfl) ?_
              exact g_lret hQ C hr hlocks hP hS dX11_spelled_156 ⟨(((((((a1 - 96) * 32) + a2) - 96) * 32) + a5) - 96), rfl, rfl, rfl, rfl, (by unfold spW; (first | rw [stp_p (x := a2) (by omega)] | rw [stp_n (x := a2) (by omega)]); (first | rw [stp_p (x := a3) (by omega)] | rw [stp_n (x := a3) (by omega)]); (first | rw [stp_p (x := a4) (by omega)] | rw [stp_n (x := a4) (by omega)]); (first | rw [stp_p (x := a5) (by omega)] | rw [stp_n (x := a5) (by omega)]); (first | rw [stp_p (x := a6) (by omega)] | rw [stp_n (x := a6) (by omega)]); (first | rw [stp_p (x := a7) (by omega)] | rw [stp_n (x := a7) (by omega)]))⟩
            · refine lv_lload hx hb dX11_spelled_137 (lv_at hl 0 rfl) ?_
              refine lv_ldc2 (v := iL 32) hx hb C.2.2.2.1 (C.2.2.1 _ (show Cond.constantLong RX11 176 (iL 32) ∈ gWs from mD_X11_176)) dX11_spelled_139 ?_
              refine gl_mul (z := ((((((((a1 - 96) * 32) + a2) - 96) * 32) + a5) - 96) * 32)) hx hb dX11_spelled_142 rfl ?_
              refine lv_iload hx hb dX11_spelled_143 (lv_at hl 7 rfl) ?_
              refine gi_i2l hx hb (by omega) dX11_spelled_145 ?_
              refine gl_add (z := (((((((((a1 - 96) * 32) + a2) - 96) * 32) + a5) - 96) * 32) + a7)) hx hb dX11_spelled_146 rfl ?_
              refine lv_ldc2 (v := iL 96) hx hb C.2.2.2.1 (C.2.2.1 _ (show Cond.constantLong RX11 178 (iL 96) ∈ gWs from mD_X11_178)) dX11_spelled_147 ?_
              refine gl_sub (z := ((((((((((a1 - 96) * 32) + a2) - 96) * 32) + a5) - 96) * 32) + a7) - 96)) hx hb dX11_spelled_150 rfl ?_
              refine lv_goto (tgt := 156) hx hb dX11_spelled_151 (by decide) ?_
              exact g_lret hQ C hr hlocks hP hS dX11_spelled_156 ⟨((((((((((a1 - 96) * 32) + a2) - 96) * 32) + a5) - 96) * 32) + a7) - 96), rfl, rfl, rfl, rfl, (by unfold spW; (first | rw [stp_p (x := a2) (by omega)] | rw [stp_n (x := a2) (by omega)]); (first | rw [stp_p (x := a3) (by omega)] | rw [stp_n (x := a3) (by omega)]); (first | rw [stp_p (x := a4) (by omega)] | rw [stp_n (x := a4) (by omega)]); (first | rw [stp_p (x := a5) (by omega)] | rw [stp_n (x := a5) (by omega)]); (first | rw [stp_p (x := a6) (by omega)] | rw [stp_n (x := a6) (by omega)]); (first | rw [stp_p (x := a7) (by omega)] | rw [stp_n (x := a7) (by omega)]))⟩
          · refine lv_lload hx hb dX11_spelled_111 (lv_at hl 0 rfl) ?_
            refine lv_ldc2 (v := iL 32) hx hb C.2.2.2.1 (C.2.2.1 _ (show Cond.constantLong RX11 176 (iL 32) ∈ gWs from mD_X11_176)) dX11_spelled_113 ?_
            refine gl_mul (z := ((((((((a1 - 96) * 32) + a2) - 96) * 32) + a5) - 96) * 32)) hx hb dX11_spelled_116 rfl ?_
            refine lv_iload hx hb dX11_spelled_117 (lv_at hl 6 rfl) ?_
            refine gi_i2l hx hb (by omega) dX11_spelled_119 ?_
            refine gl_add (z := (((((((((a1 - 96) * 32) + a2) - 96) * 32) + a5) - 96) * 32) + a6)) hx hb dX11_spelled_120 rfl ?_
            refine lv_ldc2 (v := iL 96) hx hb C.2.2.2.1 (C.2.2.1 _ (show Cond.constantLong RX11 178 (iL 96) ∈ gWs from mD_X11_178)) dX11_spelled_121 ?_
            refine gl_sub (z := ((((((((((a1 - 96) * 32) + a2) - 96) * 32) + a5) - 96) * 32) + a6) - 96)) hx hb dX11_spelled_124 rfl ?_
            refine lv_goto (tgt := 130) hx hb dX11_spelled_125 (by decide) ?_
            refine lv_lstore (lv' := [(7, .long (iL ((((((((((a1 - 96) * 32) + a2) - 96) * 32) + a5) - 96) * 32) + a6) - 96))), (0, .int (iI a1)), (1, .int (iI a2)), (2, .int (iI a3)), (3, .int (iI a4)), (4, .int (iI a5)), (5, .int (iI a6)), (6, .int (iI a7))]) hx hb dX11_spelled_130 hl (by decide) rfl (fun ls hl => ?_)
            refine lv_iload hx hb dX11_spelled_132 (lv_at hl 7 rfl) ?_
            refine gi_zle (tgt := 154) hx hb dX11_spelled_134 (by decide) (by omega) (fun c_41 => ?_) (fun c_41 => ?_)
            · refine lv_lload hx hb dX11_spelled_154 (lv_at hl 0 rfl) ?_
              exact g_lret hQ C hr hlocks hP hS dX11_spelled_156 ⟨((((((((((a1 - 96) * 32) + a2) - 96) * 32) + a5) - 96) * 32) + a6) - 96), rfl, rfl, rfl, rfl, (by unfold spW; (first | rw [stp_p (x := a2) (by omega)] | rw [stp_n (x := a2) (by omega)]); (first | rw [stp_p (x := a3) (by omega)] | rw [stp_n (x := a3) (by omega)]); (first | rw [stp_p (x := a4) (by omega)] | rw [stp_n (x := a4) (by omega)]); (first | rw [stp_p (x := a5) (by omega)] | rw [stp_n (x := a5) (by omega)]); (first | rw [stp_p (x := a6) (by omega)] | rw [stp_n (x := a6) (by omega)]); (first | rw [stp_p (x := a7) (by omega)] | rw [stp_n (x := a7) (by omega)]))⟩
            · refine lv_lload hx hb dX11_spelled_137 (lv_at hl 0 rfl) ?_
              refine lv_ldc2 (v := iL 32) hx hb C.2.2.2.1 (C.2.2.1 _ (show Cond.constantLong RX11 176 (iL 32) ∈ gWs from mD_X11_176)) dX11_spelled_139 ?_
              refine gl_mul (z := (((((((((((a1 - 96) * 32) + a2) - 96) * 32) + a5) - 96) * 32) + a6) - 96) * 32)) hx hb dX11_spelled_142 rfl ?_
              refine lv_iload hx hb dX11_spelled_143 (lv_at hl 7 rfl) ?_
              refine gi_i2l hx hb (by omega) dX11_spelled_145 ?_
              refine gl_add (z := ((((((((((((a1 - 96) * 32) + a2) - 96) * 32) + a5) - 96) * 32) + a6) - 96) * 32) + a7)) hx hb dX11_spelled_146 rfl ?_
              refine lv_ldc2 (v := iL 96) hx hb C.2.2.2.1 (C.2.2.1 _ (show Cond.constantLong RX11 178 (iL 96) ∈ gWs from mD_X11_178)) dX11_spelled_147 ?_
              refine gl_sub (z := (((((((((((((a1 - 96) * 32) + a2) - 96) * 32) + a5) - 96) * 32) + a6) - 96) * 32) + a7) - 96)) hx hb dX11_spelled_150 rfl ?_
              refine lv_goto (tgt := 156) hx hb dX11_spelled_151 (by decide) ?_
              exact g_lret hQ C hr hlocks hP hS dX11_spelled_156 ⟨(((((((((((((a1 - 96) * 32) + a2) - 96) * 32) + a5) - 96) * 32) + a6) - 96) * 32) + a7) - 96), rfl, rfl, rfl, rfl, (by unfold spW; (first | rw [stp_p (x := a2) (by omega)] | rw [stp_n (x := a2) (by omega)]); (first | rw [stp_p (x := a3) (by omega)] | rw [stp_n (x := a3) (by omega)]); (first | rw [stp_p (x := a4) (by omega)] | rw [stp_n (x := a4) (by omega)]); (first | rw [stp_p (x := a5) (by omega)] | rw [stp_n (x := a5) (by omega)]); (first | rw [stp_p (x := a6) (by omega)] | rw [stp_n (x := a6) (by omega)]); (first | rw [stp_p (x := a7) (by omega)] | rw [stp_n (x := a7) (by omega)]))⟩
      · refine lv_lload hx hb dX11_spelled_60 (lv_at hl 0 rfl) ?_
        refine lv_ldc2 (v := iL 32) hx hb C.2.2.2.1 (C.2.2.1 _ (show Cond.constantLong RX11 176 (iL 32) ∈ gWs from mD_X11_176)) dX11_spelled_62 ?_
        refine gl_mul (z := (((((a1 - 96) * 32) + a2) - 96) * 32)) hx hb dX11_spelled_65 rfl ?_
        refine lv_iload_n hx hb dX11_spelled_66 rfl (lv_at hl 4 rfl) ?_
        refine gi_i2l hx hb (by omega) dX11_spelled_67 ?_
        refine gl_add (z := ((((((a1 - 96) * 32) + a2) - 96) * 32) + a4)) hx hb dX11_spelled_68 rfl ?_
        refine lv_ldc2 (v := iL 96) hx hb C.2.2.2.1 (C.2.2.1 _ (show Cond.constantLong RX11 178 (iL 96) ∈ gWs from mD_X11_178)) dX11_spelled_69 ?_
        refine gl_sub (z := (((((((a1 - 96) * 32) + a2) - 96) * 32) + a4) - 96)) hx hb dX11_spelled_72 rfl ?_
        refine lv_goto (tgt := 78) hx hb dX11_spelled_73 (by decide) ?_
        refine lv_lstore (lv' := [(7, .long (iL (((((((a1 - 96) * 32) + a2) - 96) * 32) + a4) - 96))), (0, .int (iI a1)), (1, .int (iI a2)), (2, .int (iI a3)), (3, .int (iI a4)), (4, .int (iI a5)), (5, .int (iI a6)), (6, .int (iI a7))]) hx hb dX11_spelled_78 hl (by decide) rfl (fun ls hl => ?_)
        refine lv_iload hx hb dX11_spelled_80 (lv_at hl 5 rfl) ?_
        refine gi_zle (tgt := 102) hx hb dX11_spelled_82 (by decide) (by omega) (fun c_42 => ?_) (fun c_42 => ?_)
        · refine lv_lload hx hb dX11_spelled_102 (lv_at hl 0 rfl) ?_
          refine lv_lstore (lv' := [(7, .long (iL (((((((a1 - 96) * 32) + a2) - 96) * 32) + a4) - 96))), (0, .int (iI a1)), (1, .int (iI a2)), (2, .int (iI a3)), (3, .int (iI a4)), (4, .int (iI a5)), (5, .int (iI a6)), (6, .int (iI a7))]) hx hb dX11_spelled_104 hl (by decide) rfl (fun ls hl => ?_)
          refine lv_iload hx hb dX11_spelled_106 (lv_at hl 6 rfl) ?_
          refine gi_zle (tgt := 128) hx hb dX11_spelled_108 (by decide) (by omega) (fun c_43 => ?_) (fun c_43 => ?_)
          · refine lv_lload hx hb dX11_spelled_128 (lv_at hl 0 rfl) ?_
            refine lv_lstore (lv' := [(7, .long (iL (((((((a1 - 96) * 32) + a2) - 96) * 32) + a4) - 96))), (0, .int (iI a1)), (1, .int (iI a2)), (2, .int (iI a3)), (3, .int (iI a4)), (4, .int (iI a5)), (5, .int (iI a6)), (6, .int (iI a7))]) hx hb dX11_spelled_130 hl (by decide) rfl (fun ls hl => ?_)
            refine lv_iload hx hb dX11_spelled_132 (lv_at hl 7 rfl) ?_
            refine gi_zle (tgt := 154) hx hb dX11_spelled_134 (by decide) (by omega) (fun c_44 => ?_) (fun c_44 => ?_)
            · refine lv_lload hx hb dX11_spelled_154 (lv_at hl 0 rfl) ?_
              exact g_lret hQ C hr hlocks hP hS dX11_spelled_156 ⟨(((((((a1 - 96) * 32) + a2) - 96) * 32) + a4) - 96), rfl, rfl, rfl, rfl, (by unfold spW; (first | rw [stp_p (x := a2) (by omega)] | rw [stp_n (x := a2) (by omega)]); (first | rw [stp_p (x := a3) (by omega)] | rw [stp_n (x := a3) (by omega)]); (first | rw [stp_p (x := a4) (by omega)] | rw [stp_n (x := a4) (by omega)]); (first | rw [stp_p (x := a5) (by omega)] | rw [stp_n (x := a5) (by omega)]); (first | rw [stp_p (x := a6) (by omega)] | rw [stp_n (x := a6) (by omega)]); (first | rw [stp_p (x := a7) (by omega)] | rw [stp_n (x := a7) (by omega)]))⟩
            · refine lv_lload hx hb dX11_spelled_137 (lv_at hl 0 rfl) ?_
              refine lv_ldc2 (v := iL 32) hx hb C.2.2.2.1 (C.2.2.1 _ (show Cond.constantLong RX11 176 (iL 32) ∈ gWs from mD_X11_176)) dX11_spelled_139 ?_
              refine gl_mul (z := ((((((((a1 - 96) * 32) + a2) - 96) * 32) + a4) - 96) * 32)) hx hb dX11_spelled_142 rfl ?_
              refine lv_iload hx hb dX11_spelled_143 (lv_at hl 7 rfl) ?_
              refine gi_i2l hx hb (by omega) dX11_spelled_145 ?_
              refine gl_add (z := (((((((((a1 - 96) * 32) + a2) - 96) * 32) + a4) - 96) * 32) + a7)) hx hb dX11_spelled_146 rfl ?_
              refine lv_ldc2 (v := iL 96) hx hb C.2.2.2.1 (C.2.2.1 _ (show Cond.constantLong RX11 178 (iL 96) ∈ gWs from mD_X11_178)) dX11_spelled_147 ?_
              refine gl_sub (z := ((((((((((a1 - 96) * 32) + a2) - 96) * 32) + a4) - 96) * 32) + a7) - 96)) hx hb dX11_spelled_150 rfl ?_
              refine lv_goto (tgt := 156) hx hb dX11_spelled_151 (by decide) ?_
              exact g_lret hQ C hr hlocks hP hS dX11_spelled_156 ⟨((((((((((a1 - 96) * 32) + a2) - 96) * 32) + a4) - 96) * 32) + a7) - 96), rfl, rfl, rfl, rfl, (by unfold spW; (first | rw [stp_p (x := a2) (by omega)] | rw [stp_n (x := a2) (by omega)]); (first | rw [stp_p (x := a3) (by omega)] | rw [stp_n (x := a3) (by omega)]); (first | rw [stp_p (x := a4) (by omega)] | rw [stp_n (x := a4) (by omega)]); (first | rw [stp_p (x := a5) (by omega)] | rw [stp_n (x := a5) (by omega)]); (first | rw [stp_p (x := a6) (by omega)] | rw [stp_n (x := a6) (by omega)]); (first | rw [stp_p (x := a7) (by omega)] | rw [stp_n (x := a7) (by omega)]))⟩
          · refine lv_lload hx hb dX11_spelled_111 (lv_at hl 0 rfl) ?_
            refine lv_ldc2 (v := iL 32) hx hb C.2.2.2.1 (C.2.2.1 _ (show Cond.constantLong RX11 176 (iL 32) ∈ gWs from mD_X11_176)) dX11_spelled_113 ?_
            refine gl_mul (z := ((((((((a1 - 96) * 32) + a2) - 96) * 32) + a4) - 96) * 32)) hx hb dX11_spelled_116 rfl ?_
            refine lv_iload hx hb dX11_spelled_117 (lv_at hl 6 rfl) ?_
            refine gi_i2l hx hb (by omega) dX11_spelled_119 ?_
            refine gl_add (z := (((((((((a1 - 96) * 32) + a2) - 96) * 32) + a4) - 96) * 32) + a6)) hx hb dX11_spelled_120 rfl ?_
            refine lv_ldc2 (v := iL 96) hx hb C.2.2.2.1 (C.2.2.1 _ (show Cond.constantLong RX11 178 (iL 96) ∈ gWs from mD_X11_178)) dX11_spelled_121 ?_
            refine gl_sub (z := ((((((((((a1 - 96) * 32) + a2) - 96) * 32) + a4) - 96) * 32) + a6) - 96)) hx hb dX11_spelled_124 rfl ?_
            refine lv_goto (tgt := 130) hx hb dX11_spelled_125 (by decide) ?_
            refine lv_lstore (lv' := [(7, .long (iL ((((((((((a1 - 96) * 32) + a2) - 96) * 32) + a4) - 96) * 32) + a6) - 96))), (0, .int (iI a1)), (1, .int (iI a2)), (2, .int (iI a3)), (3, .int (iI a4)), (4, .int (iI a5)), (5, .int (iI a6)), (6, .int (iI a7))]) hx hb dX11_spelled_130 hl (by decide) rfl (fun ls hl => ?_)
            refine lv_iload hx hb dX11_spelled_132 (lv_at hl 7 rfl) ?_
            refine gi_zle (tgt := 154) hx hb dX11_spelled_134 (by decide) (by omega) (fun c_45 => ?_) (fun c_45 => ?_)
            · refine lv_lload hx hb dX11_spelled_154 (lv_at hl 0 rfl) ?_
              exact g_lret hQ C hr hlocks hP hS dX11_spelled_156 ⟨((((((((((a1 - 96) * 32) + a2) - 96) * 32) + a4) - 96) * 32) + a6) - 96), rfl, rfl, rfl, rfl, (by unfold spW; (first | rw [stp_p (x := a2) (by omega)] | rw [stp_n (x := a2) (by omega)]); (first | rw [stp_p (x := a3) (by omega)] | rw [stp_n (x := a3) (by omega)]); (first | rw [stp_p (x := a4) (by omega)] | rw [stp_n (x := a4) (by omega)]); (first | rw [stp_p (x := a5) (by omega)] | rw [stp_n (x := a5) (by omega)]); (first | rw [stp_p (x := a6) (by omega)] | rw [stp_n (x := a6) (by omega)]); (first | rw [stp_p (x := a7) (by omega)] | rw [stp_n (x := a7) (by omega)]))⟩
            · refine lv_lload hx hb dX11_spelled_137 (lv_at hl 0 rfl) ?_
              refine lv_ldc2 (v := iL 32) hx hb C.2.2.2.1 (C.2.2.1 _ (show Cond.constantLong RX11 176 (iL 32) ∈ gWs from mD_X11_176)) dX11_spelled_139 ?_
              refine gl_mul (z := (((((((((((a1 - 96) * 32) + a2) - 96) * 32) + a4) - 96) * 32) + a6) - 96) * 32)) hx hb dX11_spelled_142 rfl ?_
              refine lv_iload hx hb dX11_spelled_143 (lv_at hl 7 rfl) ?_
              refine gi_i2l hx hb (by omega) dX11_spelled_145 ?_
              refine gl_add (z := ((((((((((((a1 - 96) * 32) + a2) - 96) * 32) + a4) - 96) * 32) + a6) - 96) * 32) + a7)) hx hb dX11_spelled_146 rfl ?_
              refine lv_ldc2 (v := iL 96) hx hb C.2.2.2.1 (C.2.2.1 _ (show Cond.constantLong RX11 178 (iL 96) ∈ gWs from mD_X11_178)) dX11_spelled_147 ?_
              refine gl_sub (z := (((((((((((((a1 - 96) * 32) + a2) - 96) * 32) + a4) - 96) * 32) + a6) - 96) * 32) + a7) - 96)) hx hb dX11_spelled_150 rfl ?_
              refine lv_goto (tgt := 156) hx hb dX11_spelled_151 (by decide) ?_
              exact g_lret hQ C hr hlocks hP hS dX11_spelled_156 ⟨(((((((((((((a1 - 96) * 32) + a2) - 96) * 32) + a4) - 96) * 32) + a6) - 96) * 32) + a7) - 96), rfl, rfl, rfl, rfl, (by unfold spW; (first | rw [stp_p (x := a2) (by omega)] | rw [stp_n (x := a2) (by omega)]); (first | rw [stp_p (x := a3) (by omega)] | rw [stp_n (x := a3) (by omega)]); (first | rw [stp_p (x := a4) (by omega)] | rw [stp_n (x := a4) (by omega)]); (first | rw [stp_p (x := a5) (by omega)] | rw [stp_n (x := a5) (by omega)]); (first | rw [stp_p (x := a6) (by omega)] | rw [stp_n (x := a6) (by omega)]); (first | rw [stp_p (x := a7) (by omega)] | rw [stp_n (x := a7) (by omega)]))⟩
        · refine lv_lload hx hb dX11_spelled_85 (lv_at hl 0 rfl) ?_
          refine lv_ldc2 (v := iL 32) hx hb C.2.2.2.1 (C.2.2.1 _ (show Cond.constantLong RX11 176 (iL 32) ∈ gWs from mD_X11_176)) dX11_spelled_87 ?_
          refine gl_mul (z := ((((((((a1 - 96) * 32) + a2) - 96) * 32) + a4) - 96) * 32)) hx hb dX11_spelled_90 rfl ?_
          refine lv_iload hx hb dX11_spelled_91 (lv_at hl 5 rfl) ?_
          refine gi_i2l hx hb (by omega) dX11_spelled_93 ?_
          refine gl_add (z := (((((((((a1 - 96) * 32) + a2) - 96) * 32) + a4) - 96) * 32) + a5)) hx hb dX11_spelled_94 rfl ?_
          refine lv_ldc2 (v := iL 96) hx hb C.2.2.2.1 (C.2.2.1 _ (show Cond.constantLong RX11 178 (iL 96) ∈ gWs from mD_X11_178)) dX11_spelled_95 ?_
          refine gl_sub (z := ((((((((((a1 - 96) * 32) + a2) - 96) * 32) + a4) - 96) * 32) + a5) - 96)) hx hb dX11_spelled_98 rfl ?_
          refine lv_goto (tgt := 104) hx hb dX11_spelled_99 (by decide) ?_
          refine lv_lstore (lv' := [(7, .long (iL ((((((((((a1 - 96) * 32) + a2) - 96) * 32) + a4) - 96) * 32) + a5) - 96))), (0, .int (iI a1)), (1, .int (iI a2)), (2, .int (iI a3)), (3, .int (iI a4)), (4, .int (iI a5)), (5, .int (iI a6)), (6, .int (iI a7))]) hx hb dX11_spelled_104 hl (by decide) rfl (fun ls hl => ?_)
          refine lv_iload hx hb dX11_spelled_106 (lv_at hl 6 rfl) ?_
          refine gi_zle (tgt := 128) hx hb dX11_spelled_108 (by decide) (by omega) (fun c_46 => ?_) (fun c_46 => ?_)
          · refine lv_lload hx hb dX11_spelled_128 (lv_at hl 0 rfl) ?_
            refine lv_lstore (lv' := [(7, .long (iL ((((((((((a1 - 96) * 32) + a2) - 96) * 32) + a4) - 96) * 32) + a5) - 96))), (0, .int (iI a1)), (1, .int (iI a2)), (2, .int (iI a3)), (3, .int (iI a4)), (4, .int (iI a5)), (5, .int (iI a6)), (6, .int (iI a7))]) hx hb dX11_spelled_130 hl (by decide) rfl (fun ls hl => ?_)
            refine lv_iload hx hb dX11_spelled_132 (lv_at hl 7 rfl) ?_
            refine gi_zle (tgt := 154) hx hb dX11_spelled_134 (by decide) (by omega) (fun c_47 => ?_) (fun c_47 => ?_)
            · refine lv_lload hx hb dX11_spelled_154 (lv_at hl 0 rfl) ?_
              exact g_lret hQ C hr hlocks hP hS dX11_spelled_156 ⟨((((((((((a1 - 96) * 32) + a2) - 96) * 32) + a4) - 96) * 32) + a5) - 96), rfl, rfl, rfl, rfl, (by unfold spW; (first | rw [stp_p (x := a2) (by omega)] | rw [stp_n (x := a2) (by omega)]); (first | rw [stp_p (x := a3) (by omega)] | rw [stp_n (x := a3) (by omega)]); (first | rw [stp_p (x := a4) (by omega)] | rw [stp_n (x := a4) (by omega)]); (first | rw [stp_p (x := a5) (by omega)] | rw [stp_n (x := a5) (by omega)]); (first | rw [stp_p (x := a6) (by omega)] | rw [stp_n (x := a6) (by omega)]); (first | rw [stp_p (x := a7) (by omega)] | rw [stp_n (x := a7) (by omega)]))⟩
            · refine lv_lload hx hb dX11_spelled_137 (lv_at hl 0 rfl) ?_
              refine lv_ldc2 (v := iL 32) hx hb C.2.2.2.1 (C.2.2.1 _ (show Cond.constantLong RX11 176 (iL 32) ∈ gWs from mD_X11_176)) dX11_spelled_139 ?_
              refine gl_mul (z := (((((((((((a1 - 96) * 32) + a2) - 96) * 32) + a4) - 96) * 32) + a5) - 96) * 32)) hx hb dX11_spelled_142 rfl ?_
              refine lv_iload hx hb dX11_spelled_143 (lv_at hl 7 rfl) ?_
              refine gi_i2l hx hb (by omega) dX11_spelled_145 ?_
              refine gl_add (z := ((((((((((((a1 - 96) * 32) + a2) - 96) * 32) + a4) - 96) * 32) + a5) - 96) * 32) + a7)) hx hb dX11_spelled_146 rfl ?_
              refine lv_ldc2 (v := iL 96) hx hb C.2.2.2.1 (C.2.2.1 _ (show Cond.constantLong RX11 178 (iL 96) ∈ gWs from mD_X11_178)) dX11_spelled_147 ?_
              refine gl_sub (z := (((((((((((((a1 - 96) * 32) + a2) - 96) * 32) + a4) - 96) * 32) + a5) - 96) * 32) + a7) - 96)) hx hb dX11_spelled_150 rfl ?_
              refine lv_goto (tgt := 156) hx hb dX11_spelled_151 (by decide) ?_
              exact g_lret hQ C hr hlocks hP hS dX11_spelled_156 ⟨(((((((((((((a1 - 96) * 32) + a2) - 96) * 32) + a4) - 96) * 32) + a5) - 96) * 32) + a7) - 96), rfl, rfl, rfl, rfl, (by unfold spW; (first | rw [stp_p (x := a2) (by omega)] | rw [stp_n (x := a2) (by omega)]); (first | rw [stp_p (x := a3) (by omega)] | rw [stp_n (x := a3) (by omega)]); (first | rw [stp_p (x := a4) (by omega)] | rw [stp_n (x := a4) (by omega)]); (first | rw [stp_p (x := a5) (by omega)] | rw [stp_n (x := a5) (by omega)]); (first | rw [stp_p (x := a6) (by omega)] | rw [stp_n (x := a6) (by omega)]); (first | rw [stp_p (x := a7) (by omega)] | rw [stp_n (x := a7) (by omega)]))⟩
          · refine lv_lload hx hb dX11_spelled_111 (lv_at hl 0 rfl) ?_
            refine lv_ldc2 (v := iL 32) hx hb C.2.2.2.1 (C.2.2.1 _ (show Cond.constantLong RX11 176 (iL 32) ∈ gWs from mD_X11_176)) dX11_spelled_113 ?_
            refine gl_mul (z := (((((((((((a1 - 96) * 32) + a2) - 96) * 32) + a4) - 96) * 32) + a5) - 96) * 32)) hx hb dX11_spelled_116 rfl ?_
            refine lv_iload hx hb dX11_spelled_117 (lv_at hl 6 rfl) ?_
            refine gi_i2l hx hb (by omega) dX11_spelled_119 ?_
            refine gl_add (z := ((((((((((((a1 - 96) * 32) + a2) - 96) * 32) + a4) - 96) * 32) + a5) - 96) * 32) + a6)) hx hb dX11_spelled_120 rfl ?_
            refine lv_ldc2 (v := iL 96) hx hb C.2.2.2.1 (C.2.2.1 _ (show Cond.constantLong RX11 178 (iL 96) ∈ gWs from mD_X11_178)) dX11_spelled_121 ?_
            refine gl_sub (z := (((((((((((((a1 - 96) * 32) + a2) - 96) * 32) + a4) - 96) * 32) + a5) - 96) * 32) + a6) - 96)) hx hb dX11_spelled_124 rfl ?_
            refine lv_goto (tgt := 130) hx hb dX11_spelled_125 (by decide) ?_
            refine lv_lstore (lv' := [(7, .long (iL (((((((((((((a1 - 96) * 32) + a2) - 96) * 32) + a4) - 96) * 32) + a5) - 96) * 32) + a6) - 96))), (0, .int (iI a1)), (1, .int (iI a2)), (2, .int (iI a3)), (3, .int (iI a4)), (4, .int (iI a5)), (5, .int (iI a6)), (6, .int (iI a7))]) hx hb dX11_spelled_130 hl (by decide) rfl (fun ls hl => ?_)
            refine lv_iload hx hb dX11_spelled_132 (lv_at hl 7 rfl) ?_
            refine gi_zle (tgt := 154) hx hb dX11_spelled_134 (by decide) (by omega) (fun c_48 => ?_) (fun c_48 => ?_)
            · refine lv_lload hx hb dX11_spelled_154 (lv_at hl 0 rfl) ?_
              exact g_lret hQ C hr hlocks hP hS dX11_spelled_156 ⟨(((((((((((((a1 - 96) * 32) + a2) - 96) * 32) + a4) - 96) * 32) + a5) - 96) * 32) + a6) - 96), rfl, rfl, rfl, rfl, (by unfold spW; (first | rw [stp_p (x := a2) (by omega)] | rw [stp_n (x := a2) (by omega)]); (first | rw [stp_p (x := a3) (by omega)] | rw [stp_n (x := a3) (by omega)]); (first | rw [stp_p (x := a4) (by omega)] | rw [stp_n (x := a4) (by omega)]); (first | rw [stp_p (x := a5) (by omega)] | rw [stp_n (x := a5) (by omega)]); (first | rw [stp_p (x := a6) (by omega)] | rw [stp_n (x := a6) (by omega)]); (first | rw [stp_p (x := a7) (by omega)] | rw [stp_n (x := a7) (by omega)]))⟩
            · refine lv_lload hx hb dX11_spelled_137 (lv_at hl 0 rfl) ?_
              refine lv_ldc2 (v := iL 32) hx hb C.2.2.2.1 (C.2.2.1 _ (show Cond.constantLong RX11 176 (iL 32) ∈ gWs from mD_X11_176)) dX11_spelled_139 ?_
              refine gl_mul (z := ((((((((((((((a1 - 96) * 32) + a2) - 96) * 32) + a4) - 96) * 32) + a5) - 96) * 32) + a6) - 96) * 32)) hx hb dX11_spelled_142 rfl ?_
              refine lv_iload hx hb dX11_spelled_143 (lv_at hl 7 rfl) ?_
              refine gi_i2l hx hb (by omega) dX11_spelled_145 ?_
              refine gl_add (z := (((((((((((((((a1 - 96) * 32) + a2) - 96) * 32) + a4) - 96) * 32) + a5) - 96) * 32) + a6) - 96) * 32) + a7)) hx hb dX11_spelled_146 rfl ?_
              refine lv_ldc2 (v := iL 96) hx hb C.2.2.2.1 (C.2.2.1 _ (show Cond.constantLong RX11 178 (iL 96) ∈ gWs from mD_X11_178)) dX11_spelled_147 ?_
              refine gl_sub (z := ((((((((((((((((a1 - 96) * 32) + a2) - 96) * 32) + a4) - 96) * 32) + a5) - 96) * 32) + a6) - 96) * 32) + a7) - 96)) hx hb dX11_spelled_150 rfl ?_
              refine lv_goto (tgt := 156) hx hb dX11_spelled_151 (by decide) ?_
              exact g_lret hQ C hr hlocks hP hS dX11_spelled_156 ⟨((((((((((((((((a1 - 96) * 32) + a2) - 96) * 32) + a4) - 96) * 32) + a5) - 96) * 32) + a6) - 96) * 32) + a7) - 96), rfl, rfl, rfl, rfl, (by unfold spW; (first | rw [stp_p (x := a2) (by omega)] | rw [stp_n (x := a2) (by omega)]); (first | rw [stp_p (x := a3) (by omega)] | rw [stp_n (x := a3) (by omega)]); (first | rw [stp_p (x := a4) (by omega)] | rw [stp_n (x := a4) (by omega)]); (first | rw [stp_p (x := a5) (by omega)] | rw [stp_n (x := a5) (by omega)]); (first | rw [stp_p (x := a6) (by omega)] | rw [stp_n (x := a6) (by omega)]); (first | rw [stp_p (x := a7) (by omega)] | rw [stp_n (x := a7) (by omega)]))⟩
    · refine lv_lload hx hb dX11_spelled_36 (lv_at hl 0 rfl) ?_
      refine lv_ldc2 (v := iL 32) hx hb C.2.2.2.1 (C.2.2.1 _ (show Cond.constantLong RX11 176 (iL 32) ∈ gWs from mD_X11_176)) dX11_spelled_38 ?_
      refine gl_mul (z := (((((a1 - 96) * 32) + a2) - 96) * 32)) hx hb dX11_spelled_41 rfl ?_
      refine lv_iload_n hx hb dX11_spelled_42 rfl (lv_at hl 3 rfl) ?_
      refine gi_i2l hx hb (by omega) dX11_spelled_43 ?_
      refine gl_add (z := ((((((a1 - 96) * 32) + a2) - 96) * 32) + a3)) hx hb dX11_spelled_44 rfl ?_
      refine lv_ldc2 (v := iL 96) hx hb C.2.2.2.1 (C.2.2.1 _ (show Cond.constantLong RX11 178 (iL 96) ∈ gWs from mD_X11_178)) dX11_spelled_45 ?_
      refine gl_sub (z := (((((((a1 - 96) * 32) + a2) - 96) * 32) + a3) - 96)) hx hb dX11_spelled_48 rfl ?_
      refine lv_goto (tgt := 54) hx hb dX11_spelled_49 (by decide) ?_
      refine lv_lstore (lv' := [(7, .long (iL (((((((a1 - 96) * 32) + a2) - 96) * 32) + a3) - 96))), (0, .int (iI a1)), (1, .int (iI a2)), (2, .int (iI a3)), (3, .int (iI a4)), (4, .int (iI a5)), (5, .int (iI a6)), (6, .int (iI a7))]) hx hb dX11_spelled_54 hl (by decide) rfl (fun ls hl => ?_)
      refine lv_iload_n hx hb dX11_spelled_56 rfl (lv_at hl 4 rfl) ?_
      refine gi_zle (tgt := 76) hx hb dX11_spelled_57 (by decide) (by omega) (fun c_49 => ?_) (fun c_49 => ?_)
      · refine lv_lload hx hb dX11_spelled_76 (lv_at hl 0 rfl) ?_
        refine lv_lstore (lv' := [(7, .long (iL (((((((a1 - 96) * 32) + a2) - 96) * 32) + a3) - 96))), (0, .int (iI a1)), (1, .int (iI a2)), (2, .int (iI a3)), (3, .int (iI a4)), (4, .int (iI a5)), (5, .int (iI a6)), (6, .int (iI a7))]) hx hb dX11_spelled_78 hl (by decide) rfl (fun ls hl => ?_)
        refine lv_iload hx hb dX11_spelled_80 (lv_at hl 5 rfl) ?_
        refine gi_zle (tgt := 102) hx hb dX11_spelled_82 (by decide) (by omega) (fun c_50 => ?_) (fun c_50 => ?_)
        · refine lv_lload hx hb dX11_spelled_102 (lv_at hl 0 rfl) ?_
          refine lv_lstore (lv' := [(7, .long (iL (((((((a1 - 96) * 32) + a2) - 96) * 32) + a3) - 96))), (0, .int (iI a1)), (1, .int (iI a2)), (2, .int (iI a3)), (3, .int (iI a4)), (4, .int (iI a5)), (5, .int (iI a6)), (6, .int (iI a7))]) hx hb dX11_spelled_104 hl (by decide) rfl (fun ls hl => ?_)
          refine lv_iload hx hb dX11_spelled_106 (lv_at hl 6 rfl) ?_
          refine gi_zle (tgt := 128) hx hb dX11_spelled_108 (by decide) (by omega) (fun c_51 => ?_) (fun c_51 => ?_)
          · refine lv_lload hx hb dX11_spelled_128 (lv_at hl 0 rfl) ?_
            refine lv_lstore (lv' := [(7, .long (iL (((((((a1 - 96) * 32) + a2) - 96) * 32) + a3) - 96))), (0, .int (iI a1)), (1, .int (iI a2)), (2, .int (iI a3)), (3, .int (iI a4)), (4, .int (iI a5)), (5, .int (iI a6)), (6, .int (iI a7))]) hx hb dX11_spelled_130 hl (by decide) rfl (fun ls hl => ?_)
            refine lv_iload hx hb dX11_spelled_132 (lv_at hl 7 rfl) ?_
            refine gi_zle (tgt := 154) hx hb dX11_spelled_134 (by decide) (by omega) (fun c_52 => ?_) (fun c_52 => ?_)
            · refine lv_lload hx hb dX11_spelled_154 (lv_at hl 0 rfl) ?_
              exact g_lret hQ C hr hlocks hP hS dX11_spelled_156 ⟨(((((((a1 - 96) * 32) + a2) - 96) * 32) + a3) - 96), rfl, rfl, rfl, rfl, (by unfold spW; (first | rw [stp_p (x := a2) (by omega)] | rw [stp_n (x := a2) (by omega)]); (first | rw [stp_p (x := a3) (by omega)] | rw [stp_n (x := a3) (by omega)]); (first | rw [stp_p (x := a4) (by omega)] | rw [stp_n (x := a4) (by omega)]); (first | rw [stp_p (x := a5) (by omega)] | rw [stp_n (x := a5) (by omega)]); (first | rw [stp_p (x := a6) (by omega)] | rw [stp_n (x := a6) (by omega)]); (first | rw [stp_p (x := a7) (by omega)] | rw [stp_n (x := a7) (by omega)]))⟩
            · refine lv_lload hx hb dX11_spelled_137 (lv_at hl 0 rfl) ?_
              refine lv_ldc2 (v := iL 32) hx hb C.2.2.2.1 (C.2.2.1 _ (show Cond.constantLong RX11 176 (iL 32) ∈ gWs from mD_X11_176)) dX11_spelled_139 ?_
              refine gl_mul (z := ((((((((a1 - 96) * 32) + a2) - 96) * 32) + a3) - 96) * 32)) hx hb dX11_spelled_142 rfl ?_
              refine lv_iload hx hb dX11_spelled_143 (lv_at hl 7 rfl) ?_
              refine gi_i2l hx hb (by omega) dX11_spelled_145 ?_
              refine gl_add (z := (((((((((a1 - 96) * 32) + a2) - 96) * 32) + a3) - 96) * 32) + a7)) hx hb dX11_spelled_146 rfl ?_
              refine lv_ldc2 (v := iL 96) hx hb C.2.2.2.1 (C.2.2.1 _ (show Cond.constantLong RX11 178 (iL 96) ∈ gWs from mD_X11_178)) dX11_spelled_147 ?_
              refine gl_sub (z := ((((((((((a1 - 96) * 32) + a2) - 96) * 32) + a3) - 96) * 32) + a7) - 96)) hx hb dX11_spelled_150 rfl ?_
              refine lv_goto (tgt := 156) hx hb dX11_spelled_151 (by decide) ?_
              exact g_lret hQ C hr hlocks hP hS dX11_spelled_156 ⟨((((((((((a1 - 96) * 32) + a2) - 96) * 32) + a3) - 96) * 32) + a7) - 96), rfl, rfl, rfl, rfl, (by unfold spW; (first | rw [stp_p (x := a2) (by omega)] | rw [stp_n (x := a2) (by omega)]); (first | rw [stp_p (x := a3) (by omega)] | rw [stp_n (x := a3) (by omega)]); (first | rw [stp_p (x := a4) (by omega)] | rw [stp_n (x := a4) (by omega)]); (first | rw [stp_p (x := a5) (by omega)] | rw [stp_n (x := a5) (by omega)]); (first | rw [stp_p (x := a6) (by omega)] | rw [stp_n (x := a6) (by omega)]); (first | rw [stp_p (x := a7) (by omega)] | rw [stp_n (x := a7) (by omega)]))⟩
          · refine lv_lload hx hb dX11_spelled_111 (lv_at hl 0 rfl) ?_
            refine lv_ldc2 (v := iL 32) hx hb C.2.2.2.1 (C.2.2.1 _ (show Cond.constantLong RX11 176 (iL 32) ∈ gWs from mD_X11_176)) dX11_spelled_113 ?_
            refine gl_mul (z := ((((((((a1 - 96) * 32) + a2) - 96) * 32) + a3) - 96) * 32)) hx hb dX11_spelled_116 rfl ?_
            refine lv_iload hx hb dX11_spelled_117 (lv_at hl 6 rfl) ?_
            refine gi_i2l hx hb (by omega) dX11_spelled_119 ?_
            refine gl_add (z := (((((((((a1 - 96) * 32) + a2) - 96) * 32) + a3) - 96) * 32) + a6)) hx hb dX11_spelled_120 rfl ?_
            refine lv_ldc2 (v := iL 96) hx hb C.2.2.2.1 (C.2.2.1 _ (show Cond.constantLong RX11 178 (iL 96) ∈ gWs from mD_X11_178)) dX11_spelled_121 ?_
            refine gl_sub (z := ((((((((((a1 - 96) * 32) + a2) - 96) * 32) + a3) - 96) * 32) + a6) - 96)) hx hb dX11_spelled_124 rfl ?_
            refine lv_goto (tgt := 130) hx hb dX11_spelled_125 (by decide) ?_
            refine lv_lstore (lv' := [(7, .long (iL ((((((((((a1 - 96) * 32) + a2) - 96) * 32) + a3) - 96) * 32) + a6) - 96))), (0, .int (iI a1)), (1, .int (iI a2)), (2, .int (iI a3)), (3, .int (iI a4)), (4, .int (iI a5)), (5, .int (iI a6)), (6, .int (iI a7))]) hx hb dX11_spelled_130 hl (by decide) rfl (fun ls hl => ?_)
            refine lv_iload hx hb dX11_spelled_132 (lv_at hl 7 rfl) ?_
            refine gi_zle (tgt := 154) hx hb dX11_spelled_134 (by decide) (by omega) (fun c_53 => ?_) (fun c_53 => ?_)
            · refine lv_lload hx hb dX11_spelled_154 (lv_at hl 0 rfl) ?_
              exact g_lret hQ C hr hlocks hP hS dX11_spelled_156 ⟨((((((((((a1 - 96) * 32) + a2) - 96) * 32) + a3) - 96) * 32) + a6) - 96), rfl, rfl, rfl, rfl, (by unfold spW; (first | rw [stp_p (x := a2) (by omega)] | rw [stp_n (x := a2) (by omega)]); (first | rw [stp_p (x := a3) (by omega)] | rw [stp_n (x := a3) (by omega)]); (first | rw [stp_p (x := a4) (by omega)] | rw [stp_n (x := a4) (by omega)]); (first | rw [stp_p (x := a5) (by omega)] | rw [stp_n (x := a5) (by omega)]); (first | rw [stp_p (x := a6) (by omega)] | rw [stp_n (x := a6) (by omega)]); (first | rw [stp_p (x := a7) (by omega)] | rw [stp_n (x := a7) (by omega)]))⟩
            · refine lv_lload hx hb dX11_spelled_137 (lv_at hl 0 rfl) ?_
              refine lv_ldc2 (v := iL 32) hx hb C.2.2.2.1 (C.2.2.1 _ (show Cond.constantLong RX11 176 (iL 32) ∈ gWs from mD_X11_176)) dX11_spelled_139 ?_
              refine gl_mul (z := (((((((((((a1 - 96) * 32) + a2) - 96) * 32) + a3) - 96) * 32) + a6) - 96) * 32)) hx hb dX11_spelled_142 rfl ?_
              refine lv_iload hx hb dX11_spelled_143 (lv_at hl 7 rfl) ?_
              refine gi_i2l hx hb (by omega) dX11_spelled_145 ?_
              refine gl_add (z := ((((((((((((a1 - 96) * 32) + a2) - 96) * 32) + a3) - 96) * 32) + a6) - 96) * 32) + a7)) hx hb dX11_spelled_146 rfl ?_
              refine lv_ldc2 (v := iL 96) hx hb C.2.2.2.1 (C.2.2.1 _ (show Cond.constantLong RX11 178 (iL 96) ∈ gWs from mD_X11_178)) dX11_spelled_147 ?_
              refine gl_sub (z := (((((((((((((a1 - 96) * 32) + a2) - 96) * 32) + a3) - 96) * 32) + a6) - 96) * 32) + a7) - 96)) hx hb dX11_spelled_150 rfl ?_
              refine lv_goto (tgt := 156) hx hb dX11_spelled_151 (by decide) ?_
              exact g_lret hQ C hr hlocks hP hS dX11_spelled_156 ⟨(((((((((((((a1 - 96) * 32) + a2) - 96) * 32) + a3) - 96) * 32) + a6) - 96) * 32) + a7) - 96), rfl, rfl, rfl, rfl, (by unfold spW; (first | rw [stp_p (x := a2) (by omega)] | rw [stp_n (x := a2) (by omega)]); (first | rw [stp_p (x := a3) (by omega)] | rw [stp_n (x := a3) (by omega)]); (first | rw [stp_p (x := a4) (by omega)] | rw [stp_n (x := a4) (by omega)]); (first | rw [stp_p (x := a5) (by omega)] | rw [stp_n (x := a5) (by omega)]); (first | rw [stp_p (x := a6) (by omega)] | rw [stp_n (x := a6) (by omega)]); (first | rw [stp_p (x := a7) (by omega)] | rw [stp_n (x := a7) (by omega)]))⟩
        · refine lv_lload hx hb dX11_spelled_85 (lv_at hl 0 rfl) ?_
          refine lv_ldc2 (v := iL 32) hx hb C.2.2.2.1 (C.2.2.1 _ (show Cond.constantLong RX11 176 (iL 32) ∈ gWs from mD_X11_176)) dX11_spelled_87 ?_
          refine gl_mul (z := ((((((((a1 - 96) * 32) + a2) - 96) * 32) + a3) - 96) * 32)) hx hb dX11_spelled_90 rfl ?_
          refine lv_iload hx hb dX11_spelled_91 (lv_at hl 5 rfl) ?_
          refine gi_i2l hx hb (by omega) dX11_spelled_93 ?_
          refine gl_add (z := (((((((((a1 - 96) * 32) + a2) - 96) * 32) + a3) - 96) * 32) + a5)) hx hb dX11_spelled_94 rfl ?_
          refine lv_ldc2 (v := iL 96) hx hb C.2.2.2.1 (C.2.2.1 _ (show Cond.constantLong RX11 178 (iL 96) ∈ gWs from mD_X11_178)) dX11_spelled_95 ?_
          refine gl_sub (z := ((((((((((a1 - 96) * 32) + a2) - 96) * 32) + a3) - 96) * 32) + a5) - 96)) hx hb dX11_spelled_98 rfl ?_
          refine lv_goto (tgt := 104) hx hb dX11_spelled_99 (by decide) ?_
          refine lv_lstore (lv' := [(7, .long (iL ((((((((((a1 - 96) * 32) + a2) - 96) * 32) + a3) - 96) * 32) + a5) - 96))), (0, .int (iI a1)), (1, .int (iI a2)), (2, .int (iI a3)), (3, .int (iI a4)), (4, .int (iI a5)), (5, .int (iI a6)), (6, .int (iI a7))]) hx hb dX11_spelled_104 hl (by decide) rfl (fun ls hl => ?_)
          refine lv_iload hx hb dX11_spelled_106 (lv_at hl 6 rfl) ?_
          refine gi_zle (tgt := 128) hx hb dX11_spelled_108 (by decide) (by omega) (fun c_54 => ?_) (fun c_54 => ?_)
          · refine lv_lload hx hb dX11_spelled_128 (lv_at hl 0 rfl) ?_
            refine lv_lstore (lv' := [(7, .long (iL ((((((((((a1 - 96) * 32) + a2) - 96) * 32) + a3) - 96) * 32) + a5) - 96))), (0, .int (iI a1)), (1, .int (iI a2)), (2, .int (iI a3)), (3, .int (iI a4)), (4, .int (iI a5)), (5, .int (iI a6)), (6, .int (iI a7))]) hx hb dX11_spelled_130 hl (by decide) rfl (fun ls hl => ?_)
            refine lv_iload hx hb dX11_spelled_132 (lv_at hl 7 rfl) ?_
            refine gi_zle (tgt := 154) hx hb dX11_spelled_134 (by decide) (by omega) (fun c_55 => ?_) (fun c_55 => ?_)
            · refine lv_lload hx hb dX11_spelled_154 (lv_at hl 0 rfl) ?_
              exact g_lret hQ C hr hlocks hP hS dX11_spelled_156 ⟨((((((((((a1 - 96) * 32) + a2) - 96) * 32) + a3) - 96) * 32) + a5) - 96), rfl, rfl, rfl, rfl, (by unfold spW; (first | rw [stp_p (x := a2) (by omega)] | rw [stp_n (x := a2) (by omega)]); (first | rw [stp_p (x := a3) (by omega)] | rw [stp_n (x := a3) (by omega)]); (first | rw [stp_p (x := a4) (by omega)] | rw [stp_n (x := a4) (by omega)]); (first | rw [stp_p (x := a5) (by omega)] | rw [stp_n (x := a5) (by omega)]); (first | rw [stp_p (x := a6) (by omega)] | rw [stp_n (x := a6) (by omega)]); (first | rw [stp_p (x := a7) (by omega)] | rw [stp_n (x := a7) (by omega)]))⟩
            · refine lv_lload hx hb dX11_spelled_137 (lv_at hl 0 rfl) ?_
              refine lv_ldc2 (v := iL 32) hx hb C.2.2.2.1 (C.2.2.1 _ (show Cond.constantLong RX11 176 (iL 32) ∈ gWs from mD_X11_176)) dX11_spelled_139 ?_
              refine gl_mul (z := (((((((((((a1 - 96) * 32) + a2) - 96) * 32) + a3) - 96) * 32) + a5) - 96) * 32)) hx hb dX11_spelled_142 rfl ?_
              refine lv_iload hx hb dX11_spelled_143 (lv_at hl 7 rfl) ?_
              refine gi_i2l hx hb (by omega) dX11_spelled_145 ?_
              refine gl_add (z := ((((((((((((a1 - 96) * 32) + a2) - 96) * 32) + a3) - 96) * 32) + a5) - 96) * 32) + a7)) hx hb dX11_spelled_146 rfl ?_
              refine lv_ldc2 (v := iL 96) hx hb C.2.2.2.1 (C.2.2.1 _ (show Cond.constantLong RX11 178 (iL 96) ∈ gWs from mD_X11_178)) dX11_spelled_147 ?_
              refine gl_sub (z := (((((((((((((a1 - 96) * 32) + a2) - 96) * 32) + a3) - 96) * 32) + a5) - 96) * 32) + a7) - 96)) hx hb dX11_spelled_150 rfl ?_
              refine lv_goto (tgt := 156) hx hb dX11_spelled_151 (by decide) ?_
              exact g_lret hQ C hr hlocks hP hS dX11_spelled_156 ⟨(((((((((((((a1 - 96) * 32) + a2) - 96) * 32) + a3) - 96) * 32) + a5) - 96) * 32) + a7) - 96), rfl, rfl, rfl, rfl, (by unfold spW; (first | rw [stp_p (x := a2) (by omega)] | rw [stp_n (x := a2) (by omega)]); (first | rw [stp_p (x := a3) (by omega)] | rw [stp_n (x := a3) (by omega)]); (first | rw [stp_p (x := a4) (by omega)] | rw [stp_n (x := a4) (by omega)]); (first | rw [stp_p (x := a5) (by omega)] | rw [stp_n (x := a5) (by omega)]); (first | rw [stp_p (x := a6) (by omega)] | rw [stp_n (x := a6) (by omega)]); (first | rw [stp_p (x := a7) (by omega)] | rw [stp_n (x := a7) (by omega)]))⟩
          · refine lv_lload hx hb dX11_spelled_111 (lv_at hl 0 rfl) ?_
            refine lv_ldc2 (v := iL 32) hx hb C.2.2.2.1 (C.2.2.1 _ (show Cond.constantLong RX11 176 (iL 32) ∈ gWs from mD_X11_176)) dX11_spelled_113 ?_
            refine gl_mul (z := (((((((((((a1 - 96) * 32) + a2) - 96) * 32) + a3) - 96) * 32) + a5) - 96) * 32)) hx hb dX11_spelled_116 rfl ?_
            refine lv_iload hx hb dX11_spelled_117 (lv_at hl 6 rfl) ?_
            refine gi_i2l hx hb (by omega) dX11_spelled_119 ?_
            refine gl_add (z := ((((((((((((a1 - 96) * 32) + a2) - 96) * 32) + a3) - 96) * 32) + a5) - 96) * 32) + a6)) hx hb dX11_spelled_120 rfl ?_
            refine lv_ldc2 (v := iL 96) hx hb C.2.2.2.1 (C.2.2.1 _ (show Cond.constantLong RX11 178 (iL 96) ∈ gWs from mD_X11_178)) dX11_spelled_121 ?_
            refine gl_sub (z := (((((((((((((a1 - 96) * 32) + a2) - 96) * 32) + a3) - 96) * 32) + a5) - 96) * 32) + a6) - 96)) hx hb dX11_spelled_124 rfl ?_
            refine lv_goto (tgt := 130) hx hb dX11_spelled_125 (by decide) ?_
            refine lv_lstore (lv' := [(7, .long (iL (((((((((((((a1 - 96) * 32) + a2) - 96) * 32) + a3) - 96) * 32) + a5) - 96) * 32) + a6) - 96))), (0, .int (iI a1)), (1, .int (iI a2)), (2, .int (iI a3)), (3, .int (iI a4)), (4, .int (iI a5)), (5, .int (iI a6)), (6, .int (iI a7))]) hx hb dX11_spelled_130 hl (by decide) rfl (fun ls hl => ?_)
            refine lv_iload hx hb dX11_spelled_132 (lv_at hl 7 rfl) ?_
            refine gi_zle (tgt := 154) hx hb dX11_spelled_134 (by decide) (by omega) (fun c_56 => ?_) (fun c_56 => ?_)
            · refine lv_lload hx hb dX11_spelled_154 (lv_at hl 0 rfl) ?_
              exact g_lret hQ C hr hlocks hP hS dX11_spelled_156 ⟨(((((((((((((a1 - 96) * 32) + a2) - 96) * 32) + a3) - 96) * 32) + a5) - 96) * 32) + a6) - 96), rfl, rfl, rfl, rfl, (by unfold spW; (first | rw [stp_p (x := a2) (by omega)] | rw [stp_n (x := a2) (by omega)]); (first | rw [stp_p (x := a3) (by omega)] | rw [stp_n (x := a3) (by omega)]); (first | rw [stp_p (x := a4) (by omega)] | rw [stp_n (x := a4) (by omega)]); (first | rw [stp_p (x := a5) (by omega)] | rw [stp_n (x := a5) (by omega)]); (first | rw [stp_p (x := a6) (by omega)] | rw [stp_n (x := a6) (by omega)]); (first | rw [stp_p (x := a7) (by omega)] | rw [stp_n (x := a7) (by omega)]))⟩
            · refine lv_lload hx hb dX11_spelled_137 (lv_at hl 0 rfl) ?_
              refine lv_ldc2 (v := iL 32) hx hb C.2.2.2.1 (C.2.2.1 _ (show Cond.constantLong RX11 176 (iL 32) ∈ gWs from mD_X11_176)) dX11_spelled_139 ?_
              refine gl_mul (z := ((((((((((((((a1 - 96) * 32) + a2) - 96) * 32) + a3) - 96) * 32) + a5) - 96) * 32) + a6) - 96) * 32)) hx hb dX11_spelled_142 rfl ?_
              refine lv_iload hx hb dX11_spelled_143 (lv_at hl 7 rfl) ?_
              refine gi_i2l hx hb (by omega) dX11_spelled_145 ?_
              refine gl_add (z := (((((((((((((((a1 - 96) * 32) + a2) - 96) * 32) + a3) - 96) * 32) + a5) - 96) * 32) + a6) - 96) * 32) + a7)) hx hb dX11_spelled_146 rfl ?_
              refine lv_ldc2 (v := iL 96) hx hb C.2.2.2.1 (C.2.2.1 _ (show Cond.constantLong RX11 178 (iL 96) ∈ gWs from mD_X11_178)) dX11_spelled_147 ?_
              refine gl_sub (z := ((((((((((((((((a1 - 96) * 32) + a2) - 96) * 32) + a3) - 96) * 32) + a5) - 96) * 32) + a6) - 96) * 32) + a7) - 96)) hx hb dX11_spelled_150 rfl ?_
              refine lv_goto (tgt := 156) hx hb dX11_spelled_151 (by decide) ?_
              exact g_lret hQ C hr hlocks hP hS dX11_spelled_156 ⟨((((((((((((((((a1 - 96) * 32) + a2) - 96) * 32) + a3) - 96) * 32) + a5) - 96) * 32) + a6) - 96) * 32) + a7) - 96), rfl, rfl, rfl, rfl, (by unfold spW; (first | rw [stp_p (x := a2) (by omega)] | rw [stp_n (x := a2) (by omega)]); (first | rw [stp_p (x := a3) (by omega)] | rw [stp_n (x := a3) (by omega)]); (first | rw [stp_p (x := a4) (by omega)] | rw [stp_n (x := a4) (by omega)]); (first | rw [stp_p (x := a5) (by omega)] | rw [stp_n (x := a5) (by omega)]); (first | rw [stp_p (x := a6) (by omega)] | rw [stp_n (x := a6) (by omega)]); (first | rw [stp_p (x := a7) (by omega)] | rw [stp_n (x := a7) (by omega)]))⟩
      · refine lv_lload hx hb dX11_spelled_60 (lv_at hl 0 rfl) ?_
        refine lv_ldc2 (v := iL 32) hx hb C.2.2.2.1 (C.2.2.1 _ (show Cond.constantLong RX11 176 (iL 32) ∈ gWs from mD_X11_176)) dX11_spelled_62 ?_
        refine gl_mul (z := ((((((((a1 - 96) * 32) + a2) - 96) * 32) + a3) - 96) * 32)) hx hb dX11_spelled_65 rfl ?_
        refine lv_iload_n hx hb dX11_spelled_66 rfl (lv_at hl 4 rfl) ?_
        refine gi_i2l hx hb (by omega) dX11_spelled_67 ?_
        refine gl_add (z := (((((((((a1 - 96) * 32) + a2) - 96) * 32) + a3) - 96) * 32) + a4)) hx hb dX11_spelled_68 rfl ?_
        refine lv_ldc2 (v := iL 96) hx hb C.2.2.2.1 (C.2.2.1 _ (show Cond.constantLong RX11 178 (iL 96) ∈ gWs from mD_X11_178)) dX11_spelled_69 ?_
        refine gl_sub (z := ((((((((((a1 - 96) * 32) + a2) - 96) * 32) + a3) - 96) * 32) + a4) - 96)) hx hb dX11_spelled_72 rfl ?_
        refine lv_goto (tgt := 78) hx hb dX11_spelled_73 (by decide) ?_
        refine lv_lstore (lv' := [(7, .long (iL ((((((((((a1 - 96) * 32) + a2) - 96) * 32) + a3) - 96) * 32) + a4) - 96))), (0, .int (iI a1)), (1, .int (iI a2)), (2, .int (iI a3)), (3, .int (iI a4)), (4, .int (iI a5)), (5, .int (iI a6)), (6, .int (iI a7))]) hx hb dX11_spelled_78 hl (by decide) rfl (fun ls hl => ?_)
        refine lv_iload hx hb dX11_spelled_80 (lv_at hl 5 rfl) ?_
        refine gi_zle (tgt := 102) hx hb dX11_spelled_82 (by decide) (by omega) (fun c_57 => ?_) (fun c_57 => ?_)
        · refine lv_lload hx hb dX11_spelled_102 (lv_at hl 0 rfl) ?_
          refine lv_lstore (lv' := [(7, .long (iL ((((((((((a1 - 96) * 32) + a2) - 96) * 32) + a3) - 96) * 32) + a4) - 96))), (0, .int (iI a1)), (1, .int (iI a2)), (2, .int (iI a3)), (3, .int (iI a4)), (4, .int (iI a5)), (5, .int (iI a6)), (6, .int (iI a7))]) hx hb dX11_spelled_104 hl (by decide) rfl (fun ls hl => ?_)
          refine lv_iload hx hb dX11_spelled_106 (lv_at hl 6 rfl) ?_
          refine gi_zle (tgt := 128) hx hb dX11_spelled_108 (by decide) (by omega) (fun c_58 => ?_) (fun c_58 => ?_)
          · refine lv_lload hx hb dX11_spelled_128 (lv_at hl 0 rfl) ?_
            refine lv_lstore (lv' := [(7, .long (iL ((((((((((a1 - 96) * 32) + a2) - 96) * 32) + a3) - 96) * 32) + a4) - 96))), (0, .int (iI a1)), (1, .int (iI a2)), (2, .int (iI a3)), (3, .int (iI a4)), (4, .int (iI a5)), (5, .int (iI a6)), (6, .int (iI a7))]) hx hb dX11_spelled_130 hl (by decide) rfl (fun ls hl => ?_)
            refine lv_iload hx hb dX11_spelled_132 (lv_at hl 7 rfl) ?_
            refine gi_zle (tgt := 154) hx hb dX11_spelled_134 (by decide) (by omega) (fun c_59 => ?_) (fun c_59 => ?_)
            · refine lv_lload hx hb dX11_spelled_154 (lv_at hl 0 rfl) ?_
              exact g_lret hQ C hr hlocks hP hS dX11_spelled_156 ⟨((((((((((a1 - 96) * 32) + a2) - 96) * 32) + a3) - 96) * 32) + a4) - 96), rfl, rfl, rfl, rfl, (by unfold spW; (first | rw [stp_p (x := a2) (by omega)] | rw [stp_n (x := a2) (by omega)]); (first | rw [stp_p (x := a3) (by omega)] | rw [stp_n (x := a3) (by omega)]); (first | rw [stp_p (x := a4) (by omega)] | rw [stp_n (x := a4) (by omega)]); (first | rw [stp_p (x := a5) (by omega)] | rw [stp_n (x := a5) (by omega)]); (first | rw [stp_p (x := a6) (by omega)] | rw [stp_n (x := a6) (by omega)]); (first | rw [stp_p (x := a7) (by omega)] | rw [stp_n (x := a7) (by omega)]))⟩
            · refine lv_lload hx hb dX11_spelled_137 (lv_at hl 0 rfl) ?_
              refine lv_ldc2 (v := iL 32) hx hb C.2.2.2.1 (C.2.2.1 _ (show Cond.constantLong RX11 176 (iL 32) ∈ gWs from mD_X11_176)) dX11_spelled_139 ?_
              refine gl_mul (z := (((((((((((a1 - 96) * 32) + a2) - 96) * 32) + a3) - 96) * 32) + a4) - 96) * 32)) hx hb dX11_spelled_142 rfl ?_
              refine lv_iload hx hb dX11_spelled_143 (lv_at hl 7 rfl) ?_
              refine gi_i2l hx hb (by omega) dX11_spelled_145 ?_
              refine gl_add (z := ((((((((((((a1 - 96) * 32) + a2) - 96) * 32) + a3) - 96) * 32) + a4) - 96) * 32) + a7)) hx hb dX11_spelled_146 rfl ?_
              refine lv_ldc2 (v := iL 96) hx hb C.2.2.2.1 (C.2.2.1 _ (show Cond.constantLong RX11 178 (iL 96) ∈ gWs from mD_X11_178)) dX11_spelled_147 ?_
              refine gl_sub (z := (((((((((((((a1 - 96) * 32) + a2) - 96) * 32) + a3) - 96) * 32) + a4) - 96) * 32) + a7) - 96)) hx hb dX11_spelled_150 rfl ?_
              refine lv_goto (tgt := 156) hx hb dX11_spelled_151 (by decide) ?_
              exact g_lret hQ C hr hlocks hP hS dX11_spelled_156 ⟨(((((((((((((a1 - 96) * 32) + a2) - 96) * 32) + a3) - 96) * 32) + a4) - 96) * 32) + a7) - 96), rfl, rfl, rfl, rfl, (by unfold spW; (first | rw [stp_p (x := a2) (by omega)] | rw [stp_n (x := a2) (by omega)]); (first | rw [stp_p (x := a3) (by omega)] | rw [stp_n (x := a3) (by omega)]); (first | rw [stp_p (x := a4) (by omega)] | rw [stp_n (x := a4) (by omega)]); (first | rw [stp_p (x := a5) (by omega)] | rw [stp_n (x := a5) (by omega)]); (first | rw [stp_p (x := a6) (by omega)] | rw [stp_n (x := a6) (by omega)]); (first | rw [stp_p (x := a7) (by omega)] | rw [stp_n (x := a7) (by omega)]))⟩
          · refine lv_lload hx hb dX11_spelled_111 (lv_at hl 0 rfl) ?_
            refine lv_ldc2 (v := iL 32) hx hb C.2.2.2.1 (C.2.2.1 _ (show Cond.constantLong RX11 176 (iL 32) ∈ gWs from mD_X11_176)) dX11_spelled_113 ?_
            refine gl_mul (z := (((((((((((a1 - 96) * 32) + a2) - 96) * 32) + a3) - 96) * 32) + a4) - 96) * 32)) hx hb dX11_spelled_116 rfl ?_
            refine lv_iload hx hb dX11_spelled_117 (lv_at hl 6 rfl) ?_
            refine gi_i2l hx hb (by omega) dX11_spelled_119 ?_
            refine gl_add (z := ((((((((((((a1 - 96) * 32) + a2) - 96) * 32) + a3) - 96) * 32) + a4) - 96) * 32) + a6)) hx hb dX11_spelled_120 rfl ?_
            refine lv_ldc2 (v := iL 96) hx hb C.2.2.2.1 (C.2.2.1 _ (show Cond.constantLong RX11 178 (iL 96) ∈ gWs from mD_X11_178)) dX11_spelled_121 ?_
            refine gl_sub (z := (((((((((((((a1 - 96) * 32) + a2) - 96) * 32) + a3) - 96) * 32) + a4) - 96) * 32) + a6) - 96)) hx hb dX11_spelled_124 rfl ?_
            refine lv_goto (tgt := 130) hx hb dX11_spelled_125 (by decide) ?_
            refine lv_lstore (lv' := [(7, .long (iL (((((((((((((a1 - 96) * 32) + a2) - 96) * 32) + a3) - 96) * 32) + a4) - 96) * 32) + a6) - 96))), (0, .int (iI a1)), (1, .int (iI a2)), (2, .int (iI a3)), (3, .int (iI a4)), (4, .int (iI a5)), (5, .int (iI a6)), (6, .int (iI a7))]) hx hb dX11_spelled_130 hl (by decide) rfl (fun ls hl => ?_)
            refine lv_iload hx hb dX11_spelled_132 (lv_at hl 7 rfl) ?_
            refine gi_zle (tgt := 154) hx hb dX11_spelled_134 (by decide) (by omega) (fun c_60 => ?_) (fun c_60 => ?_)
            · refine lv_lload hx hb dX11_spelled_154 (lv_at hl 0 rfl) ?_
              exact g_lret hQ C hr hlocks hP hS dX11_spelled_156 ⟨(((((((((((((a1 - 96) * 32) + a2) - 96) * 32) + a3) - 96) * 32) + a4) - 96) * 32) + a6) - 96), rfl, rfl, rfl, rfl, (by unfold spW; (first | rw [stp_p (x := a2) (by omega)] | rw [stp_n (x := a2) (by omega)]); (first | rw [stp_p (x := a3) (by omega)] | rw [stp_n (x := a3) (by omega)]); (first | rw [stp_p (x := a4) (by omega)] | rw [stp_n (x := a4) (by omega)]); (first | rw [stp_p (x := a5) (by omega)] | rw [stp_n (x := a5) (by omega)]); (first | rw [stp_p (x := a6) (by omega)] | rw [stp_n (x := a6) (by omega)]); (first | rw [stp_p (x := a7) (by omega)] | rw [stp_n (x := a7) (by omega)]))⟩
            · refine lv_lload hx hb dX11_spelled_137 (lv_at hl 0 rfl) ?_
              refine lv_ldc2 (v := iL 32) hx hb C.2.2.2.1 (C.2.2.1 _ (show Cond.constantLong RX11 176 (iL 32) ∈ gWs from mD_X11_176)) dX11_spelled_139 ?_
              refine gl_mul (z := ((((((((((((((a1 - 96) * 32) + a2) - 96) * 32) + a3) - 96) * 32) + a4) - 96) * 32) + a6) - 96) * 32)) hx hb dX11_spelled_142 rfl ?_
              refine lv_iload hx hb dX11_spelled_143 (lv_at hl 7 rfl) ?_
              refine gi_i2l hx hb (by omega) dX11_spelled_145 ?_
              refine gl_add (z := (((((((((((((((a1 - 96) * 32) + a2) - 96) * 32) + a3) - 96) * 32) + a4) - 96) * 32) + a6) - 96) * 32) + a7)) hx hb dX11_spelled_146 rfl ?_
              refine lv_ldc2 (v := iL 96) hx hb C.2.2.2.1 (C.2.2.1 _ (show Cond.constantLong RX11 178 (iL 96) ∈ gWs from mD_X11_178)) dX11_spelled_147 ?_
              refine gl_sub (z := ((((((((((((((((a1 - 96) * 32) + a2) - 96) * 32) + a3) - 96) * 32) + a4) - 96) * 32) + a6) - 96) * 32) + a7) - 96)) hx hb dX11_spelled_150 rfl ?_
              refine lv_goto (tgt := 156) hx hb dX11_spelled_151 (by decide) ?_
              exact g_lret hQ C hr hlocks hP hS dX11_spelled_156 ⟨((((((((((((((((a1 - 96) * 32) + a2) - 96) * 32) + a3) - 96) * 32) + a4) - 96) * 32) + a6) - 96) * 32) + a7) - 96), rfl, rfl, rfl, rfl, (by unfold spW; (first | rw [stp_p (x := a2) (by omega)] | rw [stp_n (x := a2) (by omega)]); (first | rw [stp_p (x := a3) (by omega)] | rw [stp_n (x := a3) (by omega)]); (first | rw [stp_p (x := a4) (by omega)] | rw [stp_n (x := a4) (by omega)]); (first | rw [stp_p (x := a5) (by omega)] | rw [stp_n (x := a5) (by omega)]); (first | rw [stp_p (x := a6) (by omega)] | rw [stp_n (x := a6) (by omega)]); (first | rw [stp_p (x := a7) (by omega)] | rw [stp_n (x := a7) (by omega)]))⟩
        · refine lv_lload hx hb dX11_spelled_85 (lv_at hl 0 rfl) ?_
          refine lv_ldc2 (v := iL 32) hx hb C.2.2.2.1 (C.2.2.1 _ (show Cond.constantLong RX11 176 (iL 32) ∈ gWs from mD_X11_176)) dX11_spelled_87 ?_
          refine gl_mul (z := (((((((((((a1 - 96) * 32) + a2) - 96) * 32) + a3) - 96) * 32) + a4) - 96) * 32)) hx hb dX11_spelled_90 rfl ?_
          refine lv_iload hx hb dX11_spelled_91 (lv_at hl 5 rfl) ?_
          refine gi_i2l hx hb (by omega) dX11_spelled_93 ?_
          refine gl_add (z := ((((((((((((a1 - 96) * 32) + a2) - 96) * 32) + a3) - 96) * 32) + a4) - 96) * 32) + a5)) hx hb dX11_spelled_94 rfl ?_
          refine lv_ldc2 (v := iL 96) hx hb C.2.2.2.1 (C.2.2.1 _ (show Cond.constantLong RX11 178 (iL 96) ∈ gWs from mD_X11_178)) dX11_spelled_95 ?_
          refine gl_sub (z := (((((((((((((a1 - 96) * 32) + a2) - 96) * 32) + a3) - 96) * 32) + a4) - 96) * 32) + a5) - 96)) hx hb dX11_spelled_98 rfl ?_
          refine lv_goto (tgt := 104) hx hb dX11_spelled_99 (by decide) ?_
          refine lv_lstore (lv' := [(7, .long (iL (((((((((((((a1 - 96) * 32) + a2) - 96) * 32) + a3) - 96) * 32) + a4) - 96) * 32) + a5) - 96))), (0, .int (iI a1)), (1, .int (iI a2)), (2, .int (iI a3)), (3, .int (iI a4)), (4, .int (iI a5)), (5, .int (iI a6)), (6, .int (iI a7))]) hx hb dX11_spelled_104 hl (by decide) rfl (fun ls hl => ?_)
          refine lv_iload hx hb dX11_spelled_106 (lv_at hl 6 rfl) ?_
          refine gi_zle (tgt := 128) hx hb dX11_spelled_108 (by decide) (by omega) (fun c_61 => ?_) (fun c_61 => ?_)
          · refine lv_lload hx hb dX11_spelled_128 (lv_at hl 0 rfl) ?_
            refine lv_lstore (lv' := [(7, .long (iL (((((((((((((a1 - 96) * 32) + a2) - 96) * 32) + a3) - 96) * 32) + a4) - 96) * 32) + a5) - 96))), (0, .int (iI a1)), (1, .int (iI a2)), (2, .int (iI a3)), (3, .int (iI a4)), (4, .int (iI a5)), (5, .int (iI a6)), (6, .int (iI a7))]) hx hb dX11_spelled_130 hl (by decide) rfl (fun ls hl => ?_)
            refine lv_iload hx hb dX11_spelled_132 (lv_at hl 7 rfl) ?_
            refine gi_zle (tgt := 154) hx hb dX11_spelled_134 (by decide) (by omega) (fun c_62 => ?_) (fun c_62 => ?_)
            · refine lv_lload hx hb dX11_spelled_154 (lv_at hl 0 rfl) ?_
              exact g_lret hQ C hr hlocks hP hS dX11_spelled_156 ⟨(((((((((((((a1 - 96) * 32) + a2) - 96) * 32) + a3) - 96) * 32) + a4) - 96) * 32) + a5) - 96), rfl, rfl, rfl, rfl, (by unfold spW; (first | rw [stp_p (x := a2) (by omega)] | rw [stp_n (x := a2) (by omega)]); (first | rw [stp_p (x := a3) (by omega)] | rw [stp_n (x := a3) (by omega)]); (first | rw [stp_p (x := a4) (by omega)] | rw [stp_n (x := a4) (by omega)]); (first | rw [stp_p (x := a5) (by omega)] | rw [stp_n (x := a5) (by omega)]); (first | rw [stp_p (x := a6) (by omega)] | rw [stp_n (x := a6) (by omega)]); (first | rw [stp_p (x := a7) (by omega)] | rw [stp_n (x := a7) (by omega)]))⟩
            · refine lv_lload hx hb dX11_spelled_137 (lv_at hl 0 rfl) ?_
              refine lv_ldc2 (v := iL 32) hx hb C.2.2.2.1 (C.2.2.1 _ (show Cond.constantLong RX11 176 (iL 32) ∈ gWs from mD_X11_176)) dX11_spelled_139 ?_
              refine gl_mul (z := ((((((((((((((a1 - 96) * 32) + a2) - 96) * 32) + a3) - 96) * 32) + a4) - 96) * 32) + a5) - 96) * 32)) hx hb dX11_spelled_142 rfl ?_
              refine lv_iload hx hb dX11_spelled_143 (lv_at hl 7 rfl) ?_
              refine gi_i2l hx hb (by omega) dX11_spelled_145 ?_
              refine gl_add (z := (((((((((((((((a1 - 96) * 32) + a2) - 96) * 32) + a3) - 96) * 32) + a4) - 96) * 32) + a5) - 96) * 32) + a7)) hx hb dX11_spelled_146 rfl ?_
              refine lv_ldc2 (v := iL 96) hx hb C.2.2.2.1 (C.2.2.1 _ (show Cond.constantLong RX11 178 (iL 96) ∈ gWs from mD_X11_178)) dX11_spelled_147 ?_
              refine gl_sub (z := ((((((((((((((((a1 - 96) * 32) + a2) - 96) * 32) + a3) - 96) * 32) + a4) - 96) * 32) + a5) - 96) * 32) + a7) - 96)) hx hb dX11_spelled_150 rfl ?_
              refine lv_goto (tgt := 156) hx hb dX11_spelled_151 (by decide) ?_
              exact g_lret hQ C hr hlocks hP hS dX11_spelled_156 ⟨((((((((((((((((a1 - 96) * 32) + a2) - 96) * 32) + a3) - 96) * 32) + a4) - 96) * 32) + a5) - 96) * 32) + a7) - 96), rfl, rfl, rfl, rfl, (by unfold spW; (first | rw [stp_p (x := a2) (by omega)] | rw [stp_n (x := a2) (by omega)]); (first | rw [stp_p (x := a3) (by omega)] | rw [stp_n (x := a3) (by omega)]); (first | rw [stp_p (x := a4) (by omega)] | rw [stp_n (x := a4) (by omega)]); (first | rw [stp_p (x := a5) (by omega)] | rw [stp_n (x := a5) (by omega)]); (first | rw [stp_p (x := a6) (by omega)] | rw [stp_n (x := a6) (by omega)]); (first | rw [stp_p (x := a7) (by omega)] | rw [stp_n (x := a7) (by omega)]))⟩
          · refine lv_lload hx hb dX11_spelled_111 (lv_at hl 0 rfl) ?_
            refine lv_ldc2 (v := iL 32) hx hb C.2.2.2.1 (C.2.2.1 _ (show Cond.constantLong RX11 176 (iL 32) ∈ gWs from mD_X11_176)) dX11_spelled_113 ?_
            refine gl_mul (z := ((((((((((((((a1 - 96) * 32) + a2) - 96) * 32) + a3) - 96) * 32) + a4) - 96) * 32) + a5) - 96) * 32)) hx hb dX11_spelled_116 rfl ?_
            refine lv_iload hx hb dX11_spelled_117 (lv_at hl 6 rfl) ?_
            refine gi_i2l hx hb (by omega) dX11_spelled_119 ?_
            refine gl_add (z := (((((((((((((((a1 - 96) * 32) + a2) - 96) * 32) + a3) - 96) * 32) + a4) - 96) * 32) + a5) - 96) * 32) + a6)) hx hb dX11_spelled_120 rfl ?_
            refine lv_ldc2 (v := iL 96) hx hb C.2.2.2.1 (C.2.2.1 _ (show Cond.constantLong RX11 178 (iL 96) ∈ gWs from mD_X11_178)) dX11_spelled_121 ?_
            refine gl_sub (z := ((((((((((((((((a1 - 96) * 32) + a2) - 96) * 32) + a3) - 96) * 32) + a4) - 96) * 32) + a5) - 96) * 32) + a6) - 96)) hx hb dX11_spelled_124 rfl ?_
            refine lv_goto (tgt := 130) hx hb dX11_spelled_125 (by decide) ?_
            refine lv_lstore (lv' := [(7, .long (iL ((((((((((((((((a1 - 96) * 32) + a2) - 96) * 32) + a3) - 96) * 32) + a4) - 96) * 32) + a5) - 96) * 32) + a6) - 96))), (0, .int (iI a1)), (1, .int (iI a2)), (2, .int (iI a3)), (3, .int (iI a4)), (4, .int (iI a5)), (5, .int (iI a6)), (6, .int (iI a7))]) hx hb dX11_spelled_130 hl (by decide) rfl (fun ls hl => ?_)
            refine lv_iload hx hb dX11_spelled_132 (lv_at hl 7 rfl) ?_
            refine gi_zle (tgt := 154) hx hb dX11_spelled_134 (by decide) (by omega) (fun c_63 => ?_) (fun c_63 => ?_)
            · refine lv_lload hx hb dX11_spelled_154 (lv_at hl 0 rfl) ?_
              exact g_lret hQ C hr hlocks hP hS dX11_spelled_156 ⟨((((((((((((((((a1 - 96) * 32) + a2) - 96) * 32) + a3) - 96) * 32) + a4) - 96) * 32) + a5) - 96) * 32) + a6) - 96), rfl, rfl, rfl, rfl, (by unfold spW; (first | rw [stp_p (x := a2) (by omega)] | rw [stp_n (x := a2) (by omega)]); (first | rw [stp_p (x := a3) (by omega)] | rw [stp_n (x := a3) (by omega)]); (first | rw [stp_p (x := a4) (by omega)] | rw [stp_n (x := a4) (by omega)]); (first | rw [stp_p (x := a5) (by omega)] | rw [stp_n (x := a5) (by omega)]); (first | rw [stp_p (x := a6) (by omega)] | rw [stp_n (x := a6) (by omega)]); (first | rw [stp_p (x := a7) (by omega)] | rw [stp_n (x := a7) (by omega)]))⟩
            · refine lv_lload hx hb dX11_spelled_137 (lv_at hl 0 rfl) ?_
              refine lv_ldc2 (v := iL 32) hx hb C.2.2.2.1 (C.2.2.1 _ (show Cond.constantLong RX11 176 (iL 32) ∈ gWs from mD_X11_176)) dX11_spelled_139 ?_
              refine gl_mul (z := (((((((((((((((((a1 - 96) * 32) + a2) - 96) * 32) + a3) - 96) * 32) + a4) - 96) * 32) + a5) - 96) * 32) + a6) - 96) * 32)) hx hb dX11_spelled_142 rfl ?_
              refine lv_iload hx hb dX11_spelled_143 (lv_at hl 7 rfl) ?_
              refine gi_i2l hx hb (by omega) dX11_spelled_145 ?_
              refine gl_add (z := ((((((((((((((((((a1 - 96) * 32) + a2) - 96) * 32) + a3) - 96) * 32) + a4) - 96) * 32) + a5) - 96) * 32) + a6) - 96) * 32) + a7)) hx hb dX11_spelled_146 rfl ?_
              refine lv_ldc2 (v := iL 96) hx hb C.2.2.2.1 (C.2.2.1 _ (show Cond.constantLong RX11 178 (iL 96) ∈ gWs from mD_X11_178)) dX11_spelled_147 ?_
              refine gl_sub (z := (((((((((((((((((((a1 - 96) * 32) + a2) - 96) * 32) + a3) - 96) * 32) + a4) - 96) * 32) + a5) - 96) * 32) + a6) - 96) * 32) + a7) - 96)) hx hb dX11_spelled_150 rfl ?_
              refine lv_goto (tgt := 156) hx hb dX11_spelled_151 (by decide) ?_
              exact g_lret hQ C hr hlocks hP hS dX11_spelled_156 ⟨(((((((((((((((((((a1 - 96) * 32) + a2) - 96) * 32) + a3) - 96) * 32) + a4) - 96) * 32) + a5) - 96) * 32) + a6) - 96) * 32) + a7) - 96), rfl, rfl, rfl, rfl, (by unfold spW; (first | rw [stp_p (x := a2) (by omega)] | rw [stp_n (x := a2) (by omega)]); (first | rw [stp_p (x := a3) (by omega)] | rw [stp_n (x := a3) (by omega)]); (first | rw [stp_p (x := a4) (by omega)] | rw [stp_n (x := a4) (by omega)]); (first | rw [stp_p (x := a5) (by omega)] | rw [stp_n (x := a5) (by omega)]); (first | rw [stp_p (x := a6) (by omega)] | rw [stp_n (x := a6) (by omega)]); (first | rw [stp_p (x := a7) (by omega)] | rw [stp_n (x := a7) (by omega)]))⟩

set_option maxHeartbeats 4000000 in
set_option maxRecDepth 100000 in
theorem n_isSign (l : Launch) (D : va_G) (k : Nat → ClassId) (A : Nat → Prop) (ad : Nat → Nat) (hD : mdD A k ad) (v : gV) (f g : gF) (a1 : Int) (h_a1 : inR a1) : GM l D k A (mdT k ad) yX11_isSign cX11_isSign 2 (some .boolean) 0 0 [.ref (ad 0), .int (iI a1)] v f g (fun r v1 f1 g1 => ∃ (z : Int), r = some (.int (iI z)) ∧ v = v1 ∧ f = f1 ∧ g = g1 ∧ (z = (if (v 8) = 3 ∧ (v 11) = a1 then 1 else 0))) := by
  refine GM.of (by decide) (Nat.le_of_ble_eq_true rfl) ?_
  intro p e s m args below meth c Q ls hQ C hml hr hlocks hP hl
  have hx := C.1
  have hb := C.2.1
  have hok := hP.2
  have hS : va_S A s.heap s.heap [] := va_S.rf
  have hl : lv_has ls 2 [(0, .ref (ad 0)), (1, .int (iI a1))] := hl
  refine lv_aload_n hx hb dX11_isSign_0 rfl (lv_at hl 0 rfl) ?_
  refine mdG_sort C hP mF_X11_165 dX11_isSign_1 ?_
  have r_1 : 0 ≤ (v 8) ∧ (v 8) ≤ 4 := hok.1 8
  refine lv_iconst (v := iI 3) hx hb dX11_isSign_4 rfl ?_
  refine gi_cne (tgt := 20) hx hb dX11_isSign_5 (by decide) (by omega) (by decide) (fun c_2 => ?_) (fun c_2 => ?_)
  · refine lv_iconst (v := iI 0) hx hb dX11_isSign_20 rfl ?_
    exact g_zret hQ C hr hlocks (by decide) hP hS dX11_isSign_21 ⟨0, rfl, rfl, rfl, rfl, (by first | omega | (split <;> omega))⟩
  · refine lv_aload_n hx hb dX11_isSign_8 rfl (lv_at hl 0 rfl) ?_
    refine mdG_number C hP mF_X11_185 dX11_isSign_9 ?_
    have r_3 : 0 ≤ (v 11) ∧ (v 11) ≤ 999999 := hok.1 11
    refine lv_iload_n hx hb dX11_isSign_12 rfl (lv_at hl 1 rfl) ?_
    refine gi_cne (tgt := 20) hx hb dX11_isSign_13 (by decide) (by omega) (by omega) (fun c_4 => ?_) (fun c_4 => ?_)
    · refine lv_iconst (v := iI 0) hx hb dX11_isSign_20 rfl ?_
      exact g_zret hQ C hr hlocks (by decide) hP hS dX11_isSign_21 ⟨0, rfl, rfl, rfl, rfl, (by first | omega | (split <;> omega))⟩
    · refine lv_iconst (v := iI 1) hx hb dX11_isSign_16 rfl ?_
      refine lv_goto (tgt := 21) hx hb dX11_isSign_17 (by decide) ?_
      exact g_zret hQ C hr hlocks (by decide) hP hS dX11_isSign_21 ⟨1, rfl, rfl, rfl, rfl, (by first | omega | (split <;> omega))⟩

set_option maxHeartbeats 4000000 in
set_option maxRecDepth 100000 in
theorem n_fail (l : Launch) (D : va_G) (k : Nat → ClassId) (A : Nat → Prop) (ad : Nat → Nat) (hD : mdD A k ad) (v : gV) (f g : gF) (a1 : Int) (a2 : Int) (h_a1 : inR a1) (h_a2 : inR a2) (h1 : 1 ≤ a1 ∧ a1 ≤ 5) (h2 : 0 ≤ a2 ∧ a2 ≤ 700) : GM l D k A (mdT k ad) yX11_fail cX11_fail 3 none 0 0 [.ref (ad 0), .int (iI a1), .int (iI a2)] v f g (fun r v1 f1 g1 => ∃ (w6 : Int) (w7 : Int), r = none ∧ (va_up (va_up v 6 w6) 7 w7) = v1 ∧ f = f1 ∧ g = g1 ∧ ((v 6) = 0 → w6 = a1 ∧ w7 = a2) ∧ (0 < (v 6) → w6 = (v 6) ∧ w7 = (v 7))) := by
  refine GM.of (by decide) (Nat.le_of_ble_eq_true rfl) ?_
  intro p e s m args below meth c Q ls hQ C hml hr hlocks hP hl
  have hx := C.1
  have hb := C.2.1
  have hok := hP.2
  have hS : va_S A s.heap s.heap [] := va_S.rf
  have hl : lv_has ls 3 [(0, .ref (ad 0)), (1, .int (iI a1)), (2, .int (iI a2))] := hl
  have hP : gWd D (mdT k ad) (va_up (va_up v 6 (v 6)) 7 (v 7)) f g s.heap := by rw [va_id, va_id]; exact hP
  have r_1 : 0 ≤ (v 6) ∧ (v 6) ≤ 5 := hok.1 6
  refine lv_aload_n hx hb dX11_fail_0 rfl (lv_at hl 0 rfl) ?_
  refine mdG_bad C hP mF_X11_188 dX11_fail_1 ?_
  show W p l e (gRm 0 0) s m args below meth c _ _ 0 0 Q (F0 m 4 ls [.int (iI (v 6))])
  refine gi_zle (tgt := 8) hx hb dX11_fail_4 (by decide) (by omega) (fun c_2 => ?_) (fun c_2 => ?_)
  · refine lv_aload_n hx hb dX11_fail_8 rfl (lv_at hl 0 rfl) ?_
    refine lv_iload_n hx hb dX11_fail_9 rfl (lv_at hl 1 rfl) ?_
    refine mdP_bad (v1 := (va_up (va_up v 6 a1) 7 (v 7))) C hP hD hS mF_X11_188 (by omega) rfl (Or.inr (gR_up (V := mdV) (F := mdF) (gR_up (V := mdV) (F := mdF) ⟨hok.1, hok.2⟩ 6 (show 0 ≤ a1 ∧ a1 ≤ 5 from by omega)) 7 (hP.2.1 7))) dX11_fail_10 (fun H locs hP hS => ?_)
    refine lv_aload_n hx hb dX11_fail_13 rfl (lv_at hl 0 rfl) ?_
    refine lv_iload_n hx hb dX11_fail_14 rfl (lv_at hl 2 rfl) ?_
    refine mdP_badAt (v1 := (va_up (va_up v 6 a1) 7 a2)) C hP hD hS mF_X11_191 (by omega) rfl (Or.inr (gR_up (V := mdV) (F := mdF) (gR_up (V := mdV) (F := mdF) ⟨hok.1, hok.2⟩ 6 (hP.2.1 6)) 7 (show 0 ≤ a2 ∧ a2 ≤ 700 from by omega))) dX11_fail_15 (fun H locs hP hS => ?_)
    exact g_vret hQ C hr hlocks hP hS dX11_fail_18 ⟨a1, a2, rfl, rfl, rfl, rfl, (by first | omega | (split <;> omega)), (by first | omega | (split <;> omega))⟩
  · exact g_vret hQ C hr hlocks hP hS dX11_fail_7 ⟨(v 6), (v 7), rfl, rfl, rfl, rfl, (by first | omega | (split <;> omega)), (by first | omega | (split <;> omega))⟩

set_option maxHeartbeats 4000000 in
set_option maxRecDepth 100000 in
theorem n_wrong (l : Launch) (D : va_G) (k : Nat → ClassId) (A : Nat → Prop) (ad : Nat → Nat) (hD : mdD A k ad) (v : gV) (f g : gF) : GM l D k A (mdT k ad) yX11_wrong cX11_wrong 1 none 1 22 [.ref (ad 0)] v f g (fun r v1 f1 g1 => ∃ (w6 : Int) (w7 : Int), r = none ∧ (va_up (va_up v 6 w6) 7 w7) = v1 ∧ f = f1 ∧ g = g1 ∧ ((v 6) = 0 → w6 = (if (v 8) = 4 then 1 else 2) ∧ w7 = (v 9)) ∧ (0 < (v 6) → w6 = (v 6) ∧ w7 = (v 7))) := by
  refine GM.of (by decide) (Nat.le_of_ble_eq_true rfl) ?_
  intro p e s m args below meth c Q ls hQ C hml hr hlocks hP hl
  have hx := C.1
  have hb := C.2.1
  have hok := hP.2
  have hS : va_S A s.heap s.heap [] := va_S.rf
  have hl : lv_has ls 1 [(0, .ref (ad 0))] := hl
  have hP : gWd D (mdT k ad) (va_up (va_up v 6 (v 6)) 7 (v 7)) f g s.heap := by rw [va_id, va_id]; exact hP
  have r_1 : 0 ≤ (v 6) ∧ (v 6) ≤ 5 := hok.1 6
  have r_2 : 0 ≤ (v 9) ∧ (v 9) ≤ 700 := hok.1 9
  have r_3 : 0 ≤ (v 8) ∧ (v 8) ≤ 4 := hok.1 8
  refine lv_aload_n hx hb dX11_wrong_0 rfl (lv_at hl 0 rfl) ?_
  refine lv_aload_n hx hb dX11_wrong_1 rfl (lv_at hl 0 rfl) ?_
  refine mdG_sort C hP mF_X11_165 dX11_wrong_2 ?_
  show W p l e (gRm 1 22) s m args below meth c _ _ 0 0 Q (F0 m 5 ls [.int (iI (v 8)), .ref (ad 0)])
  refine lv_iconst (v := iI 4) hx hb dX11_wrong_5 rfl ?_
  refine gi_cne (tgt := 13) hx hb dX11_wrong_6 (by decide) (by omega) (by decide) (fun c_4 => ?_) (fun c_4 => ?_)
  · refine lv_iconst (v := iI 2) hx hb dX11_wrong_13 rfl ?_
    refine lv_aload_n hx hb dX11_wrong_14 rfl (lv_at hl 0 rfl) ?_
    refine mdG_at C hP mF_X11_158 dX11_wrong_15 ?_
    show W p l e (gRm 1 22) s m args below meth c _ _ 0 0 Q (F0 m 18 ls [.int (iI (v 9)), .int (iI 2), .ref (ad 0)])
    refine g_cv (As := [.int (iI 2), .int (iI (v 9))]) (rest := []) (n := 2) C hml (n_fail l D k A ad hD (va_up (va_up v 6 (v 6)) 7 (v 7)) f g 2 (v 9) (by decide) (by omega) (show 1 ≤ (2 : Int) ∧ (2 : Int) ≤ 5 from by omega) (show 0 ≤ (v 9) ∧ (v 9) ≤ 700 from by omega)) mM_X11_194 mI_X11_fail mE_X11_fail mN_X11 mC_X11_fail (by decide +kernel) 0 (ci := 11) rfl rfl hP hS (fun _ h => h) ⟨Nat.le_of_ble_eq_true rfl, Nat.le_of_ble_eq_true rfl⟩ ⟨Nat.zero_le _, Nat.zero_le _⟩ hl.1 rfl rfl (Nat.le_of_ble_eq_true rfl) dX11_wrong_18 (fun r_5 v_5 f_5 g_5 H locs hq_5 hP _ hS => ?_)
    obtain ⟨w6_5, w7_5, rfl, rfl, rfl, rfl, p0_5, p1_5⟩ := hq_5
    show W p l e (gRm 1 22) s m args below meth c _ _ 0 0 Q (F0 m 21 ls [])
    have hP : gWd D (mdT k ad) (va_up (va_up v 6 w6_5) 7 w7_5) f g H := ⟨hP.1, (gR_up (V := mdV) (F := mdF) (gR_up (V := mdV) (F := mdF) ⟨hok.1, hok.2⟩ 6 (hP.2.1 6)) 7 (hP.2.1 7))⟩
    replace p0_5 : (v 6) = 0 → w6_5 = (2 : Int) ∧ w7_5 = (v 9) := p0_5
    replace p1_5 : 0 < (v 6) → w6_5 = (v 6) ∧ w7_5 = (v 7) := p1_5
    have rw6_5 : 0 ≤ w6_5 ∧ w6_5 ≤ 5 := hP.2.1 6
    have rw7_5 : 0 ≤ w7_5 ∧ w7_5 ≤ 700 := hP.2.1 7
    exact g_vret hQ C hr hlocks hP hS dX11_wrong_21 ⟨w6_5, w7_5, rfl, rfl, rfl, rfl, (by first | (intro h; exfalso; omega) | (intro h; rw [if_pos (by omega)]; omega) | (intro h; rw [if_neg (by omega)]; omega)), (by first | omega | (split <;> omega))⟩
  · refine lv_iconst (v := iI 1) hx hb dX11_wrong_9 rfl ?_
    refine lv_goto (tgt := 14) hx hb dX11_wrong_10 (by decide) ?_
    refine lv_aload_n hx hb dX11_wrong_14 rfl (lv_at hl 0 rfl) ?_
    refine mdG_at C hP mF_X11_158 dX11_wrong_15 ?_
    show W p l e (gRm 1 22) s m args below meth c _ _ 0 0 Q (F0 m 18 ls [.int (iI (v 9)), .int (iI 1), .ref (ad 0)])
    refine g_cv (As := [.int (iI 1), .int (iI (v 9))]) (rest := []) (n := 2) C hml (n_fail l D k A ad hD (va_up (va_up v 6 (v 6)) 7 (v 7)) f g 1 (v 9) (by decide) (by omega) (show 1 ≤ (1 : Int) ∧ (1 : Int) ≤ 5 from by omega) (show 0 ≤ (v 9) ∧ (v 9) ≤ 700 from by omega)) mM_X11_194 mI_X11_fail mE_X11_fail mN_X11 mC_X11_fail (by decide +kernel) 0 (ci := 11) rfl rfl hP hS (fun _ h => h) ⟨Nat.le_of_ble_eq_true rfl, Nat.le_of_ble_eq_true rfl⟩ ⟨Nat.zero_le _, Nat.zero_le _⟩ hl.1 rfl rfl (Nat.le_of_ble_eq_true rfl) dX11_wrong_18 (fun r_6 v_6 f_6 g_6 H locs hq_6 hP _ hS => ?_)
    obtain ⟨w6_6, w7_6, rfl, rfl, rfl, rfl, p0_6, p1_6⟩ := hq_6
    show W p l e (gRm 1 22) s m args below meth c _ _ 0 0 Q (F0 m 21 ls [])
    have hP : gWd D (mdT k ad) (va_up (va_up v 6 w6_6) 7 w7_6) f g H := ⟨hP.1, (gR_up (V := mdV) (F := mdF) (gR_up (V := mdV) (F := mdF) ⟨hok.1, hok.2⟩ 6 (hP.2.1 6)) 7 (hP.2.1 7))⟩
    replace p0_6 : (v 6) = 0 → w6_6 = (1 : Int) ∧ w7_6 = (v 9) := p0_6
    replace p1_6 : 0 < (v 6) → w6_6 = (v 6) ∧ w7_6 = (v 7) := p1_6
    have rw6_6 : 0 ≤ w6_6 ∧ w6_6 ≤ 5 := hP.2.1 6
    have rw7_6 : 0 ≤ w7_6 ∧ w7_6 ≤ 700 := hP.2.1 7
    exact g_vret hQ C hr hlocks hP hS dX11_wrong_21 ⟨w6_6, w7_6, rfl, rfl, rfl, rfl, (by first | (intro h; exfalso; omega) | (intro h; rw [if_pos (by omega)]; omega) | (intro h; rw [if_neg (by omega)]; omega)), (by first | omega | (split <;> omega))⟩
