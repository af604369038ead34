set_option maxHeartbeats 4000000 in
set_option maxRecDepth 100000 in
theorem m_reduceG (l : Launch) (D : va_G) (k : Nat → ClassId) (A : Nat → Prop) (ad : Nat → Nat) (hD : mdD A k ad) (v : gV) (f g : gF) (a1 : Int) (gc : Int) (h_a1 : inR a1) (he : eOk (v 16) gc (v 21) (v 20) 1 (f 11) (f 17)) (h1 : 1 ≤ a1 ∧ a1 ≤ 2) : GM l D k A (mdT k ad) yX11_reduce cX11_reduce 2 none 1 22 [.ref (ad 0), .int (iI a1)] v f g (fun r v1 f1 g1 => ∃ (w16 : Int) (w20 : Int) (a11_ : Int → Int) (a12_ : Int → Int), r = none ∧ (va_up (va_up v 16 w16) 20 w20) = v1 ∧ (va_up (va_up f 11 a11_) 12 a12_) = f1 ∧ g = g1 ∧ (eOk w16 gc (v 21) w20 1 a11_ (f 17)) ∧ (a1 = 1 → w20 = 0 ∨ 10 ≤ (f 17) (w20 - 1)) ∧ (wP (f 17) w20 = wP (f 17) (v 20))) := by
  refine GM.of (by decide) (Nat.le_of_ble_eq_true rfl) ?_
  intro p e s m args below meth c Q ls hQ C hml hr hlocks hP hl
  have hx := C.1
  have hb := C.2.1
  have hok := hP.2
  have hS : va_S A s.heap s.heap [] := va_S.rf
  have hl : lv_has ls 2 [(0, .ref (ad 0)), (1, .int (iI a1))] := hl
  have hP : gWd D (mdT k ad) (va_up (va_up v 16 (v 16)) 20 (v 20)) (va_up (va_up f 11 (f 11)) 12 (f 12)) g s.heap := by rw [va_id, va_id, va_id, va_id]; exact hP
  have r_1 : 0 ≤ (v 20) ∧ (v 20) ≤ 64 := hok.1 20
  have r_2 : 0 ≤ (v 16) ∧ (v 16) ≤ 41 := hok.1 16
  have L_3 : ∀ (n : Nat) (y16_3 : Int) (y20_3 : Int) (c11_3 : Int → Int) (c12_3 : Int → Int) (H : Heap) (locs : List Loc) (ls : Array Slot), y20_3 < (n : Int) → (eOk y16_3 gc (v 21) y20_3 1 c11_3 (f 17)) → (wP (f 17) y20_3 = wP (f 17) (v 20)) → gWd D (mdT k ad) (va_up (va_up v 16 y16_3) 20 y20_3) (va_up (va_up f 11 c11_3) 12 c12_3) g H → va_S A s.heap H locs → lv_has ls 2 [(0, .ref (ad 0)), (1, .int (iI a1))] → W p l e (gRm 1 22) s m args below meth c H locs 0 0 Q (F0 m 0 ls []) := by
    intro n
    induction n with
    | zero =>
      intro y16_3 y20_3 c11_3 c12_3 H locs ls hn_3 i3_0 i3_1 hP hS hl
      have ry16_3 : 0 ≤ y16_3 ∧ y16_3 ≤ 41 := hP.2.1 16
      have ry20_3 : 0 ≤ y20_3 ∧ y20_3 ≤ 64 := hP.2.1 20
      exfalso; omega
    | succ n ih_0 =>
      intro y16_3 y20_3 c11_3 c12_3 H locs ls hn_3 i3_0 i3_1 hP hS hl
      have ry16_3 : 0 ≤ y16_3 ∧ y16_3 ≤ 41 := hP.2.1 16
      have ry20_3 : 0 ≤ y20_3 ∧ y20_3 ≤ 64 := hP.2.1 20
      have hr0 := eOk_rng i3_0
      have hst := fun h1 h2 => eOk_red i3_0 h1 h2
      refine lv_aload_n hx hb dX11_reduce_0 rfl (lv_at hl 0 rfl) ?_
      refine mdG_waiting C hP mF_X11_255 dX11_reduce_1 ?_
      show W p l e (gRm 1 22) s m args below meth c _ _ 0 0 Q (F0 m 4 ls [.int (iI y20_3)])
      have r_4 : 0 ≤ y20_3 ∧ y20_3 ≤ 64 := hP.2.1 20
      refine gi_zle (tgt := 68) hx hb dX11_reduce_4 (by decide) (by omega) (fun c_5 => ?_) (fun c_5 => ?_)
      · exact g_vret hQ C hr hlocks hP hS dX11_reduce_68 ⟨y16_3, y20_3, c11_3, c12_3, rfl, rfl, rfl, rfl, (by assumption), (by first | omega | (split <;> omega)), (by assumption)⟩
      · refine lv_aload_n hx hb dX11_reduce_7 rfl (lv_at hl 0 rfl) ?_
        refine mdG_waits C hP mF_X11_70 dX11_reduce_8 ?_
        refine lv_aload_n hx hb dX11_reduce_11 rfl (lv_at hl 0 rfl) ?_
        refine mdG_waiting C hP mF_X11_255 dX11_reduce_12 ?_
        show W p l e (gRm 1 22) s m args below meth c _ _ 0 0 Q (F0 m 15 ls [.int (iI y20_3), .ref (ad 18)])
        refine lv_iconst (v := iI 1) hx hb dX11_reduce_15 rfl ?_
        refine gi_sub (z := (y20_3 - 1)) hx hb dX11_reduce_16 rfl ?_
        refine mdL_waits C hP (by omega) (by omega) dX11_reduce_17 ?_
        show W p l e (gRm 1 22) s m args below meth c _ _ 0 0 Q (F0 m 18 ls [.int (iI (f 17 (y20_3 - 1)))])
        have r_6 : 0 ≤ (f 17 (y20_3 - 1)) ∧ (f 17 (y20_3 - 1)) ≤ 11 := hP.2.2 17 (y20_3 - 1)
        refine lv_bipush (v := iI 10) hx hb dX11_reduce_18 (by decide) ?_
        refine gi_cge (tgt := 68) hx hb dX11_reduce_20 (by decide) (by omega) (by decide) (fun c_7 => ?_) (fun c_7 => ?_)
        · exact g_vret hQ C hr hlocks hP hS dX11_reduce_68 ⟨y16_3, y20_3, c11_3, c12_3, rfl, rfl, rfl, rfl, (by assumption), (by first | omega | (split <;> omega)), (by assumption)⟩
        · refine lv_aload_n hx hb dX11_reduce_23 rfl (lv_at hl 0 rfl) ?_
          refine mdG_waits C hP mF_X11_70 dX11_reduce_24 ?_
          refine lv_aload_n hx hb dX11_reduce_27 rfl (lv_at hl 0 rfl) ?_
          refine mdG_waiting C hP mF_X11_255 dX11_reduce_28 ?_
          show W p l e (gRm 1 22) s m args below meth c _ _ 0 0 Q (F0 m 31 ls [.int (iI y20_3), .ref (ad 18)])
          refine lv_iconst (v := iI 1) hx hb dX11_reduce_31 rfl ?_
          refine gi_sub (z := (y20_3 - 1)) hx hb dX11_reduce_32 rfl ?_
          refine mdL_waits C hP (by omega) (by omega) dX11_reduce_33 ?_
          show W p l e (gRm 1 22) s m args below meth c _ _ 0 0 Q (F0 m 34 ls [.int (iI (f 17 (y20_3 - 1)))])
          refine g_cs (As := [.int (iI (f 17 (y20_3 - 1)))]) (rest := []) (n := 1) C hml (m_X11_strong l D k A ad hD (va_up (va_up v 16 y16_3) 20 y20_3) (va_up (va_up f 11 c11_3) 12 c12_3) g (f 17 (y20_3 - 1)) (by omega)) mM_X11_258 mS_X11_strong mN_X11 mC_X11_strong (by decide +kernel) hP hS (fun _ h => h) ⟨Nat.le_of_ble_eq_true rfl, Nat.le_of_ble_eq_true rfl⟩ ⟨Nat.zero_le _, Nat.zero_le _⟩ hl.1 rfl rfl (Nat.le_of_ble_eq_true rfl) dX11_reduce_34 (fun r_8 v_8 f_8 g_8 H locs hq_8 hP _ hS => ?_)
          obtain ⟨z_8, rfl, rfl, rfl, rfl, p0_8, p1_8, p2_8, p3_8⟩ := hq_8
          show W p l e (gRm 1 22) s m args below meth c _ _ 0 0 Q (F0 m 37 ls [.int (iI z_8)])
          replace p0_8 : 0 ≤ z_8 ∧ z_8 ≤ 2 := p0_8
          replace p1_8 : (f 17 (y20_3 - 1)) = 9 → z_8 = 2 := p1_8
          replace p2_8 : (f 17 (y20_3 - 1)) < 9 → z_8 = 1 := p2_8
          replace p3_8 : 9 < (f 17 (y20_3 - 1)) → z_8 = 0 := p3_8
          refine lv_iload_n hx hb dX11_reduce_37 rfl (lv_at hl 1 rfl) ?_
          refine gi_clt (tgt := 68) hx hb dX11_reduce_38 (by decide) (by omega) (by omega) (fun c_9 => ?_) (fun c_9 => ?_)
          · exact g_vret hQ C hr hlocks hP hS dX11_reduce_68 ⟨y16_3, y20_3, c11_3, c12_3, rfl, rfl, rfl, rfl, (by assumption), (by first | omega | (split <;> omega)), (by assumption)⟩
          · refine lv_aload_n hx hb dX11_reduce_41 rfl (lv_at hl 0 rfl) ?_
            refine lv_dup hx hb dX11_reduce_42 rfl ?_
            refine mdG_waiting C hP mF_X11_255 dX11_reduce_43 ?_
            show W p l e (gRm 1 22) s m args below meth c _ _ 0 0 Q (F0 m 46 ls [.int (iI y20_3), .ref (ad 0)])
            refine lv_iconst (v := iI 1) hx hb dX11_reduce_46 rfl ?_
            refine gi_sub (z := (y20_3 - 1)) hx hb dX11_reduce_47 rfl ?_
            refine mdP_waiting (v1 := (va_up (va_up v 16 y16_3) 20 (y20_3 - 1))) C hP hD hS mF_X11_255 (by omega) rfl (Or.inr (gF_up (V := mdV) (F := mdF) (gF_up (V := mdV) (F := mdF) (gR_up (V := mdV) (F := mdF) (gR_up (V := mdV) (F := mdF) ⟨hok.1, hok.2⟩ 16 (hP.2.1 16)) 20 (show 0 ≤ (y20_3 - 1) ∧ (y20_3 - 1) ≤ 64 from by omega)) 11 (hP.2.2 11)) 12 (hP.2.2 12))) dX11_reduce_48 (fun H locs hP hS => ?_)
            refine lv_aload_n hx hb dX11_reduce_51 rfl (lv_at hl 0 rfl) ?_
            refine lv_aload_n hx hb dX11_reduce_52 rfl (lv_at hl 0 rfl) ?_
            refine mdG_waits C hP mF_X11_70 dX11_reduce_53 ?_
            refine lv_aload_n hx hb dX11_reduce_56 rfl (lv_at hl 0 rfl) ?_
            refine mdG_waiting C hP mF_X11_255 dX11_reduce_57 ?_
            show W p l e (gRm 1 22) s m args below meth c _ _ 0 0 Q (F0 m 60 ls [.int (iI (y20_3 - 1)), .ref (ad 18), .ref (ad 0)])
            have r_10 : 0 ≤ (y20_3 - 1) ∧ (y20_3 - 1) ≤ 64 := hP.2.1 20
            refine mdL_waits C hP (by omega) (by omega) dX11_reduce_60 ?_
            show W p l e (gRm 1 22) s m args below meth c _ _ 0 0 Q (F0 m 61 ls [.int (iI (f 17 (y20_3 - 1))), .ref (ad 0)])
            refine lv_iconst (v := iI 0) hx hb dX11_reduce_61 rfl ?_
            refine g_cv (As := [.int (iI (f 17 (y20_3 - 1))), .int (iI 0)]) (rest := []) (n := 2) C hml (m_X11_puts l D k A ad hD (va_up (va_up v 16 y16_3) 20 (y20_3 - 1)) (va_up (va_up f 11 c11_3) 12 c12_3) g (f 17 (y20_3 - 1)) 0 (by omega) (by decide) (show y16_3 ≤ 40 from by omega) (show 0 ≤ (f 17 (y20_3 - 1)) ∧ (f 17 (y20_3 - 1)) ≤ 11 from by omega) (show 0 ≤ (0 : Int) ∧ (0 : Int) ≤ 999999 from by omega)) mM_X11_261 mI_X11_puts mE_X11_puts mN_X11 mC_X11_puts (by decide +kernel) 0 (ci := 11) rfl rfl hP hS (fun _ h => h) ⟨Nat.le_of_ble_eq_true rfl, Nat.le_of_ble_eq_true rfl⟩ ⟨Nat.zero_le _, Nat.zero_le _⟩ hl.1 rfl rfl (Nat.le_of_ble_eq_true rfl) dX11_reduce_62 (fun r_11 v_11 f_11 g_11 H locs hq_11 hP _ hS => ?_)
            obtain ⟨a12_11, rfl, rfl, rfl, rfl⟩ := hq_11
            show W p l e (gRm 1 22) s m args below meth c _ _ 0 0 Q (F0 m 65 ls [])
            have hP : gWd D (mdT k ad) (va_up (va_up v 16 (y16_3 + 1)) 20 (y20_3 - 1)) (va_up (va_up f 11 (u1 c11_3 y16_3 (f 17 (y20_3 - 1)))) 12 a12_11) g H := ⟨hP.1, (gF_up (V := mdV) (F := mdF) (gF_up (V := mdV) (F := mdF) (gR_up (V := mdV) (F := mdF) (gR_up (V := mdV) (F := mdF) ⟨hok.1, hok.2⟩ 16 (hP.2.1 16)) 20 (hP.2.1 20)) 11 (hP.2.2 11)) 12 (hP.2.2 12))⟩
            refine lv_goto (tgt := 0) hx hb dX11_reduce_65 (by decide) ?_
            exact ih_0 (y16_3 + 1) (y20_3 - 1) (u1 c11_3 y16_3 (f 17 (y20_3 - 1))) a12_11 _ _ _ (by omega) (hst (by omega) (by omega)).1 (by have := (hst (by omega) (by omega)).2; omega) hP hS (lv_sub hl [0, 1] rfl)
  exact L_3 65 (v 16) (v 20) (f 11) (f 12) _ _ _ (by omega) he rfl hP hS (lv_sub hl [0, 1] rfl)

set_option maxHeartbeats 4000000 in
set_option maxRecDepth 100000 in
theorem m_X11_readFactor (l : Launch) (D : va_G) (k : Nat → ClassId) (A : Nat → Prop) (ad : Nat → Nat) (hD : mdD A k ad) (v : gV) (f g : gF) (hj : (v 9) ≤ (v 10) ∧ (v 10) ≤ (v 3) ∧ ((v 8) ≠ 0 → (v 9) < (v 10))) (hb0 : (v 6) = 0) (he : eOk (v 16) (v 27) (v 21) (v 20) 0 (f 11) (f 17)) : GM l D k A (mdT k ad) yX11_readFactor cX11_readFactor 2 (some .boolean) 2 48 [.ref (ad 0)] v f g (fun r v1 f1 g1 => ∃ (z : Int) (w6 : Int) (w7 : Int) (w8 : Int) (w9 : Int) (w10 : Int) (w11 : Int) (w16 : Int) (w20 : Int) (w21 : Int) (w27 : Int) (a11_ : Int → Int) (a12_ : Int → Int) (a17_ : Int → Int) (b0_ : Int → Int), r = some (.int (iI z)) ∧ (va_up (va_up (va_up (va_up (va_up (va_up (va_up (va_up (va_up (va_up v 6 w6) 7 w7) 8 w8) 9 w9) 10 w10) 11 w11) 16 w16) 20 w20) 21 w21) 27 w27) = v1 ∧ (va_up (va_up (va_up f 11 a11_) 12 a12_) 17 a17_) = f1 ∧ (va_up g 0 b0_) = g1 ∧ (0 ≤ z ∧ z ≤ 1) ∧ ((v 9) ≤ w9 ∧ w9 ≤ w10 ∧ w10 ≤ (v 3)) ∧ (w8 ≠ 0 → w9 < w10) ∧ (w6 = 0 → (v 9) < w9) ∧ (z = 1 → w6 = 0) ∧ (w6 = 0 → eOk w16 w27 w21 w20 z a11_ a17_)) := by
  refine GM.of (by decide) (Nat.le_of_ble_eq_true rfl) ?_
  intro p e s m args below meth c Q ls hQ C hml hr hlocks hP hl
  have hx := C.1
  have hb := C.2.1
  have hok := hP.2
  have hS : va_S A s.heap s.heap [] := va_S.rf
  have hl : lv_has ls 2 [(0, .ref (ad 0))] := hl
  have hP : gWd D (mdT k ad) (va_up (va_up (va_up (va_up (va_up (va_up (va_up (va_up (va_up (va_up v 6 (v 6)) 7 (v 7)) 8 (v 8)) 9 (v 9)) 10 (v 10)) 11 (v 11)) 16 (v 16)) 20 (v 20)) 21 (v 21)) 27 (v 27)) (va_up (va_up (va_up f 11 (f 11)) 12 (f 12)) 17 (f 17)) (va_up g 0 (g 0)) s.heap := by rw [va_id, va_id, va_id, va_id, va_id, va_id, va_id, va_id, va_id, va_id, va_id, va_id, va_id, va_id]; exact hP
  have hr0 := eOk_rng he
  have r_1 : 0 ≤ (v 9) ∧ (v 9) ≤ 700 := hok.1 9
  have r_2 : 0 ≤ (v 10) ∧ (v 10) ≤ 700 := hok.1 10
  have r_3 : 0 ≤ (v 3) ∧ (v 3) ≤ 700 := hok.1 3
  have r_4 : 0 ≤ (v 8) ∧ (v 8) ≤ 4 := hok.1 8
  have r_5 : 0 ≤ (v 6) ∧ (v 6) ≤ 5 := hok.1 6
  have r_6 : 0 ≤ (v 16) ∧ (v 16) ≤ 41 := hok.1 16
  have r_7 : 0 ≤ (v 20) ∧ (v 20) ≤ 64 := hok.1 20
  have r_8 : 0 ≤ (v 21) ∧ (v 21) ≤ 9 := hok.1 21
  have r_9 : 0 ≤ (v 27) ∧ (v 27) ≤ 41 := hok.1 27
  refine lv_aload_n hx hb dX11_readFactor_0 rfl (lv_at hl 0 rfl) ?_
  refine g_cv (As := []) (rest := []) (n := 0) C hml (m_X11_nameOf l D k A ad hD (va_up (va_up (va_up (va_up (va_up (va_up (va_up (va_up (va_up (va_up v 6 (v 6)) 7 (v 7)) 8 (v 8)) 9 (v 9)) 10 (v 10)) 11 (v 11)) 16 (v 16)) 20 (v 20)) 21 (v 21)) 27 (v 27)) (va_up (va_up (va_up f 11 (f 11)) 12 (f 12)) 17 (f 17)) (va_up g 0 (g 0))) mM_X11_283 mI_X11_nameOf mE_X11_nameOf mN_X11 mC_X11_nameOf (by decide +kernel) 0 (ci := 11) rfl rfl hP hS (fun _ h => h) ⟨Nat.le_of_ble_eq_true rfl, Nat.le_of_ble_eq_true rfl⟩ ⟨Nat.zero_le _, Nat.zero_le _⟩ hl.1 rfl rfl (Nat.le_of_ble_eq_true rfl) dX11_readFactor_1 (fun r_10 v_10 f_10 g_10 H locs hq_10 hP _ hS => ?_)
  obtain ⟨z_10, rfl, rfl, rfl, rfl, p0_10, p1_10⟩ := hq_10
  show W p l e (gRm 2 48) s m args below meth c _ _ 0 0 Q (F0 m 4 ls [.int (iI z_10)])
  replace p0_10 : (-1) ≤ z_10 ∧ z_10 ≤ 6 := p0_10
  replace p1_10 : 0 < z_10 → (v 8) = 1 := p1_10
  refine lv_istore_n (lv' := [(1, .int (iI z_10)), (0, .ref (ad 0))]) hx hb dX11_readFactor_4 rfl hl (by decide) rfl (fun ls hl => ?_)
  refine lv_aload_n hx hb dX11_readFactor_5 rfl (lv_at hl 1 rfl) ?_
  refine mdG_sort C hP mF_X11_165 dX11_readFactor_6 ?_
  show W p l e (gRm 2 48) s m args below meth c _ _ 0 0 Q (F0 m 9 ls [.int (iI (v 8))])
  refine lv_iconst (v := iI 2) hx hb dX11_readFactor_9 rfl ?_
  refine gi_ceq (tgt := 17) hx hb dX11_readFactor_10 (by decide) (by omega) (by decide) (fun c_11 => ?_) (fun c_11 => ?_)
  · refine lv_aload_n hx hb dX11_readFactor_17 rfl (lv_at hl 1 rfl) ?_
    refine g_cv (As := []) (rest := []) (n := 0) C hml (m_X11_counts l D k A ad hD (va_up (va_up (va_up (va_up (va_up (va_up (va_up (va_up (va_up (va_up v 6 (v 6)) 7 (v 7)) 8 (v 8)) 9 (v 9)) 10 (v 10)) 11 (v 11)) 16 (v 16)) 20 (v 20)) 21 (v 21)) 27 (v 27)) (va_up (va_up (va_up f 11 (f 11)) 12 (f 12)) 17 (f 17)) (va_up g 0 (g 0)) (show (v 27) ≤ 40 from by omega)) mM_X11_271 mI_X11_counts mE_X11_counts mN_X11 mC_X11_counts (by decide +kernel) 0 (ci := 11) rfl rfl hP hS (fun _ h => h) ⟨Nat.le_of_ble_eq_true rfl, Nat.le_of_ble_eq_true rfl⟩ ⟨Nat.zero_le _, Nat.zero_le _⟩ hl.1 rfl rfl (Nat.le_of_ble_eq_true rfl) dX11_readFactor_18 (fun r_12 v_12 f_12 g_12 H locs hq_12 hP _ hS => ?_)
    obtain ⟨w6_12, w7_12, rfl, rfl, rfl, rfl, p0_12, p1_12, p2_12⟩ := hq_12
    show W p l e (gRm 2 48) s m args below meth c _ _ 0 0 Q (F0 m 21 ls [])
    have hP : gWd D (mdT k ad) (va_up (va_up (va_up (va_up (va_up (va_up (va_up (va_up (va_up (va_up v 6 w6_12) 7 w7_12) 8 (v 8)) 9 (v 9)) 10 (v 10)) 11 (v 11)) 16 (v 16)) 20 (v 20)) 21 (v 21)) 27 ((v 27) + 1)) (va_up (va_up (va_up f 11 (f 11)) 12 (f 12)) 17 (f 17)) (va_up g 0 (g 0)) H := ⟨hP.1, (gF_up (V := mdV) (F := mdF) (gF_up (V := mdV) (F := mdF) (gF_up (V := mdV) (F := mdF) (gR_up (V := mdV) (F := mdF) (gR_up (V := mdV) (F := mdF) (gR_up (V := mdV) (F := mdF) (gR_up (V := mdV) (F := mdF) (gR_up (V := mdV) (F := mdF) (gR_up (V := mdV) (F := mdF) (gR_up (V := mdV) (F := mdF) (gR_up (V := mdV) (F := mdF) (gR_up (V := mdV) (F := mdF) (gR_up (V := mdV) (F := mdF) ⟨hok.1, hok.2⟩ 6 (hP.2.1 6)) 7 (hP.2.1 7)) 8 (hP.2.1 8)) 9 (hP.2.1 9)) 10 (hP.2.1 10)) 11 (hP.2.1 11)) 16 (hP.2.1 16)) 20 (hP.2.1 20)) 21 (hP.2.1 21)) 27 (hP.2.1 27)) 11 (hP.2.2 11)) 12 (hP.2.2 12)) 17 (hP.2.2 17))⟩
    replace p0_12 : (v 27) = 40 → 0 < w6_12 := p0_12
    replace p1_12 : (v 27) < 40 → w6_12 = (v 6) := p1_12
    replace p2_12 : 0 < (v 6) → 0 < w6_12 := p2_12
    have rw6_12 : 0 ≤ w6_12 ∧ w6_12 ≤ 5 := hP.2.1 6
    have rw7_12 : 0 ≤ w7_12 ∧ w7_12 ≤ 700 := hP.2.1 7
    refine lv_aload_n hx hb dX11_readFactor_21 rfl (lv_at hl 1 rfl) ?_
    refine mdG_bad C hP mF_X11_188 dX11_readFactor_22 ?_
    show W p l e (gRm 2 48) s m args below meth c _ _ 0 0 Q (F0 m 25 ls [.int (iI w6_12)])
    have r_13 : 0 ≤ w6_12 ∧ w6_12 ≤ 5 := hP.2.1 6
    refine gi_zle (tgt := 30) hx hb dX11_readFactor_25 (by decide) (by omega) (fun c_14 => ?_) (fun c_14 => ?_)
    · refine lv_aload_n hx hb dX11_readFactor_30 rfl (lv_at hl 1 rfl) ?_
      refine lv_aload_n hx hb dX11_readFactor_31 rfl (lv_at hl 1 rfl) ?_
      refine mdG_sort C hP mF_X11_165 dX11_readFactor_32 ?_
      show W p l e (gRm 2 48) s m args below meth c _ _ 0 0 Q (F0 m 35 ls [.int (iI (v 8)), .ref (ad 0)])
      refine lv_iconst (v := iI 2) hx hb dX11_readFactor_35 rfl ?_
      refine gi_cne (tgt := 43) hx hb dX11_readFactor_36 (by decide) (by omega) (by decide) (fun c_15 => ?_) (fun c_15 => ?_)
      · refine lv_iload_n hx hb dX11_readFactor_43 rfl (lv_at hl 0 rfl) ?_
        refine lv_aload_n hx hb dX11_readFactor_44 rfl (lv_at hl 1 rfl) ?_
        refine mdG_sort C hP mF_X11_165 dX11_readFactor_45 ?_
        show W p l e (gRm 2 48) s m args below meth c _ _ 0 0 Q (F0 m 48 ls [.int (iI (v 8)), .int (iI z_10), .ref (ad 0)])
        refine lv_iconst (v := iI 2) hx hb dX11_readFactor_48 rfl ?_
        refine gi_cne (tgt := 59) hx hb dX11_readFactor_49 (by decide) (by omega) (by decide) (fun c_16 => ?_) (fun c_16 => ?_)
        · refine lv_iconst (v := iI 0) hx hb dX11_readFactor_59 rfl ?_
          refine g_cv (As := [.int (iI z_10), .int (iI 0)]) (rest := []) (n := 2) C hml (m_X11_puts l D k A ad hD (va_up (va_up (va_up (va_up (va_up (va_up (va_up (va_up (va_up (va_up v 6 w6_12) 7 w7_12) 8 (v 8)) 9 (v 9)) 10 (v 10)) 11 (v 11)) 16 (v 16)) 20 (v 20)) 21 (v 21)) 27 ((v 27) + 1)) (va_up (va_up (va_up f 11 (f 11)) 12 (f 12)) 17 (f 17)) (va_up g 0 (g 0)) z_10 0 (by omega) (by decide) (show (v 16) ≤ 40 from by omega) (show 0 ≤ z_10 ∧ z_10 ≤ 11 from by omega) (show 0 ≤ (0 : Int) ∧ (0 : Int) ≤ 999999 from by omega)) mM_X11_261 mI_X11_puts mE_X11_puts mN_X11 mC_X11_puts (by decide +kernel) 0 (ci := 11) rfl rfl hP hS (fun _ h => h) ⟨Nat.le_of_ble_eq_true rfl, Nat.le_of_ble_eq_true rfl⟩ ⟨Nat.zero_le _, Nat.zero_le _⟩ hl.1 rfl rfl (Nat.le_of_ble_eq_true rfl) dX11_readFactor_60 (fun r_17 v_17 f_17 g_17 H locs hq_17 hP _ hS => ?_)
          obtain ⟨a12_17, rfl, rfl, rfl, rfl⟩ := hq_17
          show W p l e (gRm 2 48) s m args below meth c _ _ 0 0 Q (F0 m 63 ls [])
          have hP : gWd D (mdT k ad) (va_up (va_up (va_up (va_up (va_up (va_up (va_up (va_up (va_up (va_up v 6 w6_12) 7 w7_12) 8 (v 8)) 9 (v 9)) 10 (v 10)) 11 (v 11)) 16 ((v 16) + 1)) 20 (v 20)) 21 (v 21)) 27 ((v 27) + 1)) (va_up (va_up (va_up f 11 (u1 (f 11) (v 16) z_10)) 12 a12_17) 17 (f 17)) (va_up g 0 (g 0)) H := ⟨hP.1, (gF_up (V := mdV) (F := mdF) (gF_up (V := mdV) (F := mdF) (gF_up (V := mdV) (F := mdF) (gR_up (V := mdV) (F := mdF) (gR_up (V := mdV) (F := mdF) (gR_up (V := mdV) (F := mdF) (gR_up (V := mdV) (F := mdF) (gR_up (V := mdV) (F := mdF) (gR_up (V := mdV) (F := mdF) (gR_up (V := mdV) (F := mdF) (gR_up (V := mdV) (F := mdF) (gR_up (V := mdV) (F := mdF) (gR_up (V := mdV) (F := mdF) ⟨hok.1, hok.2⟩ 6 (hP.2.1 6)) 7 (hP.2.1 7)) 8 (hP.2.1 8)) 9 (hP.2.1 9)) 10 (hP.2.1 10)) 11 (hP.2.1 11)) 16 (hP.2.1 16)) 20 (hP.2.1 20)) 21 (hP.2.1 21)) 27 (hP.2.1 27)) 11 (hP.2.2 11)) 12 (hP.2.2 12)) 17 (hP.2.2 17))⟩
          refine lv_aload_n hx hb dX11_readFactor_63 rfl (lv_at hl 1 rfl) ?_
          refine g_cv (As := []) (rest := []) (n := 0) C hml (m_X11_next l D k A ad hD (va_up (va_up (va_up (va_up (va_up (va_up (va_up (va_up (va_up (va_up v 6 w6_12) 7 w7_12) 8 (v 8)) 9 (v 9)) 10 (v 10)) 11 (v 11)) 16 ((v 16) + 1)) 20 (v 20)) 21 (v 21)) 27 ((v 27) + 1)) (va_up (va_up (va_up f 11 (u1 (f 11) (v 16) z_10)) 12 a12_17) 17 (f 17)) (va_up g 0 (g 0)) (show (v 10) ≤ (v 3) from by omega)) mM_X11_201 mI_X11_next mE_X11_next mN_X11 mC_X11_next (by decide +kernel) 0 (ci := 11) rfl rfl hP hS (fun _ h => h) ⟨Nat.le_of_ble_eq_true rfl, Nat.le_of_ble_eq_true rfl⟩ ⟨Nat.zero_le _, Nat.zero_le _⟩ hl.1 rfl rfl (Nat.le_of_ble_eq_true rfl) dX11_readFactor_64 (fun r_18 v_18 f_18 g_18 H locs hq_18 hP _ hS => ?_)
          obtain ⟨w8_18, w9_18, w10_18, w11_18, b0_18, rfl, rfl, rfl, rfl, p0_18, p1_18⟩ := hq_18
          show W p l e (gRm 2 48) s m args below meth c _ _ 0 0 Q (F0 m 67 ls [])
          have hP : gWd D (mdT k ad) (va_up (va_up (va_up (va_up (va_up (va_up (va_up (va_up (va_up (va_up v 6 w6_12) 7 w7_12) 8 w8_18) 9 w9_18) 10 w10_18) 11 w11_18) 16 ((v 16) + 1)) 20 (v 20)) 21 (v 21)) 27 ((v 27) + 1)) (va_up (va_up (va_up f 11 (u1 (f 11) (v 16) z_10)) 12 a12_17) 17 (f 17)) (va_up g 0 b0_18) H := ⟨hP.1, (gF_up (V := mdV) (F := mdF) (gF_up (V := mdV) (F := mdF) (gF_up (V := mdV) (F := mdF) (gR_up (V := mdV) (F := mdF) (gR_up (V := mdV) (F := mdF) (gR_up (V := mdV) (F := mdF) (gR_up (V := mdV) (F := mdF) (gR_up (V := mdV) (F := mdF) (gR_up (V := mdV) (F := mdF) (gR_up (V := mdV) (F := mdF) (gR_up (V := mdV) (F := mdF) (gR_up (V := mdV) (F := mdF) (gR_up (V := mdV) (F := mdF) ⟨hok.1, hok.2⟩ 6 (hP.2.1 6)) 7 (hP.2.1 7)) 8 (hP.2.1 8)) 9 (hP.2.1 9)) 10 (hP.2.1 10)) 11 (hP.2.1 11)) 16 (hP.2.1 16)) 20 (hP.2.1 20)) 21 (hP.2.1 21)) 27 (hP.2.1 27)) 11 (hP.2.2 11)) 12 (hP.2.2 12)) 17 (hP.2.2 17))⟩
          replace p0_18 : (v 10) ≤ w9_18 ∧ w9_18 ≤ w10_18 ∧ w10_18 ≤ (v 3) := p0_18
          replace p1_18 : w8_18 ≠ 0 → w9_18 < w10_18 := p1_18
          have rw8_18 : 0 ≤ w8_18 ∧ w8_18 ≤ 4 := hP.2.1 8
          have rw9_18 : 0 ≤ w9_18 ∧ w9_18 ≤ 700 := hP.2.1 9
          have rw10_18 : 0 ≤ w10_18 ∧ w10_18 ≤ 700 := hP.2.1 10
          have rw11_18 : 0 ≤ w11_18 ∧ w11_18 ≤ 999999 := hP.2.1 11
          refine lv_iconst (v := iI 1) hx hb dX11_readFactor_67 rfl ?_
          exact g_zret hQ C hr hlocks (by decide) hP hS dX11_readFactor_68 ⟨1, w6_12, w7_12, w8_18, w9_18, w10_18, w11_18, ((v 16) + 1), (v 20), (v 21), ((v 27) + 1), (u1 (f 11) (v 16) z_10), a12_17, (f 17), b0_18, rfl, rfl, rfl, rfl, (by first | omega | (split <;> omega)), (by first | omega | (split <;> omega)), (by first | omega | (split <;> omega)), (by first | omega | (split <;> omega)), (by first | omega | (split <;> omega)), (by first | (intro h; exfalso; omega) | exact fun _ => eOk_num he (by omega) (by omega) | (intro _; have q := eOk_wait (x := 10) he (Or.inl ⟨rfl, rfl, by omega, by omega⟩); simpa using q) | (intro _; have q := eOk_wait (x := 11) he (Or.inr (Or.inl ⟨rfl, rfl, by omega⟩)); simpa using q))⟩
        · refine lv_aload_n hx hb dX11_readFactor_52 rfl (lv_at hl 1 rfl) ?_
          refine mdG_number C hP mF_X11_185 dX11_readFactor_53 ?_
          show W p l e (gRm 2 48) s m args below meth c _ _ 0 0 Q (F0 m 56 ls [.int (iI (v 11)), .int (iI z_10), .ref (ad 0)])
          have r_19 : 0 ≤ (v 11) ∧ (v 11) ≤ 999999 := hok.1 11
          refine lv_goto (tgt := 60) hx hb dX11_readFactor_56 (by decide) ?_
          refine g_cv (As := [.int (iI z_10), .int (iI (v 11))]) (rest := []) (n := 2) C hml (m_X11_puts l D k A ad hD (va_up (va_up (va_up (va_up (va_up (va_up (va_up (va_up (va_up (va_up v 6 w6_12) 7 w7_12) 8 (v 8)) 9 (v 9)) 10 (v 10)) 11 (v 11)) 16 (v 16)) 20 (v 20)) 21 (v 21)) 27 ((v 27) + 1)) (va_up (va_up (va_up f 11 (f 11)) 12 (f 12)) 17 (f 17)) (va_up g 0 (g 0)) z_10 (v 11) (by omega) (by omega) (show (v 16) ≤ 40 from by omega) (show 0 ≤ z_10 ∧ z_10 ≤ 11 from by omega) (show 0 ≤ (v 11) ∧ (v 11) ≤ 999999 from by omega)) mM_X11_261 mI_X11_puts mE_X11_puts mN_X11 mC_X11_puts (by decide +kernel) 0 (ci := 11) rfl rfl hP hS (fun _ h => h) ⟨Nat.le_of_ble_eq_true rfl, Nat.le_of_ble_eq_true rfl⟩ ⟨Nat.zero_le _, Nat.zero_le _⟩ hl.1 rfl rfl (Nat.le_of_ble_eq_true rfl) dX11_readFactor_60 (fun r_20 v_20 f_20 g_20 H locs hq_20 hP _ hS => ?_)
          obtain ⟨a12_20, rfl, rfl, rfl, rfl⟩ := hq_20
          show W p l e (gRm 2 48) s m args below meth c _ _ 0 0 Q (F0 m 63 ls [])
          have hP : gWd D (mdT k ad) (va_up (va_up (va_up (va_up (va_up (va_up (va_up (va_up (va_up (va_up v 6 w6_12) 7 w7_12) 8 (v 8)) 9 (v 9)) 10 (v 10)) 11 (v 11)) 16 ((v 16) + 1)) 20 (v 20)) 21 (v 21)) 27 ((v 27) + 1)) (va_up (va_up (va_up f 11 (u1 (f 11) (v 16) z_10)) 12 a12_20) 17 (f 17)) (va_up g 0 (g 0)) H := ⟨hP.1, (gF_up (V := mdV) (F := mdF) (gF_up (V := mdV) (F := mdF) (gF_up (V := mdV) (F := mdF) (gR_up (V := mdV) (F := mdF) (gR_up (V := mdV) (F := mdF) (gR_up (V := mdV) (F := mdF) (gR_up (V := mdV) (F := mdF) (gR_up (V := mdV) (F := mdF) (gR_up (V := mdV) (F := mdF) (gR_up (V := mdV) (F := mdF) (gR_up (V := mdV) (F := mdF) (gR_up (V := mdV) (F := mdF) (gR_up (V := mdV) (F := mdF) ⟨hok.1, hok.2⟩ 6 (hP.2.1 6)) 7 (hP.2.1 7)) 8 (hP.2.1 8)) 9 (hP.2.1 9)) 10 (hP.2.1 10)) 11 (hP.2.1 11)) 16 (hP.2.1 16)) 20 (hP.2.1 20)) 21 (hP.2.1 21)) 27 (hP.2.1 27)) 11 (hP.2.2 11)) 12 (hP.2.2 12)) 17 (hP.2.2 17))⟩
          refine lv_aload_n hx hb dX11_readFactor_63 rfl (lv_at hl 1 rfl) ?_
          refine g_cv (As := []) (rest := []) (n := 0) C hml (m_X11_next l D k A ad hD (va_up (va_up (va_up (va_up (va_up (va_up (va_up (va_up (va_up (va_up v 6 w6_12) 7 w7_12) 8 (v 8)) 9 (v 9)) 10 (v 10)) 11 (v 11)) 16 ((v 16) + 1)) 20 (v 20)) 21 (v 21)) 27 ((v 27) + 1)) (va_up (va_up (va_up f 11 (u1 (f 11) (v 16) z_10)) 12 a12_20) 17 (f 17)) (va_up g 0 (g 0)) (show (v 10) ≤ (v 3) from by omega)) mM_X11_201 mI_X11_next mE_X11_next mN_X11 mC_X11_next (by decide +kernel) 0 (ci := 11) rfl rfl hP hS (fun _ h => h) ⟨Nat.le_of_ble_eq_true rfl, Nat.le_of_ble_eq_true rfl⟩ ⟨Nat.zero_le _, Nat.zero_le _⟩ hl.1 rfl rfl (Nat.le_of_ble_eq_true rfl) dX11_readFactor_64 (fun r_21 v_21 f_21 g_21 H locs hq_21 hP _ hS => ?_)
          obtain ⟨w8_21, w9_21, w10_21, w11_21, b0_21, rfl, rfl, rfl, rfl, p0_21, p1_21⟩ := hq_21
          show W p l e (gRm 2 48) s m args below meth c _ _ 0 0 Q (F0 m 67 ls [])
          have hP : gWd D (mdT k ad) (va_up (va_up (va_up (va_up (va_up (va_up (va_up (va_up (va_up (va_up v 6 w6_12) 7 w7_12) 8 w8_21) 9 w9_21) 10 w10_21) 11 w11_21) 16 ((v 16) + 1)) 20 (v 20)) 21 (v 21)) 27 ((v 27) + 1)) (va_up (va_up (va_up f 11 (u1 (f 11) (v 16) z_10)) 12 a12_20) 17 (f 17)) (va_up g 0 b0_21) H := ⟨hP.1, (gF_up (V := mdV) (F := mdF) (gF_up (V := mdV) (F := mdF) (gF_up (V := mdV) (F := mdF) (gR_up (V := mdV) (F := mdF) (gR_up (V := mdV) (F := mdF) (gR_up (V := mdV) (F := mdF) (gR_up (V := mdV) (F := mdF) (gR_up (V := mdV) (F := mdF) (gR_up (V := mdV) (F := mdF) (gR_up (V := mdV) (F := mdF) (gR_up (V := mdV) (F := mdF) (gR_up (V := mdV) (F := mdF) (gR_up (V := mdV) (F := mdF) ⟨hok.1, hok.2⟩ 6 (hP.2.1 6)) 7 (hP.2.1 7)) 8 (hP.2.1 8)) 9 (hP.2.1 9)) 10 (hP.2.1 10)) 11 (hP.2.1 11)) 16 (hP.2.1 16)) 20 (hP.2.1 20)) 21 (hP.2.1 21)) 27 (hP.2.1 27)) 11 (hP.2.2 11)) 12 (hP.2.2 12)) 17 (hP.2.2 17))⟩
          replace p0_21 : (v 10) ≤ w9_21 ∧ w9_21 ≤ w10_21 ∧ w10_21 ≤ (v 3) := p0_21
          replace p1_21 : w8_21 ≠ 0 → w9_21 < w10_21 := p1_21
          have rw8_21 : 0 ≤ w8_21 ∧ w8_21 ≤ 4 := hP.2.1 8
          have rw9_21 : 0 ≤ w9_21 ∧ w9_21 ≤ 700 := hP.2.1 9
          have rw10_21 : 0 ≤ w10_21 ∧ w10_21 ≤ 700 := hP.2.1 10
          have rw11_21 : 0 ≤ w11_21 ∧ w11_21 ≤ 999999 := hP.2.1 11
          refine lv_iconst (v := iI 1) hx hb dX11_readFactor_67 rfl ?_
          exact g_zret hQ C hr hlocks (by decide) hP hS dX11_readFactor_68 ⟨1, w6_12, w7_12, w8_21, w9_21, w10_21, w11_21, ((v 16) + 1), (v 20), (v 21), ((v 27) + 1), (u1 (f 11) (v 16) z_10), a12_20, (f 17), b0_21, rfl, rfl, rfl, rfl, (by first | omega | (split <;> omega)), (by first | omega | (split <;> omega)), (by first | omega | (split <;> omega)), (by first | omega | (split <;> omega)), (by first | omega | (split <;> omega)), (by first | (intro h; exfalso; omega) | exact fun _ => eOk_num he (by omega) (by omega) | (intro _; have q := eOk_wait (x := 10) he (Or.inl ⟨rfl, rfl, by omega, by omega⟩); simpa using q) | (intro _; have q := eOk_wait (x := 11) he (Or.inr (Or.inl ⟨rfl, rfl, by omega⟩)); simpa using q))⟩
      · refine lv_iconst (v := iI 0) hx hb dX11_readFactor_39 rfl ?_
        refine lv_goto (tgt := 44) hx hb dX11_readFactor_40 (by decide) ?_
        refine lv_aload_n hx hb dX11_readFactor_44 rfl (lv_at hl 1 rfl) ?_
        refine mdG_sort C hP mF_X11_165 dX11_readFactor_45 ?_
        show W p l e (gRm 2 48) s m args below meth c _ _ 0 0 Q (F0 m 48 ls [.int (iI (v 8)), .int (iI 0), .ref (ad 0)])
        refine lv_iconst (v := iI 2) hx hb dX11_readFactor_48 rfl ?_
        refine gi_cne (tgt := 59) hx hb dX11_readFactor_49 (by decide) (by omega) (by decide) (fun c_22 => ?_) (fun c_22 => ?_)
        · refine lv_iconst (v := iI 0) hx hb dX11_readFactor_59 rfl ?_
          refine g_cv (As := [.int (iI 0), .int (iI 0)]) (rest := []) (n := 2) C hml (m_X11_puts l D k A ad hD (va_up (va_up (va_up (va_up (va_up (va_up (va_up (va_up (va_up (va_up v 6 w6_12) 7 w7_12) 8 (v 8)) 9 (v 9)) 10 (v 10)) 11 (v 11)) 16 (v 16)) 20 (v 20)) 21 (v 21)) 27 ((v 27) + 1)) (va_up (va_up (va_up f 11 (f 11)) 12 (f 12)) 17 (f 17)) (va_up g 0 (g 0)) 0 0 (by decide) (by decide) (show (v 16) ≤ 40 from by omega) (show 0 ≤ (0 : Int) ∧ (0 : Int) ≤ 11 from by omega) (show 0 ≤ (0 : Int) ∧ (0 : Int) ≤ 999999 from by omega)) mM_X11_261 mI_X11_puts mE_X11_puts mN_X11 mC_X11_puts (by decide +kernel) 0 (ci := 11) rfl rfl hP hS (fun _ h => h) ⟨Nat.le_of_ble_eq_true rfl, Nat.le_of_ble_eq_true rfl⟩ ⟨Nat.zero_le _, Nat.zero_le _⟩ hl.1 rfl rfl (Nat.le_of_ble_eq_true rfl) dX11_readFactor_60 (fun r_23 v_23 f_23 g_23 H locs hq_23 hP _ hS => ?_)
          obtain ⟨a12_23, rfl, rfl, rfl, rfl⟩ := hq_23
          show W p l e (gRm 2 48) s m args below meth c _ _ 0 0 Q (F0 m 63 ls [])
          have hP : gWd D (mdT k ad) (va_up (va_up (va_up (va_up (va_up (va_up (va_up (va_up (va_up (va_up v 6 w6_12) 7 w7_12) 8 (v 8)) 9 (v 9)) 10 (v 10)) 11 (v 11)) 16 ((v 16) + 1)) 20 (v 20)) 21 (v 21)) 27 ((v 27) + 1)) (va_up (va_up (va_up f 11 (u1 (f 11) (v 16) (0 : Int))) 12 a12_23) 17 (f 17)) (va_up g 0 (g 0)) H := ⟨hP.1, (gF_up (V := mdV) (F := mdF) (gF_up (V := mdV) (F := mdF) (gF_up (V := mdV) (F := mdF) (gR_up (V := mdV) (F := mdF) (gR_up (V := mdV) (F := mdF) (gR_up (V := mdV) (F := mdF) (gR_up (V := mdV) (F := mdF) (gR_up (V := mdV) (F := mdF) (gR_up (V := mdV) (F := mdF) (gR_up (V := mdV) (F := mdF) (gR_up (V := mdV) (F := mdF) (gR_up (V := mdV) (F := mdF) (gR_up (V := mdV) (F := mdF) ⟨hok.1, hok.2⟩ 6 (hP.2.1 6)) 7 (hP.2.1 7)) 8 (hP.2.1 8)) 9 (hP.2.1 9)) 10 (hP.2.1 10)) 11 (hP.2.1 11)) 16 (hP.2.1 16)) 20 (hP.2.1 20)) 21 (hP.2.1 21)) 27 (hP.2.1 27)) 11 (hP.2.2 11)) 12 (hP.2.2 12)) 17 (hP.2.2 17))⟩
          refine lv_aload_n hx hb dX11_readFactor_63 rfl (lv_at hl 1 rfl) ?_
          refine g_cv (As := []) (rest := []) (n := 0) C hml (m_X11_next l D k A ad hD (va_up (va_up (va_up (va_up (va_up (va_up (va_up (va_up (va_up (va_up v 6 w6_12) 7 w7_12) 8 (v 8)) 9 (v 9)) 10 (v 10)) 11 (v 11)) 16 ((v 16) + 1)) 20 (v 20)) 21 (v 21)) 27 ((v 27) + 1)) (va_up (va_up (va_up f 11 (u1 (f 11) (v 16) (0 : Int))) 12 a12_23) 17 (f 17)) (va_up g 0 (g 0)) (show (v 10) ≤ (v 3) from by omega)) mM_X11_201 mI_X11_next mE_X11_next mN_X11 mC_X11_next (by decide +kernel) 0 (ci := 11) rfl rfl hP hS (fun _ h => h) ⟨Nat.le_of_ble_eq_true rfl, Nat.le_of_ble_eq_true rfl⟩ ⟨Nat.zero_le _, Nat.zero_le _⟩ hl.1 rfl rfl (Nat.le_of_ble_eq_true rfl) dX11_readFactor_64 (fun r_24 v_24 f_24 g_24 H locs hq_24 hP _ hS => ?_)
          obtain ⟨w8_24, w9_24, w10_24, w11_24, b0_24, rfl, rfl, rfl, rfl, p0_24, p1_24⟩ := hq_24
          show W p l e (gRm 2 48) s m args below meth c _ _ 0 0 Q (F0 m 67 ls [])
          have hP : gWd D (mdT k ad) (va_up (va_up (va_up (va_up (va_up (va_up (va_up (va_up (va_up (va_up v 6 w6_12) 7 w7_12) 8 w8_24) 9 w9_24) 10 w10_24) 11 w11_24) 16 ((v 16) + 1)) 20 (v 20)) 21 (v 21)) 27 ((v 27) + 1)) (va_up (va_up (va_up f 11 (u1 (f 11) (v 16) (0 : Int))) 12 a12_23) 17 (f 17)) (va_up g 0 b0_24) H := ⟨hP.1, (gF_up (V := mdV) (F := mdF) (gF_up (V := mdV) (F := mdF) (gF_up (V := mdV) (F := mdF) (gR_up (V := mdV) (F := mdF) (gR_up (V := mdV) (F := mdF) (gR_up (V := mdV) (F := mdF) (gR_up (V := mdV) (F := mdF) (gR_up (V := mdV) (F := mdF) (gR_up (V := mdV) (F := mdF) (gR_up (V := mdV) (F := mdF) (gR_up (V := mdV) (F := mdF) (gR_up (V := mdV) (F := mdF) (gR_up (V := mdV) (F := mdF) ⟨hok.1, hok.2⟩ 6 (hP.2.1 6)) 7 (hP.2.1 7)) 8 (hP.2.1 8)) 9 (hP.2.1 9)) 10 (hP.2.1 10)) 11 (hP.2.1 11)) 16 (hP.2.1 16)) 20 (hP.2.1 20)) 21 (hP.2.1 21)) 27 (hP.2.1 27)) 11 (hP.2.2 11)) 12 (hP.2.2 12)) 17 (hP.2.2 17))⟩
          replace p0_24 : (v 10) ≤ w9_24 ∧ w9_24 ≤ w10_24 ∧ w10_24 ≤ (v 3) := p0_24
          replace p1_24 : w8_24 ≠ 0 → w9_24 < w10_24 := p1_24
          have rw8_24 : 0 ≤ w8_24 ∧ w8_24 ≤ 4 := hP.2.1 8
          have rw9_24 : 0 ≤ w9_24 ∧ w9_24 ≤ 700 := hP.2.1 9
          have rw10_24 : 0 ≤ w10_24 ∧ w10_24 ≤ 700 := hP.2.1 10
          have rw11_24 : 0 ≤ w11_24 ∧ w11_24 ≤ 999999 := hP.2.1 11
          refine lv_iconst (v := iI 1) hx hb dX11_readFactor_67 rfl ?_
          exact g_zret hQ C hr hlocks (by decide) hP hS dX11_readFactor_68 ⟨1, w6_12, w7_12, w8_24, w9_24, w10_24, w11_24, ((v 16) + 1), (v 20), (v 21), ((v 27) + 1), (u1 (f 11) (v 16) (0 : Int)), a12_23, (f 17), b0_24, rfl, rfl, rfl, rfl, (by first | omega | (split <;> omega)), (by first | omega | (split <;> omega)), (by first | omega | (split <;> omega)), (by first | omega | (split <;> omega)), (by first | omega | (split <;> omega)), (by first | (intro h; exfalso; omega) | exact fun _ => eOk_num he (by omega) (by omega) | (intro _; have q := eOk_wait (x := 10) he (Or.inl ⟨rfl, rfl, by omega, by omega⟩); simpa using q) | (intro _; have q := eOk_wait (x := 11) he (Or.inr (Or.inl ⟨rfl, rfl, by omega⟩)); simpa using q))⟩
        · refine lv_aload_n hx hb dX11_readFactor_52 rfl (lv_at hl 1 rfl) ?_
          refine mdG_number C hP mF_X11_185 dX11_readFactor_53 ?_
          show W p l e (gRm 2 48) s m args below meth c _ _ 0 0 Q (F0 m 56 ls [.int (iI (v 11)), .int (iI 0), .ref (ad 0)])
          have r_25 : 0 ≤ (v 11) ∧ (v 11) ≤ 999999 := hok.1 11
          refine lv_goto (tgt := 60) hx hb dX11_readFactor_56 (by decide) ?_
          refine g_cv (As := [.int (iI 0), .int (iI (v 11))]) (rest := []) (n := 2) C hml (m_X11_puts l D k A ad hD (va_up (va_up (va_up (va_up (va_up (va_up (va_up (va_up (va_up (va_up v 6 w6_12) 7 w7_12) 8 (v 8)) 9 (v 9)) 10 (v 10)) 11 (v 11)) 16 (v 16)) 20 (v 20)) 21 (v 21)) 27 ((v 27) + 1)) (va_up (va_up (va_up f 11 (f 11)) 12 (f 12)) 17 (f 17)) (va_up g 0 (g 0)) 0 (v 11) (by decide) (by omega) (show (v 16) ≤ 40 from by omega) (show 0 ≤ (0 : Int) ∧ (0 : Int) ≤ 11 from by omega) (show 0 ≤ (v 11) ∧ (v 11) ≤ 999999 from by omega)) mM_X11_261 mI_X11_puts mE_X11_puts mN_X11 mC_X11_puts (by decide +kernel) 0 (ci := 11) rfl rfl hP hS (fun _ h => h) ⟨Nat.le_of_ble_eq_true rfl, Nat.le_of_ble_eq_true rfl⟩ ⟨Nat.zero_le _, Nat.zero_le _⟩ hl.1 rfl rfl (Nat.le_of_ble_eq_true rfl) dX11_readFactor_60 (fun r_26 v_26 f_26 g_26 H locs hq_26 hP _ hS => ?_)
          obtain ⟨a12_26, rfl, rfl, rfl, rfl⟩ := hq_26
          show W p l e (gRm 2 48) s m args below meth c _ _ 0 0 Q (F0 m 63 ls [])
          have hP : gWd D (mdT k ad) (va_up (va_up (va_up (va_up (va_up (va_up (va_up (va_up (va_up (va_up v 6 w6_12) 7 w7_12) 8 (v 8)) 9 (v 9)) 10 (v 10)) 11 (v 11)) 16 ((v 16) + 1)) 20 (v 20)) 21 (v 21)) 27 ((v 27) + 1)) (va_up (va_up (va_up f 11 (u1 (f 11) (v 16) (0 : Int))) 12 a12_26) 17 (f 17)) (va_up g 0 (g 0)) H := ⟨hP.1, (gF_up (V := mdV) (F := mdF) (gF_up (V := mdV) (F := mdF) (gF_up (V := mdV) (F := mdF) (gR_up (V := mdV) (F := mdF) (gR_up (V := mdV) (F := mdF) (gR_up (V := mdV) (F := mdF) (gR_up (V := mdV) (F := mdF) (gR_up (V := mdV) (F := mdF) (gR_up (V := mdV) (F := mdF) (gR_up (V := mdV) (F := mdF) (gR_up (V := mdV) (F := mdF) (gR_up (V := mdV) (F := mdF) (gR_up (V := mdV) (F := mdF) ⟨hok.1, hok.2⟩ 6 (hP.2.1 6)) 7 (hP.2.1 7)) 8 (hP.2.1 8)) 9 (hP.2.1 9)) 10 (hP.2.1 10)) 11 (hP.2.1 11)) 16 (hP.2.1 16)) 20 (hP.2.1 20)) 21 (hP.2.1 21)) 27 (hP.2.1 27)) 11 (hP.2.2 11)) 12 (hP.2.2 12)) 17 (hP.2.2 17))⟩
          refine lv_aload_n hx hb dX11_readFactor_63 rfl (lv_at hl 1 rfl) ?_
          refine g_cv (As := []) (rest := []) (n := 0) C hml (m_X11_next l D k A ad hD (va_up (va_up (va_up (va_up (va_up (va_up (va_up (va_up (va_up (va_up v 6 w6_12) 7 w7_12) 8 (v 8)) 9 (v 9)) 10 (v 10)) 11 (v 11)) 16 ((v 16) + 1)) 20 (v 20)) 21 (v 21)) 27 ((v 27) + 1)) (va_up (va_up (va_up f 11 (u1 (f 11) (v 16) (0 : Int))) 12 a12_26) 17 (f 17)) (va_up g 0 (g 0)) (show (v 10) ≤ (v 3) from by omega)) mM_X11_201 mI_X11_next mE_X11_next mN_X11 mC_X11_next (by decide +kernel) 0 (ci := 11) rfl rfl hP hS (fun _ h => h) ⟨Nat.le_of_ble_eq_true rfl, Nat.le_of_ble_eq_true rfl⟩ ⟨Nat.zero_le _, Nat.zero_le _⟩ hl.1 rfl rfl (Nat.le_of_ble_eq_true rfl) dX11_readFactor_64 (fun r_27 v_27 f_27 g_27 H locs hq_27 hP _ hS => ?_)
          obtain ⟨w8_27, w9_27, w10_27, w11_27, b0_27, rfl, rfl, rfl, rfl, p0_27, p1_27⟩ := hq_27
          show W p l e (gRm 2 48) s m args below meth c _ _ 0 0 Q (F0 m 67 ls [])
          have hP : gWd D (mdT k ad) (va_up (va_up (va_up (va_up (va_up (va_up (va_up (va_up (va_up (va_up v 6 w6_12) 7 w7_12) 8 w8_27) 9 w9_27) 10 w10_27) 11 w11_27) 16 ((v 16) + 1)) 20 (v 20)) 21 (v 21)) 27 ((v 27) + 1)) (va_up (va_up (va_up f 11 (u1 (f 11) (v 16) (0 : Int))) 12 a12_26) 17 (f 17)) (va_up g 0 b0_27) H := ⟨hP.1, (gF_up (V := mdV) (F := mdF) (gF_up (V := mdV) (F := mdF) (gF_up (V := mdV) (F := mdF) (gR_up (V := mdV) (F := mdF) (gR_up (V := mdV) (F := mdF) (gR_up (V := mdV) (F := mdF) (gR_up (V := mdV) (F := mdF) (gR_up (V := mdV) (F := mdF) (gR_up (V := mdV) (F := mdF) (gR_up (V := mdV) (F := mdF) (gR_up (V := mdV) (F := mdF) (gR_up (V := mdV) (F := mdF) (gR_up (V := mdV) (F := mdF) ⟨hok.1, hok.2⟩ 6 (hP.2.1 6)) 7 (hP.2.1 7)) 8 (hP.2.1 8)) 9 (hP.2.1 9)) 10 (hP.2.1 10)) 11 (hP.2.1 11)) 16 (hP.2.1 16)) 20 (hP.2.1 20)) 21 (hP.2.1 21)) 27 (hP.2.1 27)) 11 (hP.2.2 11)) 12 (hP.2.2 12)) 17 (hP.2.2 17))⟩
          replace p0_27 : (v 10) ≤ w9_27 ∧ w9_27 ≤ w10_27 ∧ w10_27 ≤ (v 3) := p0_27
          replace p1_27 : w8_27 ≠ 0 → w9_27 < w10_27 := p1_27
          have rw8_27 : 0 ≤ w8_27 ∧ w8_27 ≤ 4 := hP.2.1 8
          have rw9_27 : 0 ≤ w9_27 ∧ w9_27 ≤ 700 := hP.2.1 9
          have rw10_27 : 0 ≤ w10_27 ∧ w10_27 ≤ 700 := hP.2.1 10
          have rw11_27 : 0 ≤ w11_27 ∧ w11_27 ≤ 999999 := hP.2.1 11
          refine lv_iconst (v := iI 1) hx hb dX11_readFactor_67 rfl ?_
          exact g_zret hQ C hr hlocks (by decide) hP hS dX11_readFactor_68 ⟨1, w6_12, w7_12, w8_27, w9_27, w10_27, w11_27, ((v 16) + 1), (v 20), (v 21), ((v 27) + 1), (u1 (f 11) (v 16) (0 : Int)), a12_26, (f 17), b0_27, rfl, rfl, rfl, rfl, (by first | omega | (split <;> omega)), (by first | omega | (split <;> omega)), (by first | omega | (split <;> omega)), (by first | omega | (split <;> omega)), (by first | omega | (split <;> omega)), (by first | (intro h; exfalso; omega) | exact fun _ => eOk_num he (by omega) (by omega) | (intro _; have q := eOk_wait (x := 10) he (Or.inl ⟨rfl, rfl, by omega, by omega⟩); simpa using q) | (intro _; have q := eOk_wait (x := 11) he (Or.inr (Or.inl ⟨rfl, rfl, by omega⟩)); simpa using q))⟩
    · refine lv_iconst (v := iI 0) hx hb dX11_readFactor_28 rfl ?_
      exact g_zret hQ C hr hlocks (by decide) hP hS dX11_readFactor_29 ⟨0, w6_12, w7_12, (v 8), (v 9), (v 10), (v 11), (v 16), (v 20), (v 21), ((v 27) + 1), (f 11), (f 12), (f 17), (g 0), rfl, rfl, rfl, rfl, (by first | omega | (split <;> omega)), (by first | omega | (split <;> omega)), (by first | omega | (split <;> omega)), (by first | omega | (split <;> omega)), (by first | omega | (split <;> omega)), (by first | (intro h; exfalso; omega) | exact fun _ => eOk_num he (by omega) (by omega) | (intro _; have q := eOk_wait (x := 10) he (Or.inl ⟨rfl, rfl, by omega, by omega⟩); simpa using q) | (intro _; have q := eOk_wait (x := 11) he (Or.inr (Or.inl ⟨rfl, rfl, by omega⟩)); simpa using q))⟩
  · refine lv_iload_n hx hb dX11_readFactor_13 rfl (lv_at hl 0 rfl) ?_
    refine gi_zle (tgt := 69) hx hb dX11_readFactor_14 (by decide) (by omega) (fun c_28 => ?_) (fun c_28 => ?_)
    · refine lv_aload_n hx hb dX11_readFactor_69 rfl (lv_at hl 1 rfl) ?_
      refine lv_bipush (v := iI 45) hx hb dX11_readFactor_70 (by decide) ?_
      refine g_cv (As := [.int (iI 45)]) (rest := []) (n := 1) C hml (m_X11_isSign l D k A ad hD (va_up (va_up (va_up (va_up (va_up (va_up (va_up (va_up (va_up (va_up v 6 (v 6)) 7 (v 7)) 8 (v 8)) 9 (v 9)) 10 (v 10)) 11 (v 11)) 16 (v 16)) 20 (v 20)) 21 (v 21)) 27 (v 27)) (va_up (va_up (va_up f 11 (f 11)) 12 (f 12)) 17 (f 17)) (va_up g 0 (g 0)) 45 (by decide)) mM_X11_204 mI_X11_isSign mE_X11_isSign mN_X11 mC_X11_isSign (by decide +kernel) 0 (ci := 11) rfl rfl hP hS (fun _ h => h) ⟨Nat.le_of_ble_eq_true rfl, Nat.le_of_ble_eq_true rfl⟩ ⟨Nat.zero_le _, Nat.zero_le _⟩ hl.1 rfl rfl (Nat.le_of_ble_eq_true rfl) dX11_readFactor_72 (fun r_29 v_29 f_29 g_29 H locs hq_29 hP _ hS => ?_)
      obtain ⟨z_29, rfl, rfl, rfl, rfl, p0_29, p1_29⟩ := hq_29
      show W p l e (gRm 2 48) s m args below meth c _ _ 0 0 Q (F0 m 75 ls [.int (iI z_29)])
      replace p0_29 : 0 ≤ z_29 ∧ z_29 ≤ 1 := p0_29
      replace p1_29 : z_29 = 1 → (v 8) = 3 := p1_29
      refine gi_zeq (tgt := 108) hx hb dX11_readFactor_75 (by decide) (by omega) (fun c_30 => ?_) (fun c_30 => ?_)
      · refine lv_aload_n hx hb dX11_readFactor_108 rfl (lv_at hl 1 rfl) ?_
        refine lv_bipush (v := iI 40) hx hb dX11_readFactor_109 (by decide) ?_
        refine g_cv (As := [.int (iI 40)]) (rest := []) (n := 1) C hml (m_X11_isSign l D k A ad hD (va_up (va_up (va_up (va_up (va_up (va_up (va_up (va_up (va_up (va_up v 6 (v 6)) 7 (v 7)) 8 (v 8)) 9 (v 9)) 10 (v 10)) 11 (v 11)) 16 (v 16)) 20 (v 20)) 21 (v 21)) 27 (v 27)) (va_up (va_up (va_up f 11 (f 11)) 12 (f 12)) 17 (f 17)) (va_up g 0 (g 0)) 40 (by decide)) mM_X11_204 mI_X11_isSign mE_X11_isSign mN_X11 mC_X11_isSign (by decide +kernel) 0 (ci := 11) rfl rfl hP hS (fun _ h => h) ⟨Nat.le_of_ble_eq_true rfl, Nat.le_of_ble_eq_true rfl⟩ ⟨Nat.zero_le _, Nat.zero_le _⟩ hl.1 rfl rfl (Nat.le_of_ble_eq_true rfl) dX11_readFactor_111 (fun r_31 v_31 f_31 g_31 H locs hq_31 hP _ hS => ?_)
        obtain ⟨z_31, rfl, rfl, rfl, rfl, p0_31, p1_31⟩ := hq_31
        show W p l e (gRm 2 48) s m args below meth c _ _ 0 0 Q (F0 m 114 ls [.int (iI z_31)])
        replace p0_31 : 0 ≤ z_31 ∧ z_31 ≤ 1 := p0_31
        replace p1_31 : z_31 = 1 → (v 8) = 3 := p1_31
        refine gi_zeq (tgt := 143) hx hb dX11_readFactor_114 (by decide) (by omega) (fun c_32 => ?_) (fun c_32 => ?_)
        · refine lv_aload_n hx hb dX11_readFactor_143 rfl (lv_at hl 1 rfl) ?_
          refine g_cv (As := []) (rest := []) (n := 0) C hml (m_X11_wrong l D k A ad hD (va_up (va_up (va_up (va_up (va_up (va_up (va_up (va_up (va_up (va_up v 6 (v 6)) 7 (v 7)) 8 (v 8)) 9 (v 9)) 10 (v 10)) 11 (v 11)) 16 (v 16)) 20 (v 20)) 21 (v 21)) 27 (v 27)) (va_up (va_up (va_up f 11 (f 11)) 12 (f 12)) 17 (f 17)) (va_up g 0 (g 0))) mM_X11_198 mI_X11_wrong mE_X11_wrong mN_X11 mC_X11_wrong (by decide +kernel) 0 (ci := 11) rfl rfl hP hS (fun _ h => h) ⟨Nat.le_of_ble_eq_true rfl, Nat.le_of_ble_eq_true rfl⟩ ⟨Nat.zero_le _, Nat.zero_le _⟩ hl.1 rfl rfl (Nat.le_of_ble_eq_true rfl) dX11_readFactor_144 (fun r_33 v_33 f_33 g_33 H locs hq_33 hP _ hS => ?_)
          obtain ⟨w6_33, w7_33, rfl, rfl, rfl, rfl, p0_33⟩ := hq_33
          show W p l e (gRm 2 48) s m args below meth c _ _ 0 0 Q (F0 m 147 ls [])
          have hP : gWd D (mdT k ad) (va_up (va_up (va_up (va_up (va_up (va_up (va_up (va_up (va_up (va_up v 6 w6_33) 7 w7_33) 8 (v 8)) 9 (v 9)) 10 (v 10)) 11 (v 11)) 16 (v 16)) 20 (v 20)) 21 (v 21)) 27 (v 27)) (va_up (va_up (va_up f 11 (f 11)) 12 (f 12)) 17 (f 17)) (va_up g 0 (g 0)) H := ⟨hP.1, (gF_up (V := mdV) (F := mdF) (gF_up (V := mdV) (F := mdF) (gF_up (V := mdV) (F := mdF) (gR_up (V := mdV) (F := mdF) (gR_up (V := mdV) (F := mdF) (gR_up (V := mdV) (F := mdF) (gR_up (V := mdV) (F := mdF) (gR_up (V := mdV) (F := mdF) (gR_up (V := mdV) (F := mdF) (gR_up (V := mdV) (F := mdF) (gR_up (V := mdV) (F := mdF) (gR_up (V := mdV) (F := mdF) (gR_up (V := mdV) (F := mdF) ⟨hok.1, hok.2⟩ 6 (hP.2.1 6)) 7 (hP.2.1 7)) 8 (hP.2.1 8)) 9 (hP.2.1 9)) 10 (hP.2.1 10)) 11 (hP.2.1 11)) 16 (hP.2.1 16)) 20 (hP.2.1 20)) 21 (hP.2.1 21)) 27 (hP.2.1 27)) 11 (hP.2.2 11)) 12 (hP.2.2 12)) 17 (hP.2.2 17))⟩
          replace p0_33 : 0 < w6_33 := p0_33
          have rw6_33 : 0 ≤ w6_33 ∧ w6_33 ≤ 5 := hP.2.1 6
          have rw7_33 : 0 ≤ w7_33 ∧ w7_33 ≤ 700 := hP.2.1 7
          refine lv_iconst (v := iI 0) hx hb dX11_readFactor_147 rfl ?_
          exact g_zret hQ C hr hlocks (by decide) hP hS dX11_readFactor_148 ⟨0, w6_33, w7_33, (v 8), (v 9), (v 10), (v 11), (v 16), (v 20), (v 21), (v 27), (f 11), (f 12), (f 17), (g 0), rfl, rfl, rfl, rfl, (by first | omega | (split <;> omega)), (by first | omega | (split <;> omega)), (by first | omega | (split <;> omega)), (by first | omega | (split <;> omega)), (by first | omega | (split <;> omega)), (by first | (intro h; exfalso; omega) | exact fun _ => eOk_num he (by omega) (by omega) | (intro _; have q := eOk_wait (x := 10) he (Or.inl ⟨rfl, rfl, by omega, by omega⟩); simpa using q) | (intro _; have q := eOk_wait (x := 11) he (Or.inr (Or.inl ⟨rfl, rfl, by omega⟩)); simpa using q))⟩
        · refine lv_aload_n hx hb dX11_readFactor_117 rfl (lv_at hl 1 rfl) ?_
          refine g_cv (As := []) (rest := []) (n := 0) C hml (m_X11_deeper l D k A ad hD (va_up (va_up (va_up (va_up (va_up (va_up (va_up (va_up (va_up (va_up v 6 (v 6)) 7 (v 7)) 8 (v 8)) 9 (v 9)) 10 (v 10)) 11 (v 11)) 16 (v 16)) 20 (v 20)) 21 (v 21)) 27 (v 27)) (va_up (va_up (va_up f 11 (f 11)) 12 (f 12)) 17 (f 17)) (va_up g 0 (g 0)) (show (v 21) ≤ 8 from by omega)) mM_X11_286 mI_X11_deeper mE_X11_deeper mN_X11 mC_X11_deeper (by decide +kernel) 0 (ci := 11) rfl rfl hP hS (fun _ h => h) ⟨Nat.le_of_ble_eq_true rfl, Nat.le_of_ble_eq_true rfl⟩ ⟨Nat.zero_le _, Nat.zero_le _⟩ hl.1 rfl rfl (Nat.le_of_ble_eq_true rfl) dX11_readFactor_118 (fun r_34 v_34 f_34 g_34 H locs hq_34 hP _ hS => ?_)
          obtain ⟨w6_34, w7_34, rfl, rfl, rfl, rfl, p0_34, p1_34, p2_34⟩ := hq_34
          show W p l e (gRm 2 48) s m args below meth c _ _ 0 0 Q (F0 m 121 ls [])
          have hP : gWd D (mdT k ad) (va_up (va_up (va_up (va_up (va_up (va_up (va_up (va_up (va_up (va_up v 6 w6_34) 7 w7_34) 8 (v 8)) 9 (v 9)) 10 (v 10)) 11 (v 11)) 16 (v 16)) 20 (v 20)) 21 ((v 21) + 1)) 27 (v 27)) (va_up (va_up (va_up f 11 (f 11)) 12 (f 12)) 17 (f 17)) (va_up g 0 (g 0)) H := ⟨hP.1, (gF_up (V := mdV) (F := mdF) (gF_up (V := mdV) (F := mdF) (gF_up (V := mdV) (F := mdF) (gR_up (V := mdV) (F := mdF) (gR_up (V := mdV) (F := mdF) (gR_up (V := mdV) (F := mdF) (gR_up (V := mdV) (F := mdF) (gR_up (V := mdV) (F := mdF) (gR_up (V := mdV) (F := mdF) (gR_up (V := mdV) (F := mdF) (gR_up (V := mdV) (F := mdF) (gR_up (V := mdV) (F := mdF) (gR_up (V := mdV) (F := mdF) ⟨hok.1, hok.2⟩ 6 (hP.2.1 6)) 7 (hP.2.1 7)) 8 (hP.2.1 8)) 9 (hP.2.1 9)) 10 (hP.2.1 10)) 11 (hP.2.1 11)) 16 (hP.2.1 16)) 20 (hP.2.1 20)) 21 (hP.2.1 21)) 27 (hP.2.1 27)) 11 (hP.2.2 11)) 12 (hP.2.2 12)) 17 (hP.2.2 17))⟩
          replace p0_34 : (v 21) = 8 → 0 < w6_34 := p0_34
          replace p1_34 : (v 21) < 8 → w6_34 = (v 6) := p1_34
          replace p2_34 : 0 < (v 6) → 0 < w6_34 := p2_34
          have rw6_34 : 0 ≤ w6_34 ∧ w6_34 ≤ 5 := hP.2.1 6
          have rw7_34 : 0 ≤ w7_34 ∧ w7_34 ≤ 700 := hP.2.1 7
          refine lv_aload_n hx hb dX11_readFactor_121 rfl (lv_at hl 1 rfl) ?_
          refine mdG_bad C hP mF_X11_188 dX11_readFactor_122 ?_
          show W p l e (gRm 2 48) s m args below meth c _ _ 0 0 Q (F0 m 125 ls [.int (iI w6_34)])
          have r_35 : 0 ≤ w6_34 ∧ w6_34 ≤ 5 := hP.2.1 6
          refine gi_zle (tgt := 130) hx hb dX11_readFactor_125 (by decide) (by omega) (fun c_36 => ?_) (fun c_36 => ?_)
          · refine lv_aload_n hx hb dX11_readFactor_130 rfl (lv_at hl 1 rfl) ?_
            refine lv_bipush (v := iI 11) hx hb dX11_readFactor_131 (by decide) ?_
            refine g_cv (As := [.int (iI 11)]) (rest := []) (n := 1) C hml (m_X11_waitFor l D k A ad hD (va_up (va_up (va_up (va_up (va_up (va_up (va_up (va_up (va_up (va_up v 6 w6_34) 7 w7_34) 8 (v 8)) 9 (v 9)) 10 (v 10)) 11 (v 11)) 16 (v 16)) 20 (v 20)) 21 ((v 21) + 1)) 27 (v 27)) (va_up (va_up (va_up f 11 (f 11)) 12 (f 12)) 17 (f 17)) (va_up g 0 (g 0)) 11 (by decide) (show (v 20) ≤ 63 from by omega) (show 0 ≤ (11 : Int) ∧ (11 : Int) ≤ 11 from by omega)) mM_X11_277 mI_X11_waitFor mE_X11_waitFor mN_X11 mC_X11_waitFor (by decide +kernel) 0 (ci := 11) rfl rfl hP hS (fun _ h => h) ⟨Nat.le_of_ble_eq_true rfl, Nat.le_of_ble_eq_true rfl⟩ ⟨Nat.zero_le _, Nat.zero_le _⟩ hl.1 rfl rfl (Nat.le_of_ble_eq_true rfl) dX11_readFactor_133 (fun r_37 v_37 f_37 g_37 H locs hq_37 hP _ hS => ?_)
            obtain ⟨rfl, rfl, rfl, rfl⟩ := hq_37
            show W p l e (gRm 2 48) s m args below meth c _ _ 0 0 Q (F0 m 136 ls [])
            have hP : gWd D (mdT k ad) (va_up (va_up (va_up (va_up (va_up (va_up (va_up (va_up (va_up (va_up v 6 w6_34) 7 w7_34) 8 (v 8)) 9 (v 9)) 10 (v 10)) 11 (v 11)) 16 (v 16)) 20 ((v 20) + 1)) 21 ((v 21) + 1)) 27 (v 27)) (va_up (va_up (va_up f 11 (f 11)) 12 (f 12)) 17 (u1 (f 17) (v 20) (11 : Int))) (va_up g 0 (g 0)) H := ⟨hP.1, (gF_up (V := mdV) (F := mdF) (gF_up (V := mdV) (F := mdF) (gF_up (V := mdV) (F := mdF) (gR_up (V := mdV) (F := mdF) (gR_up (V := mdV) (F := mdF) (gR_up (V := mdV) (F := mdF) (gR_up (V := mdV) (F := mdF) (gR_up (V := mdV) (F := mdF) (gR_up (V := mdV) (F := mdF) (gR_up (V := mdV) (F := mdF) (gR_up (V := mdV) (F := mdF) (gR_up (V := mdV) (F := mdF) (gR_up (V := mdV) (F := mdF) ⟨hok.1, hok.2⟩ 6 (hP.2.1 6)) 7 (hP.2.1 7)) 8 (hP.2.1 8)) 9 (hP.2.1 9)) 10 (hP.2.1 10)) 11 (hP.2.1 11)) 16 (hP.2.1 16)) 20 (hP.2.1 20)) 21 (hP.2.1 21)) 27 (hP.2.1 27)) 11 (hP.2.2 11)) 12 (hP.2.2 12)) 17 (hP.2.2 17))⟩
            refine lv_aload_n hx hb dX11_readFactor_136 rfl (lv_at hl 1 rfl) ?_
            refine g_cv (As := []) (rest := []) (n := 0) C hml (m_X11_next l D k A ad hD (va_up (va_up (va_up (va_up (va_up (va_up (va_up (va_up (va_up (va_up v 6 w6_34) 7 w7_34) 8 (v 8)) 9 (v 9)) 10 (v 10)) 11 (v 11)) 16 (v 16)) 20 ((v 20) + 1)) 21 ((v 21) + 1)) 27 (v 27)) (va_up (va_up (va_up f 11 (f 11)) 12 (f 12)) 17 (u1 (f 17) (v 20) (11 : Int))) (va_up g 0 (g 0)) (show (v 10) ≤ (v 3) from by omega)) mM_X11_201 mI_X11_next mE_X11_next mN_X11 mC_X11_next (by decide +kernel) 0 (ci := 11) rfl rfl hP hS (fun _ h => h) ⟨Nat.le_of_ble_eq_true rfl, Nat.le_of_ble_eq_true rfl⟩ ⟨Nat.zero_le _, Nat.zero_le _⟩ hl.1 rfl rfl (Nat.le_of_ble_eq_true rfl) dX11_readFactor_137 (fun r_38 v_38 f_38 g_38 H locs hq_38 hP _ hS => ?_)
            obtain ⟨w8_38, w9_38, w10_38, w11_38, b0_38, rfl, rfl, rfl, rfl, p0_38, p1_38⟩ := hq_38
            show W p l e (gRm 2 48) s m args below meth c _ _ 0 0 Q (F0 m 140 ls [])
            have hP : gWd D (mdT k ad) (va_up (va_up (va_up (va_up (va_up (va_up (va_up (va_up (va_up (va_up v 6 w6_34) 7 w7_34) 8 w8_38) 9 w9_38) 10 w10_38) 11 w11_38) 16 (v 16)) 20 ((v 20) + 1)) 21 ((v 21) + 1)) 27 (v 27)) (va_up (va_up (va_up f 11 (f 11)) 12 (f 12)) 17 (u1 (f 17) (v 20) (11 : Int))) (va_up g 0 b0_38) H := ⟨hP.1, (gF_up (V := mdV) (F := mdF) (gF_up (V := mdV) (F := mdF) (gF_up (V := mdV) (F := mdF) (gR_up (V := mdV) (F := mdF) (gR_up (V := mdV) (F := mdF) (gR_up (V := mdV) (F := mdF) (gR_up (V := mdV) (F := mdF) (gR_up (V := mdV) (F := mdF) (gR_up (V := mdV) (F := mdF) (gR_up (V := mdV) (F := mdF) (gR_up (V := mdV) (F := mdF) (gR_up (V := mdV) (F := mdF) (gR_up (V := mdV) (F := mdF) ⟨hok.1, hok.2⟩ 6 (hP.2.1 6)) 7 (hP.2.1 7)) 8 (hP.2.1 8)) 9 (hP.2.1 9)) 10 (hP.2.1 10)) 11 (hP.2.1 11)) 16 (hP.2.1 16)) 20 (hP.2.1 20)) 21 (hP.2.1 21)) 27 (hP.2.1 27)) 11 (hP.2.2 11)) 12 (hP.2.2 12)) 17 (hP.2.2 17))⟩
            replace p0_38 : (v 10) ≤ w9_38 ∧ w9_38 ≤ w10_38 ∧ w10_38 ≤ (v 3) := p0_38
            replace p1_38 : w8_38 ≠ 0 → w9_38 < w10_38 := p1_38
            have rw8_38 : 0 ≤ w8_38 ∧ w8_38 ≤ 4 := hP.2.1 8
            have rw9_38 : 0 ≤ w9_38 ∧ w9_38 ≤ 700 := hP.2.1 9
            have rw10_38 : 0 ≤ w10_38 ∧ w10_38 ≤ 700 := hP.2.1 10
            have rw11_38 : 0 ≤ w11_38 ∧ w11_38 ≤ 999999 := hP.2.1 11
            refine lv_goto (tgt := 147) hx hb dX11_readFactor_140 (by decide) ?_
            refine lv_iconst (v := iI 0) hx hb dX11_readFactor_147 rfl ?_
            exact g_zret hQ C hr hlocks (by decide) hP hS dX11_readFactor_148 ⟨0, w6_34, w7_34, w8_38, w9_38, w10_38, w11_38, (v 16), ((v 20) + 1), ((v 21) + 1), (v 27), (f 11), (f 12), (u1 (f 17) (v 20) (11 : Int)), b0_38, rfl, rfl, rfl, rfl, (by first | omega | (split <;> omega)), (by first | omega | (split <;> omega)), (by first | omega | (split <;> omega)), (by first | omega | (split <;> omega)), (by first | omega | (split <;> omega)), (by first | (intro h; exfalso; omega) | exact fun _ => eOk_num he (by omega) (by omega) | (intro _; have q := eOk_wait (x := 10) he (Or.inl ⟨rfl, rfl, by omega, by omega⟩); simpa using q) | (intro _; have q := eOk_wait (x := 11) he (Or.inr (Or.inl ⟨rfl, rfl, by omega⟩)); simpa using q))⟩
          · refine lv_iconst (v := iI 0) hx hb dX11_readFactor_128 rfl ?_
            exact g_zret hQ C hr hlocks (by decide) hP hS dX11_readFactor_129 ⟨0, w6_34, w7_34, (v 8), (v 9), (v 10), (v 11), (v 16), (v 20), ((v 21) + 1), (v 27), (f 11), (f 12), (f 17), (g 0), rfl, rfl, rfl, rfl, (by first | omega | (split <;> omega)), (by first | omega | (split <;> omega)), (by first | omega | (split <;> omega)), (by first | omega | (split <;> omega)), (by first | omega | (split <;> omega)), (by first | (intro h; exfalso; omega) | exact fun _ => eOk_num he (by omega) (by omega) | (intro _; have q := eOk_wait (x := 10) he (Or.inl ⟨rfl, rfl, by omega, by omega⟩); simpa using q) | (intro _; have q := eOk_wait (x := 11) he (Or.inr (Or.inl ⟨rfl, rfl, by omega⟩)); simpa using q))⟩
      · refine lv_aload_n hx hb dX11_readFactor_78 rfl (lv_at hl 1 rfl) ?_
        refine g_cv (As := []) (rest := []) (n := 0) C hml (m_X11_counts l D k A ad hD (va_up (va_up (va_up (va_up (va_up (va_up (va_up (va_up (va_up (va_up v 6 (v 6)) 7 (v 7)) 8 (v 8)) 9 (v 9)) 10 (v 10)) 11 (v 11)) 16 (v 16)) 20 (v 20)) 21 (v 21)) 27 (v 27)) (va_up (va_up (va_up f 11 (f 11)) 12 (f 12)) 17 (f 17)) (va_up g 0 (g 0)) (show (v 27) ≤ 40 from by omega)) mM_X11_271 mI_X11_counts mE_X11_counts mN_X11 mC_X11_counts (by decide +kernel) 0 (ci := 11) rfl rfl hP hS (fun _ h => h) ⟨Nat.le_of_ble_eq_true rfl, Nat.le_of_ble_eq_true rfl⟩ ⟨Nat.zero_le _, Nat.zero_le _⟩ hl.1 rfl rfl (Nat.le_of_ble_eq_true rfl) dX11_readFactor_79 (fun r_39 v_39 f_39 g_39 H locs hq_39 hP _ hS => ?_)
        obtain ⟨w6_39, w7_39, rfl, rfl, rfl, rfl, p0_39, p1_39, p2_39⟩ := hq_39
        show W p l e (gRm 2 48) s m args below meth c _ _ 0 0 Q (F0 m 82 ls [])
        have hP : gWd D (mdT k ad) (va_up (va_up (va_up (va_up (va_up (va_up (va_up (va_up (va_up (va_up v 6 w6_39) 7 w7_39) 8 (v 8)) 9 (v 9)) 10 (v 10)) 11 (v 11)) 16 (v 16)) 20 (v 20)) 21 (v 21)) 27 ((v 27) + 1)) (va_up (va_up (va_up f 11 (f 11)) 12 (f 12)) 17 (f 17)) (va_up g 0 (g 0)) H := ⟨hP.1, (gF_up (V := mdV) (F := mdF) (gF_up (V := mdV) (F := mdF) (gF_up (V := mdV) (F := mdF) (gR_up (V := mdV) (F := mdF) (gR_up (V := mdV) (F := mdF) (gR_up (V := mdV) (F := mdF) (gR_up (V := mdV) (F := mdF) (gR_up (V := mdV) (F := mdF) (gR_up (V := mdV) (F := mdF) (gR_up (V := mdV) (F := mdF) (gR_up (V := mdV) (F := mdF) (gR_up (V := mdV) (F := mdF) (gR_up (V := mdV) (F := mdF) ⟨hok.1, hok.2⟩ 6 (hP.2.1 6)) 7 (hP.2.1 7)) 8 (hP.2.1 8)) 9 (hP.2.1 9)) 10 (hP.2.1 10)) 11 (hP.2.1 11)) 16 (hP.2.1 16)) 20 (hP.2.1 20)) 21 (hP.2.1 21)) 27 (hP.2.1 27)) 11 (hP.2.2 11)) 12 (hP.2.2 12)) 17 (hP.2.2 17))⟩
        replace p0_39 : (v 27) = 40 → 0 < w6_39 := p0_39
        replace p1_39 : (v 27) < 40 → w6_39 = (v 6) := p1_39
        replace p2_39 : 0 < (v 6) → 0 < w6_39 := p2_39
        have rw6_39 : 0 ≤ w6_39 ∧ w6_39 ≤ 5 := hP.2.1 6
        have rw7_39 : 0 ≤ w7_39 ∧ w7_39 ≤ 700 := hP.2.1 7
        refine lv_aload_n hx hb dX11_readFactor_82 rfl (lv_at hl 1 rfl) ?_
        refine g_cv (As := []) (rest := []) (n := 0) C hml (m_X11_deeper l D k A ad hD (va_up (va_up (va_up (va_up (va_up (va_up (va_up (va_up (va_up (va_up v 6 w6_39) 7 w7_39) 8 (v 8)) 9 (v 9)) 10 (v 10)) 11 (v 11)) 16 (v 16)) 20 (v 20)) 21 (v 21)) 27 ((v 27) + 1)) (va_up (va_up (va_up f 11 (f 11)) 12 (f 12)) 17 (f 17)) (va_up g 0 (g 0)) (show (v 21) ≤ 8 from by omega)) mM_X11_286 mI_X11_deeper mE_X11_deeper mN_X11 mC_X11_deeper (by decide +kernel) 0 (ci := 11) rfl rfl hP hS (fun _ h => h) ⟨Nat.le_of_ble_eq_true rfl, Nat.le_of_ble_eq_true rfl⟩ ⟨Nat.zero_le _, Nat.zero_le _⟩ hl.1 rfl rfl (Nat.le_of_ble_eq_true rfl) dX11_readFactor_83 (fun r_40 v_40 f_40 g_40 H locs hq_40 hP _ hS => ?_)
        obtain ⟨w6_40, w7_40, rfl, rfl, rfl, rfl, p0_40, p1_40, p2_40⟩ := hq_40
        show W p l e (gRm 2 48) s m args below meth c _ _ 0 0 Q (F0 m 86 ls [])
        have hP : gWd D (mdT k ad) (va_up (va_up (va_up (va_up (va_up (va_up (va_up (va_up (va_up (va_up v 6 w6_40) 7 w7_40) 8 (v 8)) 9 (v 9)) 10 (v 10)) 11 (v 11)) 16 (v 16)) 20 (v 20)) 21 ((v 21) + 1)) 27 ((v 27) + 1)) (va_up (va_up (va_up f 11 (f 11)) 12 (f 12)) 17 (f 17)) (va_up g 0 (g 0)) H := ⟨hP.1, (gF_up (V := mdV) (F := mdF) (gF_up (V := mdV) (F := mdF) (gF_up (V := mdV) (F := mdF) (gR_up (V := mdV) (F := mdF) (gR_up (V := mdV) (F := mdF) (gR_up (V := mdV) (F := mdF) (gR_up (V := mdV) (F := mdF) (gR_up (V := mdV) (F := mdF) (gR_up (V := mdV) (F := mdF) (gR_up (V := mdV) (F := mdF) (gR_up (V := mdV) (F := mdF) (gR_up (V := mdV) (F := mdF) (gR_up (V := mdV) (F := mdF) ⟨hok.1, hok.2⟩ 6 (hP.2.1 6)) 7 (hP.2.1 7)) 8 (hP.2.1 8)) 9 (hP.2.1 9)) 10 (hP.2.1 10)) 11 (hP.2.1 11)) 16 (hP.2.1 16)) 20 (hP.2.1 20)) 21 (hP.2.1 21)) 27 (hP.2.1 27)) 11 (hP.2.2 11)) 12 (hP.2.2 12)) 17 (hP.2.2 17))⟩
        replace p0_40 : (v 21) = 8 → 0 < w6_40 := p0_40
        replace p1_40 : (v 21) < 8 → w6_40 = w6_39 := p1_40
        replace p2_40 : 0 < w6_39 → 0 < w6_40 := p2_40
        have rw6_40 : 0 ≤ w6_40 ∧ w6_40 ≤ 5 := hP.2.1 6
        have rw7_40 : 0 ≤ w7_40 ∧ w7_40 ≤ 700 := hP.2.1 7
        refine lv_aload_n hx hb dX11_readFactor_86 rfl (lv_at hl 1 rfl) ?_
        refine mdG_bad C hP mF_X11_188 dX11_readFactor_87 ?_
        show W p l e (gRm 2 48) s m args below meth c _ _ 0 0 Q (F0 m 90 ls [.int (iI w6_40)])
        have r_41 : 0 ≤ w6_40 ∧ w6_40 ≤ 5 := hP.2.1 6
        refine gi_zle (tgt := 95) hx hb dX11_readFactor_90 (by decide) (by omega) (fun c_42 => ?_) (fun c_42 => ?_)
        · refine lv_aload_n hx hb dX11_readFactor_95 rfl (lv_at hl 1 rfl) ?_
          refine lv_bipush (v := iI 10) hx hb dX11_readFactor_96 (by decide) ?_
          refine g_cv (As := [.int (iI 10)]) (rest := []) (n := 1) C hml (m_X11_waitFor l D k A ad hD (va_up (va_up (va_up (va_up (va_up (va_up (va_up (va_up (va_up (va_up v 6 w6_40) 7 w7_40) 8 (v 8)) 9 (v 9)) 10 (v 10)) 11 (v 11)) 16 (v 16)) 20 (v 20)) 21 ((v 21) + 1)) 27 ((v 27) + 1)) (va_up (va_up (va_up f 11 (f 11)) 12 (f 12)) 17 (f 17)) (va_up g 0 (g 0)) 10 (by decide) (show (v 20) ≤ 63 from by omega) (show 0 ≤ (10 : Int) ∧ (10 : Int) ≤ 11 from by omega)) mM_X11_277 mI_X11_waitFor mE_X11_waitFor mN_X11 mC_X11_waitFor (by decide +kernel) 0 (ci := 11) rfl rfl hP hS (fun _ h => h) ⟨Nat.le_of_ble_eq_true rfl, Nat.le_of_ble_eq_true rfl⟩ ⟨Nat.zero_le _, Nat.zero_le _⟩ hl.1 rfl rfl (Nat.le_of_ble_eq_true rfl) dX11_readFactor_98 (fun r_43 v_43 f_43 g_43 H locs hq_43 hP _ hS => ?_)
          obtain ⟨rfl, rfl, rfl, rfl⟩ := hq_43
          show W p l e (gRm 2 48) s m args below meth c _ _ 0 0 Q (F0 m 101 ls [])
          have hP : gWd D (mdT k ad) (va_up (va_up (va_up (va_up (va_up (va_up (va_up (va_up (va_up (va_up v 6 w6_40) 7 w7_40) 8 (v 8)) 9 (v 9)) 10 (v 10)) 11 (v 11)) 16 (v 16)) 20 ((v 20) + 1)) 21 ((v 21) + 1)) 27 ((v 27) + 1)) (va_up (va_up (va_up f 11 (f 11)) 12 (f 12)) 17 (u1 (f 17) (v 20) (10 : Int))) (va_up g 0 (g 0)) H := ⟨hP.1, (gF_up (V := mdV) (F := mdF) (gF_up (V := mdV) (F := mdF) (gF_up (V := mdV) (F := mdF) (gR_up (V := mdV) (F := mdF) (gR_up (V := mdV) (F := mdF) (gR_up (V := mdV) (F := mdF) (gR_up (V := mdV) (F := mdF) (gR_up (V := mdV) (F := mdF) (gR_up (V := mdV) (F := mdF) (gR_up (V := mdV) (F := mdF) (gR_up (V := mdV) (F := mdF) (gR_up (V := mdV) (F := mdF) (gR_up (V := mdV) (F := mdF) ⟨hok.1, hok.2⟩ 6 (hP.2.1 6)) 7 (hP.2.1 7)) 8 (hP.2.1 8)) 9 (hP.2.1 9)) 10 (hP.2.1 10)) 11 (hP.2.1 11)) 16 (hP.2.1 16)) 20 (hP.2.1 20)) 21 (hP.2.1 21)) 27 (hP.2.1 27)) 11 (hP.2.2 11)) 12 (hP.2.2 12)) 17 (hP.2.2 17))⟩
          refine lv_aload_n hx hb dX11_readFactor_101 rfl (lv_at hl 1 rfl) ?_
          refine g_cv (As := []) (rest := []) (n := 0) C hml (m_X11_next l D k A ad hD (va_up (va_up (va_up (va_up (va_up (va_up (va_up (va_up (va_up (va_up v 6 w6_40) 7 w7_40) 8 (v 8)) 9 (v 9)) 10 (v 10)) 11 (v 11)) 16 (v 16)) 20 ((v 20) + 1)) 21 ((v 21) + 1)) 27 ((v 27) + 1)) (va_up (va_up (va_up f 11 (f 11)) 12 (f 12)) 17 (u1 (f 17) (v 20) (10 : Int))) (va_up g 0 (g 0)) (show (v 10) ≤ (v 3) from by omega)) mM_X11_201 mI_X11_next mE_X11_next mN_X11 mC_X11_next (by decide +kernel) 0 (ci := 11) rfl rfl hP hS (fun _ h => h) ⟨Nat.le_of_ble_eq_true rfl, Nat.le_of_ble_eq_true rfl⟩ ⟨Nat.zero_le _, Nat.zero_le _⟩ hl.1 rfl rfl (Nat.le_of_ble_eq_true rfl) dX11_readFactor_102 (fun r_44 v_44 f_44 g_44 H locs hq_44 hP _ hS => ?_)
          obtain ⟨w8_44, w9_44, w10_44, w11_44, b0_44, rfl, rfl, rfl, rfl, p0_44, p1_44⟩ := hq_44
          show W p l e (gRm 2 48) s m args below meth c _ _ 0 0 Q (F0 m 105 ls [])
          have hP : gWd D (mdT k ad) (va_up (va_up (va_up (va_up (va_up (va_up (va_up (va_up (va_up (va_up v 6 w6_40) 7 w7_40) 8 w8_44) 9 w9_44) 10 w10_44) 11 w11_44) 16 (v 16)) 20 ((v 20) + 1)) 21 ((v 21) + 1)) 27 ((v 27) + 1)) (va_up (va_up (va_up f 11 (f 11)) 12 (f 12)) 17 (u1 (f 17) (v 20) (10 : Int))) (va_up g 0 b0_44) H := ⟨hP.1, (gF_up (V := mdV) (F := mdF) (gF_up (V := mdV) (F := mdF) (gF_up (V := mdV) (F := mdF) (gR_up (V := mdV) (F := mdF) (gR_up (V := mdV) (F := mdF) (gR_up (V := mdV) (F := mdF) (gR_up (V := mdV) (F := mdF) (gR_up (V := mdV) (F := mdF) (gR_up (V := mdV) (F := mdF) (gR_up (V := mdV) (F := mdF) (gR_up (V := mdV) (F := mdF) (gR_up (V := mdV) (F := mdF) (gR_up (V := mdV) (F := mdF) ⟨hok.1, hok.2⟩ 6 (hP.2.1 6)) 7 (hP.2.1 7)) 8 (hP.2.1 8)) 9 (hP.2.1 9)) 10 (hP.2.1 10)) 11 (hP.2.1 11)) 16 (hP.2.1 16)) 20 (hP.2.1 20)) 21 (hP.2.1 21)) 27 (hP.2.1 27)) 11 (hP.2.2 11)) 12 (hP.2.2 12)) 17 (hP.2.2 17))⟩
          replace p0_44 : (v 10) ≤ w9_44 ∧ w9_44 ≤ w10_44 ∧ w10_44 ≤ (v 3) := p0_44
          replace p1_44 : w8_44 ≠ 0 → w9_44 < w10_44 := p1_44
          have rw8_44 : 0 ≤ w8_44 ∧ w8_44 ≤ 4 := hP.2.1 8
          have rw9_44 : 0 ≤ w9_44 ∧ w9_44 ≤ 700 := hP.2.1 9
          have rw10_44 : 0 ≤ w10_44 ∧ w10_44 ≤ 700 := hP.2.1 10
          have rw11_44 : 0 ≤ w11_44 ∧ w11_44 ≤ 999999 := hP.2.1 11
          refine lv_goto (tgt := 147) hx hb dX11_readFactor_105 (by decide) ?_
          refine lv_iconst (v := iI 0) hx hb dX11_readFactor_147 rfl ?_
          exact g_zret hQ C hr hlocks (by decide) hP hS dX11_readFactor_148 ⟨0, w6_40, w7_40, w8_44, w9_44, w10_44, w11_44, (v 16), ((v 20) + 1), ((v 21) + 1), ((v 27) + 1), (f 11), (f 12), (u1 (f 17) (v 20) (10 : Int)), b0_44, rfl, rfl, rfl, rfl, (by first | omega | (split <;> omega)), (by first | omega | (split <;> omega)), (by first | omega | (split <;> omega)), (by first | omega | (split <;> omega)), (by first | omega | (split <;> omega)), (by first | (intro h; exfalso; omega) | exact fun _ => eOk_num he (by omega) (by omega) | (intro _; have q := eOk_wait (x := 10) he (Or.inl ⟨rfl, rfl, by omega, by omega⟩); simpa using q) | (intro _; have q := eOk_wait (x := 11) he (Or.inr (Or.inl ⟨rfl, rfl, by omega⟩)); simpa using q))⟩
        · refine lv_iconst (v := iI 0) hx hb dX11_readFactor_93 rfl ?_
          exact g_zret hQ C hr hlocks (by decide) hP hS dX11_readFactor_94 ⟨0, w6_40, w7_40, (v 8), (v 9), (v 10), (v 11), (v 16), (v 20), ((v 21) + 1), ((v 27) + 1), (f 11), (f 12), (f 17), (g 0), rfl, rfl, rfl, rfl, (by first | omega | (split <;> omega)), (by first | omega | (split <;> omega)), (by first | omega | (split <;> omega)), (by first | omega | (split <;> omega)), (by first | omega | (split <;> omega)), (by first | (intro h; exfalso; omega) | exact fun _ => eOk_num he (by omega) (by omega) | (intro _; have q := eOk_wait (x := 10) he (Or.inl ⟨rfl, rfl, by omega, by omega⟩); simpa using q) | (intro _; have q := eOk_wait (x := 11) he (Or.inr (Or.inl ⟨rfl, rfl, by omega⟩)); simpa using q))⟩
    · refine lv_aload_n hx hb dX11_readFactor_17 rfl (lv_at hl 1 rfl) ?_
      refine g_cv (As := []) (rest := []) (n := 0) C hml (m_X11_counts l D k A ad hD (va_up (va_up (va_up (va_up (va_up (va_up (va_up (va_up (va_up (va_up v 6 (v 6)) 7 (v 7)) 8 (v 8)) 9 (v 9)) 10 (v 10)) 11 (v 11)) 16 (v 16)) 20 (v 20)) 21 (v 21)) 27 (v 27)) (va_up (va_up (va_up f 11 (f 11)) 12 (f 12)) 17 (f 17)) (va_up g 0 (g 0)) (show (v 27) ≤ 40 from by omega)) mM_X11_271 mI_X11_counts mE_X11_counts mN_X11 mC_X11_counts (by decide +kernel) 0 (ci := 11) rfl rfl hP hS (fun _ h => h) ⟨Nat.le_of_ble_eq_true rfl, Nat.le_of_ble_eq_true rfl⟩ ⟨Nat.zero_le _, Nat.zero_le _⟩ hl.1 rfl rfl (Nat.le_of_ble_eq_true rfl) dX11_readFactor_18 (fun r_45 v_45 f_45 g_45 H locs hq_45 hP _ hS => ?_)
      obtain ⟨w6_45, w7_45, rfl, rfl, rfl, rfl, p0_45, p1_45, p2_45⟩ := hq_45
      show W p l e (gRm 2 48) s m args below meth c _ _ 0 0 Q (F0 m 21 ls [])
      have hP : gWd D (mdT k ad) (va_up (va_up (va_up (va_up (va_up (va_up (va_up (va_up (va_up (va_up v 6 w6_45) 7 w7_45) 8 (v 8)) 9 (v 9)) 10 (v 10)) 11 (v 11)) 16 (v 16)) 20 (v 20)) 21 (v 21)) 27 ((v 27) + 1)) (va_up (va_up (va_up f 11 (f 11)) 12 (f 12)) 17 (f 17)) (va_up g 0 (g 0)) H := ⟨hP.1, (gF_up (V := mdV) (F := mdF) (gF_up (V := mdV) (F := mdF) (gF_up (V := mdV) (F := mdF) (gR_up (V := mdV) (F := mdF) (gR_up (V := mdV) (F := mdF) (gR_up (V := mdV) (F := mdF) (gR_up (V := mdV) (F := mdF) (gR_up (V := mdV) (F := mdF) (gR_up (V := mdV) (F := mdF) (gR_up (V := mdV) (F := mdF) (gR_up (V := mdV) (F := mdF) (gR_up (V := mdV) (F := mdF) (gR_up (V := mdV) (F := mdF) ⟨hok.1, hok.2⟩ 6 (hP.2.1 6)) 7 (hP.2.1 7)) 8 (hP.2.1 8)) 9 (hP.2.1 9)) 10 (hP.2.1 10)) 11 (hP.2.1 11)) 16 (hP.2.1 16)) 20 (hP.2.1 20)) 21 (hP.2.1 21)) 27 (hP.2.1 27)) 11 (hP.2.2 11)) 12 (hP.2.2 12)) 17 (hP.2.2 17))⟩
      replace p0_45 : (v 27) = 40 → 0 < w6_45 := p0_45
      replace p1_45 : (v 27) < 40 → w6_45 = (v 6) := p1_45
      replace p2_45 : 0 < (v 6) → 0 < w6_45 := p2_45
      have rw6_45 : 0 ≤ w6_45 ∧ w6_45 ≤ 5 := hP.2.1 6
      have rw7_45 : 0 ≤ w7_45 ∧ w7_45 ≤ 700 := hP.2.1 7
      refine lv_aload_n hx hb dX11_readFactor_21 rfl (lv_at hl 1 rfl) ?_
      refine mdG_bad C hP mF_X11_188 dX11_readFactor_22 ?_
      show W p l e (gRm 2 48) s m args below meth c _ _ 0 0 Q (F0 m 25 ls [.int (iI w6_45)])
      have r_46 : 0 ≤ w6_45 ∧ w6_45 ≤ 5 := hP.2.1 6
      refine gi_zle (tgt := 30) hx hb dX11_readFactor_25 (by decide) (by omega) (fun c_47 => ?_) (fun c_47 => ?_)
      · refine lv_aload_n hx hb dX11_readFactor_30 rfl (lv_at hl 1 rfl) ?_
        refine lv_aload_n hx hb dX11_readFactor_31 rfl (lv_at hl 1 rfl) ?_
        refine mdG_sort C hP mF_X11_165 dX11_readFactor_32 ?_
        show W p l e (gRm 2 48) s m args below meth c _ _ 0 0 Q (F0 m 35 ls [.int (iI (v 8)), .ref (ad 0)])
        refine lv_iconst (v := iI 2) hx hb dX11_readFactor_35 rfl ?_
        refine gi_cne (tgt := 43) hx hb dX11_readFactor_36 (by decide) (by omega) (by decide) (fun c_48 => ?_) (fun c_48 => ?_)
        · refine lv_iload_n hx hb dX11_readFactor_43 rfl (lv_at hl 0 rfl) ?_
          refine lv_aload_n hx hb dX11_readFactor_44 rfl (lv_at hl 1 rfl) ?_
          refine mdG_sort C hP mF_X11_165 dX11_readFactor_45 ?_
          show W p l e (gRm 2 48) s m args below meth c _ _ 0 0 Q (F0 m 48 ls [.int (iI (v 8)), .int (iI z_10), .ref (ad 0)])
          refine lv_iconst (v := iI 2) hx hb dX11_readFactor_48 rfl ?_
          refine gi_cne (tgt := 59) hx hb dX11_readFactor_49 (by decide) (by omega) (by decide) (fun c_49 => ?_) (fun c_49 => ?_)
          · refine lv_iconst (v := iI 0) hx hb dX11_readFactor_59 rfl ?_
            refine g_cv (As := [.int (iI z_10), .int (iI 0)]) (rest := []) (n := 2) C hml (m_X11_puts l D k A ad hD (va_up (va_up (va_up (va_up (va_up (va_up (va_up (va_up (va_up (va_up v 6 w6_45) 7 w7_45) 8 (v 8)) 9 (v 9)) 10 (v 10)) 11 (v 11)) 16 (v 16)) 20 (v 20)) 21 (v 21)) 27 ((v 27) + 1)) (va_up (va_up (va_up f 11 (f 11)) 12 (f 12)) 17 (f 17)) (va_up g 0 (g 0)) z_10 0 (by omega) (by decide) (show (v 16) ≤ 40 from by omega) (show 0 ≤ z_10 ∧ z_10 ≤ 11 from by omega) (show 0 ≤ (0 : Int) ∧ (0 : Int) ≤ 999999 from by omega)) mM_X11_261 mI_X11_puts mE_X11_puts mN_X11 mC_X11_puts (by decide +kernel) 0 (ci := 11) rfl rfl hP hS (fun _ h => h) ⟨Nat.le_of_ble_eq_true rfl, Nat.le_of_ble_eq_true rfl⟩ ⟨Nat.zero_le _, Nat.zero_le _⟩ hl.1 rfl rfl (Nat.le_of_ble_eq_true rfl) dX11_readFactor_60 (fun r_50 v_50 f_50 g_50 H locs hq_50 hP _ hS => ?_)
            obtain ⟨a12_50, rfl, rfl, rfl, rfl⟩ := hq_50
            show W p l e (gRm 2 48) s m args below meth c _ _ 0 0 Q (F0 m 63 ls [])
            have hP : gWd D (mdT k ad) (va_up (va_up (va_up (va_up (va_up (va_up (va_up (va_up (va_up (va_up v 6 w6_45) 7 w7_45) 8 (v 8)) 9 (v 9)) 10 (v 10)) 11 (v 11)) 16 ((v 16) + 1)) 20 (v 20)) 21 (v 21)) 27 ((v 27) + 1)) (va_up (va_up (va_up f 11 (u1 (f 11) (v 16) z_10)) 12 a12_50) 17 (f 17)) (va_up g 0 (g 0)) H := ⟨hP.1, (gF_up (V := mdV) (F := mdF) (gF_up (V := mdV) (F := mdF) (gF_up (V := mdV) (F := mdF) (gR_up (V := mdV) (F := mdF) (gR_up (V := mdV) (F := mdF) (gR_up (V := mdV) (F := mdF) (gR_up (V := mdV) (F := mdF) (gR_up (V := mdV) (F := mdF) (gR_up (V := mdV) (F := mdF) (gR_up (V := mdV) (F := mdF) (gR_up (V := mdV) (F := mdF) (gR_up (V := mdV) (F := mdF) (gR_up (V := mdV) (F := mdF) ⟨hok.1, hok.2⟩ 6 (hP.2.1 6)) 7 (hP.2.1 7)) 8 (hP.2.1 8)) 9 (hP.2.1 9)) 10 (hP.2.1 10)) 11 (hP.2.1 11)) 16 (hP.2.1 16)) 20 (hP.2.1 20)) 21 (hP.2.1 21)) 27 (hP.2.1 27)) 11 (hP.2.2 11)) 12 (hP.2.2 12)) 17 (hP.2.2 17))⟩
            refine lv_aload_n hx hb dX11_readFactor_63 rfl (lv_at hl 1 rfl) ?_
            refine g_cv (As := []) (rest := []) (n := 0) C hml (m_X11_next l D k A ad hD (va_up (va_up (va_up (va_up (va_up (va_up (va_up (va_up (va_up (va_up v 6 w6_45) 7 w7_45) 8 (v 8)) 9 (v 9)) 10 (v 10)) 11 (v 11)) 16 ((v 16) + 1)) 20 (v 20)) 21 (v 21)) 27 ((v 27) + 1)) (va_up (va_up (va_up f 11 (u1 (f 11) (v 16) z_10)) 12 a12_50) 17 (f 17)) (va_up g 0 (g 0)) (show (v 10) ≤ (v 3) from by omega)) mM_X11_201 mI_X11_next mE_X11_next mN_X11 mC_X11_next (by decide +kernel) 0 (ci := 11) rfl rfl hP hS (fun _ h => h) ⟨Nat.le_of_ble_eq_true rfl, Nat.le_of_ble_eq_true rfl⟩ ⟨Nat.zero_le _, Nat.zero_le _⟩ hl.1 rfl rfl (Nat.le_of_ble_eq_true rfl) dX11_readFactor_64 (fun r_51 v_51 f_51 g_51 H locs hq_51 hP _ hS => ?_)
            obtain ⟨w8_51, w9_51, w10_51, w11_51, b0_51, rfl, rfl, rfl, rfl, p0_51, p1_51⟩ := hq_51
            show W p l e (gRm 2 48) s m args below meth c _ _ 0 0 Q (F0 m 67 ls [])
            have hP : gWd D (mdT k ad) (va_up (va_up (va_up (va_up (va_up (va_up (va_up (va_up (va_up (va_up v 6 w6_45) 7 w7_45) 8 w8_51) 9 w9_51) 10 w10_51) 11 w11_51) 16 ((v 16) + 1)) 20 (v 20)) 21 (v 21)) 27 ((v 27) + 1)) (va_up (va_up (va_up f 11 (u1 (f 11) (v 16) z_10)) 12 a12_50) 17 (f 17)) (va_up g 0 b0_51) H := ⟨hP.1, (gF_up (V := mdV) (F := mdF) (gF_up (V := mdV) (F := mdF) (gF_up (V := mdV) (F := mdF) (gR_up (V := mdV) (F := mdF) (gR_up (V := mdV) (F := mdF) (gR_up (V := mdV) (F := mdF) (gR_up (V := mdV) (F := mdF) (gR_up (V := mdV) (F := mdF) (gR_up (V := mdV) (F := mdF) (gR_up (V := mdV) (F := mdF) (gR_up (V := mdV) (F := mdF) (gR_up (V := mdV) (F := mdF) (gR_up (V := mdV) (F := mdF) ⟨hok.1, hok.2⟩ 6 (hP.2.1 6)) 7 (hP.2.1 7)) 8 (hP.2.1 8)) 9 (hP.2.1 9)) 10 (hP.2.1 10)) 11 (hP.2.1 11)) 16 (hP.2.1 16)) 20 (hP.2.1 20)) 21 (hP.2.1 21)) 27 (hP.2.1 27)) 11 (hP.2.2 11)) 12 (hP.2.2 12)) 17 (hP.2.2 17))⟩
            replace p0_51 : (v 10) ≤ w9_51 ∧ w9_51 ≤ w10_51 ∧ w10_51 ≤ (v 3) := p0_51
            replace p1_51 : w8_51 ≠ 0 → w9_51 < w10_51 := p1_51
            have rw8_51 : 0 ≤ w8_51 ∧ w8_51 ≤ 4 := hP.2.1 8
            have rw9_51 : 0 ≤ w9_51 ∧ w9_51 ≤ 700 := hP.2.1 9
            have rw10_51 : 0 ≤ w10_51 ∧ w10_51 ≤ 700 := hP.2.1 10
            have rw11_51 : 0 ≤ w11_51 ∧ w11_51 ≤ 999999 := hP.2.1 11
            refine lv_iconst (v := iI 1) hx hb dX11_readFactor_67 rfl ?_
            exact g_zret hQ C hr hlocks (by decide) hP hS dX11_readFactor_68 ⟨1, w6_45, w7_45, w8_51, w9_51, w10_51, w11_51, ((v 16) + 1), (v 20), (v 21), ((v 27) + 1), (u1 (f 11) (v 16) z_10), a12_50, (f 17), b0_51, rfl, rfl, rfl, rfl, (by first | omega | (split <;> omega)), (by first | omega | (split <;> omega)), (by first | omega | (split <;> omega)), (by first | omega | (split <;> omega)), (by first | omega | (split <;> omega)), (by first | (intro h; exfalso; omega) | exact fun _ => eOk_num he (by omega) (by omega) | (intro _; have q := eOk_wait (x := 10) he (Or.inl ⟨rfl, rfl, by omega, by omega⟩); simpa using q) | (intro _; have q := eOk_wait (x := 11) he (Or.inr (Or.inl ⟨rfl, rfl, by omega⟩)); simpa using q))⟩
          · refine lv_aload_n hx hb dX11_readFactor_52 rfl (lv_at hl 1 rfl) ?_
            refine mdG_number C hP mF_X11_185 dX11_readFactor_53 ?_
            show W p l e (gRm 2 48) s m args below meth c _ _ 0 0 Q (F0 m 56 ls [.int (iI (v 11)), .int (iI z_10), .ref (ad 0)])
            have r_52 : 0 ≤ (v 11) ∧ (v 11) ≤ 999999 := hok.1 11
            refine lv_goto (tgt := 60) hx hb dX11_readFactor_56 (by decide) ?_
            refine g_cv (As := [.int (iI z_10), .int (iI (v 11))]) (rest := []) (n := 2) C hml (m_X11_puts l D k A ad hD (va_up (va_up (va_up (va_up (va_up (va_up (va_up (va_up (va_up (va_up v 6 w6_45) 7 w7_45) 8 (v 8)) 9 (v 9)) 10 (v 10)) 11 (v 11)) 16 (v 16)) 20 (v 20)) 21 (v 21)) 27 ((v 27) + 1)) (va_up (va_up (va_up f 11 (f 11)) 12 (f 12)) 17 (f 17)) (va_up g 0 (g 0)) z_10 (v 11) (by omega) (by omega) (show (v 16) ≤ 40 from by omega) (show 0 ≤ z_10 ∧ z_10 ≤ 11 from by omega) (show 0 ≤ (v 11) ∧ (v 11) ≤ 999999 from by omega)) mM_X11_261 mI_X11_puts mE_X11_puts mN_X11 mC_X11_puts (by decide +kernel) 0 (ci := 11) rfl rfl hP hS (fun _ h => h) ⟨Nat.le_of_ble_eq_true rfl, Nat.le_of_ble_eq_true rfl⟩ ⟨Nat.zero_le _, Nat.zero_le _⟩ hl.1 rfl rfl (Nat.le_of_ble_eq_true rfl) dX11_readFactor_60 (fun r_53 v_53 f_53 g_53 H locs hq_53 hP _ hS => ?_)
            obtain ⟨a12_53, rfl, rfl, rfl, rfl⟩ := hq_53
            show W p l e (gRm 2 48) s m args below meth c _ _ 0 0 Q (F0 m 63 ls [])
            have hP : gWd D (mdT k ad) (va_up (va_up (va_up (va_up (va_up (va_up (va_up (va_up (va_up (va_up v 6 w6_45) 7 w7_45) 8 (v 8)) 9 (v 9)) 10 (v 10)) 11 (v 11)) 16 ((v 16) + 1)) 20 (v 20)) 21 (v 21)) 27 ((v 27) + 1)) (va_up (va_up (va_up f 11 (u1 (f 11) (v 16) z_10)) 12 a12_53) 17 (f 17)) (va_up g 0 (g 0)) H := ⟨hP.1, (gF_up (V := mdV) (F := mdF) (gF_up (V := mdV) (F := mdF) (gF_up (V := mdV) (F := mdF) (gR_up (V := mdV) (F := mdF) (gR_up (V := mdV) (F := mdF) (gR_up (V := mdV) (F := mdF) (gR_up (V := mdV) (F := mdF) (gR_up (V := mdV) (F := mdF) (gR_up (V := mdV) (F := mdF) (gR_up (V := mdV) (F := mdF) (gR_up (V := mdV) (F := mdF) (gR_up (V := mdV) (F := mdF) (gR_up (V := mdV) (F := mdF) ⟨hok.1, hok.2⟩ 6 (hP.2.1 6)) 7 (hP.2.1 7)) 8 (hP.2.1 8)) 9 (hP.2.1 9)) 10 (hP.2.1 10)) 11 (hP.2.1 11)) 16 (hP.2.1 16)) 20 (hP.2.1 20)) 21 (hP.2.1 21)) 27 (hP.2.1 27)) 11 (hP.2.2 11)) 12 (hP.2.2 12)) 17 (hP.2.2 17))⟩
            refine lv_aload_n hx hb dX11_readFactor_63 rfl (lv_at hl 1 rfl) ?_
            refine g_cv (As := []) (rest := []) (n := 0) C hml (m_X11_next l D k A ad hD (va_up (va_up (va_up (va_up (va_up (va_up (va_up (va_up (va_up (va_up v 6 w6_45) 7 w7_45) 8 (v 8)) 9 (v 9)) 10 (v 10)) 11 (v 11)) 16 ((v 16) + 1)) 20 (v 20)) 21 (v 21)) 27 ((v 27) + 1)) (va_up (va_up (va_up f 11 (u1 (f 11) (v 16) z_10)) 12 a12_53) 17 (f 17)) (va_up g 0 (g 0)) (show (v 10) ≤ (v 3) from by omega)) mM_X11_201 mI_X11_next mE_X11_next mN_X11 mC_X11_next (by decide +kernel) 0 (ci := 11) rfl rfl hP hS (fun _ h => h) ⟨Nat.le_of_ble_eq_true rfl, Nat.le_of_ble_eq_true rfl⟩ ⟨Nat.zero_le _, Nat.zero_le _⟩ hl.1 rfl rfl (Nat.le_of_ble_eq_true rfl) dX11_readFactor_64 (fun r_54 v_54 f_54 g_54 H locs hq_54 hP _ hS => ?_)
            obtain ⟨w8_54, w9_54, w10_54, w11_54, b0_54, rfl, rfl, rfl, rfl, p0_54, p1_54⟩ := hq_54
            show W p l e (gRm 2 48) s m args below meth c _ _ 0 0 Q (F0 m 67 ls [])
            have hP : gWd D (mdT k ad) (va_up (va_up (va_up (va_up (va_up (va_up (va_up (va_up (va_up (va_up v 6 w6_45) 7 w7_45) 8 w8_54) 9 w9_54) 10 w10_54) 11 w11_54) 16 ((v 16) + 1)) 20 (v 20)) 21 (v 21)) 27 ((v 27) + 1)) (va_up (va_up (va_up f 11 (u1 (f 11) (v 16) z_10)) 12 a12_53) 17 (f 17)) (va_up g 0 b0_54) H := ⟨hP.1, (gF_up (V := mdV) (F := mdF) (gF_up (V := mdV) (F := mdF) (gF_up (V := mdV) (F := mdF) (gR_up (V := mdV) (F := mdF) (gR_up (V := mdV) (F := mdF) (gR_up (V := mdV) (F := mdF) (gR_up (V := mdV) (F := mdF) (gR_up (V := mdV) (F := mdF) (gR_up (V := mdV) (F := mdF) (gR_up (V := mdV) (F := mdF) (gR_up (V := mdV) (F := mdF) (gR_up (V := mdV) (F := mdF) (gR_up (V := mdV) (F := mdF) ⟨hok.1, hok.2⟩ 6 (hP.2.1 6)) 7 (hP.2.1 7)) 8 (hP.2.1 8)) 9 (hP.2.1 9)) 10 (hP.2.1 10)) 11 (hP.2.1 11)) 16 (hP.2.1 16)) 20 (hP.2.1 20)) 21 (hP.2.1 21)) 27 (hP.2.1 27)) 11 (hP.2.2 11)) 12 (hP.2.2 12)) 17 (hP.2.2 17))⟩
            replace p0_54 : (v 10) ≤ w9_54 ∧ w9_54 ≤ w10_54 ∧ w10_54 ≤ (v 3) := p0_54
            replace p1_54 : w8_54 ≠ 0 → w9_54 < w10_54 := p1_54
            have rw8_54 : 0 ≤ w8_54 ∧ w8_54 ≤ 4 := hP.2.1 8
            have rw9_54 : 0 ≤ w9_54 ∧ w9_54 ≤ 700 := hP.2.1 9
            have rw10_54 : 0 ≤ w10_54 ∧ w10_54 ≤ 700 := hP.2.1 10
            have rw11_54 : 0 ≤ w11_54 ∧ w11_54 ≤ 999999 := hP.2.1 11
            refine lv_iconst (v := iI 1) hx hb dX11_readFactor_67 rfl ?_
            exact g_zret hQ C hr hlocks (by decide) hP hS dX11_readFactor_68 ⟨1, w6_45, w7_45, w8_54, w9_54, w10_54, w11_54, ((v 16) + 1), (v 20), (v 21), ((v 27) + 1), (u1 (f 11) (v 16) z_10), a12_53, (f 17), b0_54, rfl, rfl, rfl, rfl, (by first | omega | (split <;> omega)), (by first | omega | (split <;> omega)), (by first | omega | (split <;> omega)), (by first | omega | (split <;> omega)), (by first | omega | (split <;> omega)), (by first | (intro h; exfalso; omega) | exact fun _ => eOk_num he (by omega) (by omega) | (intro _; have q := eOk_wait (x := 10) he (Or.inl ⟨rfl, rfl, by omega, by omega⟩); simpa using q) | (intro _; have q := eOk_wait (x := 11) he (Or.inr (Or.inl ⟨rfl, rfl, by omega⟩)); simpa using q))⟩
        · refine lv_iconst (v := iI 0) hx hb dX11_readFactor_39 rfl ?_
          refine lv_goto (tgt := 44) hx hb dX11_readFactor_40 (by decide) ?_
          refine lv_aload_n hx hb dX11_readFactor_44 rfl (lv_at hl 1 rfl) ?_
          refine mdG_sort C hP mF_X11_165 dX11_readFactor_45 ?_
          show W p l e (gRm 2 48) s m args below meth c _ _ 0 0 Q (F0 m 48 ls [.int (iI (v 8)), .int (iI 0), .ref (ad 0)])
          refine lv_iconst (v := iI 2) hx hb dX11_readFactor_48 rfl ?_
          refine gi_cne (tgt := 59) hx hb dX11_readFactor_49 (by decide) (by omega) (by decide) (fun c_55 => ?_) (fun c_55 => ?_)
          · refine lv_iconst (v := iI 0) hx hb dX11_readFactor_59 rfl ?_
            refine g_cv (As := [.int (iI 0), .int (iI 0)]) (rest := []) (n := 2) C hml (m_X11_puts l D k A ad hD (va_up (va_up (va_up (va_up (va_up (va_up (va_up (va_up (va_up (va_up v 6 w6_45) 7 w7_45) 8 (v 8)) 9 (v 9)) 10 (v 10)) 11 (v 11)) 16 (v 16)) 20 (v 20)) 21 (v 21)) 27 ((v 27) + 1)) (va_up (va_up (va_up f 11 (f 11)) 12 (f 12)) 17 (f 17)) (va_up g 0 (g 0)) 0 0 (by decide) (by decide) (show (v 16) ≤ 40 from by omega) (show 0 ≤ (0 : Int) ∧ (0 : Int) ≤ 11 from by omega) (show 0 ≤ (0 : Int) ∧ (0 : Int) ≤ 999999 from by omega)) mM_X11_261 mI_X11_puts mE_X11_puts mN_X11 mC_X11_puts (by decide +kernel) 0 (ci := 11) rfl rfl hP hS (fun _ h => h) ⟨Nat.le_of_ble_eq_true rfl, Nat.le_of_ble_eq_true rfl⟩ ⟨Nat.zero_le _, Nat.zero_le _⟩ hl.1 rfl rfl (Nat.le_of_ble_eq_true rfl) dX11_readFactor_60 (fun r_56 v_56 f_56 g_56 H locs hq_56 hP _ hS => ?_)
            obtain ⟨a12_56, rfl, rfl, rfl, rfl⟩ := hq_56
            show W p l e (gRm 2 48) s m args below meth c _ _ 0 0 Q (F0 m 63 ls [])
            have hP : gWd D (mdT k ad) (va_up (va_up (va_up (va_up (va_up (va_up (va_up (va_up (va_up (va_up v 6 w6_45) 7 w7_45) 8 (v 8)) 9 (v 9)) 10 (v 10)) 11 (v 11)) 16 ((v 16) + 1)) 20 (v 20)) 21 (v 21)) 27 ((v 27) + 1)) (va_up (va_up (va_up f 11 (u1 (f 11) (v 16) (0 : Int))) 12 a12_56) 17 (f 17)) (va_up g 0 (g 0)) H := ⟨hP.1, (gF_up (V := mdV) (F := mdF) (gF_up (V := mdV) (F := mdF) (gF_up (V := mdV) (F := mdF) (gR_up (V := mdV) (F := mdF) (gR_up (V := mdV) (F := mdF) (gR_up (V := mdV) (F := mdF) (gR_up (V := mdV) (F := mdF) (gR_up (V := mdV) (F := mdF) (gR_up (V := mdV) (F := mdF) (gR_up (V := mdV) (F := mdF) (gR_up (V := mdV) (F := mdF) (gR_up (V := mdV) (F := mdF) (gR_up (V := mdV) (F := mdF) ⟨hok.1, hok.2⟩ 6 (hP.2.1 6)) 7 (hP.2.1 7)) 8 (hP.2.1 8)) 9 (hP.2.1 9)) 10 (hP.2.1 10)) 11 (hP.2.1 11)) 16 (hP.2.1 16)) 20 (hP.2.1 20)) 21 (hP.2.1 21)) 27 (hP.2.1 27)) 11 (hP.2.2 11)) 12 (hP.2.2 12)) 17 (hP.2.2 17))⟩
            refine lv_aload_n hx hb dX11_readFactor_63 rfl (lv_at hl 1 rfl) ?_
            refine g_cv (As := []) (rest := []) (n := 0) C hml (m_X11_next l D k A ad hD (va_up (va_up (va_up (va_up (va_up (va_up (va_up (va_up (va_up (va_up v 6 w6_45) 7 w7_45) 8 (v 8)) 9 (v 9)) 10 (v 10)) 11 (v 11)) 16 ((v 16) + 1)) 20 (v 20)) 21 (v 21)) 27 ((v 27) + 1)) (va_up (va_up (va_up f 11 (u1 (f 11) (v 16) (0 : Int))) 12 a12_56) 17 (f 17)) (va_up g 0 (g 0)) (show (v 10) ≤ (v 3) from by omega)) mM_X11_201 mI_X11_next mE_X11_next mN_X11 mC_X11_next (by decide +kernel) 0 (ci := 11) rfl rfl hP hS (fun _ h => h) ⟨Nat.le_of_ble_eq_true rfl, Nat.le_of_ble_eq_true rfl⟩ ⟨Nat.zero_le _, Nat.zero_le _⟩ hl.1 rfl rfl (Nat.le_of_ble_eq_true rfl) dX11_readFactor_64 (fun r_57 v_57 f_57 g_57 H locs hq_57 hP _ hS => ?_)
            obtain ⟨w8_57, w9_57, w10_57, w11_57, b0_57, rfl, rfl, rfl, rfl, p0_57, p1_57⟩ := hq_57
            show W p l e (gRm 2 48) s m args below meth c _ _ 0 0 Q (F0 m 67 ls [])
            have hP : gWd D (mdT k ad) (va_up (va_up (va_up (va_up (va_up (va_up (va_up (va_up (va_up (va_up v 6 w6_45) 7 w7_45) 8 w8_57) 9 w9_57) 10 w10_57) 11 w11_57) 16 ((v 16) + 1)) 20 (v 20)) 21 (v 21)) 27 ((v 27) + 1)) (va_up (va_up (va_up f 11 (u1 (f 11) (v 16) (0 : Int))) 12 a12_56) 17 (f 17)) (va_up g 0 b0_57) H := ⟨hP.1, (gF_up (V := mdV) (F := mdF) (gF_up (V := mdV) (F := mdF) (gF_up (V := mdV) (F := mdF) (gR_up (V := mdV) (F := mdF) (gR_up (V := mdV) (F := mdF) (gR_up (V := mdV) (F := mdF) (gR_up (V := mdV) (F := mdF) (gR_up (V := mdV) (F := mdF) (gR_up (V := mdV) (F := mdF) (gR_up (V := mdV) (F := mdF) (gR_up (V := mdV) (F := mdF) (gR_up (V := mdV) (F := mdF) (gR_up (V := mdV) (F := mdF) ⟨hok.1, hok.2⟩ 6 (hP.2.1 6)) 7 (hP.2.1 7)) 8 (hP.2.1 8)) 9 (hP.2.1 9)) 10 (hP.2.1 10)) 11 (hP.2.1 11)) 16 (hP.2.1 16)) 20 (hP.2.1 20)) 21 (hP.2.1 21)) 27 (hP.2.1 27)) 11 (hP.2.2 11)) 12 (hP.2.2 12)) 17 (hP.2.2 17))⟩
            replace p0_57 : (v 10) ≤ w9_57 ∧ w9_57 ≤ w10_57 ∧ w10_57 ≤ (v 3) := p0_57
            replace p1_57 : w8_57 ≠ 0 → w9_57 < w10_57 := p1_57
            have rw8_57 : 0 ≤ w8_57 ∧ w8_57 ≤ 4 := hP.2.1 8
            have rw9_57 : 0 ≤ w9_57 ∧ w9_57 ≤ 700 := hP.2.1 9
            have rw10_57 : 0 ≤ w10_57 ∧ w10_57 ≤ 700 := hP.2.1 10
            have rw11_57 : 0 ≤ w11_57 ∧ w11_57 ≤ 999999 := hP.2.1 11
            refine lv_iconst (v := iI 1) hx hb dX11_readFactor_67 rfl ?_
            exact g_zret hQ C hr hlocks (by decide) hP hS dX11_readFactor_68 ⟨1, w6_45, w7_45, w8_57, w9_57, w10_57, w11_57, ((v 16) + 1), (v 20), (v 21), ((v 27) + 1), (u1 (f 11) (v 16) (0 : Int)), a12_56, (f 17), b0_57, rfl, rfl, rfl, rfl, (by first | omega | (split <;> omega)), (by first | omega | (split <;> omega)), (by first | omega | (split <;> omega)), (by first | omega | (split <;> omega)), (by first | omega | (split <;> omega)), (by first | (intro h; exfalso; omega) | exact fun _ => eOk_num he (by omega) (by omega) | (intro _; have q := eOk_wait (x := 10) he (Or.inl ⟨rfl, rfl, by omega, by omega⟩); simpa using q) | (intro _; have q := eOk_wait (x := 11) he (Or.inr (Or.inl ⟨rfl, rfl, by omega⟩)); simpa using q))⟩
          · refine lv_aload_n hx hb dX11_readFactor_52 rfl (lv_at hl 1 rfl) ?_
            refine mdG_number C hP mF_X11_185 dX11_readFactor_53 ?_
            show W p l e (gRm 2 48) s m args below meth c _ _ 0 0 Q (F0 m 56 ls [.int (iI (v 11)), .int (iI 0), .ref (ad 0)])
            have r_58 : 0 ≤ (v 11) ∧ (v 11) ≤ 999999 := hok.1 11
            refine lv_goto (tgt := 60) hx hb dX11_readFactor_56 (by decide) ?_
            refine g_cv (As := [.int (iI 0), .int (iI (v 11))]) (rest := []) (n := 2) C hml (m_X11_puts l D k A ad hD (va_up (va_up (va_up (va_up (va_up (va_up (va_up (va_up (va_up (va_up v 6 w6_45) 7 w7_45) 8 (v 8)) 9 (v 9)) 10 (v 10)) 11 (v 11)) 16 (v 16)) 20 (v 20)) 21 (v 21)) 27 ((v 27) + 1)) (va_up (va_up (va_up f 11 (f 11)) 12 (f 12)) 17 (f 17)) (va_up g 0 (g 0)) 0 (v 11) (by decide) (by omega) (show (v 16) ≤ 40 from by omega) (show 0 ≤ (0 : Int) ∧ (0 : Int) ≤ 11 from by omega) (show 0 ≤ (v 11) ∧ (v 11) ≤ 999999 from by omega)) mM_X11_261 mI_X11_puts mE_X11_puts mN_X11 mC_X11_puts (by decide +kernel) 0 (ci := 11) rfl rfl hP hS (fun _ h => h) ⟨Nat.le_of_ble_eq_true rfl, Nat.le_of_ble_eq_true rfl⟩ ⟨Nat.zero_le _, Nat.zero_le _⟩ hl.1 rfl rfl (Nat.le_of_ble_eq_true rfl) dX11_readFactor_60 (fun r_59 v_59 f_59 g_59 H locs hq_59 hP _ hS => ?_)
            obtain ⟨a12_59, rfl, rfl, rfl, rfl⟩ := hq_59
            show W p l e (gRm 2 48) s m args below meth c _ _ 0 0 Q (F0 m 63 ls [])
            have hP : gWd D (mdT k ad) (va_up (va_up (va_up (va_up (va_up (va_up (va_up (va_up (va_up (va_up v 6 w6_45) 7 w7_45) 8 (v 8)) 9 (v 9)) 10 (v 10)) 11 (v 11)) 16 ((v 16) + 1)) 20 (v 20)) 21 (v 21)) 27 ((v 27) + 1)) (va_up (va_up (va_up f 11 (u1 (f 11) (v 16) (0 : Int))) 12 a12_59) 17 (f 17)) (va_up g 0 (g 0)) H := ⟨hP.1, (gF_up (V := mdV) (F := mdF) (gF_up (V := mdV) (F := mdF) (gF_up (V := mdV) (F := mdF) (gR_up (V := mdV) (F := mdF) (gR_up (V := mdV) (F := mdF) (gR_up (V := mdV) (F := mdF) (gR_up (V := mdV) (F := mdF) (gR_up (V := mdV) (F := mdF) (gR_up (V := mdV) (F := mdF) (gR_up (V := mdV) (F := mdF) (gR_up (V := mdV) (F := mdF) (gR_up (V := mdV) (F := mdF) (gR_up (V := mdV) (F := mdF) ⟨hok.1, hok.2⟩ 6 (hP.2.1 6)) 7 (hP.2.1 7)) 8 (hP.2.1 8)) 9 (hP.2.1 9)) 10 (hP.2.1 10)) 11 (hP.2.1 11)) 16 (hP.2.1 16)) 20 (hP.2.1 20)) 21 (hP.2.1 21)) 27 (hP.2.1 27)) 11 (hP.2.2 11)) 12 (hP.2.2 12)) 17 (hP.2.2 17))⟩
            refine lv_aload_n hx hb dX11_readFactor_63 rfl (lv_at hl 1 rfl) ?_
            refine g_cv (As := []) (rest := []) (n := 0) C hml (m_X11_next l D k A ad hD (va_up (va_up (va_up (va_up (va_up (va_up (va_up (va_up (va_up (va_up v 6 w6_45) 7 w7_45) 8 (v 8)) 9 (v 9)) 10 (v 10)) 11 (v 11)) 16 ((v 16) + 1)) 20 (v 20)) 21 (v 21)) 27 ((v 27) + 1)) (va_up (va_up (va_up f 11 (u1 (f 11) (v 16) (0 : Int))) 12 a12_59) 17 (f 17)) (va_up g 0 (g 0)) (show (v 10) ≤ (v 3) from by omega)) mM_X11_201 mI_X11_next mE_X11_next mN_X11 mC_X11_next (by decide +kernel) 0 (ci := 11) rfl rfl hP hS (fun _ h => h) ⟨Nat.le_of_ble_eq_true rfl, Nat.le_of_ble_eq_true rfl⟩ ⟨Nat.zero_le _, Nat.zero_le _⟩ hl.1 rfl rfl (Nat.le_of_ble_eq_true rfl) dX11_readFactor_64 (fun r_60 v_60 f_60 g_60 H locs hq_60 hP _ hS => ?_)
            obtain ⟨w8_60, w9_60, w10_60, w11_60, b0_60, rfl, rfl, rfl, rfl, p0_60, p1_60⟩ := hq_60
            show W p l e (gRm 2 48) s m args below meth c _ _ 0 0 Q (F0 m 67 ls [])
            have hP : gWd D (mdT k ad) (va_up (va_up (va_up (va_up (va_up (va_up (va_up (va_up (va_up (va_up v 6 w6_45) 7 w7_45) 8 w8_60) 9 w9_60) 10 w10_60) 11 w11_60) 16 ((v 16) + 1)) 20 (v 20)) 21 (v 21)) 27 ((v 27) + 1)) (va_up (va_up (va_up f 11 (u1 (f 11) (v 16) (0 : Int))) 12 a12_59) 17 (f 17)) (va_up g 0 b0_60) H := ⟨hP.1, (gF_up (V := mdV) (F := mdF) (gF_up (V := mdV) (F := mdF) (gF_up (V := mdV) (F := mdF) (gR_up (V := mdV) (F := mdF) (gR_up (V := mdV) (F := mdF) (gR_up (V := mdV) (F := mdF) (gR_up (V := mdV) (F := mdF) (gR_up (V := mdV) (F := mdF) (gR_up (V := mdV) (F := mdF) (gR_up (V := mdV) (F := mdF) (gR_up (V := mdV) (F := mdF) (gR_up (V := mdV) (F := mdF) (gR_up (V := mdV) (F := mdF) ⟨hok.1, hok.2⟩ 6 (hP.2.1 6)) 7 (hP.2.1 7)) 8 (hP.2.1 8)) 9 (hP.2.1 9)) 10 (hP.2.1 10)) 11 (hP.2.1 11)) 16 (hP.2.1 16)) 20 (hP.2.1 20)) 21 (hP.2.1 21)) 27 (hP.2.1 27)) 11 (hP.2.2 11)) 12 (hP.2.2 12)) 17 (hP.2.2 17))⟩
            replace p0_60 : (v 10) ≤ w9_60 ∧ w9_60 ≤ w10_60 ∧ w10_60 ≤ (v 3) := p0_60
            replace p1_60 : w8_60 ≠ 0 → w9_60 < w10_60 := p1_60
            have rw8_60 : 0 ≤ w8_60 ∧ w8_60 ≤ 4 := hP.2.1 8
            have rw9_60 : 0 ≤ w9_60 ∧ w9_60 ≤ 700 := hP.2.1 9
            have rw10_60 : 0 ≤ w10_60 ∧ w10_60 ≤ 700 := hP.2.1 10
            have rw11_60 : 0 ≤ w11_60 ∧ w11_60 ≤ 999999 := hP.2.1 11
            refine lv_iconst (v := iI 1) hx hb dX11_readFactor_67 rfl ?_
            exact g_zret hQ C hr hlocks (by decide) hP hS dX11_readFactor_68 ⟨1, w6_45, w7_45, w8_60, w9_60, w10_60, w11_60, ((v 16) + 1), (v 20), (v 21), ((v 27) + 1), (u1 (f 11) (v 16) (0 : Int)), a12_59, (f 17), b0_60, rfl, rfl, rfl, rfl, (by first | omega | (split <;> omega)), (by first | omega | (split <;> omega)), (by first | omega | (split <;> omega)), (by first | omega | (split <;> omega)), (by first | omega | (split <;> omega)), (by first | (intro h; exfalso; omega) | exact fun _ => eOk_num he (by omega) (by omega) | (intro _; have q := eOk_wait (x := 10) he (Or.inl ⟨rfl, rfl, by omega, by omega⟩); simpa using q) | (intro _; have q := eOk_wait (x := 11) he (Or.inr (Or.inl ⟨rfl, rfl, by omega⟩)); simpa using q))⟩
      · refine lv_iconst (v := iI 0) hx hb dX11_readFactor_28 rfl ?_
        exact g_zret hQ C hr hlocks (by decide) hP hS dX11_readFactor_29 ⟨0, w6_45, w7_45, (v 8), (v 9), (v 10), (v 11), (v 16), (v 20), (v 21), ((v 27) + 1), (f 11), (f 12), (f 17), (g 0), rfl, rfl, rfl, rfl, (by first | omega | (split <;> omega)), (by first | omega | (split <;> omega)), (by first | omega | (split <;> omega)), (by first | omega | (split <;> omega)), (by first | omega | (split <;> omega)), (by first | (intro h; exfalso; omega) | exact fun _ => eOk_num he (by omega) (by omega) | (intro _; have q := eOk_wait (x := 10) he (Or.inl ⟨rfl, rfl, by omega, by omega⟩); simpa using q) | (intro _; have q := eOk_wait (x := 11) he (Or.inr (Or.inl ⟨rfl, rfl, by omega⟩)); simpa using q))⟩
