set_option maxHeartbeats 40000000 in
set_option maxRecDepth 100000 in
theorem m_X11_readKeys (l : Launch) (D : va_G) (k : Nat → ClassId) (A : Nat → Prop) (ad : Nat → Nat) (hD : mdD A k ad) (v : gV) (f g : gF) (hj : (v 9) ≤ (v 10) ∧ (v 10) ≤ (v 3) ∧ ((v 8) ≠ 0 → (v 9) < (v 10))) (hb0 : (v 6) = 0) : GM l D k A (mdT k ad) yX11_readKeys cX11_readKeys 4 none 2 42 [.ref (ad 0)] v f g (fun r v1 f1 g1 => ∃ (w6 : Int) (w7 : Int) (w8 : Int) (w9 : Int) (w10 : Int) (w11 : Int) (w17 : Int) (a14_ : Int → Int) (a16_ : Int → Int) (b0_ : Int → Int), r = none ∧ (va_up (va_up (va_up (va_up (va_up (va_up (va_up v 6 w6) 7 w7) 8 w8) 9 w9) 10 w10) 11 w11) 17 w17) = v1 ∧ (va_up (va_up f 14 a14_) 16 a16_) = f1 ∧ (va_up g 0 b0_) = g1 ∧ ((v 9) ≤ w9 ∧ w9 ≤ w10 ∧ w10 ≤ (v 3)) ∧ (w8 ≠ 0 → w9 < w10)) := by
  refine GM.of (by decide) (Nat.le_of_ble_eq_true rfl) ?_
  intro p e s m args below meth c Q ls hQ C hml hr hlocks hP hl
  have hx := C.1
  have hb := C.2.1
  have hok := hP.2
  have hS : va_S A s.heap s.heap [] := va_S.rf
  have hl : lv_has ls 4 [(0, .ref (ad 0))] := hl
  have hP : gWd D (mdT k ad) (va_up (va_up (va_up (va_up (va_up (va_up (va_up v 6 (v 6)) 7 (v 7)) 8 (v 8)) 9 (v 9)) 10 (v 10)) 11 (v 11)) 17 (v 17)) (va_up (va_up f 14 (f 14)) 16 (f 16)) (va_up g 0 (g 0)) s.heap := by rw [va_id, va_id, va_id, va_id, va_id, va_id, va_id, va_id, va_id, va_id]; exact hP
  have r_1 : 0 ≤ (v 9) ∧ (v 9) ≤ 700 := hok.1 9
  have r_2 : 0 ≤ (v 10) ∧ (v 10) ≤ 700 := hok.1 10
  have r_3 : 0 ≤ (v 3) ∧ (v 3) ≤ 700 := hok.1 3
  have r_4 : 0 ≤ (v 8) ∧ (v 8) ≤ 4 := hok.1 8
  have r_5 : 0 ≤ (v 6) ∧ (v 6) ≤ 5 := hok.1 6
  have r_6 : 0 ≤ (v 17) ∧ (v 17) ≤ 4 := hok.1 17
  refine lv_aload_n hx hb dX11_readKeys_0 rfl (lv_at hl 0 rfl) ?_
  refine lv_iconst (v := iI 0) hx hb dX11_readKeys_1 rfl ?_
  refine mdP_newKeys (v1 := (va_up (va_up (va_up (va_up (va_up (va_up (va_up v 6 (v 6)) 7 (v 7)) 8 (v 8)) 9 (v 9)) 10 (v 10)) 11 (v 11)) 17 0)) C hP hD hS mF_X11_214 (by decide) rfl (Or.inr (gF_up (V := mdV) (F := mdF) (gF_up (V := mdV) (F := mdF) (gR_up (V := mdV) (F := mdF) (gR_up (V := mdV) (F := mdF) (gR_up (V := mdV) (F := mdF) (gR_up (V := mdV) (F := mdF) (gR_up (V := mdV) (F := mdF) (gR_up (V := mdV) (F := mdF) (gR_up (V := mdV) (F := mdF) ⟨hok.1, hok.2⟩ 6 (hP.2.1 6)) 7 (hP.2.1 7)) 8 (hP.2.1 8)) 9 (hP.2.1 9)) 10 (hP.2.1 10)) 11 (hP.2.1 11)) 17 (show 0 ≤ 0 ∧ 0 ≤ 4 from by decide)) 14 (hP.2.2 14)) 16 (hP.2.2 16))) dX11_readKeys_2 (fun H locs hP hS => ?_)
  refine lv_iconst (v := iI 1) hx hb dX11_readKeys_5 rfl ?_
  refine lv_istore_n (lv' := [(1, .int (iI 1)), (0, .ref (ad 0))]) hx hb dX11_readKeys_6 rfl hl (by decide) rfl (fun ls hl => ?_)
  have L_7 : ∀ (n : Nat) (x1 : Int) (y6_7 : Int) (y7_7 : Int) (y8_7 : Int) (y9_7 : Int) (y10_7 : Int) (y11_7 : Int) (y17_7 : Int) (c14_7 : Int → Int) (c16_7 : Int → Int) (d0_7 : Int → Int) (H : Heap) (locs : List Loc) (ls : Array Slot), (v 3) - y9_7 < (n : Int) → (y9_7 ≤ y10_7 ∧ y10_7 ≤ (v 3)) → (y8_7 ≠ 0 → y9_7 < y10_7) → ((v 9) ≤ y9_7) → (0 ≤ x1 ∧ x1 ≤ 1) → gWd D (mdT k ad) (va_up (va_up (va_up (va_up (va_up (va_up (va_up v 6 y6_7) 7 y7_7) 8 y8_7) 9 y9_7) 10 y10_7) 11 y11_7) 17 y17_7) (va_up (va_up f 14 c14_7) 16 c16_7) (va_up g 0 d0_7) H → va_S A s.heap H locs → lv_has ls 4 [(0, .ref (ad 0)), (1, .int (iI x1))] → W p l e (gRm 2 42) s m args below meth c H locs 0 0 Q (F0 m 7 ls []) := by
    intro n
    induction n with
    | zero =>
      intro x1 y6_7 y7_7 y8_7 y9_7 y10_7 y11_7 y17_7 c14_7 c16_7 d0_7 H locs ls hn_7 i7_0 i7_1 i7_2 i7_3 hP hS hl
      have ry6_7 : 0 ≤ y6_7 ∧ y6_7 ≤ 5 := hP.2.1 6
      have ry7_7 : 0 ≤ y7_7 ∧ y7_7 ≤ 700 := hP.2.1 7
      have ry8_7 : 0 ≤ y8_7 ∧ y8_7 ≤ 4 := hP.2.1 8
      have ry9_7 : 0 ≤ y9_7 ∧ y9_7 ≤ 700 := hP.2.1 9
      have ry10_7 : 0 ≤ y10_7 ∧ y10_7 ≤ 700 := hP.2.1 10
      have ry11_7 : 0 ≤ y11_7 ∧ y11_7 ≤ 999999 := hP.2.1 11
      have ry17_7 : 0 ≤ y17_7 ∧ y17_7 ≤ 4 := hP.2.1 17
      exfalso; omega
    | succ n ih_7 =>
      intro x1 y6_7 y7_7 y8_7 y9_7 y10_7 y11_7 y17_7 c14_7 c16_7 d0_7 H locs ls hn_7 i7_0 i7_1 i7_2 i7_3 hP hS hl
      have ry6_7 : 0 ≤ y6_7 ∧ y6_7 ≤ 5 := hP.2.1 6
      have ry7_7 : 0 ≤ y7_7 ∧ y7_7 ≤ 700 := hP.2.1 7
      have ry8_7 : 0 ≤ y8_7 ∧ y8_7 ≤ 4 := hP.2.1 8
      have ry9_7 : 0 ≤ y9_7 ∧ y9_7 ≤ 700 := hP.2.1 9
      have ry10_7 : 0 ≤ y10_7 ∧ y10_7 ≤ 700 := hP.2.1 10
      have ry11_7 : 0 ≤ y11_7 ∧ y11_7 ≤ 999999 := hP.2.1 11
      have ry17_7 : 0 ≤ y17_7 ∧ y17_7 ≤ 4 := hP.2.1 17
      refine lv_iload_n hx hb dX11_readKeys_7 rfl (lv_at hl 1 rfl) ?_
      refine gi_zeq (tgt := 259) hx hb dX11_readKeys_8 (by decide) (by omega) (fun c_8 => ?_) (fun c_8 => ?_)
      · exact g_vret hQ C hr hlocks hP hS dX11_readKeys_259 ⟨y6_7, y7_7, y8_7, y9_7, y10_7, y11_7, y17_7, c14_7, c16_7, d0_7, rfl, rfl, rfl, rfl, (by first | omega | (split <;> omega)), (by first | omega | (split <;> omega))⟩
      · refine lv_aload_n hx hb dX11_readKeys_11 rfl (lv_at hl 0 rfl) ?_
        refine mdG_bad C hP mF_X11_188 dX11_readKeys_12 ?_
        show W p l e (gRm 2 42) s m args below meth c _ _ 0 0 Q (F0 m 15 ls [.int (iI y6_7)])
        have r_9 : 0 ≤ y6_7 ∧ y6_7 ≤ 5 := hP.2.1 6
        refine gi_zne (tgt := 259) hx hb dX11_readKeys_15 (by decide) (by omega) (fun c_10 => ?_) (fun c_10 => ?_)
        · exact g_vret hQ C hr hlocks hP hS dX11_readKeys_259 ⟨y6_7, y7_7, y8_7, y9_7, y10_7, y11_7, y17_7, c14_7, c16_7, d0_7, rfl, rfl, rfl, rfl, (by first | omega | (split <;> omega)), (by first | omega | (split <;> omega))⟩
        · refine lv_aload_n hx hb dX11_readKeys_18 rfl (lv_at hl 0 rfl) ?_
          refine lv_bipush (v := iI 117) hx hb dX11_readKeys_19 (by decide) ?_
          refine lv_bipush (v := iI 112) hx hb dX11_readKeys_21 (by decide) ?_
          refine lv_iconst (v := iI 0) hx hb dX11_readKeys_23 rfl ?_
          refine lv_iconst (v := iI 0) hx hb dX11_readKeys_24 rfl ?_
          refine lv_iconst (v := iI 0) hx hb dX11_readKeys_25 rfl ?_
          refine lv_iconst (v := iI 0) hx hb dX11_readKeys_26 rfl ?_
          refine lv_iconst (v := iI 0) hx hb dX11_readKeys_27 rfl ?_
          refine g_cs (As := [.int (iI 117), .int (iI 112), .int (iI 0), .int (iI 0), .int (iI 0), .int (iI 0), .int (iI 0)]) (rest := [.ref (ad 0)]) (n := 7) C hml (m_X11_spelled l D k A ad hD (va_up (va_up (va_up (va_up (va_up (va_up (va_up v 6 y6_7) 7 y7_7) 8 y8_7) 9 y9_7) 10 y10_7) 11 y11_7) 17 y17_7) (va_up (va_up f 14 c14_7) 16 c16_7) (va_up g 0 d0_7) 117 112 0 0 0 0 0 (by decide) (by decide) (by decide) (by decide) (by decide) (by decide) (by decide)) mM_X11_228 mS_X11_spelled mN_X11 mC_X11_spelled (by decide +kernel) hP hS (fun _ h => h) ⟨Nat.le_of_ble_eq_true rfl, Nat.le_of_ble_eq_true rfl⟩ ⟨Nat.zero_le _, Nat.zero_le _⟩ hl.1 rfl rfl (Nat.le_of_ble_eq_true rfl) dX11_readKeys_28 (fun r_11 v_11 f_11 g_11 H locs hq_11 hP _ hS => ?_)
          obtain ⟨z_11, rfl, rfl, rfl, rfl⟩ := hq_11
          show W p l e (gRm 2 42) s m args below meth c _ _ 0 0 Q (F0 m 31 ls [.long (iL z_11), .ref (ad 0)])
          refine g_cv (As := [.long (iL z_11)]) (rest := []) (n := 1) C hml (m_X11_isWord l D k A ad hD (va_up (va_up (va_up (va_up (va_up (va_up (va_up v 6 y6_7) 7 y7_7) 8 y8_7) 9 y9_7) 10 y10_7) 11 y11_7) 17 y17_7) (va_up (va_up f 14 c14_7) 16 c16_7) (va_up g 0 d0_7) z_11) mM_X11_232 mI_X11_isWord mE_X11_isWord mN_X11 mC_X11_isWord (by decide +kernel) 0 (ci := 11) rfl rfl hP hS (fun _ h => h) ⟨Nat.le_of_ble_eq_true rfl, Nat.le_of_ble_eq_true rfl⟩ ⟨Nat.zero_le _, Nat.zero_le _⟩ hl.1 rfl rfl (Nat.le_of_ble_eq_true rfl) dX11_readKeys_31 (fun r_12 v_12 f_12 g_12 H locs hq_12 hP _ hS => ?_)
          obtain ⟨z_12, rfl, rfl, rfl, rfl, p0_12, p1_12⟩ := hq_12
          show W p l e (gRm 2 42) s m args below meth c _ _ 0 0 Q (F0 m 34 ls [.int (iI z_12)])
          replace p0_12 : 0 ≤ z_12 ∧ z_12 ≤ 1 := p0_12
          replace p1_12 : z_12 = 1 → y8_7 = 1 := p1_12
          refine lv_istore_n (lv' := [(2, .int (iI z_12)), (0, .ref (ad 0)), (1, .int (iI x1))]) hx hb dX11_readKeys_34 rfl hl (by decide) rfl (fun ls hl => ?_)
          refine lv_iload_n hx hb dX11_readKeys_35 rfl (lv_at hl 0 rfl) ?_
          refine gi_zne (tgt := 67) hx hb dX11_readKeys_36 (by decide) (by omega) (fun c_13 => ?_) (fun c_13 => ?_)
          · refine lv_aload_n hx hb dX11_readKeys_67 rfl (lv_at hl 1 rfl) ?_
            refine mdG_newKeys C hP mF_X11_214 dX11_readKeys_68 ?_
            show W p l e (gRm 2 42) s m args below meth c _ _ 0 0 Q (F0 m 71 ls [.int (iI y17_7)])
            have r_14 : 0 ≤ y17_7 ∧ y17_7 ≤ 4 := hP.2.1 17
            refine lv_iconst (v := iI 4) hx hb dX11_readKeys_71 rfl ?_
            refine gi_cne (tgt := 84) hx hb dX11_readKeys_72 (by decide) (by omega) (by decide) (fun c_15 => ?_) (fun c_15 => ?_)
            · refine lv_aload_n hx hb dX11_readKeys_84 rfl (lv_at hl 1 rfl) ?_
              refine mdG_bad C hP mF_X11_188 dX11_readKeys_85 ?_
              show W p l e (gRm 2 42) s m args below meth c _ _ 0 0 Q (F0 m 88 ls [.int (iI y6_7)])
              refine gi_zle (tgt := 92) hx hb dX11_readKeys_88 (by decide) (by omega) (fun c_16 => ?_) (fun c_16 => ?_)
              · refine lv_aload_n hx hb dX11_readKeys_92 rfl (lv_at hl 1 rfl) ?_
                refine g_cv (As := []) (rest := []) (n := 0) C hml (m_X11_next l D k A ad hD (va_up (va_up (va_up (va_up (va_up (va_up (va_up v 6 y6_7) 7 y7_7) 8 y8_7) 9 y9_7) 10 y10_7) 11 y11_7) 17 y17_7) (va_up (va_up f 14 c14_7) 16 c16_7) (va_up g 0 d0_7) (show y10_7 ≤ (v 3) from by omega)) mM_X11_201 mI_X11_next mE_X11_next mN_X11 mC_X11_next (by decide +kernel) 0 (ci := 11) rfl rfl hP hS (fun _ h => h) ⟨Nat.le_of_ble_eq_true rfl, Nat.le_of_ble_eq_true rfl⟩ ⟨Nat.zero_le _, Nat.zero_le _⟩ hl.1 rfl rfl (Nat.le_of_ble_eq_true rfl) dX11_readKeys_93 (fun r_17 v_17 f_17 g_17 H locs hq_17 hP _ hS => ?_)
                obtain ⟨w8_17, w9_17, w10_17, w11_17, b0_17, rfl, rfl, rfl, rfl, p0_17, p1_17⟩ := hq_17
                show W p l e (gRm 2 42) s m args below meth c _ _ 0 0 Q (F0 m 96 ls [])
                have hP : gWd D (mdT k ad) (va_up (va_up (va_up (va_up (va_up (va_up (va_up v 6 y6_7) 7 y7_7) 8 w8_17) 9 w9_17) 10 w10_17) 11 w11_17) 17 y17_7) (va_up (va_up f 14 c14_7) 16 c16_7) (va_up g 0 b0_17) H := ⟨hP.1, (gF_up (V := mdV) (F := mdF) (gF_up (V := mdV) (F := mdF) (gR_up (V := mdV) (F := mdF) (gR_up (V := mdV) (F := mdF) (gR_up (V := mdV) (F := mdF) (gR_up (V := mdV) (F := mdF) (gR_up (V := mdV) (F := mdF) (gR_up (V := mdV) (F := mdF) (gR_up (V := mdV) (F := mdF) ⟨hok.1, hok.2⟩ 6 (hP.2.1 6)) 7 (hP.2.1 7)) 8 (hP.2.1 8)) 9 (hP.2.1 9)) 10 (hP.2.1 10)) 11 (hP.2.1 11)) 17 (hP.2.1 17)) 14 (hP.2.2 14)) 16 (hP.2.2 16))⟩
                replace p0_17 : y10_7 ≤ w9_17 ∧ w9_17 ≤ w10_17 ∧ w10_17 ≤ (v 3) := p0_17
                replace p1_17 : w8_17 ≠ 0 → w9_17 < w10_17 := p1_17
                have rw8_17 : 0 ≤ w8_17 ∧ w8_17 ≤ 4 := hP.2.1 8
                have rw9_17 : 0 ≤ w9_17 ∧ w9_17 ≤ 700 := hP.2.1 9
                have rw10_17 : 0 ≤ w10_17 ∧ w10_17 ≤ 700 := hP.2.1 10
                have rw11_17 : 0 ≤ w11_17 ∧ w11_17 ≤ 999999 := hP.2.1 11
                refine lv_aload_n hx hb dX11_readKeys_96 rfl (lv_at hl 1 rfl) ?_
                refine lv_bipush (v := iI 115) hx hb dX11_readKeys_97 (by decide) ?_
                refine lv_bipush (v := iI 117) hx hb dX11_readKeys_99 (by decide) ?_
                refine lv_bipush (v := iI 109) hx hb dX11_readKeys_101 (by decide) ?_
                refine lv_iconst (v := iI 0) hx hb dX11_readKeys_103 rfl ?_
                refine lv_iconst (v := iI 0) hx hb dX11_readKeys_104 rfl ?_
                refine lv_iconst (v := iI 0) hx hb dX11_readKeys_105 rfl ?_
                refine lv_iconst (v := iI 0) hx hb dX11_readKeys_106 rfl ?_
                refine g_cs (As := [.int (iI 115), .int (iI 117), .int (iI 109), .int (iI 0), .int (iI 0), .int (iI 0), .int (iI 0)]) (rest := [.ref (ad 0)]) (n := 7) C hml (m_X11_spelled l D k A ad hD (va_up (va_up (va_up (va_up (va_up (va_up (va_up v 6 y6_7) 7 y7_7) 8 w8_17) 9 w9_17) 10 w10_17) 11 w11_17) 17 y17_7) (va_up (va_up f 14 c14_7) 16 c16_7) (va_up g 0 b0_17) 115 117 109 0 0 0 0 (by decide) (by decide) (by decide) (by decide) (by decide) (by decide) (by decide)) mM_X11_228 mS_X11_spelled mN_X11 mC_X11_spelled (by decide +kernel) hP hS (fun _ h => h) ⟨Nat.le_of_ble_eq_true rfl, Nat.le_of_ble_eq_true rfl⟩ ⟨Nat.zero_le _, Nat.zero_le _⟩ hl.1 rfl rfl (Nat.le_of_ble_eq_true rfl) dX11_readKeys_107 (fun r_18 v_18 f_18 g_18 H locs hq_18 hP _ hS => ?_)
                obtain ⟨z_18, rfl, rfl, rfl, rfl⟩ := hq_18
                show W p l e (gRm 2 42) s m args below meth c _ _ 0 0 Q (F0 m 110 ls [.long (iL z_18), .ref (ad 0)])
                refine g_cv (As := [.long (iL z_18)]) (rest := []) (n := 1) C hml (m_X11_isWord l D k A ad hD (va_up (va_up (va_up (va_up (va_up (va_up (va_up v 6 y6_7) 7 y7_7) 8 w8_17) 9 w9_17) 10 w10_17) 11 w11_17) 17 y17_7) (va_up (va_up f 14 c14_7) 16 c16_7) (va_up g 0 b0_17) z_18) mM_X11_232 mI_X11_isWord mE_X11_isWord mN_X11 mC_X11_isWord (by decide +kernel) 0 (ci := 11) rfl rfl hP hS (fun _ h => h) ⟨Nat.le_of_ble_eq_true rfl, Nat.le_of_ble_eq_true rfl⟩ ⟨Nat.zero_le _, Nat.zero_le _⟩ hl.1 rfl rfl (Nat.le_of_ble_eq_true rfl) dX11_readKeys_110 (fun r_19 v_19 f_19 g_19 H locs hq_19 hP _ hS => ?_)
                obtain ⟨z_19, rfl, rfl, rfl, rfl, p0_19, p1_19⟩ := hq_19
                show W p l e (gRm 2 42) s m args below meth c _ _ 0 0 Q (F0 m 113 ls [.int (iI z_19)])
                replace p0_19 : 0 ≤ z_19 ∧ z_19 ≤ 1 := p0_19
                replace p1_19 : z_19 = 1 → w8_17 = 1 := p1_19
                refine gi_zeq (tgt := 120) hx hb dX11_readKeys_113 (by decide) (by omega) (fun c_20 => ?_) (fun c_20 => ?_)
                · refine lv_aload_n hx hb dX11_readKeys_120 rfl (lv_at hl 1 rfl) ?_
                  refine lv_bipush (v := iI 109) hx hb dX11_readKeys_121 (by decide) ?_
                  refine lv_bipush (v := iI 111) hx hb dX11_readKeys_123 (by decide) ?_
                  refine lv_bipush (v := iI 115) hx hb dX11_readKeys_125 (by decide) ?_
                  refine lv_bipush (v := iI 116) hx hb dX11_readKeys_127 (by decide) ?_
                  refine lv_iconst (v := iI 0) hx hb dX11_readKeys_129 rfl ?_
                  refine lv_iconst (v := iI 0) hx hb dX11_readKeys_130 rfl ?_
                  refine lv_iconst (v := iI 0) hx hb dX11_readKeys_131 rfl ?_
                  refine g_cs (As := [.int (iI 109), .int (iI 111), .int (iI 115), .int (iI 116), .int (iI 0), .int (iI 0), .int (iI 0)]) (rest := [.ref (ad 0)]) (n := 7) C hml (m_X11_spelled l D k A ad hD (va_up (va_up (va_up (va_up (va_up (va_up (va_up v 6 y6_7) 7 y7_7) 8 w8_17) 9 w9_17) 10 w10_17) 11 w11_17) 17 y17_7) (va_up (va_up f 14 c14_7) 16 c16_7) (va_up g 0 b0_17) 109 111 115 116 0 0 0 (by decide) (by decide) (by decide) (by decide) (by decide) (by decide) (by decide)) mM_X11_228 mS_X11_spelled mN_X11 mC_X11_spelled (by decide +kernel) hP hS (fun _ h => h) ⟨Nat.le_of_ble_eq_true rfl, Nat.le_of_ble_eq_true rfl⟩ ⟨Nat.zero_le _, Nat.zero_le _⟩ hl.1 rfl rfl (Nat.le_of_ble_eq_true rfl) dX11_readKeys_132 (fun r_21 v_21 f_21 g_21 H locs hq_21 hP _ hS => ?_)
                  obtain ⟨z_21, rfl, rfl, rfl, rfl⟩ := hq_21
                  show W p l e (gRm 2 42) s m args below meth c _ _ 0 0 Q (F0 m 135 ls [.long (iL z_21), .ref (ad 0)])
                  refine g_cv (As := [.long (iL z_21)]) (rest := []) (n := 1) C hml (m_X11_isWord l D k A ad hD (va_up (va_up (va_up (va_up (va_up (va_up (va_up v 6 y6_7) 7 y7_7) 8 w8_17) 9 w9_17) 10 w10_17) 11 w11_17) 17 y17_7) (va_up (va_up f 14 c14_7) 16 c16_7) (va_up g 0 b0_17) z_21) mM_X11_232 mI_X11_isWord mE_X11_isWord mN_X11 mC_X11_isWord (by decide +kernel) 0 (ci := 11) rfl rfl hP hS (fun _ h => h) ⟨Nat.le_of_ble_eq_true rfl, Nat.le_of_ble_eq_true rfl⟩ ⟨Nat.zero_le _, Nat.zero_le _⟩ hl.1 rfl rfl (Nat.le_of_ble_eq_true rfl) dX11_readKeys_135 (fun r_22 v_22 f_22 g_22 H locs hq_22 hP _ hS => ?_)
                  obtain ⟨z_22, rfl, rfl, rfl, rfl, p0_22, p1_22⟩ := hq_22
                  show W p l e (gRm 2 42) s m args below meth c _ _ 0 0 Q (F0 m 138 ls [.int (iI z_22)])
                  replace p0_22 : 0 ≤ z_22 ∧ z_22 ≤ 1 := p0_22
                  replace p1_22 : z_22 = 1 → w8_17 = 1 := p1_22
                  refine gi_zeq (tgt := 145) hx hb dX11_readKeys_138 (by decide) (by omega) (fun c_23 => ?_) (fun c_23 => ?_)
                  · refine lv_aload_n hx hb dX11_readKeys_145 rfl (lv_at hl 1 rfl) ?_
                    refine lv_bipush (v := iI 116) hx hb dX11_readKeys_146 (by decide) ?_
                    refine lv_bipush (v := iI 111) hx hb dX11_readKeys_148 (by decide) ?_
                    refine lv_bipush (v := iI 112) hx hb dX11_readKeys_150 (by decide) ?_
                    refine lv_bipush (v := iI 115) hx hb dX11_readKeys_152 (by decide) ?_
                    refine lv_iconst (v := iI 0) hx hb dX11_readKeys_154 rfl ?_
                    refine lv_iconst (v := iI 0) hx hb dX11_readKeys_155 rfl ?_
                    refine lv_iconst (v := iI 0) hx hb dX11_readKeys_156 rfl ?_
                    refine g_cs (As := [.int (iI 116), .int (iI 111), .int (iI 112), .int (iI 115), .int (iI 0), .int (iI 0), .int (iI 0)]) (rest := [.ref (ad 0)]) (n := 7) C hml (m_X11_spelled l D k A ad hD (va_up (va_up (va_up (va_up (va_up (va_up (va_up v 6 y6_7) 7 y7_7) 8 w8_17) 9 w9_17) 10 w10_17) 11 w11_17) 17 y17_7) (va_up (va_up f 14 c14_7) 16 c16_7) (va_up g 0 b0_17) 116 111 112 115 0 0 0 (by decide) (by decide) (by decide) (by decide) (by decide) (by decide) (by decide)) mM_X11_228 mS_X11_spelled mN_X11 mC_X11_spelled (by decide +kernel) hP hS (fun _ h => h) ⟨Nat.le_of_ble_eq_true rfl, Nat.le_of_ble_eq_true rfl⟩ ⟨Nat.zero_le _, Nat.zero_le _⟩ hl.1 rfl rfl (Nat.le_of_ble_eq_true rfl) dX11_readKeys_157 (fun r_24 v_24 f_24 g_24 H locs hq_24 hP _ hS => ?_)
                    obtain ⟨z_24, rfl, rfl, rfl, rfl⟩ := hq_24
                    show W p l e (gRm 2 42) s m args below meth c _ _ 0 0 Q (F0 m 160 ls [.long (iL z_24), .ref (ad 0)])
                    refine g_cv (As := [.long (iL z_24)]) (rest := []) (n := 1) C hml (m_X11_isWord l D k A ad hD (va_up (va_up (va_up (va_up (va_up (va_up (va_up v 6 y6_7) 7 y7_7) 8 w8_17) 9 w9_17) 10 w10_17) 11 w11_17) 17 y17_7) (va_up (va_up f 14 c14_7) 16 c16_7) (va_up g 0 b0_17) z_24) mM_X11_232 mI_X11_isWord mE_X11_isWord mN_X11 mC_X11_isWord (by decide +kernel) 0 (ci := 11) rfl rfl hP hS (fun _ h => h) ⟨Nat.le_of_ble_eq_true rfl, Nat.le_of_ble_eq_true rfl⟩ ⟨Nat.zero_le _, Nat.zero_le _⟩ hl.1 rfl rfl (Nat.le_of_ble_eq_true rfl) dX11_readKeys_160 (fun r_25 v_25 f_25 g_25 H locs hq_25 hP _ hS => ?_)
                    obtain ⟨z_25, rfl, rfl, rfl, rfl, p0_25, p1_25⟩ := hq_25
                    show W p l e (gRm 2 42) s m args below meth c _ _ 0 0 Q (F0 m 163 ls [.int (iI z_25)])
                    replace p0_25 : 0 ≤ z_25 ∧ z_25 ≤ 1 := p0_25
                    replace p1_25 : z_25 = 1 → w8_17 = 1 := p1_25
                    refine gi_zeq (tgt := 170) hx hb dX11_readKeys_163 (by decide) (by omega) (fun c_26 => ?_) (fun c_26 => ?_)
                    · refine lv_aload_n hx hb dX11_readKeys_170 rfl (lv_at hl 1 rfl) ?_
                      refine lv_bipush (v := iI 122) hx hb dX11_readKeys_171 (by decide) ?_
                      refine lv_bipush (v := iI 111) hx hb dX11_readKeys_173 (by decide) ?_
                      refine lv_bipush (v := iI 110) hx hb dX11_readKeys_175 (by decide) ?_
                      refine lv_bipush (v := iI 101) hx hb dX11_readKeys_177 (by decide) ?_
                      refine lv_bipush (v := iI 115) hx hb dX11_readKeys_179 (by decide) ?_
                      refine lv_iconst (v := iI 0) hx hb dX11_readKeys_181 rfl ?_
                      refine lv_iconst (v := iI 0) hx hb dX11_readKeys_182 rfl ?_
                      refine g_cs (As := [.int (iI 122), .int (iI 111), .int (iI 110), .int (iI 101), .int (iI 115), .int (iI 0), .int (iI 0)]) (rest := [.ref (ad 0)]) (n := 7) C hml (m_X11_spelled l D k A ad hD (va_up (va_up (va_up (va_up (va_up (va_up (va_up v 6 y6_7) 7 y7_7) 8 w8_17) 9 w9_17) 10 w10_17) 11 w11_17) 17 y17_7) (va_up (va_up f 14 c14_7) 16 c16_7) (va_up g 0 b0_17) 122 111 110 101 115 0 0 (by decide) (by decide) (by decide) (by decide) (by decide) (by decide) (by decide)) mM_X11_228 mS_X11_spelled mN_X11 mC_X11_spelled (by decide +kernel) hP hS (fun _ h => h) ⟨Nat.le_of_ble_eq_true rfl, Nat.le_of_ble_eq_true rfl⟩ ⟨Nat.zero_le _, Nat.zero_le _⟩ hl.1 rfl rfl (Nat.le_of_ble_eq_true rfl) dX11_readKeys_183 (fun r_27 v_27 f_27 g_27 H locs hq_27 hP _ hS => ?_)
                      obtain ⟨z_27, rfl, rfl, rfl, rfl⟩ := hq_27
                      show W p l e (gRm 2 42) s m args below meth c _ _ 0 0 Q (F0 m 186 ls [.long (iL z_27), .ref (ad 0)])
                      refine g_cv (As := [.long (iL z_27)]) (rest := []) (n := 1) C hml (m_X11_isWord l D k A ad hD (va_up (va_up (va_up (va_up (va_up (va_up (va_up v 6 y6_7) 7 y7_7) 8 w8_17) 9 w9_17) 10 w10_17) 11 w11_17) 17 y17_7) (va_up (va_up f 14 c14_7) 16 c16_7) (va_up g 0 b0_17) z_27) mM_X11_232 mI_X11_isWord mE_X11_isWord mN_X11 mC_X11_isWord (by decide +kernel) 0 (ci := 11) rfl rfl hP hS (fun _ h => h) ⟨Nat.le_of_ble_eq_true rfl, Nat.le_of_ble_eq_true rfl⟩ ⟨Nat.zero_le _, Nat.zero_le _⟩ hl.1 rfl rfl (Nat.le_of_ble_eq_true rfl) dX11_readKeys_186 (fun r_28 v_28 f_28 g_28 H locs hq_28 hP _ hS => ?_)
                      obtain ⟨z_28, rfl, rfl, rfl, rfl, p0_28, p1_28⟩ := hq_28
                      show W p l e (gRm 2 42) s m args below meth c _ _ 0 0 Q (F0 m 189 ls [.int (iI z_28)])
                      replace p0_28 : 0 ≤ z_28 ∧ z_28 ≤ 1 := p0_28
                      replace p1_28 : z_28 = 1 → w8_17 = 1 := p1_28
                      refine gi_zeq (tgt := 196) hx hb dX11_readKeys_189 (by decide) (by omega) (fun c_29 => ?_) (fun c_29 => ?_)
                      · refine lv_iconst (v := iI (-1)) hx hb dX11_readKeys_196 rfl ?_
                        refine lv_istore_n (lv' := [(3, .int (iI (-1))), (2, .int (iI z_12)), (0, .ref (ad 0)), (1, .int (iI x1))]) hx hb dX11_readKeys_197 rfl hl (by decide) rfl (fun ls hl => ?_)
                        refine lv_iload_n hx hb dX11_readKeys_198 rfl (lv_at hl 0 rfl) ?_
                        refine gi_zge (tgt := 207) hx hb dX11_readKeys_199 (by decide) (by decide) (fun c_30 => ?_) (fun c_30 => ?_)
                        · exfalso; omega
                        · refine lv_aload_n hx hb dX11_readKeys_202 rfl (lv_at hl 2 rfl) ?_
                          refine g_cv (As := []) (rest := []) (n := 0) C hml (m_X11_wrong l D k A ad hD (va_up (va_up (va_up (va_up (va_up (va_up (va_up v 6 y6_7) 7 y7_7) 8 w8_17) 9 w9_17) 10 w10_17) 11 w11_17) 17 y17_7) (va_up (va_up f 14 c14_7) 16 c16_7) (va_up g 0 b0_17)) mM_X11_198 mI_X11_wrong mE_X11_wrong mN_X11 mC_X11_wrong (by decide +kernel) 0 (ci := 11) rfl rfl hP hS (fun _ h => h) ⟨Nat.le_of_ble_eq_true rfl, Nat.le_of_ble_eq_true rfl⟩ ⟨Nat.zero_le _, Nat.zero_le _⟩ hl.1 rfl rfl (Nat.le_of_ble_eq_true rfl) dX11_readKeys_203 (fun r_31 v_31 f_31 g_31 H locs hq_31 hP _ hS => ?_)
                          obtain ⟨w6_31, w7_31, rfl, rfl, rfl, rfl, p0_31⟩ := hq_31
                          show W p l e (gRm 2 42) s m args below meth c _ _ 0 0 Q (F0 m 206 ls [])
                          have hP : gWd D (mdT k ad) (va_up (va_up (va_up (va_up (va_up (va_up (va_up v 6 w6_31) 7 w7_31) 8 w8_17) 9 w9_17) 10 w10_17) 11 w11_17) 17 y17_7) (va_up (va_up f 14 c14_7) 16 c16_7) (va_up g 0 b0_17) H := ⟨hP.1, (gF_up (V := mdV) (F := mdF) (gF_up (V := mdV) (F := mdF) (gR_up (V := mdV) (F := mdF) (gR_up (V := mdV) (F := mdF) (gR_up (V := mdV) (F := mdF) (gR_up (V := mdV) (F := mdF) (gR_up (V := mdV) (F := mdF) (gR_up (V := mdV) (F := mdF) (gR_up (V := mdV) (F := mdF) ⟨hok.1, hok.2⟩ 6 (hP.2.1 6)) 7 (hP.2.1 7)) 8 (hP.2.1 8)) 9 (hP.2.1 9)) 10 (hP.2.1 10)) 11 (hP.2.1 11)) 17 (hP.2.1 17)) 14 (hP.2.2 14)) 16 (hP.2.2 16))⟩
                          replace p0_31 : 0 < w6_31 := p0_31
                          have rw6_31 : 0 ≤ w6_31 ∧ w6_31 ≤ 5 := hP.2.1 6
                          have rw7_31 : 0 ≤ w7_31 ∧ w7_31 ≤ 700 := hP.2.1 7
                          exact g_vret hQ C hr hlocks hP hS dX11_readKeys_206 ⟨w6_31, w7_31, w8_17, w9_17, w10_17, w11_17, y17_7, c14_7, c16_7, b0_17, rfl, rfl, rfl, rfl, (by first | omega | (split <;> omega)), (by first | omega | (split <;> omega))⟩
                      · refine lv_iconst (v := iI 3) hx hb dX11_readKeys_192 rfl ?_
                        refine lv_goto (tgt := 197) hx hb dX11_readKeys_193 (by decide) ?_
                        refine lv_istore_n (lv' := [(3, .int (iI 3)), (2, .int (iI z_12)), (0, .ref (ad 0)), (1, .int (iI x1))]) hx hb dX11_readKeys_197 rfl hl (by decide) rfl (fun ls hl => ?_)
                        refine lv_iload_n hx hb dX11_readKeys_198 rfl (lv_at hl 0 rfl) ?_
                        refine gi_zge (tgt := 207) hx hb dX11_readKeys_199 (by decide) (by decide) (fun c_32 => ?_) (fun c_32 => ?_)
                        · refine lv_aload_n hx hb dX11_readKeys_207 rfl (lv_at hl 2 rfl) ?_
                          refine mdG_newUp C hP mF_X11_67 dX11_readKeys_208 ?_
                          refine lv_aload_n hx hb dX11_readKeys_211 rfl (lv_at hl 2 rfl) ?_
                          refine mdG_newKeys C hP mF_X11_214 dX11_readKeys_212 ?_
                          show W p l e (gRm 2 42) s m args below meth c _ _ 0 0 Q (F0 m 215 ls [.int (iI y17_7), .ref (ad 17)])
                          refine lv_iload_n hx hb dX11_readKeys_215 rfl (lv_at hl 1 rfl) ?_
                          refine mdS_newUp (f1 := (va_up (va_up f 14 c14_7) 16 (u1 c16_7 y17_7 z_12))) C hP hD hS (by omega) (by omega) (by omega) (by omega) rfl (Or.inr (gF_up (V := mdV) (F := mdF) (gF_up (V := mdV) (F := mdF) (gR_up (V := mdV) (F := mdF) (gR_up (V := mdV) (F := mdF) (gR_up (V := mdV) (F := mdF) (gR_up (V := mdV) (F := mdF) (gR_up (V := mdV) (F := mdF) (gR_up (V := mdV) (F := mdF) (gR_up (V := mdV) (F := mdF) ⟨hok.1, hok.2⟩ 6 (hP.2.1 6)) 7 (hP.2.1 7)) 8 (hP.2.1 8)) 9 (hP.2.1 9)) 10 (hP.2.1 10)) 11 (hP.2.1 11)) 17 (hP.2.1 17)) 14 (hP.2.2 14)) 16 (u1_rng (hP.2.2 16) (show 0 ≤ z_12 ∧ z_12 ≤ 1 from (by omega))))) dX11_readKeys_216 (fun H locs hP hS => ?_)
                          refine lv_aload_n hx hb dX11_readKeys_217 rfl (lv_at hl 2 rfl) ?_
                          refine mdG_newKey C hP mF_X11_60 dX11_readKeys_218 ?_
                          refine lv_aload_n hx hb dX11_readKeys_221 rfl (lv_at hl 2 rfl) ?_
                          refine mdG_newKeys C hP mF_X11_214 dX11_readKeys_222 ?_
                          show W p l e (gRm 2 42) s m args below meth c _ _ 0 0 Q (F0 m 225 ls [.int (iI y17_7), .ref (ad 15)])
                          refine lv_iload_n hx hb dX11_readKeys_225 rfl (lv_at hl 0 rfl) ?_
                          refine mdS_newKey (f1 := (va_up (va_up f 14 (u1 c14_7 y17_7 3)) 16 (u1 c16_7 y17_7 z_12))) C hP hD hS (by omega) (by omega) (by decide) rfl (Or.inr (gF_up (V := mdV) (F := mdF) (gF_up (V := mdV) (F := mdF) (gR_up (V := mdV) (F := mdF) (gR_up (V := mdV) (F := mdF) (gR_up (V := mdV) (F := mdF) (gR_up (V := mdV) (F := mdF) (gR_up (V := mdV) (F := mdF) (gR_up (V := mdV) (F := mdF) (gR_up (V := mdV) (F := mdF) ⟨hok.1, hok.2⟩ 6 (hP.2.1 6)) 7 (hP.2.1 7)) 8 (hP.2.1 8)) 9 (hP.2.1 9)) 10 (hP.2.1 10)) 11 (hP.2.1 11)) 17 (hP.2.1 17)) 14 (u1_rng (hP.2.2 14) (show 0 ≤ 3 ∧ 3 ≤ 3 from (by decide)))) 16 (hP.2.2 16))) dX11_readKeys_226 (fun H locs hP hS => ?_)
                          refine lv_aload_n hx hb dX11_readKeys_227 rfl (lv_at hl 2 rfl) ?_
                          refine lv_dup hx hb dX11_readKeys_228 rfl ?_
                          refine mdG_newKeys C hP mF_X11_214 dX11_readKeys_229 ?_
                          show W p l e (gRm 2 42) s m args below meth c _ _ 0 0 Q (F0 m 232 ls [.int (iI y17_7), .ref (ad 0)])
                          refine lv_iconst (v := iI 1) hx hb dX11_readKeys_232 rfl ?_
                          refine gi_add (z := (y17_7 + 1)) hx hb dX11_readKeys_233 rfl ?_
                          refine mdP_newKeys (v1 := (va_up (va_up (va_up (va_up (va_up (va_up (va_up v 6 y6_7) 7 y7_7) 8 w8_17) 9 w9_17) 10 w10_17) 11 w11_17) 17 (y17_7 + 1))) C hP hD hS mF_X11_214 (by omega) rfl (Or.inr (gF_up (V := mdV) (F := mdF) (gF_up (V := mdV) (F := mdF) (gR_up (V := mdV) (F := mdF) (gR_up (V := mdV) (F := mdF) (gR_up (V := mdV) (F := mdF) (gR_up (V := mdV) (F := mdF) (gR_up (V := mdV) (F := mdF) (gR_up (V := mdV) (F := mdF) (gR_up (V := mdV) (F := mdF) ⟨hok.1, hok.2⟩ 6 (hP.2.1 6)) 7 (hP.2.1 7)) 8 (hP.2.1 8)) 9 (hP.2.1 9)) 10 (hP.2.1 10)) 11 (hP.2.1 11)) 17 (show 0 ≤ (y17_7 + 1) ∧ (y17_7 + 1) ≤ 4 from by omega)) 14 (hP.2.2 14)) 16 (hP.2.2 16))) dX11_readKeys_234 (fun H locs hP hS => ?_)
                          refine lv_aload_n hx hb dX11_readKeys_237 rfl (lv_at hl 2 rfl) ?_
                          refine g_cv (As := []) (rest := []) (n := 0) C hml (m_X11_next l D k A ad hD (va_up (va_up (va_up (va_up (va_up (va_up (va_up v 6 y6_7) 7 y7_7) 8 w8_17) 9 w9_17) 10 w10_17) 11 w11_17) 17 (y17_7 + 1)) (va_up (va_up f 14 (u1 c14_7 y17_7 3)) 16 (u1 c16_7 y17_7 z_12)) (va_up g 0 b0_17) (show w10_17 ≤ (v 3) from by omega)) mM_X11_201 mI_X11_next mE_X11_next mN_X11 mC_X11_next (by decide +kernel) 0 (ci := 11) rfl rfl hP hS (fun _ h => h) ⟨Nat.le_of_ble_eq_true rfl, Nat.le_of_ble_eq_true rfl⟩ ⟨Nat.zero_le _, Nat.zero_le _⟩ hl.1 rfl rfl (Nat.le_of_ble_eq_true rfl) dX11_readKeys_238 (fun r_33 v_33 f_33 g_33 H locs hq_33 hP _ hS => ?_)
                          obtain ⟨w8_33, w9_33, w10_33, w11_33, b0_33, rfl, rfl, rfl, rfl, p0_33, p1_33⟩ := hq_33
                          show W p l e (gRm 2 42) s m args below meth c _ _ 0 0 Q (F0 m 241 ls [])
                          have hP : gWd D (mdT k ad) (va_up (va_up (va_up (va_up (va_up (va_up (va_up v 6 y6_7) 7 y7_7) 8 w8_33) 9 w9_33) 10 w10_33) 11 w11_33) 17 (y17_7 + 1)) (va_up (va_up f 14 (u1 c14_7 y17_7 3)) 16 (u1 c16_7 y17_7 z_12)) (va_up g 0 b0_33) H := ⟨hP.1, (gF_up (V := mdV) (F := mdF) (gF_up (V := mdV) (F := mdF) (gR_up (V := mdV) (F := mdF) (gR_up (V := mdV) (F := mdF) (gR_up (V := mdV) (F := mdF) (gR_up (V := mdV) (F := mdF) (gR_up (V := mdV) (F := mdF) (gR_up (V := mdV) (F := mdF) (gR_up (V := mdV) (F := mdF) ⟨hok.1, hok.2⟩ 6 (hP.2.1 6)) 7 (hP.2.1 7)) 8 (hP.2.1 8)) 9 (hP.2.1 9)) 10 (hP.2.1 10)) 11 (hP.2.1 11)) 17 (hP.2.1 17)) 14 (hP.2.2 14)) 16 (hP.2.2 16))⟩
                          replace p0_33 : w10_17 ≤ w9_33 ∧ w9_33 ≤ w10_33 ∧ w10_33 ≤ (v 3) := p0_33
                          replace p1_33 : w8_33 ≠ 0 → w9_33 < w10_33 := p1_33
                          have rw8_33 : 0 ≤ w8_33 ∧ w8_33 ≤ 4 := hP.2.1 8
                          have rw9_33 : 0 ≤ w9_33 ∧ w9_33 ≤ 700 := hP.2.1 9
                          have rw10_33 : 0 ≤ w10_33 ∧ w10_33 ≤ 700 := hP.2.1 10
                          have rw11_33 : 0 ≤ w11_33 ∧ w11_33 ≤ 999999 := hP.2.1 11
                          refine lv_aload_n hx hb dX11_readKeys_241 rfl (lv_at hl 2 rfl) ?_
                          refine lv_bipush (v := iI 44) hx hb dX11_readKeys_242 (by decide) ?_
                          refine g_cv (As := [.int (iI 44)]) (rest := []) (n := 1) C hml (m_X11_isSign l D k A ad hD (va_up (va_up (va_up (va_up (va_up (va_up (va_up v 6 y6_7) 7 y7_7) 8 w8_33) 9 w9_33) 10 w10_33) 11 w11_33) 17 (y17_7 + 1)) (va_up (va_up f 14 (u1 c14_7 y17_7 3)) 16 (u1 c16_7 y17_7 z_12)) (va_up g 0 b0_33) 44 (by decide)) mM_X11_204 mI_X11_isSign mE_X11_isSign mN_X11 mC_X11_isSign (by decide +kernel) 0 (ci := 11) rfl rfl hP hS (fun _ h => h) ⟨Nat.le_of_ble_eq_true rfl, Nat.le_of_ble_eq_true rfl⟩ ⟨Nat.zero_le _, Nat.zero_le _⟩ hl.1 rfl rfl (Nat.le_of_ble_eq_true rfl) dX11_readKeys_244 (fun r_34 v_34 f_34 g_34 H locs hq_34 hP _ hS => ?_)
                          obtain ⟨z_34, rfl, rfl, rfl, rfl, p0_34, p1_34⟩ := hq_34
                          show W p l e (gRm 2 42) s m args below meth c _ _ 0 0 Q (F0 m 247 ls [.int (iI z_34)])
                          replace p0_34 : 0 ≤ z_34 ∧ z_34 ≤ 1 := p0_34
                          replace p1_34 : z_34 = 1 → w8_33 = 3 := p1_34
                          refine lv_istore_n (lv' := [(1, .int (iI z_34)), (3, .int (iI 3)), (2, .int (iI z_12)), (0, .ref (ad 0))]) hx hb dX11_readKeys_247 rfl hl (by decide) rfl (fun ls hl => ?_)
                          refine lv_iload_n hx hb dX11_readKeys_248 rfl (lv_at hl 0 rfl) ?_
                          refine gi_zeq (tgt := 256) hx hb dX11_readKeys_249 (by decide) (by omega) (fun c_35 => ?_) (fun c_35 => ?_)
                          · refine lv_goto (tgt := 7) hx hb dX11_readKeys_256 (by decide) ?_
                            exact ih_7 z_34 y6_7 y7_7 w8_33 w9_33 w10_33 w11_33 (y17_7 + 1) (u1 c14_7 y17_7 3) (u1 c16_7 y17_7 z_12) b0_33 _ _ _ (by omega) (by omega) (by omega) (by omega) (by omega) hP hS (lv_sub hl [3, 0] rfl)
                          · refine lv_aload_n hx hb dX11_readKeys_252 rfl (lv_at hl 3 rfl) ?_
                            refine g_cv (As := []) (rest := []) (n := 0) C hml (m_X11_next l D k A ad hD (va_up (va_up (va_up (va_up (va_up (va_up (va_up v 6 y6_7) 7 y7_7) 8 w8_33) 9 w9_33) 10 w10_33) 11 w11_33) 17 (y17_7 + 1)) (va_up (va_up f 14 (u1 c14_7 y17_7 3)) 16 (u1 c16_7 y17_7 z_12)) (va_up g 0 b0_33) (show w10_33 ≤ (v 3) from by omega)) mM_X11_201 mI_X11_next mE_X11_next mN_X11 mC_X11_next (by decide +kernel) 0 (ci := 11) rfl rfl hP hS (fun _ h => h) ⟨Nat.le_of_ble_eq_true rfl, Nat.le_of_ble_eq_true rfl⟩ ⟨Nat.zero_le _, Nat.zero_le _⟩ hl.1 rfl rfl (Nat.le_of_ble_eq_true rfl) dX11_readKeys_253 (fun r_36 v_36 f_36 g_36 H locs hq_36 hP _ hS => ?_)
                            obtain ⟨w8_36, w9_36, w10_36, w11_36, b0_36, rfl, rfl, rfl, rfl, p0_36, p1_36⟩ := hq_36
                            show W p l e (gRm 2 42) s m args below meth c _ _ 0 0 Q (F0 m 256 ls [])
                            have hP : gWd D (mdT k ad) (va_up (va_up (va_up (va_up (va_up (va_up (va_up v 6 y6_7) 7 y7_7) 8 w8_36) 9 w9_36) 10 w10_36) 11 w11_36) 17 (y17_7 + 1)) (va_up (va_up f 14 (u1 c14_7 y17_7 3)) 16 (u1 c16_7 y17_7 z_12)) (va_up g 0 b0_36) H := ⟨hP.1, (gF_up (V := mdV) (F := mdF) (gF_up (V := mdV) (F := mdF) (gR_up (V := mdV) (F := mdF) (gR_up (V := mdV) (F := mdF) (gR_up (V := mdV) (F := mdF) (gR_up (V := mdV) (F := mdF) (gR_up (V := mdV) (F := mdF) (gR_up (V := mdV) (F := mdF) (gR_up (V := mdV) (F := mdF) ⟨hok.1, hok.2⟩ 6 (hP.2.1 6)) 7 (hP.2.1 7)) 8 (hP.2.1 8)) 9 (hP.2.1 9)) 10 (hP.2.1 10)) 11 (hP.2.1 11)) 17 (hP.2.1 17)) 14 (hP.2.2 14)) 16 (hP.2.2 16))⟩
                            replace p0_36 : w10_33 ≤ w9_36 ∧ w9_36 ≤ w10_36 ∧ w10_36 ≤ (v 3) := p0_36
                            replace p1_36 : w8_36 ≠ 0 → w9_36 < w10_36 := p1_36
                            have rw8_36 : 0 ≤ w8_36 ∧ w8_36 ≤ 4 := hP.2.1 8
                            have rw9_36 : 0 ≤ w9_36 ∧ w9_36 ≤ 700 := hP.2.1 9
                            have rw10_36 : 0 ≤ w10_36 ∧ w10_36 ≤ 700 := hP.2.1 10
                            have rw11_36 : 0 ≤ w11_36 ∧ w11_36 ≤ 999999 := hP.2.1 11
                            refine lv_goto (tgt := 7) hx hb dX11_readKeys_256 (by decide) ?_
                            exact ih_7 z_34 y6_7 y7_7 w8_36 w9_36 w10_36 w11_36 (y17_7 + 1) (u1 c14_7 y17_7 3) (u1 c16_7 y17_7 z_12) b0_36 _ _ _ (by omega) (by omega) (by omega) (by omega) (by omega) hP hS (lv_sub hl [3, 0] rfl)
                        · exfalso; omega
                    · refine lv_iconst (v := iI 2) hx hb dX11_readKeys_166 rfl ?_
                      refine lv_goto (tgt := 197) hx hb dX11_readKeys_167 (by decide) ?_
                      refine lv_istore_n (lv' := [(3, .int (iI 2)), (2, .int (iI z_12)), (0, .ref (ad 0)), (1, .int (iI x1))]) hx hb dX11_readKeys_197 rfl hl (by decide) rfl (fun ls hl => ?_)
                      refine lv_iload_n hx hb dX11_readKeys_198 rfl (lv_at hl 0 rfl) ?_
                      refine gi_zge (tgt := 207) hx hb dX11_readKeys_199 (by decide) (by decide) (fun c_37 => ?_) (fun c_37 => ?_)
                      · refine lv_aload_n hx hb dX11_readKeys_207 rfl (lv_at hl 2 rfl) ?_
                        refine mdG_newUp C hP mF_X11_67 dX11_readKeys_208 ?_
                        refine lv_aload_n hx hb dX11_readKeys_211 rfl (lv_at hl 2 rfl) ?_
                        refine mdG_newKeys C hP mF_X11_214 dX11_readKeys_212 ?_
                        show W p l e (gRm 2 42) s m args below meth c _ _ 0 0 Q (F0 m 215 ls [.int (iI y17_7), .ref (ad 17)])
                        refine lv_iload_n hx hb dX11_readKeys_215 rfl (lv_at hl 1 rfl) ?_
                        refine mdS_newUp (f1 := (va_up (va_up f 14 c14_7) 16 (u1 c16_7 y17_7 z_12))) C hP hD hS (by omega) (by omega) (by omega) (by omega) rfl (Or.inr (gF_up (V := mdV) (F := mdF) (gF_up (V := mdV) (F := mdF) (gR_up (V := mdV) (F := mdF) (gR_up (V := mdV) (F := mdF) (gR_up (V := mdV) (F := mdF) (gR_up (V := mdV) (F := mdF) (gR_up (V := mdV) (F := mdF) (gR_up (V := mdV) (F := mdF) (gR_up (V := mdV) (F := mdF) ⟨hok.1, hok.2⟩ 6 (hP.2.1 6)) 7 (hP.2.1 7)) 8 (hP.2.1 8)) 9 (hP.2.1 9)) 10 (hP.2.1 10)) 11 (hP.2.1 11)) 17 (hP.2.1 17)) 14 (hP.2.2 14)) 16 (u1_rng (hP.2.2 16) (show 0 ≤ z_12 ∧ z_12 ≤ 1 from (by omega))))) dX11_readKeys_216 (fun H locs hP hS => ?_)
                        refine lv_aload_n hx hb dX11_readKeys_217 rfl (lv_at hl 2 rfl) ?_
                        refine mdG_newKey C hP mF_X11_60 dX11_readKeys_218 ?_
                        refine lv_aload_n hx hb dX11_readKeys_221 rfl (lv_at hl 2 rfl) ?_
                        refine mdG_newKeys C hP mF_X11_214 dX11_readKeys_222 ?_
                        show W p l e (gRm 2 42) s m args below meth c _ _ 0 0 Q (F0 m 225 ls [.int (iI y17_7), .ref (ad 15)])
                        refine lv_iload_n hx hb dX11_readKeys_225 rfl (lv_at hl 0 rfl) ?_
                        refine mdS_newKey (f1 := (va_up (va_up f 14 (u1 c14_7 y17_7 2)) 16 (u1 c16_7 y17_7 z_12))) C hP hD hS (by omega) (by omega) (by decide) rfl (Or.inr (gF_up (V := mdV) (F := mdF) (gF_up (V := mdV) (F := mdF) (gR_up (V := mdV) (F := mdF) (gR_up (V := mdV) (F := mdF) (gR_up (V := mdV) (F := mdF) (gR_up (V := mdV) (F := mdF) (gR_up (V := mdV) (F := mdF) (gR_up (V := mdV) (F := mdF) (gR_up (V := mdV) (F := mdF) ⟨hok.1, hok.2⟩ 6 (hP.2.1 6)) 7 (hP.2.1 7)) 8 (hP.2.1 8)) 9 (hP.2.1 9)) 10 (hP.2.1 10)) 11 (hP.2.1 11)) 17 (hP.2.1 17)) 14 (u1_rng (hP.2.2 14) (show 0 ≤ 2 ∧ 2 ≤ 3 from (by decide)))) 16 (hP.2.2 16))) dX11_readKeys_226 (fun H locs hP hS => ?_)
                        refine lv_aload_n hx hb dX11_readKeys_227 rfl (lv_at hl 2 rfl) ?_
                        refine lv_dup hx hb dX11_readKeys_228 rfl ?_
                        refine mdG_newKeys C hP mF_X11_214 dX11_readKeys_229 ?_
                        show W p l e (gRm 2 42) s m args below meth c _ _ 0 0 Q (F0 m 232 ls [.int (iI y17_7), .ref (ad 0)])
                        refine lv_iconst (v := iI 1) hx hb dX11_readKeys_232 rfl ?_
                        refine gi_add (z := (y17_7 + 1)) hx hb dX11_readKeys_233 rfl ?_
                        refine mdP_newKeys (v1 := (va_up (va_up (va_up (va_up (va_up (va_up (va_up v 6 y6_7) 7 y7_7) 8 w8_17) 9 w9_17) 10 w10_17) 11 w11_17) 17 (y17_7 + 1))) C hP hD hS mF_X11_214 (by omega) rfl (Or.inr (gF_up (V := mdV) (F := mdF) (gF_up (V := mdV) (F := mdF) (gR_up (V := mdV) (F := mdF) (gR_up (V := mdV) (F := mdF) (gR_up (V := mdV) (F := mdF) (gR_up (V := mdV) (F := mdF) (gR_up (V := mdV) (F := mdF) (gR_up (V := mdV) (F := mdF) (gR_up (V := mdV) (F := mdF) ⟨hok.1, hok.2⟩ 6 (hP.2.1 6)) 7 (hP.2.1 7)) 8 (hP.2.1 8)) 9 (hP.2.1 9)) 10 (hP.2.1 10)) 11 (hP.2.1 11)) 17 (show 0 ≤ (y17_7 + 1) ∧ (y17_7 + 1) ≤ 4 from by omega)) 14 (hP.2.2 14)) 16 (hP.2.2 16))) dX11_readKeys_234 (fun H locs hP hS => ?_)
                        refine lv_aload_n hx hb dX11_readKeys_237 rfl (lv_at hl 2 rfl) ?_
                        refine g_cv (As := []) (rest := []) (n := 0) C hml (m_X11_next l D k A ad hD (va_up (va_up (va_up (va_up (va_up (va_up (va_up v 6 y6_7) 7 y7_7) 8 w8_17) 9 w9_17) 10 w10_17) 11 w11_17) 17 (y17_7 + 1)) (va_up (va_up f 14 (u1 c14_7 y17_7 2)) 16 (u1 c16_7 y17_7 z_12)) (va_up g 0 b0_17) (show w10_17 ≤ (v 3) from by omega)) mM_X11_201 mI_X11_next mE_X11_next mN_X11 mC_X11_next (by decide +kernel) 0 (ci := 11) rfl rfl hP hS (fun _ h => h) ⟨Nat.le_of_ble_eq_true rfl, Nat.le_of_ble_eq_true rfl⟩ ⟨Nat.zero_le _, Nat.zero_le _⟩ hl.1 rfl rfl (Nat.le_of_ble_eq_true rfl) dX11_readKeys_238 (fun r_38 v_38 f_38 g_38 H locs hq_38 hP _ hS => ?_)
                        obtain ⟨w8_38, w9_38, w10_38, w11_38, b0_38, rfl, rfl, rfl, rfl, p0_38, p1_38⟩ := hq_38
                        show W p l e (gRm 2 42) s m args below meth c _ _ 0 0 Q (F0 m 241 ls [])
                        have hP : gWd D (mdT k ad) (va_up (va_up (va_up (va_up (va_up (va_up (va_up v 6 y6_7) 7 y7_7) 8 w8_38) 9 w9_38) 10 w10_38) 11 w11_38) 17 (y17_7 + 1)) (va_up (va_up f 14 (u1 c14_7 y17_7 2)) 16 (u1 c16_7 y17_7 z_12)) (va_up g 0 b0_38) H := ⟨hP.1, (gF_up (V := mdV) (F := mdF) (gF_up (V := mdV) (F := mdF) (gR_up (V := mdV) (F := mdF) (gR_up (V := mdV) (F := mdF) (gR_up (V := mdV) (F := mdF) (gR_up (V := mdV) (F := mdF) (gR_up (V := mdV) (F := mdF) (gR_up (V := mdV) (F := mdF) (gR_up (V := mdV) (F := mdF) ⟨hok.1, hok.2⟩ 6 (hP.2.1 6)) 7 (hP.2.1 7)) 8 (hP.2.1 8)) 9 (hP.2.1 9)) 10 (hP.2.1 10)) 11 (hP.2.1 11)) 17 (hP.2.1 17)) 14 (hP.2.2 14)) 16 (hP.2.2 16))⟩
                        replace p0_38 : w10_17 ≤ w9_38 ∧ w9_38 ≤ w10_38 ∧ w10_38 ≤ (v 3) := p0_38
                        replace p1_38 : w8_38 ≠ 0 → w9_38 < w10_38 := p1_38
                        have rw8_38 : 0 ≤ w8_38 ∧ w8_38 ≤ 4 := hP.2.1 8
                        have rw9_38 : 0 ≤ w9_38 ∧ w9_38 ≤ 700 := hP.2.1 9
                        have rw10_38 : 0 ≤ w10_38 ∧ w10_38 ≤ 700 := hP.2.1 10
                        have rw11_38 : 0 ≤ w11_38 ∧ w11_38 ≤ 999999 := hP.2.1 11
                        refine lv_aload_n hx hb dX11_readKeys_241 rfl (lv_at hl 2 rfl) ?_
                        refine lv_bipush (v := iI 44) hx hb dX11_readKeys_242 (by decide) ?_
                        refine g_cv (As := [.int (iI 44)]) (rest := []) (n := 1) C hml (m_X11_isSign l D k A ad hD (va_up (va_up (va_up (va_up (va_up (va_up (va_up v 6 y6_7) 7 y7_7) 8 w8_38) 9 w9_38) 10 w10_38) 11 w11_38) 17 (y17_7 + 1)) (va_up (va_up f 14 (u1 c14_7 y17_7 2)) 16 (u1 c16_7 y17_7 z_12)) (va_up g 0 b0_38) 44 (by decide)) mM_X11_204 mI_X11_isSign mE_X11_isSign mN_X11 mC_X11_isSign (by decide +kernel) 0 (ci := 11) rfl rfl hP hS (fun _ h => h) ⟨Nat.le_of_ble_eq_true rfl, Nat.le_of_ble_eq_true rfl⟩ ⟨Nat.zero_le _, Nat.zero_le _⟩ hl.1 rfl rfl (Nat.le_of_ble_eq_true rfl) dX11_readKeys_244 (fun r_39 v_39 f_39 g_39 H locs hq_39 hP _ hS => ?_)
                        obtain ⟨z_39, rfl, rfl, rfl, rfl, p0_39, p1_39⟩ := hq_39
                        show W p l e (gRm 2 42) s m args below meth c _ _ 0 0 Q (F0 m 247 ls [.int (iI z_39)])
                        replace p0_39 : 0 ≤ z_39 ∧ z_39 ≤ 1 := p0_39
                        replace p1_39 : z_39 = 1 → w8_38 = 3 := p1_39
                        refine lv_istore_n (lv' := [(1, .int (iI z_39)), (3, .int (iI 2)), (2, .int (iI z_12)), (0, .ref (ad 0))]) hx hb dX11_readKeys_247 rfl hl (by decide) rfl (fun ls hl => ?_)
                        refine lv_iload_n hx hb dX11_readKeys_248 rfl (lv_at hl 0 rfl) ?_
                        refine gi_zeq (tgt := 256) hx hb dX11_readKeys_249 (by decide) (by omega) (fun c_40 => ?_) (fun c_40 => ?_)
                        · refine lv_goto (tgt := 7) hx hb dX11_readKeys_256 (by decide) ?_
                          exact ih_7 z_39 y6_7 y7_7 w8_38 w9_38 w10_38 w11_38 (y17_7 + 1) (u1 c14_7 y17_7 2) (u1 c16_7 y17_7 z_12) b0_38 _ _ _ (by omega) (by omega) (by omega) (by omega) (by omega) hP hS (lv_sub hl [3, 0] rfl)
                        · refine lv_aload_n hx hb dX11_readKeys_252 rfl (lv_at hl 3 rfl) ?_
                          refine g_cv (As := []) (rest := []) (n := 0) C hml (m_X11_next l D k A ad hD (va_up (va_up (va_up (va_up (va_up (va_up (va_up v 6 y6_7) 7 y7_7) 8 w8_38) 9 w9_38) 10 w10_38) 11 w11_38) 17 (y17_7 + 1)) (va_up (va_up f 14 (u1 c14_7 y17_7 2)) 16 (u1 c16_7 y17_7 z_12)) (va_up g 0 b0_38) (show w10_38 ≤ (v 3) from by omega)) mM_X11_201 mI_X11_next mE_X11_next mN_X11 mC_X11_next (by decide +kernel) 0 (ci := 11) rfl rfl hP hS (fun _ h => h) ⟨Nat.le_of_ble_eq_true rfl, Nat.le_of_ble_eq_true rfl⟩ ⟨Nat.zero_le _, Nat.zero_le _⟩ hl.1 rfl rfl (Nat.le_of_ble_eq_true rfl) dX11_readKeys_253 (fun r_41 v_41 f_41 g_41 H locs hq_41 hP _ hS => ?_)
                          obtain ⟨w8_41, w9_41, w10_41, w11_41, b0_41, rfl, rfl, rfl, rfl, p0_41, p1_41⟩ := hq_41
                          show W p l e (gRm 2 42) s m args below meth c _ _ 0 0 Q (F0 m 256 ls [])
                          have hP : gWd D (mdT k ad) (va_up (va_up (va_up (va_up (va_up (va_up (va_up v 6 y6_7) 7 y7_7) 8 w8_41) 9 w9_41) 10 w10_41) 11 w11_41) 17 (y17_7 + 1)) (va_up (va_up f 14 (u1 c14_7 y17_7 2)) 16 (u1 c16_7 y17_7 z_12)) (va_up g 0 b0_41) H := ⟨hP.1, (gF_up (V := mdV) (F := mdF) (gF_up (V := mdV) (F := mdF) (gR_up (V := mdV) (F := mdF) (gR_up (V := mdV) (F := mdF) (gR_up (V := mdV) (F := mdF) (gR_up (V := mdV) (F := mdF) (gR_up (V := mdV) (F := mdF) (gR_up (V := mdV) (F := mdF) (gR_up (V := mdV) (F := mdF) ⟨hok.1, hok.2⟩ 6 (hP.2.1 6)) 7 (hP.2.1 7)) 8 (hP.2.1 8)) 9 (hP.2.1 9)) 10 (hP.2.1 10)) 11 (hP.2.1 11)) 17 (hP.2.1 17)) 14 (hP.2.2 14)) 16 (hP.2.2 16))⟩
                          replace p0_41 : w10_38 ≤ w9_41 ∧ w9_41 ≤ w10_41 ∧ w10_41 ≤ (v 3) := p0_41
                          replace p1_41 : w8_41 ≠ 0 → w9_41 < w10_41 := p1_41
                          have rw8_41 : 0 ≤ w8_41 ∧ w8_41 ≤ 4 := hP.2.1 8
                          have rw9_41 : 0 ≤ w9_41 ∧ w9_41 ≤ 700 := hP.2.1 9
                          have rw10_41 : 0 ≤ w10_41 ∧ w10_41 ≤ 700 := hP.2.1 10
                          have rw11_41 : 0 ≤ w11_41 ∧ w11_41 ≤ 999999 := hP.2.1 11
                          refine lv_goto (tgt := 7) hx hb dX11_readKeys_256 (by decide) ?_
                          exact ih_7 z_39 y6_7 y7_7 w8_41 w9_41 w10_41 w11_41 (y17_7 + 1) (u1 c14_7 y17_7 2) (u1 c16_7 y17_7 z_12) b0_41 _ _ _ (by omega) (by omega) (by omega) (by omega) (by omega) hP hS (lv_sub hl [3, 0] rfl)
                      · exfalso; omega
                  · refine lv_iconst (v := iI 1) hx hb dX11_readKeys_141 rfl ?_
                    refine lv_goto (tgt := 197) hx hb dX11_readKeys_142 (by decide) ?_
                    refine lv_istore_n (lv' := [(3, .int (iI 1)), (2, .int (iI z_12)), (0, .ref (ad 0)), (1, .int (iI x1))]) hx hb dX11_readKeys_197 rfl hl (by decide) rfl (fun ls hl => ?_)
                    refine lv_iload_n hx hb dX11_readKeys_198 rfl (lv_at hl 0 rfl) ?_
                    refine gi_zge (tgt := 207) hx hb dX11_readKeys_199 (by decide) (by decide) (fun c_42 => ?_) (fun c_42 => ?_)
                    · refine lv_aload_n hx hb dX11_readKeys_207 rfl (lv_at hl 2 rfl) ?_
                      refine mdG_newUp C hP mF_X11_67 dX11_readKeys_208 ?_
                      refine lv_aload_n hx hb dX11_readKeys_211 rfl (lv_at hl 2 rfl) ?_
                      refine mdG_newKeys C hP mF_X11_214 dX11_readKeys_212 ?_
                      show W p l e (gRm 2 42) s m args below meth c _ _ 0 0 Q (F0 m 215 ls [.int (iI y17_7), .ref (ad 17)])
                      refine lv_iload_n hx hb dX11_readKeys_215 rfl (lv_at hl 1 rfl) ?_
                      refine mdS_newUp (f1 := (va_up (va_up f 14 c14_7) 16 (u1 c16_7 y17_7 z_12))) C hP hD hS (by omega) (by omega) (by omega) (by omega) rfl (Or.inr (gF_up (V := mdV) (F := mdF) (gF_up (V := mdV) (F := mdF) (gR_up (V := mdV) (F := mdF) (gR_up (V := mdV) (F := mdF) (gR_up (V := mdV) (F := mdF) (gR_up (V := mdV) (F := mdF) (gR_up (V := mdV) (F := mdF) (gR_up (V := mdV) (F := mdF) (gR_up (V := mdV) (F := mdF) ⟨hok.1, hok.2⟩ 6 (hP.2.1 6)) 7 (hP.2.1 7)) 8 (hP.2.1 8)) 9 (hP.2.1 9)) 10 (hP.2.1 10)) 11 (hP.2.1 11)) 17 (hP.2.1 17)) 14 (hP.2.2 14)) 16 (u1_rng (hP.2.2 16) (show 0 ≤ z_12 ∧ z_12 ≤ 1 from (by omega))))) dX11_readKeys_216 (fun H locs hP hS => ?_)
                      refine lv_aload_n hx hb dX11_readKeys_217 rfl (lv_at hl 2 rfl) ?_
                      refine mdG_newKey C hP mF_X11_60 dX11_readKeys_218 ?_
                      refine lv_aload_n hx hb dX11_readKeys_221 rfl (lv_at hl 2 rfl) ?_
                      refine mdG_newKeys C hP mF_X11_214 dX11_readKeys_222 ?_
                      show W p l e (gRm 2 42) s m args below meth c _ _ 0 0 Q (F0 m 225 ls [.int (iI y17_7), .ref (ad 15)])
                      refine lv_iload_n hx hb dX11_readKeys_225 rfl (lv_at hl 0 rfl) ?_
                      refine mdS_newKey (f1 := (va_up (va_up f 14 (u1 c14_7 y17_7 1)) 16 (u1 c16_7 y17_7 z_12))) C hP hD hS (by omega) (by omega) (by decide) rfl (Or.inr (gF_up (V := mdV) (F := mdF) (gF_up (V := mdV) (F := mdF) (gR_up (V := mdV) (F := mdF) (gR_up (V := mdV) (F := mdF) (gR_up (V := mdV) (F := mdF) (gR_up (V := mdV) (F := mdF) (gR_up (V := mdV) (F := mdF) (gR_up (V := mdV) (F := mdF) (gR_up (V := mdV) (F := mdF) ⟨hok.1, hok.2⟩ 6 (hP.2.1 6)) 7 (hP.2.1 7)) 8 (hP.2.1 8)) 9 (hP.2.1 9)) 10 (hP.2.1 10)) 11 (hP.2.1 11)) 17 (hP.2.1 17)) 14 (u1_rng (hP.2.2 14) (show 0 ≤ 1 ∧ 1 ≤ 3 from (by decide)))) 16 (hP.2.2 16))) dX11_readKeys_226 (fun H locs hP hS => ?_)
                      refine lv_aload_n hx hb dX11_readKeys_227 rfl (lv_at hl 2 rfl) ?_
                      refine lv_dup hx hb dX11_readKeys_228 rfl ?_
                      refine mdG_newKeys C hP mF_X11_214 dX11_readKeys_229 ?_
                      show W p l e (gRm 2 42) s m args below meth c _ _ 0 0 Q (F0 m 232 ls [.int (iI y17_7), .ref (ad 0)])
                      refine lv_iconst (v := iI 1) hx hb dX11_readKeys_232 rfl ?_
                      refine gi_add (z := (y17_7 + 1)) hx hb dX11_readKeys_233 rfl ?_
                      refine mdP_newKeys (v1 := (va_up (va_up (va_up (va_up (va_up (va_up (va_up v 6 y6_7) 7 y7_7) 8 w8_17) 9 w9_17) 10 w10_17) 11 w11_17) 17 (y17_7 + 1))) C hP hD hS mF_X11_214 (by omega) rfl (Or.inr (gF_up (V := mdV) (F := mdF) (gF_up (V := mdV) (F := mdF) (gR_up (V := mdV) (F := mdF) (gR_up (V := mdV) (F := mdF) (gR_up (V := mdV) (F := mdF) (gR_up (V := mdV) (F := mdF) (gR_up (V := mdV) (F := mdF) (gR_up (V := mdV) (F := mdF) (gR_up (V := mdV) (F := mdF) ⟨hok.1, hok.2⟩ 6 (hP.2.1 6)) 7 (hP.2.1 7)) 8 (hP.2.1 8)) 9 (hP.2.1 9)) 10 (hP.2.1 10)) 11 (hP.2.1 11)) 17 (show 0 ≤ (y17_7 + 1) ∧ (y17_7 + 1) ≤ 4 from by omega)) 14 (hP.2.2 14)) 16 (hP.2.2 16))) dX11_readKeys_234 (fun H locs hP hS => ?_)
                      refine lv_aload_n hx hb dX11_readKeys_237 rfl (lv_at hl 2 rfl) ?_
                      refine g_cv (As := []) (rest := []) (n := 0) C hml (m_X11_next l D k A ad hD (va_up (va_up (va_up (va_up (va_up (va_up (va_up v 6 y6_7) 7 y7_7) 8 w8_17) 9 w9_17) 10 w10_17) 11 w11_17) 17 (y17_7 + 1)) (va_up (va_up f 14 (u1 c14_7 y17_7 1)) 16 (u1 c16_7 y17_7 z_12)) (va_up g 0 b0_17) (show w10_17 ≤ (v 3) from by omega)) mM_X11_201 mI_X11_next mE_X11_next mN_X11 mC_X11_next (by decide +kernel) 0 (ci := 11) rfl rfl hP hS (fun _ h => h) ⟨Nat.le_of_ble_eq_true rfl, Nat.le_of_ble_eq_true rfl⟩ ⟨Nat.zero_le _, Nat.zero_le _⟩ hl.1 rfl rfl (Nat.le_of_ble_eq_true rfl) dX11_readKeys_238 (fun r_43 v_43 f_43 g_43 H locs hq_43 hP _ hS => ?_)
                      obtain ⟨w8_43, w9_43, w10_43, w11_43, b0_43, rfl, rfl, rfl, rfl, p0_43, p1_43⟩ := hq_43
                      show W p l e (gRm 2 42) s m args below meth c _ _ 0 0 Q (F0 m 241 ls [])
                      have hP : gWd D (mdT k ad) (va_up (va_up (va_up (va_up (va_up (va_up (va_up v 6 y6_7) 7 y7_7) 8 w8_43) 9 w9_43) 10 w10_43) 11 w11_43) 17 (y17_7 + 1)) (va_up (va_up f 14 (u1 c14_7 y17_7 1)) 16 (u1 c16_7 y17_7 z_12)) (va_up g 0 b0_43) H := ⟨hP.1, (gF_up (V := mdV) (F := mdF) (gF_up (V := mdV) (F := mdF) (gR_up (V := mdV) (F := mdF) (gR_up (V := mdV) (F := mdF) (gR_up (V := mdV) (F := mdF) (gR_up (V := mdV) (F := mdF) (gR_up (V := mdV) (F := mdF) (gR_up (V := mdV) (F := mdF) (gR_up (V := mdV) (F := mdF) ⟨hok.1, hok.2⟩ 6 (hP.2.1 6)) 7 (hP.2.1 7)) 8 (hP.2.1 8)) 9 (hP.2.1 9)) 10 (hP.2.1 10)) 11 (hP.2.1 11)) 17 (hP.2.1 17)) 14 (hP.2.2 14)) 16 (hP.2.2 16))⟩
                      replace p0_43 : w10_17 ≤ w9_43 ∧ w9_43 ≤ w10_43 ∧ w10_43 ≤ (v 3) := p0_43
                      replace p1_43 : w8_43 ≠ 0 → w9_43 < w10_43 := p1_43
                      have rw8_43 : 0 ≤ w8_43 ∧ w8_43 ≤ 4 := hP.2.1 8
                      have rw9_43 : 0 ≤ w9_43 ∧ w9_43 ≤ 700 := hP.2.1 9
                      have rw10_43 : 0 ≤ w10_43 ∧ w10_43 ≤ 700 := hP.2.1 10
                      have rw11_43 : 0 ≤ w11_43 ∧ w11_43 ≤ 999999 := hP.2.1 11
                      refine lv_aload_n hx hb dX11_readKeys_241 rfl (lv_at hl 2 rfl) ?_
                      refine lv_bipush (v := iI 44) hx hb dX11_readKeys_242 (by decide) ?_
                      refine g_cv (As := [.int (iI 44)]) (rest := []) (n := 1) C hml (m_X11_isSign l D k A ad hD (va_up (va_up (va_up (va_up (va_up (va_up (va_up v 6 y6_7) 7 y7_7) 8 w8_43) 9 w9_43) 10 w10_43) 11 w11_43) 17 (y17_7 + 1)) (va_up (va_up f 14 (u1 c14_7 y17_7 1)) 16 (u1 c16_7 y17_7 z_12)) (va_up g 0 b0_43) 44 (by decide)) mM_X11_204 mI_X11_isSign mE_X11_isSign mN_X11 mC_X11_isSign (by decide +kernel) 0 (ci := 11) rfl rfl hP hS (fun _ h => h) ⟨Nat.le_of_ble_eq_true rfl, Nat.le_of_ble_eq_true rfl⟩ ⟨Nat.zero_le _, Nat.zero_le _⟩ hl.1 rfl rfl (Nat.le_of_ble_eq_true rfl) dX11_readKeys_244 (fun r_44 v_44 f_44 g_44 H locs hq_44 hP _ hS => ?_)
                      obtain ⟨z_44, rfl, rfl, rfl, rfl, p0_44, p1_44⟩ := hq_44
                      show W p l e (gRm 2 42) s m args below meth c _ _ 0 0 Q (F0 m 247 ls [.int (iI z_44)])
                      replace p0_44 : 0 ≤ z_44 ∧ z_44 ≤ 1 := p0_44
                      replace p1_44 : z_44 = 1 → w8_43 = 3 := p1_44
                      refine lv_istore_n (lv' := [(1, .int (iI z_44)), (3, .int (iI 1)), (2, .int (iI z_12)), (0, .ref (ad 0))]) hx hb dX11_readKeys_247 rfl hl (by decide) rfl (fun ls hl => ?_)
                      refine lv_iload_n hx hb dX11_readKeys_248 rfl (lv_at hl 0 rfl) ?_
                      refine gi_zeq (tgt := 256) hx hb dX11_readKeys_249 (by decide) (by omega) (fun c_45 => ?_) (fun c_45 => ?_)
                      · refine lv_goto (tgt := 7) hx hb dX11_readKeys_256 (by decide) ?_
                        exact ih_7 z_44 y6_7 y7_7 w8_43 w9_43 w10_43 w11_43 (y17_7 + 1) (u1 c14_7 y17_7 1) (u1 c16_7 y17_7 z_12) b0_43 _ _ _ (by omega) (by omega) (by omega) (by omega) (by omega) hP hS (lv_sub hl [3, 0] rfl)
                      · refine lv_aload_n hx hb dX11_readKeys_252 rfl (lv_at hl 3 rfl) ?_
                        refine g_cv (As := []) (rest := []) (n := 0) C hml (m_X11_next l D k A ad hD (va_up (va_up (va_up (va_up (va_up (va_up (va_up v 6 y6_7) 7 y7_7) 8 w8_43) 9 w9_43) 10 w10_43) 11 w11_43) 17 (y17_7 + 1)) (va_up (va_up f 14 (u1 c14_7 y17_7 1)) 16 (u1 c16_7 y17_7 z_12)) (va_up g 0 b0_43) (show w10_43 ≤ (v 3) from by omega)) mM_X11_201 mI_X11_next mE_X11_next mN_X11 mC_X11_next (by decide +kernel) 0 (ci := 11) rfl rfl hP hS (fun _ h => h) ⟨Nat.le_of_ble_eq_true rfl, Nat.le_of_ble_eq_true rfl⟩ ⟨Nat.zero_le _, Nat.zero_le _⟩ hl.1 rfl rfl (Nat.le_of_ble_eq_true rfl) dX11_readKeys_253 (fun r_46 v_46 f_46 g_46 H locs hq_46 hP _ hS => ?_)
                        obtain ⟨w8_46, w9_46, w10_46, w11_46, b0_46, rfl, rfl, rfl, rfl, p0_46, p1_46⟩ := hq_46
                        show W p l e (gRm 2 42) s m args below meth c _ _ 0 0 Q (F0 m 256 ls [])
                        have hP : gWd D (mdT k ad) (va_up (va_up (va_up (va_up (va_up (va_up (va_up v 6 y6_7) 7 y7_7) 8 w8_46) 9 w9_46) 10 w10_46) 11 w11_46) 17 (y17_7 + 1)) (va_up (va_up f 14 (u1 c14_7 y17_7 1)) 16 (u1 c16_7 y17_7 z_12)) (va_up g 0 b0_46) H := ⟨hP.1, (gF_up (V := mdV) (F := mdF) (gF_up (V := mdV) (F := mdF) (gR_up (V := mdV) (F := mdF) (gR_up (V := mdV) (F := mdF) (gR_up (V := mdV) (F := mdF) (gR_up (V := mdV) (F := mdF) (gR_up (V := mdV) (F := mdF) (gR_up (V := mdV) (F := mdF) (gR_up (V := mdV) (F := mdF) ⟨hok.1, hok.2⟩ 6 (hP.2.1 6)) 7 (hP.2.1 7)) 8 (hP.2.1 8)) 9 (hP.2.1 9)) 10 (hP.2.1 10)) 11 (hP.2.1 11)) 17 (hP.2.1 17)) 14 (hP.2.2 14)) 16 (hP.2.2 16))⟩
                        replace p0_46 : w10_43 ≤ w9_46 ∧ w9_46 ≤ w10_46 ∧ w10_46 ≤ (v 3) := p0_46
                        replace p1_46 : w8_46 ≠ 0 → w9_46 < w10_46 := p1_46
                        have rw8_46 : 0 ≤ w8_46 ∧ w8_46 ≤ 4 := hP.2.1 8
                        have rw9_46 : 0 ≤ w9_46 ∧ w9_46 ≤ 700 := hP.2.1 9
                        have rw10_46 : 0 ≤ w10_46 ∧ w10_46 ≤ 700 := hP.2.1 10
                        have rw11_46 : 0 ≤ w11_46 ∧ w11_46 ≤ 999999 := hP.2.1 11
                        refine lv_goto (tgt := 7) hx hb dX11_readKeys_256 (by decide) ?_
                        exact ih_7 z_44 y6_7 y7_7 w8_46 w9_46 w10_46 w11_46 (y17_7 + 1) (u1 c14_7 y17_7 1) (u1 c16_7 y17_7 z_12) b0_46 _ _ _ (by omega) (by omega) (by omega) (by omega) (by omega) hP hS (lv_sub hl [3, 0] rfl)
                    · exfalso; omega
                · refine lv_iconst (v := iI 0) hx hb dX11_readKeys_116 rfl ?_
                  refine lv_goto (tgt := 197) hx hb dX11_readKeys_117 (by decide) ?_
                  refine lv_istore_n (lv' := [(3, .int (iI 0)), (2, .int (iI z_12)), (0, .ref (ad 0)), (1, .int (iI x1))]) hx hb dX11_readKeys_197 rfl hl (by decide) rfl (fun ls hl => ?_)
                  refine lv_iload_n hx hb dX11_readKeys_198 rfl (lv_at hl 0 rfl) ?_
                  refine gi_zge (tgt := 207) hx hb dX11_readKeys_199 (by decide) (by decide) (fun c_47 => ?_) (fun c_47 => ?_)
                  · refine lv_aload_n hx hb dX11_readKeys_207 rfl (lv_at hl 2 rfl) ?_
                    refine mdG_newUp C hP mF_X11_67 dX11_readKeys_208 ?_
                    refine lv_aload_n hx hb dX11_readKeys_211 rfl (lv_at hl 2 rfl) ?_
                    refine mdG_newKeys C hP mF_X11_214 dX11_readKeys_212 ?_
                    show W p l e (gRm 2 42) s m args below meth c _ _ 0 0 Q (F0 m 215 ls [.int (iI y17_7), .ref (ad 17)])
                    refine lv_iload_n hx hb dX11_readKeys_215 rfl (lv_at hl 1 rfl) ?_
                    refine mdS_newUp (f1 := (va_up (va_up f 14 c14_7) 16 (u1 c16_7 y17_7 z_12))) C hP hD hS (by omega) (by omega) (by omega) (by omega) rfl (Or.inr (gF_up (V := mdV) (F := mdF) (gF_up (V := mdV) (F := mdF) (gR_up (V := mdV) (F := mdF) (gR_up (V := mdV) (F := mdF) (gR_up (V := mdV) (F := mdF) (gR_up (V := mdV) (F := mdF) (gR_up (V := mdV) (F := mdF) (gR_up (V := mdV) (F := mdF) (gR_up (V := mdV) (F := mdF) ⟨hok.1, hok.2⟩ 6 (hP.2.1 6)) 7 (hP.2.1 7)) 8 (hP.2.1 8)) 9 (hP.2.1 9)) 10 (hP.2.1 10)) 11 (hP.2.1 11)) 17 (hP.2.1 17)) 14 (hP.2.2 14)) 16 (u1_rng (hP.2.2 16) (show 0 ≤ z_12 ∧ z_12 ≤ 1 from (by omega))))) dX11_readKeys_216 (fun H locs hP hS => ?_)
                    refine lv_aload_n hx hb dX11_readKeys_217 rfl (lv_at hl 2 rfl) ?_
                    refine mdG_newKey C hP mF_X11_60 dX11_readKeys_218 ?_
                    refine lv_aload_n hx hb dX11_readKeys_221 rfl (lv_at hl 2 rfl) ?_
                    refine mdG_newKeys C hP mF_X11_214 dX11_readKeys_222 ?_
                    show W p l e (gRm 2 42) s m args below meth c _ _ 0 0 Q (F0 m 225 ls [.int (iI y17_7), .ref (ad 15)])
                    refine lv_iload_n hx hb dX11_readKeys_225 rfl (lv_at hl 0 rfl) ?_
                    refine mdS_newKey (f1 := (va_up (va_up f 14 (u1 c14_7 y17_7 0)) 16 (u1 c16_7 y17_7 z_12))) C hP hD hS (by omega) (by omega) (by decide) rfl (Or.inr (gF_up (V := mdV) (F := mdF) (gF_up (V := mdV) (F := mdF) (gR_up (V := mdV) (F := mdF) (gR_up (V := mdV) (F := mdF) (gR_up (V := mdV) (F := mdF) (gR_up (V := mdV) (F := mdF) (gR_up (V := mdV) (F := mdF) (gR_up (V := mdV) (F := mdF) (gR_up (V := mdV) (F := mdF) ⟨hok.1, hok.2⟩ 6 (hP.2.1 6)) 7 (hP.2.1 7)) 8 (hP.2.1 8)) 9 (hP.2.1 9)) 10 (hP.2.1 10)) 11 (hP.2.1 11)) 17 (hP.2.1 17)) 14 (u1_rng (hP.2.2 14) (show 0 ≤ 0 ∧ 0 ≤ 3 from (by decide)))) 16 (hP.2.2 16))) dX11_readKeys_226 (fun H locs hP hS => ?_)
                    refine lv_aload_n hx hb dX11_readKeys_227 rfl (lv_at hl 2 rfl) ?_
                    refine lv_dup hx hb dX11_readKeys_228 rfl ?_
                    refine mdG_newKeys C hP mF_X11_214 dX11_readKeys_229 ?_
                    show W p l e (gRm 2 42) s m args below meth c _ _ 0 0 Q (F0 m 232 ls [.int (iI y17_7), .ref (ad 0)])
                    refine lv_iconst (v := iI 1) hx hb dX11_readKeys_232 rfl ?_
                    refine gi_add (z := (y17_7 + 1)) hx hb dX11_readKeys_233 rfl ?_
                    refine mdP_newKeys (v1 := (va_up (va_up (va_up (va_up (va_up (va_up (va_up v 6 y6_7) 7 y7_7) 8 w8_17) 9 w9_17) 10 w10_17) 11 w11_17) 17 (y17_7 + 1))) C hP hD hS mF_X11_214 (by omega) rfl (Or.inr (gF_up (V := mdV) (F := mdF) (gF_up (V := mdV) (F := mdF) (gR_up (V := mdV) (F := mdF) (gR_up (V := mdV) (F := mdF) (gR_up (V := mdV) (F := mdF) (gR_up (V := mdV) (F := mdF) (gR_up (V := mdV) (F := mdF) (gR_up (V := mdV) (F := mdF) (gR_up (V := mdV) (F := mdF) ⟨hok.1, hok.2⟩ 6 (hP.2.1 6)) 7 (hP.2.1 7)) 8 (hP.2.1 8)) 9 (hP.2.1 9)) 10 (hP.2.1 10)) 11 (hP.2.1 11)) 17 (show 0 ≤ (y17_7 + 1) ∧ (y17_7 + 1) ≤ 4 from by omega)) 14 (hP.2.2 14)) 16 (hP.2.2 16))) dX11_readKeys_234 (fun H locs hP hS => ?_)
                    refine lv_aload_n hx hb dX11_readKeys_237 rfl (lv_at hl 2 rfl) ?_
                    refine g_cv (As := []) (rest := []) (n := 0) C hml (m_X11_next l D k A ad hD (va_up (va_up (va_up (va_up (va_up (va_up (va_up v 6 y6_7) 7 y7_7) 8 w8_17) 9 w9_17) 10 w10_17) 11 w11_17) 17 (y17_7 + 1)) (va_up (va_up f 14 (u1 c14_7 y17_7 0)) 16 (u1 c16_7 y17_7 z_12)) (va_up g 0 b0_17) (show w10_17 ≤ (v 3) from by omega)) mM_X11_201 mI_X11_next mE_X11_next mN_X11 mC_X11_next (by decide +kernel) 0 (ci := 11) rfl rfl hP hS (fun _ h => h) ⟨Nat.le_of_ble_eq_true rfl, Nat.le_of_ble_eq_true rfl⟩ ⟨Nat.zero_le _, Nat.zero_le _⟩ hl.1 rfl rfl (Nat.le_of_ble_eq_true rfl) dX11_readKeys_238 (fun r_48 v_48 f_48 g_48 H locs hq_48 hP _ hS => ?_)
                    obtain ⟨w8_48, w9_48, w10_48, w11_48, b0_48, rfl, rfl, rfl, rfl, p0_48, p1_48⟩ := hq_48
                    show W p l e (gRm 2 42) s m args below meth c _ _ 0 0 Q (F0 m 241 ls [])
                    have hP : gWd D (mdT k ad) (va_up (va_up (va_up (va_up (va_up (va_up (va_up v 6 y6_7) 7 y7_7) 8 w8_48) 9 w9_48) 10 w10_48) 11 w11_48) 17 (y17_7 + 1)) (va_up (va_up f 14 (u1 c14_7 y17_7 0)) 16 (u1 c16_7 y17_7 z_12)) (va_up g 0 b0_48) H := ⟨hP.1, (gF_up (V := mdV) (F := mdF) (gF_up (V := mdV) (F := mdF) (gR_up (V := mdV) (F := mdF) (gR_up (V := mdV) (F := mdF) (gR_up (V := mdV) (F := mdF) (gR_up (V := mdV) (F := mdF) (gR_up (V := mdV) (F := mdF) (gR_up (V := mdV) (F := mdF) (gR_up (V := mdV) (F := mdF) ⟨hok.1, hok.2⟩ 6 (hP.2.1 6)) 7 (hP.2.1 7)) 8 (hP.2.1 8)) 9 (hP.2.1 9)) 10 (hP.2.1 10)) 11 (hP.2.1 11)) 17 (hP.2.1 17)) 14 (hP.2.2 14)) 16 (hP.2.2 16))⟩
                    replace p0_48 : w10_17 ≤ w9_48 ∧ w9_48 ≤ w10_48 ∧ w10_48 ≤ (v 3) := p0_48
                    replace p1_48 : w8_48 ≠ 0 → w9_48 < w10_48 := p1_48
                    have rw8_48 : 0 ≤ w8_48 ∧ w8_48 ≤ 4 := hP.2.1 8
                    have rw9_48 : 0 ≤ w9_48 ∧ w9_48 ≤ 700 := hP.2.1 9
                    have rw10_48 : 0 ≤ w10_48 ∧ w10_48 ≤ 700 := hP.2.1 10
                    have rw11_48 : 0 ≤ w11_48 ∧ w11_48 ≤ 999999 := hP.2.1 11
                    refine lv_aload_n hx hb dX11_readKeys_241 rfl (lv_at hl 2 rfl) ?_
                    refine lv_bipush (v := iI 44) hx hb dX11_readKeys_242 (by decide) ?_
                    refine g_cv (As := [.int (iI 44)]) (rest := []) (n := 1) C hml (m_X11_isSign l D k A ad hD (va_up (va_up (va_up (va_up (va_up (va_up (va_up v 6 y6_7) 7 y7_7) 8 w8_48) 9 w9_48) 10 w10_48) 11 w11_48) 17 (y17_7 + 1)) (va_up (va_up f 14 (u1 c14_7 y17_7 0)) 16 (u1 c16_7 y17_7 z_12)) (va_up g 0 b0_48) 44 (by decide)) mM_X11_204 mI_X11_isSign mE_X11_isSign mN_X11 mC_X11_isSign (by decide +kernel) 0 (ci := 11) rfl rfl hP hS (fun _ h => h) ⟨Nat.le_of_ble_eq_true rfl, Nat.le_of_ble_eq_true rfl⟩ ⟨Nat.zero_le _, Nat.zero_le _⟩ hl.1 rfl rfl (Nat.le_of_ble_eq_true rfl) dX11_readKeys_244 (fun r_49 v_49 f_49 g_49 H locs hq_49 hP _ hS => ?_)
                    obtain ⟨z_49, rfl, rfl, rfl, rfl, p0_49, p1_49⟩ := hq_49
                    show W p l e (gRm 2 42) s m args below meth c _ _ 0 0 Q (F0 m 247 ls [.int (iI z_49)])
                    replace p0_49 : 0 ≤ z_49 ∧ z_49 ≤ 1 := p0_49
                    replace p1_49 : z_49 = 1 → w8_48 = 3 := p1_49
                    refine lv_istore_n (lv' := [(1, .int (iI z_49)), (3, .int (iI 0)), (2, .int (iI z_12)), (0, .ref (ad 0))]) hx hb dX11_readKeys_247 rfl hl (by decide) rfl (fun ls hl => ?_)
                    refine lv_iload_n hx hb dX11_readKeys_248 rfl (lv_at hl 0 rfl) ?_
                    refine gi_zeq (tgt := 256) hx hb dX11_readKeys_249 (by decide) (by omega) (fun c_50 => ?_) (fun c_50 => ?_)
                    · refine lv_goto (tgt := 7) hx hb dX11_readKeys_256 (by decide) ?_
                      exact ih_7 z_49 y6_7 y7_7 w8_48 w9_48 w10_48 w11_48 (y17_7 + 1) (u1 c14_7 y17_7 0) (u1 c16_7 y17_7 z_12) b0_48 _ _ _ (by omega) (by omega) (by omega) (by omega) (by omega) hP hS (lv_sub hl [3, 0] rfl)
                    · refine lv_aload_n hx hb dX11_readKeys_252 rfl (lv_at hl 3 rfl) ?_
                      refine g_cv (As := []) (rest := []) (n := 0) C hml (m_X11_next l D k A ad hD (va_up (va_up (va_up (va_up (va_up (va_up (va_up v 6 y6_7) 7 y7_7) 8 w8_48) 9 w9_48) 10 w10_48) 11 w11_48) 17 (y17_7 + 1)) (va_up (va_up f 14 (u1 c14_7 y17_7 0)) 16 (u1 c16_7 y17_7 z_12)) (va_up g 0 b0_48) (show w10_48 ≤ (v 3) from by omega)) mM_X11_201 mI_X11_next mE_X11_next mN_X11 mC_X11_next (by decide +kernel) 0 (ci := 11) rfl rfl hP hS (fun _ h => h) ⟨Nat.le_of_ble_eq_true rfl, Nat.le_of_ble_eq_true rfl⟩ ⟨Nat.zero_le _, Nat.zero_le _⟩ hl.1 rfl rfl (Nat.le_of_ble_eq_true rfl) dX11_readKeys_253 (fun r_51 v_51 f_51 g_51 H locs hq_51 hP _ hS => ?_)
                      obtain ⟨w8_51, w9_51, w10_51, w11_51, b0_51, rfl, rfl, rfl, rfl, p0_51, p1_51⟩ := hq_51
                      show W p l e (gRm 2 42) s m args below meth c _ _ 0 0 Q (F0 m 256 ls [])
                      have hP : gWd D (mdT k ad) (va_up (va_up (va_up (va_up (va_up (va_up (va_up v 6 y6_7) 7 y7_7) 8 w8_51) 9 w9_51) 10 w10_51) 11 w11_51) 17 (y17_7 + 1)) (va_up (va_up f 14 (u1 c14_7 y17_7 0)) 16 (u1 c16_7 y17_7 z_12)) (va_up g 0 b0_51) H := ⟨hP.1, (gF_up (V := mdV) (F := mdF) (gF_up (V := mdV) (F := mdF) (gR_up (V := mdV) (F := mdF) (gR_up (V := mdV) (F := mdF) (gR_up (V := mdV) (F := mdF) (gR_up (V := mdV) (F := mdF) (gR_up (V := mdV) (F := mdF) (gR_up (V := mdV) (F := mdF) (gR_up (V := mdV) (F := mdF) ⟨hok.1, hok.2⟩ 6 (hP.2.1 6)) 7 (hP.2.1 7)) 8 (hP.2.1 8)) 9 (hP.2.1 9)) 10 (hP.2.1 10)) 11 (hP.2.1 11)) 17 (hP.2.1 17)) 14 (hP.2.2 14)) 16 (hP.2.2 16))⟩
                      replace p0_51 : w10_48 ≤ w9_51 ∧ w9_51 ≤ w10_51 ∧ w10_51 ≤ (v 3) := p0_51
                      replace p1_51 : w8_51 ≠ 0 → w9_51 < w10_51 := p1_51
                      have rw8_51 : 0 ≤ w8_51 ∧ w8_51 ≤ 4 := hP.2.1 8
                      have rw9_51 : 0 ≤ w9_51 ∧ w9_51 ≤ 700 := hP.2.1 9
                      have rw10_51 : 0 ≤ w10_51 ∧ w10_51 ≤ 700 := hP.2.1 10
                      have rw11_51 : 0 ≤ w11_51 ∧ w11_51 ≤ 999999 := hP.2.1 11
                      refine lv_goto (tgt := 7) hx hb dX11_readKeys_256 (by decide) ?_
                      exact ih_7 z_49 y6_7 y7_7 w8_51 w9_51 w10_51 w11_51 (y17_7 + 1) (u1 c14_7 y17_7 0) (u1 c16_7 y17_7 z_12) b0_51 _ _ _ (by omega) (by omega) (by omega) (by omega) (by omega) hP hS (lv_sub hl [3, 0] rfl)
                  · exfalso; omega
              · exact g_vret hQ C hr hlocks hP hS dX11_readKeys_91 ⟨y6_7, y7_7, y8_7, y9_7, y10_7, y11_7, y17_7, c14_7, c16_7, d0_7, rfl, rfl, rfl, rfl, (by first | omega | (split <;> omega)), (by first | omega | (split <;> omega))⟩
            · refine lv_aload_n hx hb dX11_readKeys_75 rfl (lv_at hl 1 rfl) ?_
              refine lv_iconst (v := iI 3) hx hb dX11_readKeys_76 rfl ?_
              refine lv_aload_n hx hb dX11_readKeys_77 rfl (lv_at hl 1 rfl) ?_
              refine mdG_at C hP mF_X11_158 dX11_readKeys_78 ?_
              show W p l e (gRm 2 42) s m args below meth c _ _ 0 0 Q (F0 m 81 ls [.int (iI y9_7), .int (iI 3), .ref (ad 0)])
              have r_52 : 0 ≤ y9_7 ∧ y9_7 ≤ 700 := hP.2.1 9
              refine g_cv (As := [.int (iI 3), .int (iI y9_7)]) (rest := []) (n := 2) C hml (m_X11_fail l D k A ad hD (va_up (va_up (va_up (va_up (va_up (va_up (va_up v 6 y6_7) 7 y7_7) 8 y8_7) 9 y9_7) 10 y10_7) 11 y11_7) 17 y17_7) (va_up (va_up f 14 c14_7) 16 c16_7) (va_up g 0 d0_7) 3 y9_7 (by decide) (by omega) (show 1 ≤ (3 : Int) ∧ (3 : Int) ≤ 5 from by omega) (show 0 ≤ y9_7 ∧ y9_7 ≤ 700 from by omega)) mM_X11_194 mI_X11_fail mE_X11_fail mN_X11 mC_X11_fail (by decide +kernel) 0 (ci := 11) rfl rfl hP hS (fun _ h => h) ⟨Nat.le_of_ble_eq_true rfl, Nat.le_of_ble_eq_true rfl⟩ ⟨Nat.zero_le _, Nat.zero_le _⟩ hl.1 rfl rfl (Nat.le_of_ble_eq_true rfl) dX11_readKeys_81 (fun r_53 v_53 f_53 g_53 H locs hq_53 hP _ hS => ?_)
              obtain ⟨w6_53, w7_53, rfl, rfl, rfl, rfl, p0_53⟩ := hq_53
              show W p l e (gRm 2 42) s m args below meth c _ _ 0 0 Q (F0 m 84 ls [])
              have hP : gWd D (mdT k ad) (va_up (va_up (va_up (va_up (va_up (va_up (va_up v 6 w6_53) 7 w7_53) 8 y8_7) 9 y9_7) 10 y10_7) 11 y11_7) 17 y17_7) (va_up (va_up f 14 c14_7) 16 c16_7) (va_up g 0 d0_7) H := ⟨hP.1, (gF_up (V := mdV) (F := mdF) (gF_up (V := mdV) (F := mdF) (gR_up (V := mdV) (F := mdF) (gR_up (V := mdV) (F := mdF) (gR_up (V := mdV) (F := mdF) (gR_up (V := mdV) (F := mdF) (gR_up (V := mdV) (F := mdF) (gR_up (V := mdV) (F := mdF) (gR_up (V := mdV) (F := mdF) ⟨hok.1, hok.2⟩ 6 (hP.2.1 6)) 7 (hP.2.1 7)) 8 (hP.2.1 8)) 9 (hP.2.1 9)) 10 (hP.2.1 10)) 11 (hP.2.1 11)) 17 (hP.2.1 17)) 14 (hP.2.2 14)) 16 (hP.2.2 16))⟩
              replace p0_53 : 0 < w6_53 := p0_53
              have rw6_53 : 0 ≤ w6_53 ∧ w6_53 ≤ 5 := hP.2.1 6
              have rw7_53 : 0 ≤ w7_53 ∧ w7_53 ≤ 700 := hP.2.1 7
              refine lv_aload_n hx hb dX11_readKeys_84 rfl (lv_at hl 1 rfl) ?_
              refine mdG_bad C hP mF_X11_188 dX11_readKeys_85 ?_
              show W p l e (gRm 2 42) s m args below meth c _ _ 0 0 Q (F0 m 88 ls [.int (iI w6_53)])
              have r_54 : 0 ≤ w6_53 ∧ w6_53 ≤ 5 := hP.2.1 6
              refine gi_zle (tgt := 92) hx hb dX11_readKeys_88 (by decide) (by omega) (fun c_55 => ?_) (fun c_55 => ?_)
              · refine lv_aload_n hx hb dX11_readKeys_92 rfl (lv_at hl 1 rfl) ?_
                refine g_cv (As := []) (rest := []) (n := 0) C hml (m_X11_next l D k A ad hD (va_up (va_up (va_up (va_up (va_up (va_up (va_up v 6 w6_53) 7 w7_53) 8 y8_7) 9 y9_7) 10 y10_7) 11 y11_7) 17 y17_7) (va_up (va_up f 14 c14_7) 16 c16_7) (va_up g 0 d0_7) (show y10_7 ≤ (v 3) from by omega)) mM_X11_201 mI_X11_next mE_X11_next mN_X11 mC_X11_next (by decide +kernel) 0 (ci := 11) rfl rfl hP hS (fun _ h => h) ⟨Nat.le_of_ble_eq_true rfl, Nat.le_of_ble_eq_true rfl⟩ ⟨Nat.zero_le _, Nat.zero_le _⟩ hl.1 rfl rfl (Nat.le_of_ble_eq_true rfl) dX11_readKeys_93 (fun r_56 v_56 f_56 g_56 H locs hq_56 hP _ hS => ?_)
                obtain ⟨w8_56, w9_56, w10_56, w11_56, b0_56, rfl, rfl, rfl, rfl, p0_56, p1_56⟩ := hq_56
                show W p l e (gRm 2 42) s m args below meth c _ _ 0 0 Q (F0 m 96 ls [])
                have hP : gWd D (mdT k ad) (va_up (va_up (va_up (va_up (va_up (va_up (va_up v 6 w6_53) 7 w7_53) 8 w8_56) 9 w9_56) 10 w10_56) 11 w11_56) 17 y17_7) (va_up (va_up f 14 c14_7) 16 c16_7) (va_up g 0 b0_56) H := ⟨hP.1, (gF_up (V := mdV) (F := mdF) (gF_up (V := mdV) (F := mdF) (gR_up (V := mdV) (F := mdF) (gR_up (V := mdV) (F := mdF) (gR_up (V := mdV) (F := mdF) (gR_up (V := mdV) (F := mdF) (gR_up (V := mdV) (F := mdF) (gR_up (V := mdV) (F := mdF) (gR_up (V := mdV) (F := mdF) ⟨hok.1, hok.2⟩ 6 (hP.2.1 6)) 7 (hP.2.1 7)) 8 (hP.2.1 8)) 9 (hP.2.1 9)) 10 (hP.2.1 10)) 11 (hP.2.1 11)) 17 (hP.2.1 17)) 14 (hP.2.2 14)) 16 (hP.2.2 16))⟩
                replace p0_56 : y10_7 ≤ w9_56 ∧ w9_56 ≤ w10_56 ∧ w10_56 ≤ (v 3) := p0_56
                replace p1_56 : w8_56 ≠ 0 → w9_56 < w10_56 := p1_56
                have rw8_56 : 0 ≤ w8_56 ∧ w8_56 ≤ 4 := hP.2.1 8
                have rw9_56 : 0 ≤ w9_56 ∧ w9_56 ≤ 700 := hP.2.1 9
                have rw10_56 : 0 ≤ w10_56 ∧ w10_56 ≤ 700 := hP.2.1 10
                have rw11_56 : 0 ≤ w11_56 ∧ w11_56 ≤ 999999 := hP.2.1 11
                refine lv_aload_n hx hb dX11_readKeys_96 rfl (lv_at hl 1 rfl) ?_
                refine lv_bipush (v := iI 115) hx hb dX11_readKeys_97 (by decide) ?_
                refine lv_bipush (v := iI 117) hx hb dX11_readKeys_99 (by decide) ?_
                refine lv_bipush (v := iI 109) hx hb dX11_readKeys_101 (by decide) ?_
                refine lv_iconst (v := iI 0) hx hb dX11_readKeys_103 rfl ?_
                refine lv_iconst (v := iI 0) hx hb dX11_readKeys_104 rfl ?_
                refine lv_iconst (v := iI 0) hx hb dX11_readKeys_105 rfl ?_
                refine lv_iconst (v := iI 0) hx hb dX11_readKeys_106 rfl ?_
                refine g_cs (As := [.int (iI 115), .int (iI 117), .int (iI 109), .int (iI 0), .int (iI 0), .int (iI 0), .int (iI 0)]) (rest := [.ref (ad 0)]) (n := 7) C hml (m_X11_spelled l D k A ad hD (va_up (va_up (va_up (va_up (va_up (va_up (va_up v 6 w6_53) 7 w7_53) 8 w8_56) 9 w9_56) 10 w10_56) 11 w11_56) 17 y17_7) (va_up (va_up f 14 c14_7) 16 c16_7) (va_up g 0 b0_56) 115 117 109 0 0 0 0 (by decide) (by decide) (by decide) (by decide) (by decide) (by decide) (by decide)) mM_X11_228 mS_X11_spelled mN_X11 mC_X11_spelled (by decide +kernel) hP hS (fun _ h => h) ⟨Nat.le_of_ble_eq_true rfl, Nat.le_of_ble_eq_true rfl⟩ ⟨Nat.zero_le _, Nat.zero_le _⟩ hl.1 rfl rfl (Nat.le_of_ble_eq_true rfl) dX11_readKeys_107 (fun r_57 v_57 f_57 g_57 H locs hq_57 hP _ hS => ?_)
                obtain ⟨z_57, rfl, rfl, rfl, rfl⟩ := hq_57
                show W p l e (gRm 2 42) s m args below meth c _ _ 0 0 Q (F0 m 110 ls [.long (iL z_57), .ref (ad 0)])
                refine g_cv (As := [.long (iL z_57)]) (rest := []) (n := 1) C hml (m_X11_isWord l D k A ad hD (va_up (va_up (va_up (va_up (va_up (va_up (va_up v 6 w6_53) 7 w7_53) 8 w8_56) 9 w9_56) 10 w10_56) 11 w11_56) 17 y17_7) (va_up (va_up f 14 c14_7) 16 c16_7) (va_up g 0 b0_56) z_57) mM_X11_232 mI_X11_isWord mE_X11_isWord mN_X11 mC_X11_isWord (by decide +kernel) 0 (ci := 11) rfl rfl hP hS (fun _ h => h) ⟨Nat.le_of_ble_eq_true rfl, Nat.le_of_ble_eq_true rfl⟩ ⟨Nat.zero_le _, Nat.zero_le _⟩ hl.1 rfl rfl (Nat.le_of_ble_eq_true rfl) dX11_readKeys_110 (fun r_58 v_58 f_58 g_58 H locs hq_58 hP _ hS => ?_)
                obtain ⟨z_58, rfl, rfl, rfl, rfl, p0_58, p1_58⟩ := hq_58
                show W p l e (gRm 2 42) s m args below meth c _ _ 0 0 Q (F0 m 113 ls [.int (iI z_58)])
                replace p0_58 : 0 ≤ z_58 ∧ z_58 ≤ 1 := p0_58
                replace p1_58 : z_58 = 1 → w8_56 = 1 := p1_58
                refine gi_zeq (tgt := 120) hx hb dX11_readKeys_113 (by decide) (by omega) (fun c_59 => ?_) (fun c_59 => ?_)
                · refine lv_aload_n hx hb dX11_readKeys_120 rfl (lv_at hl 1 rfl) ?_
                  refine lv_bipush (v := iI 109) hx hb dX11_readKeys_121 (by decide) ?_
                  refine lv_bipush (v := iI 111) hx hb dX11_readKeys_123 (by decide) ?_
                  refine lv_bipush (v := iI 115) hx hb dX11_readKeys_125 (by decide) ?_
                  refine lv_bipush (v := iI 116) hx hb dX11_readKeys_127 (by decide) ?_
                  refine lv_iconst (v := iI 0) hx hb dX11_readKeys_129 rfl ?_
                  refine lv_iconst (v := iI 0) hx hb dX11_readKeys_130 rfl ?_
                  refine lv_iconst (v := iI 0) hx hb dX11_readKeys_131 rfl ?_
                  refine g_cs (As := [.int (iI 109), .int (iI 111), .int (iI 115), .int (iI 116), .int (iI 0), .int (iI 0), .int (iI 0)]) (rest := [.ref (ad 0)]) (n := 7) C hml (m_X11_spelled l D k A ad hD (va_up (va_up (va_up (va_up (va_up (va_up (va_up v 6 w6_53) 7 w7_53) 8 w8_56) 9 w9_56) 10 w10_56) 11 w11_56) 17 y17_7) (va_up (va_up f 14 c14_7) 16 c16_7) (va_up g 0 b0_56) 109 111 115 116 0 0 0 (by decide) (by decide) (by decide) (by decide) (by decide) (by decide) (by decide)) mM_X11_228 mS_X11_spelled mN_X11 mC_X11_spelled (by decide +kernel) hP hS (fun _ h => h) ⟨Nat.le_of_ble_eq_true rfl, Nat.le_of_ble_eq_true rfl⟩ ⟨Nat.zero_le _, Nat.zero_le _⟩ hl.1 rfl rfl (Nat.le_of_ble_eq_true rfl) dX11_readKeys_132 (fun r_60 v_60 f_60 g_60 H locs hq_60 hP _ hS => ?_)
                  obtain ⟨z_60, rfl, rfl, rfl, rfl⟩ := hq_60
                  show W p l e (gRm 2 42) s m args below meth c _ _ 0 0 Q (F0 m 135 ls [.long (iL z_60), .ref (ad 0)])
                  refine g_cv (As := [.long (iL z_60)]) (rest := []) (n := 1) C hml (m_X11_isWord l D k A ad hD (va_up (va_up (va_up (va_up (va_up (va_up (va_up v 6 w6_53) 7 w7_53) 8 w8_56) 9 w9_56) 10 w10_56) 11 w11_56) 17 y17_7) (va_up (va_up f 14 c14_7) 16 c16_7) (va_up g 0 b0_56) z_60) mM_X11_232 mI_X11_isWord mE_X11_isWord mN_X11 mC_X11_isWord (by decide +kernel) 0 (ci := 11) rfl rfl hP hS (fun _ h => h) ⟨Nat.le_of_ble_eq_true rfl, Nat.le_of_ble_eq_true rfl⟩ ⟨Nat.zero_le _, Nat.zero_le _⟩ hl.1 rfl rfl (Nat.le_of_ble_eq_true rfl) dX11_readKeys_135 (fun r_61 v_61 f_61 g_61 H locs hq_61 hP _ hS => ?_)
                  obtain ⟨z_61, rfl, rfl, rfl, rfl, p0_61, p1_61⟩ := hq_61
                  show W p l e (gRm 2 42) s m args below meth c _ _ 0 0 Q (F0 m 138 ls [.int (iI z_61)])
                  replace p0_61 : 0 ≤ z_61 ∧ z_61 ≤ 1 := p0_61
                  replace p1_61 : z_61 = 1 → w8_56 = 1 := p1_61
                  refine gi_zeq (tgt := 145) hx hb dX11_readKeys_138 (by decide) (by omega) (fun c_62 => ?_) (fun c_62 => ?_)
                  · refine lv_aload_n hx hb dX11_readKeys_145 rfl (lv_at hl 1 rfl) ?_
                    refine lv_bipush (v := iI 116) hx hb dX11_readKeys_146 (by decide) ?_
                    refine lv_bipush (v := iI 111) hx hb dX11_readKeys_148 (by decide) ?_
                    refine lv_bipush (v := iI 112) hx hb dX11_readKeys_150 (by decide) ?_
                    refine lv_bipush (v := iI 115) hx hb dX11_readKeys_152 (by decide) ?_
                    refine lv_iconst (v := iI 0) hx hb dX11_readKeys_154 rfl ?_
                    refine lv_iconst (v := iI 0) hx hb dX11_readKeys_155 rfl ?_
                    refine lv_iconst (v := iI 0) hx hb dX11_readKeys_156 rfl ?_
                    refine g_cs (As := [.int (iI 116), .int (iI 111), .int (iI 112), .int (iI 115), .int (iI 0), .int (iI 0), .int (iI 0)]) (rest := [.ref (ad 0)]) (n := 7) C hml (m_X11_spelled l D k A ad hD (va_up (va_up (va_up (va_up (va_up (va_up (va_up v 6 w6_53) 7 w7_53) 8 w8_56) 9 w9_56) 10 w10_56) 11 w11_56) 17 y17_7) (va_up (va_up f 14 c14_7) 16 c16_7) (va_up g 0 b0_56) 116 111 112 115 0 0 0 (by decide) (by decide) (by decide) (by decide) (by decide) (by decide) (by decide)) mM_X11_228 mS_X11_spelled mN_X11 mC_X11_spelled (by decide +kernel) hP hS (fun _ h => h) ⟨Nat.le_of_ble_eq_true rfl, Nat.le_of_ble_eq_true rfl⟩ ⟨Nat.zero_le _, Nat.zero_le _⟩ hl.1 rfl rfl (Nat.le_of_ble_eq_true rfl) dX11_readKeys_157 (fun r_63 v_63 f_63 g_63 H locs hq_63 hP _ hS => ?_)
                    obtain ⟨z_63, rfl, rfl, rfl, rfl⟩ := hq_63
                    show W p l e (gRm 2 42) s m args below meth c _ _ 0 0 Q (F0 m 160 ls [.long (iL z_63), .ref (ad 0)])
                    refine g_cv (As := [.long (iL z_63)]) (rest := []) (n := 1) C hml (m_X11_isWord l D k A ad hD (va_up (va_up (va_up (va_up (va_up (va_up (va_up v 6 w6_53) 7 w7_53) 8 w8_56) 9 w9_56) 10 w10_56) 11 w11_56) 17 y17_7) (va_up (va_up f 14 c14_7) 16 c16_7) (va_up g 0 b0_56) z_63) mM_X11_232 mI_X11_isWord mE_X11_isWord mN_X11 mC_X11_isWord (by decide +kernel) 0 (ci := 11) rfl rfl hP hS (fun _ h => h) ⟨Nat.le_of_ble_eq_true rfl, Nat.le_of_ble_eq_true rfl⟩ ⟨Nat.zero_le _, Nat.zero_le _⟩ hl.1 rfl rfl (Nat.le_of_ble_eq_true rfl) dX11_readKeys_160 (fun r_64 v_64 f_64 g_64 H locs hq_64 hP _ hS => ?_)
                    obtain ⟨z_64, rfl, rfl, rfl, rfl, p0_64, p1_64⟩ := hq_64
                    show W p l e (gRm 2 42) s m args below meth c _ _ 0 0 Q (F0 m 163 ls [.int (iI z_64)])
                    replace p0_64 : 0 ≤ z_64 ∧ z_64 ≤ 1 := p0_64
                    replace p1_64 : z_64 = 1 → w8_56 = 1 := p1_64
                    refine gi_zeq (tgt := 170) hx hb dX11_readKeys_163 (by decide) (by omega) (fun c_65 => ?_) (fun c_65 => ?_)
                    · refine lv_aload_n hx hb dX11_readKeys_170 rfl (lv_at hl 1 rfl) ?_
                      refine lv_bipush (v := iI 122) hx hb dX11_readKeys_171 (by decide) ?_
                      refine lv_bipush (v := iI 111) hx hb dX11_readKeys_173 (by decide) ?_
                      refine lv_bipush (v := iI 110) hx hb dX11_readKeys_175 (by decide) ?_
                      refine lv_bipush (v := iI 101) hx hb dX11_readKeys_177 (by decide) ?_
                      refine lv_bipush (v := iI 115) hx hb dX11_readKeys_179 (by decide) ?_
                      refine lv_iconst (v := iI 0) hx hb dX11_readKeys_181 rfl ?_
                      refine lv_iconst (v := iI 0) hx hb dX11_readKeys_182 rfl ?_
                      refine g_cs (As := [.int (iI 122), .int (iI 111), .int (iI 110), .int (iI 101), .int (iI 115), .int (iI 0), .int (iI 0)]) (rest := [.ref (ad 0)]) (n := 7) C hml (m_X11_spelled l D k A ad hD (va_up (va_up (va_up (va_up (va_up (va_up (va_up v 6 w6_53) 7 w7_53) 8 w8_56) 9 w9_56) 10 w10_56) 11 w11_56) 17 y17_7) (va_up (va_up f 14 c14_7) 16 c16_7) (va_up g 0 b0_56) 122 111 110 101 115 0 0 (by decide) (by decide) (by decide) (by decide) (by decide) (by decide) (by decide)) mM_X11_228 mS_X11_spelled mN_X11 mC_X11_spelled (by decide +kernel) hP hS (fun _ h => h) ⟨Nat.le_of_ble_eq_true rfl, Nat.le_of_ble_eq_true rfl⟩ ⟨Nat.zero_le _, Nat.zero_le _⟩ hl.1 rfl rfl (Nat.le_of_ble_eq_true rfl) dX11_readKeys_183 (fun r_66 v_66 f_66 g_66 H locs hq_66 hP _ hS => ?_)
                      obtain ⟨z_66, rfl, rfl, rfl, rfl⟩ := hq_66
                      show W p l e (gRm 2 42) s m args below meth c _ _ 0 0 Q (F0 m 186 ls [.long (iL z_66), .ref (ad 0)])
                      refine g_cv (As := [.long (iL z_66)]) (rest := []) (n := 1) C hml (m_X11_isWord l D k A ad hD (va_up (va_up (va_up (va_up (va_up (va_up (va_up v 6 w6_53) 7 w7_53) 8 w8_56) 9 w9_56) 10 w10_56) 11 w11_56) 17 y17_7) (va_up (va_up f 14 c14_7) 16 c16_7) (va_up g 0 b0_56) z_66) mM_X11_232 mI_X11_isWord mE_X11_isWord mN_X11 mC_X11_isWord (by decide +kernel) 0 (ci := 11) rfl rfl hP hS (fun _ h => h) ⟨Nat.le_of_ble_eq_true rfl, Nat.le_of_ble_eq_true rfl⟩ ⟨Nat.zero_le _, Nat.zero_le _⟩ hl.1 rfl rfl (Nat.le_of_ble_eq_true rfl) dX11_readKeys_186 (fun r_67 v_67 f_67 g_67 H locs hq_67 hP _ hS => ?_)
                      obtain ⟨z_67, rfl, rfl, rfl, rfl, p0_67, p1_67⟩ := hq_67
                      show W p l e (gRm 2 42) s m args below meth c _ _ 0 0 Q (F0 m 189 ls [.int (iI z_67)])
                      replace p0_67 : 0 ≤ z_67 ∧ z_67 ≤ 1 := p0_67
                      replace p1_67 : z_67 = 1 → w8_56 = 1 := p1_67
                      refine gi_zeq (tgt := 196) hx hb dX11_readKeys_189 (by decide) (by omega) (fun c_68 => ?_) (fun c_68 => ?_)
                      · refine lv_iconst (v := iI (-1)) hx hb dX11_readKeys_196 rfl ?_
                        refine lv_istore_n (lv' := [(3, .int (iI (-1))), (2, .int (iI z_12)), (0, .ref (ad 0)), (1, .int (iI x1))]) hx hb dX11_readKeys_197 rfl hl (by decide) rfl (fun ls hl => ?_)
                        refine lv_iload_n hx hb dX11_readKeys_198 rfl (lv_at hl 0 rfl) ?_
                        refine gi_zge (tgt := 207) hx hb dX11_readKeys_199 (by decide) (by decide) (fun c_69 => ?_) (fun c_69 => ?_)
                        · exfalso; omega
                        · refine lv_aload_n hx hb dX11_readKeys_202 rfl (lv_at hl 2 rfl) ?_
                          refine g_cv (As := []) (rest := []) (n := 0) C hml (m_X11_wrong l D k A ad hD (va_up (va_up (va_up (va_up (va_up (va_up (va_up v 6 w6_53) 7 w7_53) 8 w8_56) 9 w9_56) 10 w10_56) 11 w11_56) 17 y17_7) (va_up (va_up f 14 c14_7) 16 c16_7) (va_up g 0 b0_56)) mM_X11_198 mI_X11_wrong mE_X11_wrong mN_X11 mC_X11_wrong (by decide +kernel) 0 (ci := 11) rfl rfl hP hS (fun _ h => h) ⟨Nat.le_of_ble_eq_true rfl, Nat.le_of_ble_eq_true rfl⟩ ⟨Nat.zero_le _, Nat.zero_le _⟩ hl.1 rfl rfl (Nat.le_of_ble_eq_true rfl) dX11_readKeys_203 (fun r_70 v_70 f_70 g_70 H locs hq_70 hP _ hS => ?_)
                          obtain ⟨w6_70, w7_70, rfl, rfl, rfl, rfl, p0_70⟩ := hq_70
                          show W p l e (gRm 2 42) s m args below meth c _ _ 0 0 Q (F0 m 206 ls [])
                          have hP : gWd D (mdT k ad) (va_up (va_up (va_up (va_up (va_up (va_up (va_up v 6 w6_70) 7 w7_70) 8 w8_56) 9 w9_56) 10 w10_56) 11 w11_56) 17 y17_7) (va_up (va_up f 14 c14_7) 16 c16_7) (va_up g 0 b0_56) H := ⟨hP.1, (gF_up (V := mdV) (F := mdF) (gF_up (V := mdV) (F := mdF) (gR_up (V := mdV) (F := mdF) (gR_up (V := mdV) (F := mdF) (gR_up (V := mdV) (F := mdF) (gR_up (V := mdV) (F := mdF) (gR_up (V := mdV) (F := mdF) (gR_up (V := mdV) (F := mdF) (gR_up (V := mdV) (F := mdF) ⟨hok.1, hok.2⟩ 6 (hP.2.1 6)) 7 (hP.2.1 7)) 8 (hP.2.1 8)) 9 (hP.2.1 9)) 10 (hP.2.1 10)) 11 (hP.2.1 11)) 17 (hP.2.1 17)) 14 (hP.2.2 14)) 16 (hP.2.2 16))⟩
                          replace p0_70 : 0 < w6_70 := p0_70
                          have rw6_70 : 0 ≤ w6_70 ∧ w6_70 ≤ 5 := hP.2.1 6
                          have rw7_70 : 0 ≤ w7_70 ∧ w7_70 ≤ 700 := hP.2.1 7
                          exact g_vret hQ C hr hlocks hP hS dX11_readKeys_206 ⟨w6_70, w7_70, w8_56, w9_56, w10_56, w11_56, y17_7, c14_7, c16_7, b0_56, rfl, rfl, rfl, rfl, (by first | omega | (split <;> omega)), (by first | omega | (split <;> omega))⟩
                      · refine lv_iconst (v := iI 3) hx hb dX11_readKeys_192 rfl ?_
                        refine lv_goto (tgt := 197) hx hb dX11_readKeys_193 (by decide) ?_
                        refine lv_istore_n (lv' := [(3, .int (iI 3)), (2, .int (iI z_12)), (0, .ref (ad 0)), (1, .int (iI x1))]) hx hb dX11_readKeys_197 rfl hl (by decide) rfl (fun ls hl => ?_)
                        refine lv_iload_n hx hb dX11_readKeys_198 rfl (lv_at hl 0 rfl) ?_
                        refine gi_zge (tgt := 207) hx hb dX11_readKeys_199 (by decide) (by decide) (fun c_71 => ?_) (fun c_71 => ?_)
                        · refine lv_aload_n hx hb dX11_readKeys_207 rfl (lv_at hl 2 rfl) ?_
                          refine mdG_newUp C hP mF_X11_67 dX11_readKeys_208 ?_
                          refine lv_aload_n hx hb dX11_readKeys_211 rfl (lv_at hl 2 rfl) ?_
                          refine mdG_newKeys C hP mF_X11_214 dX11_readKeys_212 ?_
                          show W p l e (gRm 2 42) s m args below meth c _ _ 0 0 Q (F0 m 215 ls [.int (iI y17_7), .ref (ad 17)])
                          refine lv_iload_n hx hb dX11_readKeys_215 rfl (lv_at hl 1 rfl) ?_
                          refine mdS_newUp (f1 := (va_up (va_up f 14 c14_7) 16 (u1 c16_7 y17_7 z_12))) C hP hD hS (by omega) (by omega) (by omega) (by omega) rfl (Or.inr (gF_up (V := mdV) (F := mdF) (gF_up (V := mdV) (F := mdF) (gR_up (V := mdV) (F := mdF) (gR_up (V := mdV) (F := mdF) (gR_up (V := mdV) (F := mdF) (gR_up (V := mdV) (F := mdF) (gR_up (V := mdV) (F := mdF) (gR_up (V := mdV) (F := mdF) (gR_up (V := mdV) (F := mdF) ⟨hok.1, hok.2⟩ 6 (hP.2.1 6)) 7 (hP.2.1 7)) 8 (hP.2.1 8)) 9 (hP.2.1 9)) 10 (hP.2.1 10)) 11 (hP.2.1 11)) 17 (hP.2.1 17)) 14 (hP.2.2 14)) 16 (u1_rng (hP.2.2 16) (show 0 ≤ z_12 ∧ z_12 ≤ 1 from (by omega))))) dX11_readKeys_216 (fun H locs hP hS => ?_)
                          refine lv_aload_n hx hb dX11_readKeys_217 rfl (lv_at hl 2 rfl) ?_
                          refine mdG_newKey C hP mF_X11_60 dX11_readKeys_218 ?_
                          refine lv_aload_n hx hb dX11_readKeys_221 rfl (lv_at hl 2 rfl) ?_
                          refine mdG_newKeys C hP mF_X11_214 dX11_readKeys_222 ?_
                          show W p l e (gRm 2 42) s m args below meth c _ _ 0 0 Q (F0 m 225 ls [.int (iI y17_7), .ref (ad 15)])
                          refine lv_iload_n hx hb dX11_readKeys_225 rfl (lv_at hl 0 rfl) ?_
                          refine mdS_newKey (f1 := (va_up (va_up f 14 (u1 c14_7 y17_7 3)) 16 (u1 c16_7 y17_7 z_12))) C hP hD hS (by omega) (by omega) (by decide) rfl (Or.inr (gF_up (V := mdV) (F := mdF) (gF_up (V := mdV) (F := mdF) (gR_up (V := mdV) (F := mdF) (gR_up (V := mdV) (F := mdF) (gR_up (V := mdV) (F := mdF) (gR_up (V := mdV) (F := mdF) (gR_up (V := mdV) (F := mdF) (gR_up (V := mdV) (F := mdF) (gR_up (V := mdV) (F := mdF) ⟨hok.1, hok.2⟩ 6 (hP.2.1 6)) 7 (hP.2.1 7)) 8 (hP.2.1 8)) 9 (hP.2.1 9)) 10 (hP.2.1 10)) 11 (hP.2.1 11)) 17 (hP.2.1 17)) 14 (u1_rng (hP.2.2 14) (show 0 ≤ 3 ∧ 3 ≤ 3 from (by decide)))) 16 (hP.2.2 16))) dX11_readKeys_226 (fun H locs hP hS => ?_)
                          refine lv_aload_n hx hb dX11_readKeys_227 rfl (lv_at hl 2 rfl) ?_
                          refine lv_dup hx hb dX11_readKeys_228 rfl ?_
                          refine mdG_newKeys C hP mF_X11_214 dX11_readKeys_229 ?_
                          show W p l e (gRm 2 42) s m args below meth c _ _ 0 0 Q (F0 m 232 ls [.int (iI y17_7), .ref (ad 0)])
                          refine lv_iconst (v := iI 1) hx hb dX11_readKeys_232 rfl ?_
                          refine gi_add (z := (y17_7 + 1)) hx hb dX11_readKeys_233 rfl ?_
                          refine mdP_newKeys (v1 := (va_up (va_up (va_up (va_up (va_up (va_up (va_up v 6 w6_53) 7 w7_53) 8 w8_56) 9 w9_56) 10 w10_56) 11 w11_56) 17 (y17_7 + 1))) C hP hD hS mF_X11_214 (by omega) rfl (Or.inr (gF_up (V := mdV) (F := mdF) (gF_up (V := mdV) (F := mdF) (gR_up (V := mdV) (F := mdF) (gR_up (V := mdV) (F := mdF) (gR_up (V := mdV) (F := mdF) (gR_up (V := mdV) (F := mdF) (gR_up (V := mdV) (F := mdF) (gR_up (V := mdV) (F := mdF) (gR_up (V := mdV) (F := mdF) ⟨hok.1, hok.2⟩ 6 (hP.2.1 6)) 7 (hP.2.1 7)) 8 (hP.2.1 8)) 9 (hP.2.1 9)) 10 (hP.2.1 10)) 11 (hP.2.1 11)) 17 (show 0 ≤ (y17_7 + 1) ∧ (y17_7 + 1) ≤ 4 from by omega)) 14 (hP.2.2 14)) 16 (hP.2.2 16))) dX11_readKeys_234 (fun H locs hP hS => ?_)
                          refine lv_aload_n hx hb dX11_readKeys_237 rfl (lv_at hl 2 rfl) ?_
                          refine g_cv (As := []) (rest := []) (n := 0) C hml (m_X11_next l D k A ad hD (va_up (va_up (va_up (va_up (va_up (va_up (va_up v 6 w6_53) 7 w7_53) 8 w8_56) 9 w9_56) 10 w10_56) 11 w11_56) 17 (y17_7 + 1)) (va_up (va_up f 14 (u1 c14_7 y17_7 3)) 16 (u1 c16_7 y17_7 z_12)) (va_up g 0 b0_56) (show w10_56 ≤ (v 3) from by omega)) mM_X11_201 mI_X11_next mE_X11_next mN_X11 mC_X11_next (by decide +kernel) 0 (ci := 11) rfl rfl hP hS (fun _ h => h) ⟨Nat.le_of_ble_eq_true rfl, Nat.le_of_ble_eq_true rfl⟩ ⟨Nat.zero_le _, Nat.zero_le _⟩ hl.1 rfl rfl (Nat.le_of_ble_eq_true rfl) dX11_readKeys_238 (fun r_72 v_72 f_72 g_72 H locs hq_72 hP _ hS => ?_)
                          obtain ⟨w8_72, w9_72, w10_72, w11_72, b0_72, rfl, rfl, rfl, rfl, p0_72, p1_72⟩ := hq_72
                          show W p l e (gRm 2 42) s m args below meth c _ _ 0 0 Q (F0 m 241 ls [])
                          have hP : gWd D (mdT k ad) (va_up (va_up (va_up (va_up (va_up (va_up (va_up v 6 w6_53) 7 w7_53) 8 w8_72) 9 w9_72) 10 w10_72) 11 w11_72) 17 (y17_7 + 1)) (va_up (va_up f 14 (u1 c14_7 y17_7 3)) 16 (u1 c16_7 y17_7 z_12)) (va_up g 0 b0_72) H := ⟨hP.1, (gF_up (V := mdV) (F := mdF) (gF_up (V := mdV) (F := mdF) (gR_up (V := mdV) (F := mdF) (gR_up (V := mdV) (F := mdF) (gR_up (V := mdV) (F := mdF) (gR_up (V := mdV) (F := mdF) (gR_up (V := mdV) (F := mdF) (gR_up (V := mdV) (F := mdF) (gR_up (V := mdV) (F := mdF) ⟨hok.1, hok.2⟩ 6 (hP.2.1 6)) 7 (hP.2.1 7)) 8 (hP.2.1 8)) 9 (hP.2.1 9)) 10 (hP.2.1 10)) 11 (hP.2.1 11)) 17 (hP.2.1 17)) 14 (hP.2.2 14)) 16 (hP.2.2 16))⟩
                          replace p0_72 : w10_56 ≤ w9_72 ∧ w9_72 ≤ w10_72 ∧ w10_72 ≤ (v 3) := p0_72
                          replace p1_72 : w8_72 ≠ 0 → w9_72 < w10_72 := p1_72
                          have rw8_72 : 0 ≤ w8_72 ∧ w8_72 ≤ 4 := hP.2.1 8
                          have rw9_72 : 0 ≤ w9_72 ∧ w9_72 ≤ 700 := hP.2.1 9
                          have rw10_72 : 0 ≤ w10_72 ∧ w10_72 ≤ 700 := hP.2.1 10
                          have rw11_72 : 0 ≤ w11_72 ∧ w11_72 ≤ 999999 := hP.2.1 11
                          refine lv_aload_n hx hb dX11_readKeys_241 rfl (lv_at hl 2 rfl) ?_
                          refine lv_bipush (v := iI 44) hx hb dX11_readKeys_242 (by decide) ?_
                          refine g_cv (As := [.int (iI 44)]) (rest := []) (n := 1) C hml (m_X11_isSign l D k A ad hD (va_up (va_up (va_up (va_up (va_up (va_up (va_up v 6 w6_53) 7 w7_53) 8 w8_72) 9 w9_72) 10 w10_72) 11 w11_72) 17 (y17_7 + 1)) (va_up (va_up f 14 (u1 c14_7 y17_7 3)) 16 (u1 c16_7 y17_7 z_12)) (va_up g 0 b0_72) 44 (by decide)) mM_X11_204 mI_X11_isSign mE_X11_isSign mN_X11 mC_X11_isSign (by decide +kernel) 0 (ci := 11) rfl rfl hP hS (fun _ h => h) ⟨Nat.le_of_ble_eq_true rfl, Nat.le_of_ble_eq_true rfl⟩ ⟨Nat.zero_le _, Nat.zero_le _⟩ hl.1 rfl rfl (Nat.le_of_ble_eq_true rfl) dX11_readKeys_244 (fun r_73 v_73 f_73 g_73 H locs hq_73 hP _ hS => ?_)
                          obtain ⟨z_73, rfl, rfl, rfl, rfl, p0_73, p1_73⟩ := hq_73
                          show W p l e (gRm 2 42) s m args below meth c _ _ 0 0 Q (F0 m 247 ls [.int (iI z_73)])
                          replace p0_73 : 0 ≤ z_73 ∧ z_73 ≤ 1 := p0_73
                          replace p1_73 : z_73 = 1 → w8_72 = 3 := p1_73
                          refine lv_istore_n (lv' := [(1, .int (iI z_73)), (3, .int (iI 3)), (2, .int (iI z_12)), (0, .ref (ad 0))]) hx hb dX11_readKeys_247 rfl hl (by decide) rfl (fun ls hl => ?_)
                          refine lv_iload_n hx hb dX11_readKeys_248 rfl (lv_at hl 0 rfl) ?_
                          refine gi_zeq (tgt := 256) hx hb dX11_readKeys_249 (by decide) (by omega) (fun c_74 => ?_) (fun c_74 => ?_)
                          · refine lv_goto (tgt := 7) hx hb dX11_readKeys_256 (by decide) ?_
                            exact ih_7 z_73 w6_53 w7_53 w8_72 w9_72 w10_72 w11_72 (y17_7 + 1) (u1 c14_7 y17_7 3) (u1 c16_7 y17_7 z_12) b0_72 _ _ _ (by omega) (by omega) (by omega) (by omega) (by omega) hP hS (lv_sub hl [3, 0] rfl)
                          · refine lv_aload_n hx hb dX11_readKeys_252 rfl (lv_at hl 3 rfl) ?_
                            refine g_cv (As := []) (rest := []) (n := 0) C hml (m_X11_next l D k A ad hD (va_up (va_up (va_up (va_up (va_up (va_up (va_up v 6 w6_53) 7 w7_53) 8 w8_72) 9 w9_72) 10 w10_72) 11 w11_72) 17 (y17_7 + 1)) (va_up (va_up f 14 (u1 c14_7 y17_7 3)) 16 (u1 c16_7 y17_7 z_12)) (va_up g 0 b0_72) (show w10_72 ≤ (v 3) from by omega)) mM_X11_201 mI_X11_next mE_X11_next mN_X11 mC_X11_next (by decide +kernel) 0 (ci := 11) rfl rfl hP hS (fun _ h => h) ⟨Nat.le_of_ble_eq_true rfl, Nat.le_of_ble_eq_true rfl⟩ ⟨Nat.zero_le _, Nat.zero_le _⟩ hl.1 rfl rfl (Nat.le_of_ble_eq_true rfl) dX11_readKeys_253 (fun r_75 v_75 f_75 g_75 H locs hq_75 hP _ hS => ?_)
                            obtain ⟨w8_75, w9_75, w10_75, w11_75, b0_75, rfl, rfl, rfl, rfl, p0_75, p1_75⟩ := hq_75
                            show W p l e (gRm 2 42) s m args below meth c _ _ 0 0 Q (F0 m 256 ls [])
                            have hP : gWd D (mdT k ad) (va_up (va_up (va_up (va_up (va_up (va_up (va_up v 6 w6_53) 7 w7_53) 8 w8_75) 9 w9_75) 10 w10_75) 11 w11_75) 17 (y17_7 + 1)) (va_up (va_up f 14 (u1 c14_7 y17_7 3)) 16 (u1 c16_7 y17_7 z_12)) (va_up g 0 b0_75) H := ⟨hP.1, (gF_up (V := mdV) (F := mdF) (gF_up (V := mdV) (F := mdF) (gR_up (V := mdV) (F := mdF) (gR_up (V := mdV) (F := mdF) (gR_up (V := mdV) (F := mdF) (gR_up (V := mdV) (F := mdF) (gR_up (V := mdV) (F := mdF) (gR_up (V := mdV) (F := mdF) (gR_up (V := mdV) (F := mdF) ⟨hok.1, hok.2⟩ 6 (hP.2.1 6)) 7 (hP.2.1 7)) 8 (hP.2.1 8)) 9 (hP.2.1 9)) 10 (hP.2.1 10)) 11 (hP.2.1 11)) 17 (hP.2.1 17)) 14 (hP.2.2 14)) 16 (hP.2.2 16))⟩
                            replace p0_75 : w10_72 ≤ w9_75 ∧ w9_75 ≤ w10_75 ∧ w10_75 ≤ (v 3) := p0_75
                            replace p1_75 : w8_75 ≠ 0 → w9_75 < w10_75 := p1_75
                            have rw8_75 : 0 ≤ w8_75 ∧ w8_75 ≤ 4 := hP.2.1 8
                            have rw9_75 : 0 ≤ w9_75 ∧ w9_75 ≤ 700 := hP.2.1 9
                            have rw10_75 : 0 ≤ w10_75 ∧ w10_75 ≤ 700 := hP.2.1 10
                            have rw11_75 : 0 ≤ w11_75 ∧ w11_75 ≤ 999999 := hP.2.1 11
                            refine lv_goto (tgt := 7) hx hb dX11_readKeys_256 (by decide) ?_
                            exact ih_7 z_73 w6_53 w7_53 w8_75 w9_75 w10_75 w11_75 (y17_7 + 1) (u1 c14_7 y17_7 3) (u1 c16_7 y17_7 z_12) b0_75 _ _ _ (by omega) (by omega) (by omega) (by omega) (by omega) hP hS (lv_sub hl [3, 0] rfl)
                        · exfalso; omega
                    · refine lv_iconst (v := iI 2) hx hb dX11_readKeys_166 rfl ?_
                      refine lv_goto (tgt := 197) hx hb dX11_readKeys_167 (by decide) ?_
                      refine lv_istore_n (lv' := [(3, .int (iI 2)), (2, .int (iI z_12)), (0, .ref (ad 0)), (1, .int (iI x1))]) hx hb dX11_readKeys_197 rfl hl (by decide) rfl (fun ls hl => ?_)
                      refine lv_iload_n hx hb dX11_readKeys_198 rfl (lv_at hl 0 rfl) ?_
                      refine gi_zge (tgt := 207) hx hb dX11_readKeys_199 (by decide) (by decide) (fun c_76 => ?_) (fun c_76 => ?_)
                      · refine lv_aload_n hx hb dX11_readKeys_207 rfl (lv_at hl 2 rfl) ?_
                        refine mdG_newUp C hP mF_X11_67 dX11_readKeys_208 ?_
                        refine lv_aload_n hx hb dX11_readKeys_211 rfl (lv_at hl 2 rfl) ?_
                        refine mdG_newKeys C hP mF_X11_214 dX11_readKeys_212 ?_
                        show W p l e (gRm 2 42) s m args below meth c _ _ 0 0 Q (F0 m 215 ls [.int (iI y17_7), .ref (ad 17)])
                        refine lv_iload_n hx hb dX11_readKeys_215 rfl (lv_at hl 1 rfl) ?_
                        refine mdS_newUp (f1 := (va_up (va_up f 14 c14_7) 16 (u1 c16_7 y17_7 z_12))) C hP hD hS (by omega) (by omega) (by omega) (by omega) rfl (Or.inr (gF_up (V := mdV) (F := mdF) (gF_up (V := mdV) (F := mdF) (gR_up (V := mdV) (F := mdF) (gR_up (V := mdV) (F := mdF) (gR_up (V := mdV) (F := mdF) (gR_up (V := mdV) (F := mdF) (gR_up (V := mdV) (F := mdF) (gR_up (V := mdV) (F := mdF) (gR_up (V := mdV) (F := mdF) ⟨hok.1, hok.2⟩ 6 (hP.2.1 6)) 7 (hP.2.1 7)) 8 (hP.2.1 8)) 9 (hP.2.1 9)) 10 (hP.2.1 10)) 11 (hP.2.1 11)) 17 (hP.2.1 17)) 14 (hP.2.2 14)) 16 (u1_rng (hP.2.2 16) (show 0 ≤ z_12 ∧ z_12 ≤ 1 from (by omega))))) dX11_readKeys_216 (fun H locs hP hS => ?_)
                        refine lv_aload_n hx hb dX11_readKeys_217 rfl (lv_at hl 2 rfl) ?_
                        refine mdG_newKey C hP mF_X11_60 dX11_readKeys_218 ?_
                        refine lv_aload_n hx hb dX11_readKeys_221 rfl (lv_at hl 2 rfl) ?_
                        refine mdG_newKeys C hP mF_X11_214 dX11_readKeys_222 ?_
                        show W p l e (gRm 2 42) s m args below meth c _ _ 0 0 Q (F0 m 225 ls [.int (iI y17_7), .ref (ad 15)])
                        refine lv_iload_n hx hb dX11_readKeys_225 rfl (lv_at hl 0 rfl) ?_
                        refine mdS_newKey (f1 := (va_up (va_up f 14 (u1 c14_7 y17_7 2)) 16 (u1 c16_7 y17_7 z_12))) C hP hD hS (by omega) (by omega) (by decide) rfl (Or.inr (gF_up (V := mdV) (F := mdF) (gF_up (V := mdV) (F := mdF) (gR_up (V := mdV) (F := mdF) (gR_up (V := mdV) (F := mdF) (gR_up (V := mdV) (F := mdF) (gR_up (V := mdV) (F := mdF) (gR_up (V := mdV) (F := mdF) (gR_up (V := mdV) (F := mdF) (gR_up (V := mdV) (F := mdF) ⟨hok.1, hok.2⟩ 6 (hP.2.1 6)) 7 (hP.2.1 7)) 8 (hP.2.1 8)) 9 (hP.2.1 9)) 10 (hP.2.1 10)) 11 (hP.2.1 11)) 17 (hP.2.1 17)) 14 (u1_rng (hP.2.2 14) (show 0 ≤ 2 ∧ 2 ≤ 3 from (by decide)))) 16 (hP.2.2 16))) dX11_readKeys_226 (fun H locs hP hS => ?_)
                        refine lv_aload_n hx hb dX11_readKeys_227 rfl (lv_at hl 2 rfl) ?_
                        refine lv_dup hx hb dX11_readKeys_228 rfl ?_
                        refine mdG_newKeys C hP mF_X11_214 dX11_readKeys_229 ?_
                        show W p l e (gRm 2 42) s m args below meth c _ _ 0 0 Q (F0 m 232 ls [.int (iI y17_7), .ref (ad 0)])
                        refine lv_iconst (v := iI 1) hx hb dX11_readKeys_232 rfl ?_
                        refine gi_add (z := (y17_7 + 1)) hx hb dX11_readKeys_233 rfl ?_
                        refine mdP_newKeys (v1 := (va_up (va_up (va_up (va_up (va_up (va_up (va_up v 6 w6_53) 7 w7_53) 8 w8_56) 9 w9_56) 10 w10_56) 11 w11_56) 17 (y17_7 + 1))) C hP hD hS mF_X11_214 (by omega) rfl (Or.inr (gF_up (V := mdV) (F := mdF) (gF_up (V := mdV) (F := mdF) (gR_up (V := mdV) (F := mdF) (gR_up (V := mdV) (F := mdF) (gR_up (V := mdV) (F := mdF) (gR_up (V := mdV) (F := mdF) (gR_up (V := mdV) (F := mdF) (gR_up (V := mdV) (F := mdF) (gR_up (V := mdV) (F := mdF) ⟨hok.1, hok.2⟩ 6 (hP.2.1 6)) 7 (hP.2.1 7)) 8 (hP.2.1 8)) 9 (hP.2.1 9)) 10 (hP.2.1 10)) 11 (hP.2.1 11)) 17 (show 0 ≤ (y17_7 + 1) ∧ (y17_7 + 1) ≤ 4 from by omega)) 14 (hP.2.2 14)) 16 (hP.2.2 16))) dX11_readKeys_234 (fun H locs hP hS => ?_)
                        refine lv_aload_n hx hb dX11_readKeys_237 rfl (lv_at hl 2 rfl) ?_
                        refine g_cv (As := []) (rest := []) (n := 0) C hml (m_X11_next l D k A ad hD (va_up (va_up (va_up (va_up (va_up (va_up (va_up v 6 w6_53) 7 w7_53) 8 w8_56) 9 w9_56) 10 w10_56) 11 w11_56) 17 (y17_7 + 1)) (va_up (va_up f 14 (u1 c14_7 y17_7 2)) 16 (u1 c16_7 y17_7 z_12)) (va_up g 0 b0_56) (show w10_56 ≤ (v 3) from by omega)) mM_X11_201 mI_X11_next mE_X11_next mN_X11 mC_X11_next (by decide +kernel) 0 (ci := 11) rfl rfl hP hS (fun _ h => h) ⟨Nat.le_of_ble_eq_true rfl, Nat.le_of_ble_eq_true rfl⟩ ⟨Nat.zero_le _, Nat.zero_le _⟩ hl.1 rfl rfl (Nat.le_of_ble_eq_true rfl) dX11_readKeys_238 (fun r_77 v_77 f_77 g_77 H locs hq_77 hP _ hS => ?_)
                        obtain ⟨w8_77, w9_77, w10_77, w11_77, b0_77, rfl, rfl, rfl, rfl, p0_77, p1_77⟩ := hq_77
                        show W p l e (gRm 2 42) s m args below meth c _ _ 0 0 Q (F0 m 241 ls [])
                        have hP : gWd D (mdT k ad) (va_up (va_up (va_up (va_up (va_up (va_up (va_up v 6 w6_53) 7 w7_53) 8 w8_77) 9 w9_77) 10 w10_77) 11 w11_77) 17 (y17_7 + 1)) (va_up (va_up f 14 (u1 c14_7 y17_7 2)) 16 (u1 c16_7 y17_7 z_12)) (va_up g 0 b0_77) H := ⟨hP.1, (gF_up (V := mdV) (F := mdF) (gF_up (V := mdV) (F := mdF) (gR_up (V := mdV) (F := mdF) (gR_up (V := mdV) (F := mdF) (gR_up (V := mdV) (F := mdF) (gR_up (V := mdV) (F := mdF) (gR_up (V := mdV) (F := mdF) (gR_up (V := mdV) (F := mdF) (gR_up (V := mdV) (F := mdF) ⟨hok.1, hok.2⟩ 6 (hP.2.1 6)) 7 (hP.2.1 7)) 8 (hP.2.1 8)) 9 (hP.2.1 9)) 10 (hP.2.1 10)) 11 (hP.2.1 11)) 17 (hP.2.1 17)) 14 (hP.2.2 14)) 16 (hP.2.2 16))⟩
                        replace p0_77 : w10_56 ≤ w9_77 ∧ w9_77 ≤ w10_77 ∧ w10_77 ≤ (v 3) := p0_77
                        replace p1_77 : w8_77 ≠ 0 → w9_77 < w10_77 := p1_77
                        have rw8_77 : 0 ≤ w8_77 ∧ w8_77 ≤ 4 := hP.2.1 8
                        have rw9_77 : 0 ≤ w9_77 ∧ w9_77 ≤ 700 := hP.2.1 9
                        have rw10_77 : 0 ≤ w10_77 ∧ w10_77 ≤ 700 := hP.2.1 10
                        have rw11_77 : 0 ≤ w11_77 ∧ w11_77 ≤ 999999 := hP.2.1 11
                        refine lv_aload_n hx hb dX11_readKeys_241 rfl (lv_at hl 2 rfl) ?_
                        refine lv_bipush (v := iI 44) hx hb dX11_readKeys_242 (by decide) ?_
                        refine g_cv (As := [.int (iI 44)]) (rest := []) (n := 1) C hml (m_X11_isSign l D k A ad hD (va_up (va_up (va_up (va_up (va_up (va_up (va_up v 6 w6_53) 7 w7_53) 8 w8_77) 9 w9_77) 10 w10_77) 11 w11_77) 17 (y17_7 + 1)) (va_up (va_up f 14 (u1 c14_7 y17_7 2)) 16 (u1 c16_7 y17_7 z_12)) (va_up g 0 b0_77) 44 (by decide)) mM_X11_204 mI_X11_isSign mE_X11_isSign mN_X11 mC_X11_isSign (by decide +kernel) 0 (ci := 11) rfl rfl hP hS (fun _ h => h) ⟨Nat.le_of_ble_eq_true rfl, Nat.le_of_ble_eq_true rfl⟩ ⟨Nat.zero_le _, Nat.zero_le _⟩ hl.1 rfl rfl (Nat.le_of_ble_eq_true rfl) dX11_readKeys_244 (fun r_78 v_78 f_78 g_78 H locs hq_78 hP _ hS => ?_)
                        obtain ⟨z_78, rfl, rfl, rfl, rfl, p0_78, p1_78⟩ := hq_78
                        show W p l e (gRm 2 42) s m args below meth c _ _ 0 0 Q (F0 m 247 ls [.int (iI z_78)])
                        replace p0_78 : 0 ≤ z_78 ∧ z_78 ≤ 1 := p0_78
                        replace p1_78 : z_78 = 1 → w8_77 = 3 := p1_78
                        refine lv_istore_n (lv' := [(1, .int (iI z_78)), (3, .int (iI 2)), (2, .int (iI z_12)), (0, .ref (ad 0))]) hx hb dX11_readKeys_247 rfl hl (by decide) rfl (fun ls hl => ?_)
                        refine lv_iload_n hx hb dX11_readKeys_248 rfl (lv_at hl 0 rfl) ?_
                        refine gi_zeq (tgt := 256) hx hb dX11_readKeys_249 (by decide) (by omega) (fun c_79 => ?_) (fun c_79 => ?_)
                        · refine lv_goto (tgt := 7) hx hb dX11_readKeys_256 (by decide) ?_
                          exact ih_7 z_78 w6_53 w7_53 w8_77 w9_77 w10_77 w11_77 (y17_7 + 1) (u1 c14_7 y17_7 2) (u1 c16_7 y17_7 z_12) b0_77 _ _ _ (by omega) (by omega) (by omega) (by omega) (by omega) hP hS (lv_sub hl [3, 0] rfl)
                        · refine lv_aload_n hx hb dX11_readKeys_252 rfl (lv_at hl 3 rfl) ?_
                          refine g_cv (As := []) (rest := []) (n := 0) C hml (m_X11_next l D k A ad hD (va_up (va_up (va_up (va_up (va_up (va_up (va_up v 6 w6_53) 7 w7_53) 8 w8_77) 9 w9_77) 10 w10_77) 11 w11_77) 17 (y17_7 + 1)) (va_up (va_up f 14 (u1 c14_7 y17_7 2)) 16 (u1 c16_7 y17_7 z_12)) (va_up g 0 b0_77) (show w10_77 ≤ (v 3) from by omega)) mM_X11_201 mI_X11_next mE_X11_next mN_X11 mC_X11_next (by decide +kernel) 0 (ci := 11) rfl rfl hP hS (fun _ h => h) ⟨Nat.le_of_ble_eq_true rfl, Nat.le_of_ble_eq_true rfl⟩ ⟨Nat.zero_le _, Nat.zero_le _⟩ hl.1 rfl rfl (Nat.le_of_ble_eq_true rfl) dX11_readKeys_253 (fun r_80 v_80 f_80 g_80 H locs hq_80 hP _ hS => ?_)
                          obtain ⟨w8_80, w9_80, w10_80, w11_80, b0_80, rfl, rfl, rfl, rfl, p0_80, p1_80⟩ := hq_80
                          show W p l e (gRm 2 42) s m args below meth c _ _ 0 0 Q (F0 m 256 ls [])
                          have hP : gWd D (mdT k ad) (va_up (va_up (va_up (va_up (va_up (va_up (va_up v 6 w6_53) 7 w7_53) 8 w8_80) 9 w9_80) 10 w10_80) 11 w11_80) 17 (y17_7 + 1)) (va_up (va_up f 14 (u1 c14_7 y17_7 2)) 16 (u1 c16_7 y17_7 z_12)) (va_up g 0 b0_80) H := ⟨hP.1, (gF_up (V := mdV) (F := mdF) (gF_up (V := mdV) (F := mdF) (gR_up (V := mdV) (F := mdF) (gR_up (V := mdV) (F := mdF) (gR_up (V := mdV) (F := mdF) (gR_up (V := mdV) (F := mdF) (gR_up (V := mdV) (F := mdF) (gR_up (V := mdV) (F := mdF) (gR_up (V := mdV) (F := mdF) ⟨hok.1, hok.2⟩ 6 (hP.2.1 6)) 7 (hP.2.1 7)) 8 (hP.2.1 8)) 9 (hP.2.1 9)) 10 (hP.2.1 10)) 11 (hP.2.1 11)) 17 (hP.2.1 17)) 14 (hP.2.2 14)) 16 (hP.2.2 16))⟩
                          replace p0_80 : w10_77 ≤ w9_80 ∧ w9_80 ≤ w10_80 ∧ w10_80 ≤ (v 3) := p0_80
                          replace p1_80 : w8_80 ≠ 0 → w9_80 < w10_80 := p1_80
                          have rw8_80 : 0 ≤ w8_80 ∧ w8_80 ≤ 4 := hP.2.1 8
                          have rw9_80 : 0 ≤ w9_80 ∧ w9_80 ≤ 700 := hP.2.1 9
                          have rw10_80 : 0 ≤ w10_80 ∧ w10_80 ≤ 700 := hP.2.1 10
                          have rw11_80 : 0 ≤ w11_80 ∧ w11_80 ≤ 999999 := hP.2.1 11
                          refine lv_goto (tgt := 7) hx hb dX11_readKeys_256 (by decide) ?_
                          exact ih_7 z_78 w6_53 w7_53 w8_80 w9_80 w10_80 w11_80 (y17_7 + 1) (u1 c14_7 y17_7 2) (u1 c16_7 y17_7 z_12) b0_80 _ _ _ (by omega) (by omega) (by omega) (by omega) (by omega) hP hS (lv_sub hl [3, 0] rfl)
                      · exfalso; omega
                  · refine lv_iconst (v := iI 1) hx hb dX11_readKeys_141 rfl ?_
                    refine lv_goto (tgt := 197) hx hb dX11_readKeys_142 (by decide) ?_
                    refine lv_istore_n (lv' := [(3, .int (iI 1)), (2, .int (iI z_12)), (0, .ref (ad 0)), (1, .int (iI x1))]) hx hb dX11_readKeys_197 rfl hl (by decide) rfl (fun ls hl => ?_)
                    refine lv_iload_n hx hb dX11_readKeys_198 rfl (lv_at hl 0 rfl) ?_
                    refine gi_zge (tgt := 207) hx hb dX11_readKeys_199 (by decide) (by decide) (fun c_81 => ?_) (fun c_81 => ?_)
                    · refine lv_aload_n hx hb dX11_readKeys_207 rfl (lv_at hl 2 rfl) ?_
                      refine mdG_newUp C hP mF_X11_67 dX11_readKeys_208 ?_
                      refine lv_aload_n hx hb dX11_readKeys_211 rfl (lv_at hl 2 rfl) ?_
                      refine mdG_newKeys C hP mF_X11_214 dX11_readKeys_212 ?_
                      show W p l e (gRm 2 42) s m args below meth c _ _ 0 0 Q (F0 m 215 ls [.int (iI y17_7), .ref (ad 17)])
                      refine lv_iload_n hx hb dX11_readKeys_215 rfl (lv_at hl 1 rfl) ?_
                      refine mdS_newUp (f1 := (va_up (va_up f 14 c14_7) 16 (u1 c16_7 y17_7 z_12))) C hP hD hS (by omega) (by omega) (by omega) (by omega) rfl (Or.inr (gF_up (V := mdV) (F := mdF) (gF_up (V := mdV) (F := mdF) (gR_up (V := mdV) (F := mdF) (gR_up (V := mdV) (F := mdF) (gR_up (V := mdV) (F := mdF) (gR_up (V := mdV) (F := mdF) (gR_up (V := mdV) (F := mdF) (gR_up (V := mdV) (F := mdF) (gR_up (V := mdV) (F := mdF) ⟨hok.1, hok.2⟩ 6 (hP.2.1 6)) 7 (hP.2.1 7)) 8 (hP.2.1 8)) 9 (hP.2.1 9)) 10 (hP.2.1 10)) 11 (hP.2.1 11)) 17 (hP.2.1 17)) 14 (hP.2.2 14)) 16 (u1_rng (hP.2.2 16) (show 0 ≤ z_12 ∧ z_12 ≤ 1 from (by omega))))) dX11_readKeys_216 (fun H locs hP hS => ?_)
                      refine lv_aload_n hx hb dX11_readKeys_217 rfl (lv_at hl 2 rfl) ?_
                      refine mdG_newKey C hP mF_X11_60 dX11_readKeys_218 ?_
                      refine lv_aload_n hx hb dX11_readKeys_221 rfl (lv_at hl 2 rfl) ?_
                      refine mdG_newKeys C hP mF_X11_214 dX11_readKeys_222 ?_
                      show W p l e (gRm 2 42) s m args below meth c _ _ 0 0 Q (F0 m 225 ls [.int (iI y17_7), .ref (ad 15)])
                      refine lv_iload_n hx hb dX11_readKeys_225 rfl (lv_at hl 0 rfl) ?_
                      refine mdS_newKey (f1 := (va_up (va_up f 14 (u1 c14_7 y17_7 1)) 16 (u1 c16_7 y17_7 z_12))) C hP hD hS (by omega) (by omega) (by decide) rfl (Or.inr (gF_up (V := mdV) (F := mdF) (gF_up (V := mdV) (F := mdF) (gR_up (V := mdV) (F := mdF) (gR_up (V := mdV) (F := mdF) (gR_up (V := mdV) (F := mdF) (gR_up (V := mdV) (F := mdF) (gR_up (V := mdV) (F := mdF) (gR_up (V := mdV) (F := mdF) (gR_up (V := mdV) (F := mdF) ⟨hok.1, hok.2⟩ 6 (hP.2.1 6)) 7 (hP.2.1 7)) 8 (hP.2.1 8)) 9 (hP.2.1 9)) 10 (hP.2.1 10)) 11 (hP.2.1 11)) 17 (hP.2.1 17)) 14 (u1_rng (hP.2.2 14) (show 0 ≤ 1 ∧ 1 ≤ 3 from (by decide)))) 16 (hP.2.2 16))) dX11_readKeys_226 (fun H locs hP hS => ?_)
                      refine lv_aload_n hx hb dX11_readKeys_227 rfl (lv_at hl 2 rfl) ?_
                      refine lv_dup hx hb dX11_readKeys_228 rfl ?_
                      refine mdG_newKeys C hP mF_X11_214 dX11_readKeys_229 ?_
                      show W p l e (gRm 2 42) s m args below meth c _ _ 0 0 Q (F0 m 232 ls [.int (iI y17_7), .ref (ad 0)])
                      refine lv_iconst (v := iI 1) hx hb dX11_readKeys_232 rfl ?_
                      refine gi_add (z := (y17_7 + 1)) hx hb dX11_readKeys_233 rfl ?_
                      refine mdP_newKeys (v1 := (va_up (va_up (va_up (va_up (va_up (va_up (va_up v 6 w6_53) 7 w7_53) 8 w8_56) 9 w9_56) 10 w10_56) 11 w11_56) 17 (y17_7 + 1))) C hP hD hS mF_X11_214 (by omega) rfl (Or.inr (gF_up (V := mdV) (F := mdF) (gF_up (V := mdV) (F := mdF) (gR_up (V := mdV) (F := mdF) (gR_up (V := mdV) (F := mdF) (gR_up (V := mdV) (F := mdF) (gR_up (V := mdV) (F := mdF) (gR_up (V := mdV) (F := mdF) (gR_up (V := mdV) (F := mdF) (gR_up (V := mdV) (F := mdF) ⟨hok.1, hok.2⟩ 6 (hP.2.1 6)) 7 (hP.2.1 7)) 8 (hP.2.1 8)) 9 (hP.2.1 9)) 10 (hP.2.1 10)) 11 (hP.2.1 11)) 17 (show 0 ≤ (y17_7 + 1) ∧ (y17_7 + 1) ≤ 4 from by omega)) 14 (hP.2.2 14)) 16 (hP.2.2 16))) dX11_readKeys_234 (fun H locs hP hS => ?_)
                      refine lv_aload_n hx hb dX11_readKeys_237 rfl (lv_at hl 2 rfl) ?_
                      refine g_cv (As := []) (rest := []) (n := 0) C hml (m_X11_next l D k A ad hD (va_up (va_up (va_up (va_up (va_up (va_up (va_up v 6 w6_53) 7 w7_53) 8 w8_56) 9 w9_56) 10 w10_56) 11 w11_56) 17 (y17_7 + 1)) (va_up (va_up f 14 (u1 c14_7 y17_7 1)) 16 (u1 c16_7 y17_7 z_12)) (va_up g 0 b0_56) (show w10_56 ≤ (v 3) from by omega)) mM_X11_201 mI_X11_next mE_X11_next mN_X11 mC_X11_next (by decide +kernel) 0 (ci := 11) rfl rfl hP hS (fun _ h => h) ⟨Nat.le_of_ble_eq_true rfl, Nat.le_of_ble_eq_true rfl⟩ ⟨Nat.zero_le _, Nat.zero_le _⟩ hl.1 rfl rfl (Nat.le_of_ble_eq_true rfl) dX11_readKeys_238 (fun r_82 v_82 f_82 g_82 H locs hq_82 hP _ hS => ?_)
                      obtain ⟨w8_82, w9_82, w10_82, w11_82, b0_82, rfl, rfl, rfl, rfl, p0_82, p1_82⟩ := hq_82
                      show W p l e (gRm 2 42) s m args below meth c _ _ 0 0 Q (F0 m 241 ls [])
                      have hP : gWd D (mdT k ad) (va_up (va_up (va_up (va_up (va_up (va_up (va_up v 6 w6_53) 7 w7_53) 8 w8_82) 9 w9_82) 10 w10_82) 11 w11_82) 17 (y17_7 + 1)) (va_up (va_up f 14 (u1 c14_7 y17_7 1)) 16 (u1 c16_7 y17_7 z_12)) (va_up g 0 b0_82) H := ⟨hP.1, (gF_up (V := mdV) (F := mdF) (gF_up (V := mdV) (F := mdF) (gR_up (V := mdV) (F := mdF) (gR_up (V := mdV) (F := mdF) (gR_up (V := mdV) (F := mdF) (gR_up (V := mdV) (F := mdF) (gR_up (V := mdV) (F := mdF) (gR_up (V := mdV) (F := mdF) (gR_up (V := mdV) (F := mdF) ⟨hok.1, hok.2⟩ 6 (hP.2.1 6)) 7 (hP.2.1 7)) 8 (hP.2.1 8)) 9 (hP.2.1 9)) 10 (hP.2.1 10)) 11 (hP.2.1 11)) 17 (hP.2.1 17)) 14 (hP.2.2 14)) 16 (hP.2.2 16))⟩
                      replace p0_82 : w10_56 ≤ w9_82 ∧ w9_82 ≤ w10_82 ∧ w10_82 ≤ (v 3) := p0_82
                      replace p1_82 : w8_82 ≠ 0 → w9_82 < w10_82 := p1_82
                      have rw8_82 : 0 ≤ w8_82 ∧ w8_82 ≤ 4 := hP.2.1 8
                      have rw9_82 : 0 ≤ w9_82 ∧ w9_82 ≤ 700 := hP.2.1 9
                      have rw10_82 : 0 ≤ w10_82 ∧ w10_82 ≤ 700 := hP.2.1 10
                      have rw11_82 : 0 ≤ w11_82 ∧ w11_82 ≤ 999999 := hP.2.1 11
                      refine lv_aload_n hx hb dX11_readKeys_241 rfl (lv_at hl 2 rfl) ?_
                      refine lv_bipush (v := iI 44) hx hb dX11_readKeys_242 (by decide) ?_
                      refine g_cv (As := [.int (iI 44)]) (rest := []) (n := 1) C hml (m_X11_isSign l D k A ad hD (va_up (va_up (va_up (va_up (va_up (va_up (va_up v 6 w6_53) 7 w7_53) 8 w8_82) 9 w9_82) 10 w10_82) 11 w11_82) 17 (y17_7 + 1)) (va_up (va_up f 14 (u1 c14_7 y17_7 1)) 16 (u1 c16_7 y17_7 z_12)) (va_up g 0 b0_82) 44 (by decide)) mM_X11_204 mI_X11_isSign mE_X11_isSign mN_X11 mC_X11_isSign (by decide +kernel) 0 (ci := 11) rfl rfl hP hS (fun _ h => h) ⟨Nat.le_of_ble_eq_true rfl, Nat.le_of_ble_eq_true rfl⟩ ⟨Nat.zero_le _, Nat.zero_le _⟩ hl.1 rfl rfl (Nat.le_of_ble_eq_true rfl) dX11_readKeys_244 (fun r_83 v_83 f_83 g_83 H locs hq_83 hP _ hS => ?_)
                      obtain ⟨z_83, rfl, rfl, rfl, rfl, p0_83, p1_83⟩ := hq_83
                      show W p l e (gRm 2 42) s m args below meth c _ _ 0 0 Q (F0 m 247 ls [.int (iI z_83)])
                      replace p0_83 : 0 ≤ z_83 ∧ z_83 ≤ 1 := p0_83
                      replace p1_83 : z_83 = 1 → w8_82 = 3 := p1_83
                      refine lv_istore_n (lv' := [(1, .int (iI z_83)), (3, .int (iI 1)), (2, .int (iI z_12)), (0, .ref (ad 0))]) hx hb dX11_readKeys_247 rfl hl (by decide) rfl (fun ls hl => ?_)
                      refine lv_iload_n hx hb dX11_readKeys_248 rfl (lv_at hl 0 rfl) ?_
                      refine gi_zeq (tgt := 256) hx hb dX11_readKeys_249 (by decide) (by omega) (fun c_84 => ?_) (fun c_84 => ?_)
                      · refine lv_goto (tgt := 7) hx hb dX11_readKeys_256 (by decide) ?_
                        exact ih_7 z_83 w6_53 w7_53 w8_82 w9_82 w10_82 w11_82 (y17_7 + 1) (u1 c14_7 y17_7 1) (u1 c16_7 y17_7 z_12) b0_82 _ _ _ (by omega) (by omega) (by omega) (by omega) (by omega) hP hS (lv_sub hl [3, 0] rfl)
                      · refine lv_aload_n hx hb dX11_readKeys_252 rfl (lv_at hl 3 rfl) ?_
                        refine g_cv (As := []) (rest := []) (n := 0) C hml (m_X11_next l D k A ad hD (va_up (va_up (va_up (va_up (va_up (va_up (va_up v 6 w6_53) 7 w7_53) 8 w8_82) 9 w9_82) 10 w10_82) 11 w11_82) 17 (y17_7 + 1)) (va_up (va_up f 14 (u1 c14_7 y17_7 1)) 16 (u1 c16_7 y17_7 z_12)) (va_up g 0 b0_82) (show w10_82 ≤ (v 3) from by omega)) mM_X11_201 mI_X11_next mE_X11_next mN_X11 mC_X11_next (by decide +kernel) 0 (ci := 11) rfl rfl hP hS (fun _ h => h) ⟨Nat.le_of_ble_eq_true rfl, Nat.le_of_ble_eq_true rfl⟩ ⟨Nat.zero_le _, Nat.zero_le _⟩ hl.1 rfl rfl (Nat.le_of_ble_eq_true rfl) dX11_readKeys_253 (fun r_85 v_85 f_85 g_85 H locs hq_85 hP _ hS => ?_)
                        obtain ⟨w8_85, w9_85, w10_85, w11_85, b0_85, rfl, rfl, rfl, rfl, p0_85, p1_85⟩ := hq_85
                        show W p l e (gRm 2 42) s m args below meth c _ _ 0 0 Q (F0 m 256 ls [])
                        have hP : gWd D (mdT k ad) (va_up (va_up (va_up (va_up (va_up (va_up (va_up v 6 w6_53) 7 w7_53) 8 w8_85) 9 w9_85) 10 w10_85) 11 w11_85) 17 (y17_7 + 1)) (va_up (va_up f 14 (u1 c14_7 y17_7 1)) 16 (u1 c16_7 y17_7 z_12)) (va_up g 0 b0_85) H := ⟨hP.1, (gF_up (V := mdV) (F := mdF) (gF_up (V := mdV) (F := mdF) (gR_up (V := mdV) (F := mdF) (gR_up (V := mdV) (F := mdF) (gR_up (V := mdV) (F := mdF) (gR_up (V := mdV) (F := mdF) (gR_up (V := mdV) (F := mdF) (gR_up (V := mdV) (F := mdF) (gR_up (V := mdV) (F := mdF) ⟨hok.1, hok.2⟩ 6 (hP.2.1 6)) 7 (hP.2.1 7)) 8 (hP.2.1 8)) 9 (hP.2.1 9)) 10 (hP.2.1 10)) 11 (hP.2.1 11)) 17 (hP.2.1 17)) 14 (hP.2.2 14)) 16 (hP.2.2 16))⟩
                        replace p0_85 : w10_82 ≤ w9_85 ∧ w9_85 ≤ w10_85 ∧ w10_85 ≤ (v 3) := p0_85
                        replace p1_85 : w8_85 ≠ 0 → w9_85 < w10_85 := p1_85
                        have rw8_85 : 0 ≤ w8_85 ∧ w8_85 ≤ 4 := hP.2.1 8
                        have rw9_85 : 0 ≤ w9_85 ∧ w9_85 ≤ 700 := hP.2.1 9
                        have rw10_85 : 0 ≤ w10_85 ∧ w10_85 ≤ 700 := hP.2.1 10
                        have rw11_85 : 0 ≤ w11_85 ∧ w11_85 ≤ 999999 := hP.2.1 11
                        refine lv_goto (tgt := 7) hx hb dX11_readKeys_256 (by decide) ?_
                        exact ih_7 z_83 w6_53 w7_53 w8_85 w9_85 w10_85 w11_85 (y17_7 + 1) (u1 c14_7 y17_7 1) (u1 c16_7 y17_7 z_12) b0_85 _ _ _ (by omega) (by omega) (by omega) (by omega) (by omega) hP hS (lv_sub hl [3, 0] rfl)
                    · exfalso; omega
                · refine lv_iconst (v := iI 0) hx hb dX11_readKeys_116 rfl ?_
                  refine lv_goto (tgt := 197) hx hb dX11_readKeys_117 (by decide) ?_
                  refine lv_istore_n (lv' := [(3, .int (iI 0)), (2, .int (iI z_12)), (0, .ref (ad 0)), (1, .int (iI x1))]) hx hb dX11_readKeys_197 rfl hl (by decide) rfl (fun ls hl => ?_)
                  refine lv_iload_n hx hb dX11_readKeys_198 rfl (lv_at hl 0 rfl) ?_
                  refine gi_zge (tgt := 207) hx hb dX11_readKeys_199 (by decide) (by decide) (fun c_86 => ?_) (fun c_86 => ?_)
                  · refine lv_aload_n hx hb dX11_readKeys_207 rfl (lv_at hl 2 rfl) ?_
                    refine mdG_newUp C hP mF_X11_67 dX11_readKeys_208 ?_
                    refine lv_aload_n hx hb dX11_readKeys_211 rfl (lv_at hl 2 rfl) ?_
                    refine mdG_newKeys C hP mF_X11_214 dX11_readKeys_212 ?_
                    show W p l e (gRm 2 42) s m args below meth c _ _ 0 0 Q (F0 m 215 ls [.int (iI y17_7), .ref (ad 17)])
                    refine lv_iload_n hx hb dX11_readKeys_215 rfl (lv_at hl 1 rfl) ?_
                    refine mdS_newUp (f1 := (va_up (va_up f 14 c14_7) 16 (u1 c16_7 y17_7 z_12))) C hP hD hS (by omega) (by omega) (by omega) (by omega) rfl (Or.inr (gF_up (V := mdV) (F := mdF) (gF_up (V := mdV) (F := mdF) (gR_up (V := mdV) (F := mdF) (gR_up (V := mdV) (F := mdF) (gR_up (V := mdV) (F := mdF) (gR_up (V := mdV) (F := mdF) (gR_up (V := mdV) (F := mdF) (gR_up (V := mdV) (F := mdF) (gR_up (V := mdV) (F := mdF) ⟨hok.1, hok.2⟩ 6 (hP.2.1 6)) 7 (hP.2.1 7)) 8 (hP.2.1 8)) 9 (hP.2.1 9)) 10 (hP.2.1 10)) 11 (hP.2.1 11)) 17 (hP.2.1 17)) 14 (hP.2.2 14)) 16 (u1_rng (hP.2.2 16) (show 0 ≤ z_12 ∧ z_12 ≤ 1 from (by omega))))) dX11_readKeys_216 (fun H locs hP hS => ?_)
                    refine lv_aload_n hx hb dX11_readKeys_217 rfl (lv_at hl 2 rfl) ?_
                    refine mdG_newKey C hP mF_X11_60 dX11_readKeys_218 ?_
                    refine lv_aload_n hx hb dX11_readKeys_221 rfl (lv_at hl 2 rfl) ?_
                    refine mdG_newKeys C hP mF_X11_214 dX11_readKeys_222 ?_
                    show W p l e (gRm 2 42) s m args below meth c _ _ 0 0 Q (F0 m 225 ls [.int (iI y17_7), .ref (ad 15)])
                    refine lv_iload_n hx hb dX11_readKeys_225 rfl (lv_at hl 0 rfl) ?_
                    refine mdS_newKey (f1 := (va_up (va_up f 14 (u1 c14_7 y17_7 0)) 16 (u1 c16_7 y17_7 z_12))) C hP hD hS (by omega) (by omega) (by decide) rfl (Or.inr (gF_up (V := mdV) (F := mdF) (gF_up (V := mdV) (F := mdF) (gR_up (V := mdV) (F := mdF) (gR_up (V := mdV) (F := mdF) (gR_up (V := mdV) (F := mdF) (gR_up (V := mdV) (F := mdF) (gR_up (V := mdV) (F := mdF) (gR_up (V := mdV) (F := mdF) (gR_up (V := mdV) (F := mdF) ⟨hok.1, hok.2⟩ 6 (hP.2.1 6)) 7 (hP.2.1 7)) 8 (hP.2.1 8)) 9 (hP.2.1 9)) 10 (hP.2.1 10)) 11 (hP.2.1 11)) 17 (hP.2.1 17)) 14 (u1_rng (hP.2.2 14) (show 0 ≤ 0 ∧ 0 ≤ 3 from (by decide)))) 16 (hP.2.2 16))) dX11_readKeys_226 (fun H locs hP hS => ?_)
                    refine lv_aload_n hx hb dX11_readKeys_227 rfl (lv_at hl 2 rfl) ?_
                    refine lv_dup hx hb dX11_readKeys_228 rfl ?_
                    refine mdG_newKeys C hP mF_X11_214 dX11_readKeys_229 ?_
                    show W p l e (gRm 2 42) s m args below meth c _ _ 0 0 Q (F0 m 232 ls [.int (iI y17_7), .ref (ad 0)])
                    refine lv_iconst (v := iI 1) hx hb dX11_readKeys_232 rfl ?_
                    refine gi_add (z := (y17_7 + 1)) hx hb dX11_readKeys_233 rfl ?_
                    refine mdP_newKeys (v1 := (va_up (va_up (va_up (va_up (va_up (va_up (va_up v 6 w6_53) 7 w7_53) 8 w8_56) 9 w9_56) 10 w10_56) 11 w11_56) 17 (y17_7 + 1))) C hP hD hS mF_X11_214 (by omega) rfl (Or.inr (gF_up (V := mdV) (F := mdF) (gF_up (V := mdV) (F := mdF) (gR_up (V := mdV) (F := mdF) (gR_up (V := mdV) (F := mdF) (gR_up (V := mdV) (F := mdF) (gR_up (V := mdV) (F := mdF) (gR_up (V := mdV) (F := mdF) (gR_up (V := mdV) (F := mdF) (gR_up (V := mdV) (F := mdF) ⟨hok.1, hok.2⟩ 6 (hP.2.1 6)) 7 (hP.2.1 7)) 8 (hP.2.1 8)) 9 (hP.2.1 9)) 10 (hP.2.1 10)) 11 (hP.2.1 11)) 17 (show 0 ≤ (y17_7 + 1) ∧ (y17_7 + 1) ≤ 4 from by omega)) 14 (hP.2.2 14)) 16 (hP.2.2 16))) dX11_readKeys_234 (fun H locs hP hS => ?_)
                    refine lv_aload_n hx hb dX11_readKeys_237 rfl (lv_at hl 2 rfl) ?_
                    refine g_cv (As := []) (rest := []) (n := 0) C hml (m_X11_next l D k A ad hD (va_up (va_up (va_up (va_up (va_up (va_up (va_up v 6 w6_53) 7 w7_53) 8 w8_56) 9 w9_56) 10 w10_56) 11 w11_56) 17 (y17_7 + 1)) (va_up (va_up f 14 (u1 c14_7 y17_7 0)) 16 (u1 c16_7 y17_7 z_12)) (va_up g 0 b0_56) (show w10_56 ≤ (v 3) from by omega)) mM_X11_201 mI_X11_next mE_X11_next mN_X11 mC_X11_next (by decide +kernel) 0 (ci := 11) rfl rfl hP hS (fun _ h => h) ⟨Nat.le_of_ble_eq_true rfl, Nat.le_of_ble_eq_true rfl⟩ ⟨Nat.zero_le _, Nat.zero_le _⟩ hl.1 rfl rfl (Nat.le_of_ble_eq_true rfl) dX11_readKeys_238 (fun r_87 v_87 f_87 g_87 H locs hq_87 hP _ hS => ?_)
                    obtain ⟨w8_87, w9_87, w10_87, w11_87, b0_87, rfl, rfl, rfl, rfl, p0_87, p1_87⟩ := hq_87
                    show W p l e (gRm 2 42) s m args below meth c _ _ 0 0 Q (F0 m 241 ls [])
                    have hP : gWd D (mdT k ad) (va_up (va_up (va_up (va_up (va_up (va_up (va_up v 6 w6_53) 7 w7_53) 8 w8_87) 9 w9_87) 10 w10_87) 11 w11_87) 17 (y17_7 + 1)) (va_up (va_up f 14 (u1 c14_7 y17_7 0)) 16 (u1 c16_7 y17_7 z_12)) (va_up g 0 b0_87) H := ⟨hP.1, (gF_up (V := mdV) (F := mdF) (gF_up (V := mdV) (F := mdF) (gR_up (V := mdV) (F := mdF) (gR_up (V := mdV) (F := mdF) (gR_up (V := mdV) (F := mdF) (gR_up (V := mdV) (F := mdF) (gR_up (V := mdV) (F := mdF) (gR_up (V := mdV) (F := mdF) (gR_up (V := mdV) (F := mdF) ⟨hok.1, hok.2⟩ 6 (hP.2.1 6)) 7 (hP.2.1 7)) 8 (hP.2.1 8)) 9 (hP.2.1 9)) 10 (hP.2.1 10)) 11 (hP.2.1 11)) 17 (hP.2.1 17)) 14 (hP.2.2 14)) 16 (hP.2.2 16))⟩
                    replace p0_87 : w10_56 ≤ w9_87 ∧ w9_87 ≤ w10_87 ∧ w10_87 ≤ (v 3) := p0_87
                    replace p1_87 : w8_87 ≠ 0 → w9_87 < w10_87 := p1_87
                    have rw8_87 : 0 ≤ w8_87 ∧ w8_87 ≤ 4 := hP.2.1 8
                    have rw9_87 : 0 ≤ w9_87 ∧ w9_87 ≤ 700 := hP.2.1 9
                    have rw10_87 : 0 ≤ w10_87 ∧ w10_87 ≤ 700 := hP.2.1 10
                    have rw11_87 : 0 ≤ w11_87 ∧ w11_87 ≤ 999999 := hP.2.1 11
                    refine lv_aload_n hx hb dX11_readKeys_241 rfl (lv_at hl 2 rfl) ?_
                    refine lv_bipush (v := iI 44) hx hb dX11_readKeys_242 (by decide) ?_
                    refine g_cv (As := [.int (iI 44)]) (rest := []) (n := 1) C hml (m_X11_isSign l D k A ad hD (va_up (va_up (va_up (va_up (va_up (va_up (va_up v 6 w6_53) 7 w7_53) 8 w8_87) 9 w9_87) 10 w10_87) 11 w11_87) 17 (y17_7 + 1)) (va_up (va_up f 14 (u1 c14_7 y17_7 0)) 16 (u1 c16_7 y17_7 z_12)) (va_up g 0 b0_87) 44 (by decide)) mM_X11_204 mI_X11_isSign mE_X11_isSign mN_X11 mC_X11_isSign (by decide +kernel) 0 (ci := 11) rfl rfl hP hS (fun _ h => h) ⟨Nat.le_of_ble_eq_true rfl, Nat.le_of_ble_eq_true rfl⟩ ⟨Nat.zero_le _, Nat.zero_le _⟩ hl.1 rfl rfl (Nat.le_of_ble_eq_true rfl) dX11_readKeys_244 (fun r_88 v_88 f_88 g_88 H locs hq_88 hP _ hS => ?_)
                    obtain ⟨z_88, rfl, rfl, rfl, rfl, p0_88, p1_88⟩ := hq_88
                    show W p l e (gRm 2 42) s m args below meth c _ _ 0 0 Q (F0 m 247 ls [.int (iI z_88)])
                    replace p0_88 : 0 ≤ z_88 ∧ z_88 ≤ 1 := p0_88
                    replace p1_88 : z_88 = 1 → w8_87 = 3 := p1_88
                    refine lv_istore_n (lv' := [(1, .int (iI z_88)), (3, .int (iI 0)), (2, .int (iI z_12)), (0, .ref (ad 0))]) hx hb dX11_readKeys_247 rfl hl (by decide) rfl (fun ls hl => ?_)
                    refine lv_iload_n hx hb dX11_readKeys_248 rfl (lv_at hl 0 rfl) ?_
                    refine gi_zeq (tgt := 256) hx hb dX11_readKeys_249 (by decide) (by omega) (fun c_89 => ?_) (fun c_89 => ?_)
                    · refine lv_goto (tgt := 7) hx hb dX11_readKeys_256 (by decide) ?_
                      exact ih_7 z_88 w6_53 w7_53 w8_87 w9_87 w10_87 w11_87 (y17_7 + 1) (u1 c14_7 y17_7 0) (u1 c16_7 y17_7 z_12) b0_87 _ _ _ (by omega) (by omega) (by omega) (by omega) (by omega) hP hS (lv_sub hl [3, 0] rfl)
                    · refine lv_aload_n hx hb dX11_readKeys_252 rfl (lv_at hl 3 rfl) ?_
                      refine g_cv (As := []) (rest := []) (n := 0) C hml (m_X11_next l D k A ad hD (va_up (va_up (va_up (va_up (va_up (va_up (va_up v 6 w6_53) 7 w7_53) 8 w8_87) 9 w9_87) 10 w10_87) 11 w11_87) 17 (y17_7 + 1)) (va_up (va_up f 14 (u1 c14_7 y17_7 0)) 16 (u1 c16_7 y17_7 z_12)) (va_up g 0 b0_87) (show w10_87 ≤ (v 3) from by omega)) mM_X11_201 mI_X11_next mE_X11_next mN_X11 mC_X11_next (by decide +kernel) 0 (ci := 11) rfl rfl hP hS (fun _ h => h) ⟨Nat.le_of_ble_eq_true rfl, Nat.le_of_ble_eq_true rfl⟩ ⟨Nat.zero_le _, Nat.zero_le _⟩ hl.1 rfl rfl (Nat.le_of_ble_eq_true rfl) dX11_readKeys_253 (fun r_90 v_90 f_90 g_90 H locs hq_90 hP _ hS => ?_)
                      obtain ⟨w8_90, w9_90, w10_90, w11_90, b0_90, rfl, rfl, rfl, rfl, p0_90, p1_90⟩ := hq_90
                      show W p l e (gRm 2 42) s m args below meth c _ _ 0 0 Q (F0 m 256 ls [])
                      have hP : gWd D (mdT k ad) (va_up (va_up (va_up (va_up (va_up (va_up (va_up v 6 w6_53) 7 w7_53) 8 w8_90) 9 w9_90) 10 w10_90) 11 w11_90) 17 (y17_7 + 1)) (va_up (va_up f 14 (u1 c14_7 y17_7 0)) 16 (u1 c16_7 y17_7 z_12)) (va_up g 0 b0_90) H := ⟨hP.1, (gF_up (V := mdV) (F := mdF) (gF_up (V := mdV) (F := mdF) (gR_up (V := mdV) (F := mdF) (gR_up (V := mdV) (F := mdF) (gR_up (V := mdV) (F := mdF) (gR_up (V := mdV) (F := mdF) (gR_up (V := mdV) (F := mdF) (gR_up (V := mdV) (F := mdF) (gR_up (V := mdV) (F := mdF) ⟨hok.1, hok.2⟩ 6 (hP.2.1 6)) 7 (hP.2.1 7)) 8 (hP.2.1 8)) 9 (hP.2.1 9)) 10 (hP.2.1 10)) 11 (hP.2.1 11)) 17 (hP.2.1 17)) 14 (hP.2.2 14)) 16 (hP.2.2 16))⟩
                      replace p0_90 : w10_87 ≤ w9_90 ∧ w9_90 ≤ w10_90 ∧ w10_90 ≤ (v 3) := p0_90
                      replace p1_90 : w8_90 ≠ 0 → w9_90 < w10_90 := p1_90
                      have rw8_90 : 0 ≤ w8_90 ∧ w8_90 ≤ 4 := hP.2.1 8
                      have rw9_90 : 0 ≤ w9_90 ∧ w9_90 ≤ 700 := hP.2.1 9
                      have rw10_90 : 0 ≤ w10_90 ∧ w10_90 ≤ 700 := hP.2.1 10
                      have rw11_90 : 0 ≤ w11_90 ∧ w11_90 ≤ 999999 := hP.2.1 11
                      refine lv_goto (tgt := 7) hx hb dX11_readKeys_256 (by decide) ?_
                      exact ih_7 z_88 w6_53 w7_53 w8_90 w9_90 w10_90 w11_90 (y17_7 + 1) (u1 c14_7 y17_7 0) (u1 c16_7 y17_7 z_12) b0_90 _ _ _ (by omega) (by omega) (by omega) (by omega) (by omega) hP hS (lv_sub hl [3, 0] rfl)
                  · exfalso; omega
              · exact g_vret hQ C hr hlocks hP hS dX11_readKeys_91 ⟨w6_53, w7_53, y8_7, y9_7, y10_7, y11_7, y17_7, c14_7, c16_7, d0_7, rfl, rfl, rfl, rfl, (by first | omega | (split <;> omega)), (by first | omega | (split <;> omega))⟩
          · refine lv_aload_n hx hb dX11_readKeys_39 rfl (lv_at hl 1 rfl) ?_
            refine lv_bipush (v := iI 100) hx hb dX11_readKeys_40 (by decide) ?_
            refine lv_bipush (v := iI 111) hx hb dX11_readKeys_42 (by decide) ?_
            refine lv_bipush (v := iI 119) hx hb dX11_readKeys_44 (by decide) ?_
            refine lv_bipush (v := iI 110) hx hb dX11_readKeys_46 (by decide) ?_
            refine lv_iconst (v := iI 0) hx hb dX11_readKeys_48 rfl ?_
            refine lv_iconst (v := iI 0) hx hb dX11_readKeys_49 rfl ?_
            refine lv_iconst (v := iI 0) hx hb dX11_readKeys_50 rfl ?_
            refine g_cs (As := [.int (iI 100), .int (iI 111), .int (iI 119), .int (iI 110), .int (iI 0), .int (iI 0), .int (iI 0)]) (rest := [.ref (ad 0)]) (n := 7) C hml (m_X11_spelled l D k A ad hD (va_up (va_up (va_up (va_up (va_up (va_up (va_up v 6 y6_7) 7 y7_7) 8 y8_7) 9 y9_7) 10 y10_7) 11 y11_7) 17 y17_7) (va_up (va_up f 14 c14_7) 16 c16_7) (va_up g 0 d0_7) 100 111 119 110 0 0 0 (by decide) (by decide) (by decide) (by decide) (by decide) (by decide) (by decide)) mM_X11_228 mS_X11_spelled mN_X11 mC_X11_spelled (by decide +kernel) hP hS (fun _ h => h) ⟨Nat.le_of_ble_eq_true rfl, Nat.le_of_ble_eq_true rfl⟩ ⟨Nat.zero_le _, Nat.zero_le _⟩ hl.1 rfl rfl (Nat.le_of_ble_eq_true rfl) dX11_readKeys_51 (fun r_91 v_91 f_91 g_91 H locs hq_91 hP _ hS => ?_)
            obtain ⟨z_91, rfl, rfl, rfl, rfl⟩ := hq_91
            show W p l e (gRm 2 42) s m args below meth c _ _ 0 0 Q (F0 m 54 ls [.long (iL z_91), .ref (ad 0)])
            refine g_cv (As := [.long (iL z_91)]) (rest := []) (n := 1) C hml (m_X11_isWord l D k A ad hD (va_up (va_up (va_up (va_up (va_up (va_up (va_up v 6 y6_7) 7 y7_7) 8 y8_7) 9 y9_7) 10 y10_7) 11 y11_7) 17 y17_7) (va_up (va_up f 14 c14_7) 16 c16_7) (va_up g 0 d0_7) z_91) mM_X11_232 mI_X11_isWord mE_X11_isWord mN_X11 mC_X11_isWord (by decide +kernel) 0 (ci := 11) rfl rfl hP hS (fun _ h => h) ⟨Nat.le_of_ble_eq_true rfl, Nat.le_of_ble_eq_true rfl⟩ ⟨Nat.zero_le _, Nat.zero_le _⟩ hl.1 rfl rfl (Nat.le_of_ble_eq_true rfl) dX11_readKeys_54 (fun r_92 v_92 f_92 g_92 H locs hq_92 hP _ hS => ?_)
            obtain ⟨z_92, rfl, rfl, rfl, rfl, p0_92, p1_92⟩ := hq_92
            show W p l e (gRm 2 42) s m args below meth c _ _ 0 0 Q (F0 m 57 ls [.int (iI z_92)])
            replace p0_92 : 0 ≤ z_92 ∧ z_92 ≤ 1 := p0_92
            replace p1_92 : z_92 = 1 → y8_7 = 1 := p1_92
            refine gi_zne (tgt := 67) hx hb dX11_readKeys_57 (by decide) (by omega) (fun c_93 => ?_) (fun c_93 => ?_)
            · refine lv_aload_n hx hb dX11_readKeys_67 rfl (lv_at hl 1 rfl) ?_
              refine mdG_newKeys C hP mF_X11_214 dX11_readKeys_68 ?_
              show W p l e (gRm 2 42) s m args below meth c _ _ 0 0 Q (F0 m 71 ls [.int (iI y17_7)])
              have r_94 : 0 ≤ y17_7 ∧ y17_7 ≤ 4 := hP.2.1 17
              refine lv_iconst (v := iI 4) hx hb dX11_readKeys_71 rfl ?_
              refine gi_cne (tgt := 84) hx hb dX11_readKeys_72 (by decide) (by omega) (by decide) (fun c_95 => ?_) (fun c_95 => ?_)
              · refine lv_aload_n hx hb dX11_readKeys_84 rfl (lv_at hl 1 rfl) ?_
                refine mdG_bad C hP mF_X11_188 dX11_readKeys_85 ?_
                show W p l e (gRm 2 42) s m args below meth c _ _ 0 0 Q (F0 m 88 ls [.int (iI y6_7)])
                refine gi_zle (tgt := 92) hx hb dX11_readKeys_88 (by decide) (by omega) (fun c_96 => ?_) (fun c_96 => ?_)
                · refine lv_aload_n hx hb dX11_readKeys_92 rfl (lv_at hl 1 rfl) ?_
                  refine g_cv (As := []) (rest := []) (n := 0) C hml (m_X11_next l D k A ad hD (va_up (va_up (va_up (va_up (va_up (va_up (va_up v 6 y6_7) 7 y7_7) 8 y8_7) 9 y9_7) 10 y10_7) 11 y11_7) 17 y17_7) (va_up (va_up f 14 c14_7) 16 c16_7) (va_up g 0 d0_7) (show y10_7 ≤ (v 3) from by omega)) mM_X11_201 mI_X11_next mE_X11_next mN_X11 mC_X11_next (by decide +kernel) 0 (ci := 11) rfl rfl hP hS (fun _ h => h) ⟨Nat.le_of_ble_eq_true rfl, Nat.le_of_ble_eq_true rfl⟩ ⟨Nat.zero_le _, Nat.zero_le _⟩ hl.1 rfl rfl (Nat.le_of_ble_eq_true rfl) dX11_readKeys_93 (fun r_97 v_97 f_97 g_97 H locs hq_97 hP _ hS => ?_)
                  obtain ⟨w8_97, w9_97, w10_97, w11_97, b0_97, rfl, rfl, rfl, rfl, p0_97, p1_97⟩ := hq_97
                  show W p l e (gRm 2 42) s m args below meth c _ _ 0 0 Q (F0 m 96 ls [])
                  have hP : gWd D (mdT k ad) (va_up (va_up (va_up (va_up (va_up (va_up (va_up v 6 y6_7) 7 y7_7) 8 w8_97) 9 w9_97) 10 w10_97) 11 w11_97) 17 y17_7) (va_up (va_up f 14 c14_7) 16 c16_7) (va_up g 0 b0_97) H := ⟨hP.1, (gF_up (V := mdV) (F := mdF) (gF_up (V := mdV) (F := mdF) (gR_up (V := mdV) (F := mdF) (gR_up (V := mdV) (F := mdF) (gR_up (V := mdV) (F := mdF) (gR_up (V := mdV) (F := mdF) (gR_up (V := mdV) (F := mdF) (gR_up (V := mdV) (F := mdF) (gR_up (V := mdV) (F := mdF) ⟨hok.1, hok.2⟩ 6 (hP.2.1 6)) 7 (hP.2.1 7)) 8 (hP.2.1 8)) 9 (hP.2.1 9)) 10 (hP.2.1 10)) 11 (hP.2.1 11)) 17 (hP.2.1 17)) 14 (hP.2.2 14)) 16 (hP.2.2 16))⟩
                  replace p0_97 : y10_7 ≤ w9_97 ∧ w9_97 ≤ w10_97 ∧ w10_97 ≤ (v 3) := p0_97
                  replace p1_97 : w8_97 ≠ 0 → w9_97 < w10_97 := p1_97
                  have rw8_97 : 0 ≤ w8_97 ∧ w8_97 ≤ 4 := hP.2.1 8
                  have rw9_97 : 0 ≤ w9_97 ∧ w9_97 ≤ 700 := hP.2.1 9
                  have rw10_97 : 0 ≤ w10_97 ∧ w10_97 ≤ 700 := hP.2.1 10
                  have rw11_97 : 0 ≤ w11_97 ∧ w11_97 ≤ 999999 := hP.2.1 11
                  refine lv_aload_n hx hb dX11_readKeys_96 rfl (lv_at hl 1 rfl) ?_
                  refine lv_bipush (v := iI 115) hx hb dX11_readKeys_97 (by decide) ?_
                  refine lv_bipush (v := iI 117) hx hb dX11_readKeys_99 (by decide) ?_
                  refine lv_bipush (v := iI 109) hx hb dX11_readKeys_101 (by decide) ?_
                  refine lv_iconst (v := iI 0) hx hb dX11_readKeys_103 rfl ?_
                  refine lv_iconst (v := iI 0) hx hb dX11_readKeys_104 rfl ?_
                  refine lv_iconst (v := iI 0) hx hb dX11_readKeys_105 rfl ?_
                  refine lv_iconst (v := iI 0) hx hb dX11_readKeys_106 rfl ?_
                  refine g_cs (As := [.int (iI 115), .int (iI 117), .int (iI 109), .int (iI 0), .int (iI 0), .int (iI 0), .int (iI 0)]) (rest := [.ref (ad 0)]) (n := 7) C hml (m_X11_spelled l D k A ad hD (va_up (va_up (va_up (va_up (va_up (va_up (va_up v 6 y6_7) 7 y7_7) 8 w8_97) 9 w9_97) 10 w10_97) 11 w11_97) 17 y17_7) (va_up (va_up f 14 c14_7) 16 c16_7) (va_up g 0 b0_97) 115 117 109 0 0 0 0 (by decide) (by decide) (by decide) (by decide) (by decide) (by decide) (by decide)) mM_X11_228 mS_X11_spelled mN_X11 mC_X11_spelled (by decide +kernel) hP hS (fun _ h => h) ⟨Nat.le_of_ble_eq_true rfl, Nat.le_of_ble_eq_true rfl⟩ ⟨Nat.zero_le _, Nat.zero_le _⟩ hl.1 rfl rfl (Nat.le_of_ble_eq_true rfl) dX11_readKeys_107 (fun r_98 v_98 f_98 g_98 H locs hq_98 hP _ hS => ?_)
                  obtain ⟨z_98, rfl, rfl, rfl, rfl⟩ := hq_98
                  show W p l e (gRm 2 42) s m args below meth c _ _ 0 0 Q (F0 m 110 ls [.long (iL z_98), .ref (ad 0)])
                  refine g_cv (As := [.long (iL z_98)]) (rest := []) (n := 1) C hml (m_X11_isWord l D k A ad hD (va_up (va_up (va_up (va_up (va_up (va_up (va_up v 6 y6_7) 7 y7_7) 8 w8_97) 9 w9_97) 10 w10_97) 11 w11_97) 17 y17_7) (va_up (va_up f 14 c14_7) 16 c16_7) (va_up g 0 b0_97) z_98) mM_X11_232 mI_X11_isWord mE_X11_isWord mN_X11 mC_X11_isWord (by decide +kernel) 0 (ci := 11) rfl rfl hP hS (fun _ h => h) ⟨Nat.le_of_ble_eq_true rfl, Nat.le_of_ble_eq_true rfl⟩ ⟨Nat.zero_le _, Nat.zero_le _⟩ hl.1 rfl rfl (Nat.le_of_ble_eq_true rfl) dX11_readKeys_110 (fun r_99 v_99 f_99 g_99 H locs hq_99 hP _ hS => ?_)
                  obtain ⟨z_99, rfl, rfl, rfl, rfl, p0_99, p1_99⟩ := hq_99
                  show W p l e (gRm 2 42) s m args below meth c _ _ 0 0 Q (F0 m 113 ls [.int (iI z_99)])
                  replace p0_99 : 0 ≤ z_99 ∧ z_99 ≤ 1 := p0_99
                  replace p1_99 : z_99 = 1 → w8_97 = 1 := p1_99
                  refine gi_zeq (tgt := 120) hx hb dX11_readKeys_113 (by decide) (by omega) (fun c_100 => ?_) (fun c_100 => ?_)
                  · refine lv_aload_n hx hb dX11_readKeys_120 rfl (lv_at hl 1 rfl) ?_
                    refine lv_bipush (v := iI 109) hx hb dX11_readKeys_121 (by decide) ?_
                    refine lv_bipush (v := iI 111) hx hb dX11_readKeys_123 (by decide) ?_
                    refine lv_bipush (v := iI 115) hx hb dX11_readKeys_125 (by decide) ?_
                    refine lv_bipush (v := iI 116) hx hb dX11_readKeys_127 (by decide) ?_
                    refine lv_iconst (v := iI 0) hx hb dX11_readKeys_129 rfl ?_
                    refine lv_iconst (v := iI 0) hx hb dX11_readKeys_130 rfl ?_
                    refine lv_iconst (v := iI 0) hx hb dX11_readKeys_131 rfl ?_
                    refine g_cs (As := [.int (iI 109), .int (iI 111), .int (iI 115), .int (iI 116), .int (iI 0), .int (iI 0), .int (iI 0)]) (rest := [.ref (ad 0)]) (n := 7) C hml (m_X11_spelled l D k A ad hD (va_up (va_up (va_up (va_up (va_up (va_up (va_up v 6 y6_7) 7 y7_7) 8 w8_97) 9 w9_97) 10 w10_97) 11 w11_97) 17 y17_7) (va_up (va_up f 14 c14_7) 16 c16_7) (va_up g 0 b0_97) 109 111 115 116 0 0 0 (by decide) (by decide) (by decide) (by decide) (by decide) (by decide) (by decide)) mM_X11_228 mS_X11_spelled mN_X11 mC_X11_spelled (by decide +kernel) hP hS (fun _ h => h) ⟨Nat.le_of_ble_eq_true rfl, Nat.le_of_ble_eq_true rfl⟩ ⟨Nat.zero_le _, Nat.zero_le _⟩ hl.1 rfl rfl (Nat.le_of_ble_eq_true rfl) dX11_readKeys_132 (fun r_101 v_101 f_101 g_101 H locs hq_101 hP _ hS => ?_)
                    obtain ⟨z_101, rfl, rfl, rfl, rfl⟩ := hq_101
                    show W p l e (gRm 2 42) s m args below meth c _ _ 0 0 Q (F0 m 135 ls [.long (iL z_101), .ref (ad 0)])
                    refine g_cv (As := [.long (iL z_101)]) (rest := []) (n := 1) C hml (m_X11_isWord l D k A ad hD (va_up (va_up (va_up (va_up (va_up (va_up (va_up v 6 y6_7) 7 y7_7) 8 w8_97) 9 w9_97) 10 w10_97) 11 w11_97) 17 y17_7) (va_up (va_up f 14 c14_7) 16 c16_7) (va_up g 0 b0_97) z_101) mM_X11_232 mI_X11_isWord mE_X11_isWord mN_X11 mC_X11_isWord (by decide +kernel) 0 (ci := 11) rfl rfl hP hS (fun _ h => h) ⟨Nat.le_of_ble_eq_true rfl, Nat.le_of_ble_eq_true rfl⟩ ⟨Nat.zero_le _, Nat.zero_le _⟩ hl.1 rfl rfl (Nat.le_of_ble_eq_true rfl) dX11_readKeys_135 (fun r_102 v_102 f_102 g_102 H locs hq_102 hP _ hS => ?_)
                    obtain ⟨z_102, rfl, rfl, rfl, rfl, p0_102, p1_102⟩ := hq_102
                    show W p l e (gRm 2 42) s m args below meth c _ _ 0 0 Q (F0 m 138 ls [.int (iI z_102)])
                    replace p0_102 : 0 ≤ z_102 ∧ z_102 ≤ 1 := p0_102
                    replace p1_102 : z_102 = 1 → w8_97 = 1 := p1_102
                    refine gi_zeq (tgt := 145) hx hb dX11_readKeys_138 (by decide) (by omega) (fun c_103 => ?_) (fun c_103 => ?_)
                    · refine lv_aload_n hx hb dX11_readKeys_145 rfl (lv_at hl 1 rfl) ?_
                      refine lv_bipush (v := iI 116) hx hb dX11_readKeys_146 (by decide) ?_
                      refine lv_bipush (v := iI 111) hx hb dX11_readKeys_148 (by decide) ?_
                      refine lv_bipush (v := iI 112) hx hb dX11_readKeys_150 (by decide) ?_
                      refine lv_bipush (v := iI 115) hx hb dX11_readKeys_152 (by decide) ?_
                      refine lv_iconst (v := iI 0) hx hb dX11_readKeys_154 rfl ?_
                      refine lv_iconst (v := iI 0) hx hb dX11_readKeys_155 rfl ?_
                      refine lv_iconst (v := iI 0) hx hb dX11_readKeys_156 rfl ?_
                      refine g_cs (As := [.int (iI 116), .int (iI 111), .int (iI 112), .int (iI 115), .int (iI 0), .int (iI 0), .int (iI 0)]) (rest := [.ref (ad 0)]) (n := 7) C hml (m_X11_spelled l D k A ad hD (va_up (va_up (va_up (va_up (va_up (va_up (va_up v 6 y6_7) 7 y7_7) 8 w8_97) 9 w9_97) 10 w10_97) 11 w11_97) 17 y17_7) (va_up (va_up f 14 c14_7) 16 c16_7) (va_up g 0 b0_97) 116 111 112 115 0 0 0 (by decide) (by decide) (by decide) (by decide) (by decide) (by decide) (by decide)) mM_X11_228 mS_X11_spelled mN_X11 mC_X11_spelled (by decide +kernel) hP hS (fun _ h => h) ⟨Nat.le_of_ble_eq_true rfl, Nat.le_of_ble_eq_true rfl⟩ ⟨Nat.zero_le _, Nat.zero_le _⟩ hl.1 rfl rfl (Nat.le_of_ble_eq_true rfl) dX11_readKeys_157 (fun r_104 v_104 f_104 g_104 H locs hq_104 hP _ hS => ?_)
                      obtain ⟨z_104, rfl, rfl, rfl, rfl⟩ := hq_104
                      show W p l e (gRm 2 42) s m args below meth c _ _ 0 0 Q (F0 m 160 ls [.long (iL z_104), .ref (ad 0)])
                      refine g_cv (As := [.long (iL z_104)]) (rest := []) (n := 1) C hml (m_X11_isWord l D k A ad hD (va_up (va_up (va_up (va_up (va_up (va_up (va_up v 6 y6_7) 7 y7_7) 8 w8_97) 9 w9_97) 10 w10_97) 11 w11_97) 17 y17_7) (va_up (va_up f 14 c14_7) 16 c16_7) (va_up g 0 b0_97) z_104) mM_X11_232 mI_X11_isWord mE_X11_isWord mN_X11 mC_X11_isWord (by decide +kernel) 0 (ci := 11) rfl rfl hP hS (fun _ h => h) ⟨Nat.le_of_ble_eq_true rfl, Nat.le_of_ble_eq_true rfl⟩ ⟨Nat.zero_le _, Nat.zero_le _⟩ hl.1 rfl rfl (Nat.le_of_ble_eq_true rfl) dX11_readKeys_160 (fun r_105 v_105 f_105 g_105 H locs hq_105 hP _ hS => ?_)
                      obtain ⟨z_105, rfl, rfl, rfl, rfl, p0_105, p1_105⟩ := hq_105
                      show W p l e (gRm 2 42) s m args below meth c _ _ 0 0 Q (F0 m 163 ls [.int (iI z_105)])
                      replace p0_105 : 0 ≤ z_105 ∧ z_105 ≤ 1 := p0_105
                      replace p1_105 : z_105 = 1 → w8_97 = 1 := p1_105
                      refine gi_zeq (tgt := 170) hx hb dX11_readKeys_163 (by decide) (by omega) (fun c_106 => ?_) (fun c_106 => ?_)
                      · refine lv_aload_n hx hb dX11_readKeys_170 rfl (lv_at hl 1 rfl) ?_
                        refine lv_bipush (v := iI 122) hx hb dX11_readKeys_171 (by decide) ?_
                        refine lv_bipush (v := iI 111) hx hb dX11_readKeys_173 (by decide) ?_
                        refine lv_bipush (v := iI 110) hx hb dX11_readKeys_175 (by decide) ?_
                        refine lv_bipush (v := iI 101) hx hb dX11_readKeys_177 (by decide) ?_
                        refine lv_bipush (v := iI 115) hx hb dX11_readKeys_179 (by decide) ?_
                        refine lv_iconst (v := iI 0) hx hb dX11_readKeys_181 rfl ?_
                        refine lv_iconst (v := iI 0) hx hb dX11_readKeys_182 rfl ?_
                        refine g_cs (As := [.int (iI 122), .int (iI 111), .int (iI 110), .int (iI 101), .int (iI 115), .int (iI 0), .int (iI 0)]) (rest := [.ref (ad 0)]) (n := 7) C hml (m_X11_spelled l D k A ad hD (va_up (va_up (va_up (va_up (va_up (va_up (va_up v 6 y6_7) 7 y7_7) 8 w8_97) 9 w9_97) 10 w10_97) 11 w11_97) 17 y17_7) (va_up (va_up f 14 c14_7) 16 c16_7) (va_up g 0 b0_97) 122 111 110 101 115 0 0 (by decide) (by decide) (by decide) (by decide) (by decide) (by decide) (by decide)) mM_X11_228 mS_X11_spelled mN_X11 mC_X11_spelled (by decide +kernel) hP hS (fun _ h => h) ⟨Nat.le_of_ble_eq_true rfl, Nat.le_of_ble_eq_true rfl⟩ ⟨Nat.zero_le _, Nat.zero_le _⟩ hl.1 rfl rfl (Nat.le_of_ble_eq_true rfl) dX11_readKeys_183 (fun r_107 v_107 f_107 g_107 H locs hq_107 hP _ hS => ?_)
                        obtain ⟨z_107, rfl, rfl, rfl, rfl⟩ := hq_107
                        show W p l e (gRm 2 42) s m args below meth c _ _ 0 0 Q (F0 m 186 ls [.long (iL z_107), .ref (ad 0)])
                        refine g_cv (As := [.long (iL z_107)]) (rest := []) (n := 1) C hml (m_X11_isWord l D k A ad hD (va_up (va_up (va_up (va_up (va_up (va_up (va_up v 6 y6_7) 7 y7_7) 8 w8_97) 9 w9_97) 10 w10_97) 11 w11_97) 17 y17_7) (va_up (va_up f 14 c14_7) 16 c16_7) (va_up g 0 b0_97) z_107) mM_X11_232 mI_X11_isWord mE_X11_isWord mN_X11 mC_X11_isWord (by decide +kernel) 0 (ci := 11) rfl rfl hP hS (fun _ h => h) ⟨Nat.le_of_ble_eq_true rfl, Nat.le_of_ble_eq_true rfl⟩ ⟨Nat.zero_le _, Nat.zero_le _⟩ hl.1 rfl rfl (Nat.le_of_ble_eq_true rfl) dX11_readKeys_186 (fun r_108 v_108 f_108 g_108 H locs hq_108 hP _ hS => ?_)
                        obtain ⟨z_108, rfl, rfl, rfl, rfl, p0_108, p1_108⟩ := hq_108
                        show W p l e (gRm 2 42) s m args below meth c _ _ 0 0 Q (F0 m 189 ls [.int (iI z_108)])
                        replace p0_108 : 0 ≤ z_108 ∧ z_108 ≤ 1 := p0_108
                        replace p1_108 : z_108 = 1 → w8_97 = 1 := p1_108
                        refine gi_zeq (tgt := 196) hx hb dX11_readKeys_189 (by decide) (by omega) (fun c_109 => ?_) (fun c_109 => ?_)
                        · refine lv_iconst (v := iI (-1)) hx hb dX11_readKeys_196 rfl ?_
                          refine lv_istore_n (lv' := [(3, .int (iI (-1))), (2, .int (iI z_12)), (0, .ref (ad 0)), (1, .int (iI x1))]) hx hb dX11_readKeys_197 rfl hl (by decide) rfl (fun ls hl => ?_)
                          refine lv_iload_n hx hb dX11_readKeys_198 rfl (lv_at hl 0 rfl) ?_
                          refine gi_zge (tgt := 207) hx hb dX11_readKeys_199 (by decide) (by decide) (fun c_110 => ?_) (fun c_110 => ?_)
                          · exfalso; omega
                          · refine lv_aload_n hx hb dX11_readKeys_202 rfl (lv_at hl 2 rfl) ?_
                            refine g_cv (As := []) (rest := []) (n := 0) C hml (m_X11_wrong l D k A ad hD (va_up (va_up (va_up (va_up (va_up (va_up (va_up v 6 y6_7) 7 y7_7) 8 w8_97) 9 w9_97) 10 w10_97) 11 w11_97) 17 y17_7) (va_up (va_up f 14 c14_7) 16 c16_7) (va_up g 0 b0_97)) mM_X11_198 mI_X11_wrong mE_X11_wrong mN_X11 mC_X11_wrong (by decide +kernel) 0 (ci := 11) rfl rfl hP hS (fun _ h => h) ⟨Nat.le_of_ble_eq_true rfl, Nat.le_of_ble_eq_true rfl⟩ ⟨Nat.zero_le _, Nat.zero_le _⟩ hl.1 rfl rfl (Nat.le_of_ble_eq_true rfl) dX11_readKeys_203 (fun r_111 v_111 f_111 g_111 H locs hq_111 hP _ hS => ?_)
                            obtain ⟨w6_111, w7_111, rfl, rfl, rfl, rfl, p0_111⟩ := hq_111
                            show W p l e (gRm 2 42) s m args below meth c _ _ 0 0 Q (F0 m 206 ls [])
                            have hP : gWd D (mdT k ad) (va_up (va_up (va_up (va_up (va_up (va_up (va_up v 6 w6_111) 7 w7_111) 8 w8_97) 9 w9_97) 10 w10_97) 11 w11_97) 17 y17_7) (va_up (va_up f 14 c14_7) 16 c16_7) (va_up g 0 b0_97) H := ⟨hP.1, (gF_up (V := mdV) (F := mdF) (gF_up (V := mdV) (F := mdF) (gR_up (V := mdV) (F := mdF) (gR_up (V := mdV) (F := mdF) (gR_up (V := mdV) (F := mdF) (gR_up (V := mdV) (F := mdF) (gR_up (V := mdV) (F := mdF) (gR_up (V := mdV) (F := mdF) (gR_up (V := mdV) (F := mdF) ⟨hok.1, hok.2⟩ 6 (hP.2.1 6)) 7 (hP.2.1 7)) 8 (hP.2.1 8)) 9 (hP.2.1 9)) 10 (hP.2.1 10)) 11 (hP.2.1 11)) 17 (hP.2.1 17)) 14 (hP.2.2 14)) 16 (hP.2.2 16))⟩
                            replace p0_111 : 0 < w6_111 := p0_111
                            have rw6_111 : 0 ≤ w6_111 ∧ w6_111 ≤ 5 := hP.2.1 6
                            have rw7_111 : 0 ≤ w7_111 ∧ w7_111 ≤ 700 := hP.2.1 7
                            exact g_vret hQ C hr hlocks hP hS dX11_readKeys_206 ⟨w6_111, w7_111, w8_97, w9_97, w10_97, w11_97, y17_7, c14_7, c16_7, b0_97, rfl, rfl, rfl, rfl, (by first | omega | (split <;> omega)), (by first | omega | (split <;> omega))⟩
                        · refine lv_iconst (v := iI 3) hx hb dX11_readKeys_192 rfl ?_
                          refine lv_goto (tgt := 197) hx hb dX11_readKeys_193 (by decide) ?_
                          refine lv_istore_n (lv' := [(3, .int (iI 3)), (2, .int (iI z_12)), (0, .ref (ad 0)), (1, .int (iI x1))]) hx hb dX11_readKeys_197 rfl hl (by decide) rfl (fun ls hl => ?_)
                          refine lv_iload_n hx hb dX11_readKeys_198 rfl (lv_at hl 0 rfl) ?_
                          refine gi_zge (tgt := 207) hx hb dX11_readKeys_199 (by decide) (by decide) (fun c_112 => ?_) (fun c_112 => ?_)
                          · refine lv_aload_n hx hb dX11_readKeys_207 rfl (lv_at hl 2 rfl) ?_
                            refine mdG_newUp C hP mF_X11_67 dX11_readKeys_208 ?_
                            refine lv_aload_n hx hb dX11_readKeys_211 rfl (lv_at hl 2 rfl) ?_
                            refine mdG_newKeys C hP mF_X11_214 dX11_readKeys_212 ?_
                            show W p l e (gRm 2 42) s m args below meth c _ _ 0 0 Q (F0 m 215 ls [.int (iI y17_7), .ref (ad 17)])
                            refine lv_iload_n hx hb dX11_readKeys_215 rfl (lv_at hl 1 rfl) ?_
                            refine mdS_newUp (f1 := (va_up (va_up f 14 c14_7) 16 (u1 c16_7 y17_7 z_12))) C hP hD hS (by omega) (by omega) (by omega) (by omega) rfl (Or.inr (gF_up (V := mdV) (F := mdF) (gF_up (V := mdV) (F := mdF) (gR_up (V := mdV) (F := mdF) (gR_up (V := mdV) (F := mdF) (gR_up (V := mdV) (F := mdF) (gR_up (V := mdV) (F := mdF) (gR_up (V := mdV) (F := mdF) (gR_up (V := mdV) (F := mdF) (gR_up (V := mdV) (F := mdF) ⟨hok.1, hok.2⟩ 6 (hP.2.1 6)) 7 (hP.2.1 7)) 8 (hP.2.1 8)) 9 (hP.2.1 9)) 10 (hP.2.1 10)) 11 (hP.2.1 11)) 17 (hP.2.1 17)) 14 (hP.2.2 14)) 16 (u1_rng (hP.2.2 16) (show 0 ≤ z_12 ∧ z_12 ≤ 1 from (by omega))))) dX11_readKeys_216 (fun H locs hP hS => ?_)
                            refine lv_aload_n hx hb dX11_readKeys_217 rfl (lv_at hl 2 rfl) ?_
                            refine mdG_newKey C hP mF_X11_60 dX11_readKeys_218 ?_
                            refine lv_aload_n hx hb dX11_readKeys_221 rfl (lv_at hl 2 rfl) ?_
                            refine mdG_newKeys C hP mF_X11_214 dX11_readKeys_222 ?_
                            show W p l e (gRm 2 42) s m args below meth c _ _ 0 0 Q (F0 m 225 ls [.int (iI y17_7), .ref (ad 15)])
                            refine lv_iload_n hx hb dX11_readKeys_225 rfl (lv_at hl 0 rfl) ?_
                            refine mdS_newKey (f1 := (va_up (va_up f 14 (u1 c14_7 y17_7 3)) 16 (u1 c16_7 y17_7 z_12))) C hP hD hS (by omega) (by omega) (by decide) rfl (Or.inr (gF_up (V := mdV) (F := mdF) (gF_up (V := mdV) (F := mdF) (gR_up (V := mdV) (F := mdF) (gR_up (V := mdV) (F := mdF) (gR_up (V := mdV) (F := mdF) (gR_up (V := mdV) (F := mdF) (gR_up (V := mdV) (F := mdF) (gR_up (V := mdV) (F := mdF) (gR_up (V := mdV) (F := mdF) ⟨hok.1, hok.2⟩ 6 (hP.2.1 6)) 7 (hP.2.1 7)) 8 (hP.2.1 8)) 9 (hP.2.1 9)) 10 (hP.2.1 10)) 11 (hP.2.1 11)) 17 (hP.2.1 17)) 14 (u1_rng (hP.2.2 14) (show 0 ≤ 3 ∧ 3 ≤ 3 from (by decide)))) 16 (hP.2.2 16))) dX11_readKeys_226 (fun H locs hP hS => ?_)
                            refine lv_aload_n hx hb dX11_readKeys_227 rfl (lv_at hl 2 rfl) ?_
                            refine lv_dup hx hb dX11_readKeys_228 rfl ?_
                            refine mdG_newKeys C hP mF_X11_214 dX11_readKeys_229 ?_
                            show W p l e (gRm 2 42) s m args below meth c _ _ 0 0 Q (F0 m 232 ls [.int (iI y17_7), .ref (ad 0)])
                            refine lv_iconst (v := iI 1) hx hb dX11_readKeys_232 rfl ?_
                            refine gi_add (z := (y17_7 + 1)) hx hb dX11_readKeys_233 rfl ?_
                            refine mdP_newKeys (v1 := (va_up (va_up (va_up (va_up (va_up (va_up (va_up v 6 y6_7) 7 y7_7) 8 w8_97) 9 w9_97) 10 w10_97) 11 w11_97) 17 (y17_7 + 1))) C hP hD hS mF_X11_214 (by omega) rfl (Or.inr (gF_up (V := mdV) (F := mdF) (gF_up (V := mdV) (F := mdF) (gR_up (V := mdV) (F := mdF) (gR_up (V := mdV) (F := mdF) (gR_up (V := mdV) (F := mdF) (gR_up (V := mdV) (F := mdF) (gR_up (V := mdV) (F := mdF) (gR_up (V := mdV) (F := mdF) (gR_up (V := mdV) (F := mdF) ⟨hok.1, hok.2⟩ 6 (hP.2.1 6)) 7 (hP.2.1 7)) 8 (hP.2.1 8)) 9 (hP.2.1 9)) 10 (hP.2.1 10)) 11 (hP.2.1 11)) 17 (show 0 ≤ (y17_7 + 1) ∧ (y17_7 + 1) ≤ 4 from by omega)) 14 (hP.2.2 14)) 16 (hP.2.2 16))) dX11_readKeys_234 (fun H locs hP hS => ?_)
                            refine lv_aload_n hx hb dX11_readKeys_237 rfl (lv_at hl 2 rfl) ?_
                            refine g_cv (As := []) (rest := []) (n := 0) C hml (m_X11_next l D k A ad hD (va_up (va_up (va_up (va_up (va_up (va_up (va_up v 6 y6_7) 7 y7_7) 8 w8_97) 9 w9_97) 10 w10_97) 11 w11_97) 17 (y17_7 + 1)) (va_up (va_up f 14 (u1 c14_7 y17_7 3)) 16 (u1 c16_7 y17_7 z_12)) (va_up g 0 b0_97) (show w10_97 ≤ (v 3) from by omega)) mM_X11_201 mI_X11_next mE_X11_next mN_X11 mC_X11_next (by decide +kernel) 0 (ci := 11) rfl rfl hP hS (fun _ h => h) ⟨Nat.le_of_ble_eq_true rfl, Nat.le_of_ble_eq_true rfl⟩ ⟨Nat.zero_le _, Nat.zero_le _⟩ hl.1 rfl rfl (Nat.le_of_ble_eq_true rfl) dX11_readKeys_238 (fun r_113 v_113 f_113 g_113 H locs hq_113 hP _ hS => ?_)
                            obtain ⟨w8_113, w9_113, w10_113, w11_113, b0_113, rfl, rfl, rfl, rfl, p0_113, p1_113⟩ := hq_113
                            show W p l e (gRm 2 42) s m args below meth c _ _ 0 0 Q (F0 m 241 ls [])
                            have hP : gWd D (mdT k ad) (va_up (va_up (va_up (va_up (va_up (va_up (va_up v 6 y6_7) 7 y7_7) 8 w8_113) 9 w9_113) 10 w10_113) 11 w11_113) 17 (y17_7 + 1)) (va_up (va_up f 14 (u1 c14_7 y17_7 3)) 16 (u1 c16_7 y17_7 z_12)) (va_up g 0 b0_113) H := ⟨hP.1, (gF_up (V := mdV) (F := mdF) (gF_up (V := mdV) (F := mdF) (gR_up (V := mdV) (F := mdF) (gR_up (V := mdV) (F := mdF) (gR_up (V := mdV) (F := mdF) (gR_up (V := mdV) (F := mdF) (gR_up (V := mdV) (F := mdF) (gR_up (V := mdV) (F := mdF) (gR_up (V := mdV) (F := mdF) ⟨hok.1, hok.2⟩ 6 (hP.2.1 6)) 7 (hP.2.1 7)) 8 (hP.2.1 8)) 9 (hP.2.1 9)) 10 (hP.2.1 10)) 11 (hP.2.1 11)) 17 (hP.2.1 17)) 14 (hP.2.2 14)) 16 (hP.2.2 16))⟩
                            replace p0_113 : w10_97 ≤ w9_113 ∧ w9_113 ≤ w10_113 ∧ w10_113 ≤ (v 3) := p0_113
                            replace p1_113 : w8_113 ≠ 0 → w9_113 < w10_113 := p1_113
                            have rw8_113 : 0 ≤ w8_113 ∧ w8_113 ≤ 4 := hP.2.1 8
                            have rw9_113 : 0 ≤ w9_113 ∧ w9_113 ≤ 700 := hP.2.1 9
                            have rw10_113 : 0 ≤ w10_113 ∧ w10_113 ≤ 700 := hP.2.1 10
                            have rw11_113 : 0 ≤ w11_113 ∧ w11_113 ≤ 999999 := hP.2.1 11
                            refine lv_aload_n hx hb dX11_readKeys_241 rfl (lv_at hl 2 rfl) ?_
                            refine lv_bipush (v := iI 44) hx hb dX11_readKeys_242 (by decide) ?_
                            refine g_cv (As := [.int (iI 44)]) (rest := []) (n := 1) C hml (m_X11_isSign l D k A ad hD (va_up (va_up (va_up (va_up (va_up (va_up (va_up v 6 y6_7) 7 y7_7) 8 w8_113) 9 w9_113) 10 w10_113) 11 w11_113) 17 (y17_7 + 1)) (va_up (va_up f 14 (u1 c14_7 y17_7 3)) 16 (u1 c16_7 y17_7 z_12)) (va_up g 0 b0_113) 44 (by decide)) mM_X11_204 mI_X11_isSign mE_X11_isSign mN_X11 mC_X11_isSign (by decide +kernel) 0 (ci := 11) rfl rfl hP hS (fun _ h => h) ⟨Nat.le_of_ble_eq_true rfl, Nat.le_of_ble_eq_true rfl⟩ ⟨Nat.zero_le _, Nat.zero_le _⟩ hl.1 rfl rfl (Nat.le_of_ble_eq_true rfl) dX11_readKeys_244 (fun r_114 v_114 f_114 g_114 H locs hq_114 hP _ hS => ?_)
                            obtain ⟨z_114, rfl, rfl, rfl, rfl, p0_114, p1_114⟩ := hq_114
                            show W p l e (gRm 2 42) s m args below meth c _ _ 0 0 Q (F0 m 247 ls [.int (iI z_114)])
                            replace p0_114 : 0 ≤ z_114 ∧ z_114 ≤ 1 := p0_114
                            replace p1_114 : z_114 = 1 → w8_113 = 3 := p1_114
                            refine lv_istore_n (lv' := [(1, .int (iI z_114)), (3, .int (iI 3)), (2, .int (iI z_12)), (0, .ref (ad 0))]) hx hb dX11_readKeys_247 rfl hl (by decide) rfl (fun ls hl => ?_)
                            refine lv_iload_n hx hb dX11_readKeys_248 rfl (lv_at hl 0 rfl) ?_
                            refine gi_zeq (tgt := 256) hx hb dX11_readKeys_249 (by decide) (by omega) (fun c_115 => ?_) (fun c_115 => ?_)
                            · refine lv_goto (tgt := 7) hx hb dX11_readKeys_256 (by decide) ?_
                              exact ih_7 z_114 y6_7 y7_7 w8_113 w9_113 w10_113 w11_113 (y17_7 + 1) (u1 c14_7 y17_7 3) (u1 c16_7 y17_7 z_12) b0_113 _ _ _ (by omega) (by omega) (by omega) (by omega) (by omega) hP hS (lv_sub hl [3, 0] rfl)
                            · refine lv_aload_n hx hb dX11_readKeys_252 rfl (lv_at hl 3 rfl) ?_
                              refine g_cv (As := []) (rest := []) (n := 0) C hml (m_X11_next l D k A ad hD (va_up (va_up (va_up (va_up (va_up (va_up (va_up v 6 y6_7) 7 y7_7) 8 w8_113) 9 w9_113) 10 w10_113) 11 w11_113) 17 (y17_7 + 1)) (va_up (va_up f 14 (u1 c14_7 y17_7 3)) 16 (u1 c16_7 y17_7 z_12)) (va_up g 0 b0_113) (show w10_113 ≤ (v 3) from by omega)) mM_X11_201 mI_X11_next mE_X11_next mN_X11 mC_X11_next (by decide +kernel) 0 (ci := 11) rfl rfl hP hS (fun _ h => h) ⟨Nat.le_of_ble_eq_true rfl, Nat.le_of_ble_eq_true rfl⟩ ⟨Nat.zero_le _, Nat.zero_le _⟩ hl.1 rfl rfl (Nat.le_of_ble_eq_true rfl) dX11_readKeys_253 (fun r_116 v_116 f_116 g_116 H locs hq_116 hP _ hS => ?_)
                              obtain ⟨w8_116, w9_116, w10_116, w11_116, b0_116, rfl, rfl, rfl, rfl, p0_116, p1_116⟩ := hq_116
                              show W p l e (gRm 2 42) s m args below meth c _ _ 0 0 Q (F0 m 256 ls [])
                              have hP : gWd D (mdT k ad) (va_up (va_up (va_up (va_up (va_up (va_up (va_up v 6 y6_7) 7 y7_7) 8 w8_116) 9 w9_116) 10 w10_116) 11 w11_116) 17 (y17_7 + 1)) (va_up (va_up f 14 (u1 c14_7 y17_7 3)) 16 (u1 c16_7 y17_7 z_12)) (va_up g 0 b0_116) H := ⟨hP.1, (gF_up (V := mdV) (F := mdF) (gF_up (V := mdV) (F := mdF) (gR_up (V := mdV) (F := mdF) (gR_up (V := mdV) (F := mdF) (gR_up (V := mdV) (F := mdF) (gR_up (V := mdV) (F := mdF) (gR_up (V := mdV) (F := mdF) (gR_up (V := mdV) (F := mdF) (gR_up (V := mdV) (F := mdF) ⟨hok.1, hok.2⟩ 6 (hP.2.1 6)) 7 (hP.2.1 7)) 8 (hP.2.1 8)) 9 (hP.2.1 9)) 10 (hP.2.1 10)) 11 (hP.2.1 11)) 17 (hP.2.1 17)) 14 (hP.2.2 14)) 16 (hP.2.2 16))⟩
                              replace p0_116 : w10_113 ≤ w9_116 ∧ w9_116 ≤ w10_116 ∧ w10_116 ≤ (v 3) := p0_116
                              replace p1_116 : w8_116 ≠ 0 → w9_116 < w10_116 := p1_116
                              have rw8_116 : 0 ≤ w8_116 ∧ w8_116 ≤ 4 := hP.2.1 8
                              have rw9_116 : 0 ≤ w9_116 ∧ w9_116 ≤ 700 := hP.2.1 9
                              have rw10_116 : 0 ≤ w10_116 ∧ w10_116 ≤ 700 := hP.2.1 10
                              have rw11_116 : 0 ≤ w11_116 ∧ w11_116 ≤ 999999 := hP.2.1 11
                              refine lv_goto (tgt := 7) hx hb dX11_readKeys_256 (by decide) ?_
                              exact ih_7 z_114 y6_7 y7_7 w8_116 w9_116 w10_116 w11_116 (y17_7 + 1) (u1 c14_7 y17_7 3) (u1 c16_7 y17_7 z_12) b0_116 _ _ _ (by omega) (by omega) (by omega) (by omega) (by omega) hP hS (lv_sub hl [3, 0] rfl)
                          · exfalso; omega
                      · refine lv_iconst (v := iI 2) hx hb dX11_readKeys_166 rfl ?_
                        refine lv_goto (tgt := 197) hx hb dX11_readKeys_167 (by decide) ?_
                        refine lv_istore_n (lv' := [(3, .int (iI 2)), (2, .int (iI z_12)), (0, .ref (ad 0)), (1, .int (iI x1))]) hx hb dX11_readKeys_197 rfl hl (by decide) rfl (fun ls hl => ?_)
                        refine lv_iload_n hx hb dX11_readKeys_198 rfl (lv_at hl 0 rfl) ?_
                        refine gi_zge (tgt := 207) hx hb dX11_readKeys_199 (by decide) (by decide) (fun c_117 => ?_) (fun c_117 => ?_)
                        · refine lv_aload_n hx hb dX11_readKeys_207 rfl (lv_at hl 2 rfl) ?_
                          refine mdG_newUp C hP mF_X11_67 dX11_readKeys_208 ?_
                          refine lv_aload_n hx hb dX11_readKeys_211 rfl (lv_at hl 2 rfl) ?_
                          refine mdG_newKeys C hP mF_X11_214 dX11_readKeys_212 ?_
                          show W p l e (gRm 2 42) s m args below meth c _ _ 0 0 Q (F0 m 215 ls [.int (iI y17_7), .ref (ad 17)])
                          refine lv_iload_n hx hb dX11_readKeys_215 rfl (lv_at hl 1 rfl) ?_
                          refine mdS_newUp (f1 := (va_up (va_up f 14 c14_7) 16 (u1 c16_7 y17_7 z_12))) C hP hD hS (by omega) (by omega) (by omega) (by omega) rfl (Or.inr (gF_up (V := mdV) (F := mdF) (gF_up (V := mdV) (F := mdF) (gR_up (V := mdV) (F := mdF) (gR_up (V := mdV) (F := mdF) (gR_up (V := mdV) (F := mdF) (gR_up (V := mdV) (F := mdF) (gR_up (V := mdV) (F := mdF) (gR_up (V := mdV) (F := mdF) (gR_up (V := mdV) (F := mdF) ⟨hok.1, hok.2⟩ 6 (hP.2.1 6)) 7 (hP.2.1 7)) 8 (hP.2.1 8)) 9 (hP.2.1 9)) 10 (hP.2.1 10)) 11 (hP.2.1 11)) 17 (hP.2.1 17)) 14 (hP.2.2 14)) 16 (u1_rng (hP.2.2 16) (show 0 ≤ z_12 ∧ z_12 ≤ 1 from (by omega))))) dX11_readKeys_216 (fun H locs hP hS => ?_)
                          refine lv_aload_n hx hb dX11_readKeys_217 rfl (lv_at hl 2 rfl) ?_
                          refine mdG_newKey C hP mF_X11_60 dX11_readKeys_218 ?_
                          refine lv_aload_n hx hb dX11_readKeys_221 rfl (lv_at hl 2 rfl) ?_
                          refine mdG_newKeys C hP mF_X11_214 dX11_readKeys_222 ?_
                          show W p l e (gRm 2 42) s m args below meth c _ _ 0 0 Q (F0 m 225 ls [.int (iI y17_7), .ref (ad 15)])
                          refine lv_iload_n hx hb dX11_readKeys_225 rfl (lv_at hl 0 rfl) ?_
                          refine mdS_newKey (f1 := (va_up (va_up f 14 (u1 c14_7 y17_7 2)) 16 (u1 c16_7 y17_7 z_12))) C hP hD hS (by omega) (by omega) (by decide) rfl (Or.inr (gF_up (V := mdV) (F := mdF) (gF_up (V := mdV) (F := mdF) (gR_up (V := mdV) (F := mdF) (gR_up (V := mdV) (F := mdF) (gR_up (V := mdV) (F := mdF) (gR_up (V := mdV) (F := mdF) (gR_up (V := mdV) (F := mdF) (gR_up (V := mdV) (F := mdF) (gR_up (V := mdV) (F := mdF) ⟨hok.1, hok.2⟩ 6 (hP.2.1 6)) 7 (hP.2.1 7)) 8 (hP.2.1 8)) 9 (hP.2.1 9)) 10 (hP.2.1 10)) 11 (hP.2.1 11)) 17 (hP.2.1 17)) 14 (u1_rng (hP.2.2 14) (show 0 ≤ 2 ∧ 2 ≤ 3 from (by decide)))) 16 (hP.2.2 16))) dX11_readKeys_226 (fun H locs hP hS => ?_)
                          refine lv_aload_n hx hb dX11_readKeys_227 rfl (lv_at hl 2 rfl) ?_
                          refine lv_dup hx hb dX11_readKeys_228 rfl ?_
                          refine mdG_newKeys C hP mF_X11_214 dX11_readKeys_229 ?_
                          show W p l e (gRm 2 42) s m args below meth c _ _ 0 0 Q (F0 m 232 ls [.int (iI y17_7), .ref (ad 0)])
                          refine lv_iconst (v := iI 1) hx hb dX11_readKeys_232 rfl ?_
                          refine gi_add (z := (y17_7 + 1)) hx hb dX11_readKeys_233 rfl ?_
                          refine mdP_newKeys (v1 := (va_up (va_up (va_up (va_up (va_up (va_up (va_up v 6 y6_7) 7 y7_7) 8 w8_97) 9 w9_97) 10 w10_97) 11 w11_97) 17 (y17_7 + 1))) C hP hD hS mF_X11_214 (by omega) rfl (Or.inr (gF_up (V := mdV) (F := mdF) (gF_up (V := mdV) (F := mdF) (gR_up (V := mdV) (F := mdF) (gR_up (V := mdV) (F := mdF) (gR_up (V := mdV) (F := mdF) (gR_up (V := mdV) (F := mdF) (gR_up (V := mdV) (F := mdF) (gR_up (V := mdV) (F := mdF) (gR_up (V := mdV) (F := mdF) ⟨hok.1, hok.2⟩ 6 (hP.2.1 6)) 7 (hP.2.1 7)) 8 (hP.2.1 8)) 9 (hP.2.1 9)) 10 (hP.2.1 10)) 11 (hP.2.1 11)) 17 (show 0 ≤ (y17_7 + 1) ∧ (y17_7 + 1) ≤ 4 from by omega)) 14 (hP.2.2 14)) 16 (hP.2.2 16))) dX11_readKeys_234 (fun H locs hP hS => ?_)
                          refine lv_aload_n hx hb dX11_readKeys_237 rfl (lv_at hl 2 rfl) ?_
                          refine g_cv (As := []) (rest := []) (n := 0) C hml (m_X11_next l D k A ad hD (va_up (va_up (va_up (va_up (va_up (va_up (va_up v 6 y6_7) 7 y7_7) 8 w8_97) 9 w9_97) 10 w10_97) 11 w11_97) 17 (y17_7 + 1)) (va_up (va_up f 14 (u1 c14_7 y17_7 2)) 16 (u1 c16_7 y17_7 z_12)) (va_up g 0 b0_97) (show w10_97 ≤ (v 3) from by omega)) mM_X11_201 mI_X11_next mE_X11_next mN_X11 mC_X11_next (by decide +kernel) 0 (ci := 11) rfl rfl hP hS (fun _ h => h) ⟨Nat.le_of_ble_eq_true rfl, Nat.le_of_ble_eq_true rfl⟩ ⟨Nat.zero_le _, Nat.zero_le _⟩ hl.1 rfl rfl (Nat.le_of_ble_eq_true rfl) dX11_readKeys_238 (fun r_118 v_118 f_118 g_118 H locs hq_118 hP _ hS => ?_)
                          obtain ⟨w8_118, w9_118, w10_118, w11_118, b0_118, rfl, rfl, rfl, rfl, p0_118, p1_118⟩ := hq_118
                          show W p l e (gRm 2 42) s m args below meth c _ _ 0 0 Q (F0 m 241 ls [])
                          have hP : gWd D (mdT k ad) (va_up (va_up (va_up (va_up (va_up (va_up (va_up v 6 y6_7) 7 y7_7) 8 w8_118) 9 w9_118) 10 w10_118) 11 w11_118) 17 (y17_7 + 1)) (va_up (va_up f 14 (u1 c14_7 y17_7 2)) 16 (u1 c16_7 y17_7 z_12)) (va_up g 0 b0_118) H := ⟨hP.1, (gF_up (V := mdV) (F := mdF) (gF_up (V := mdV) (F := mdF) (gR_up (V := mdV) (F := mdF) (gR_up (V := mdV) (F := mdF) (gR_up (V := mdV) (F := mdF) (gR_up (V := mdV) (F := mdF) (gR_up (V := mdV) (F := mdF) (gR_up (V := mdV) (F := mdF) (gR_up (V := mdV) (F := mdF) ⟨hok.1, hok.2⟩ 6 (hP.2.1 6)) 7 (hP.2.1 7)) 8 (hP.2.1 8)) 9 (hP.2.1 9)) 10 (hP.2.1 10)) 11 (hP.2.1 11)) 17 (hP.2.1 17)) 14 (hP.2.2 14)) 16 (hP.2.2 16))⟩
                          replace p0_118 : w10_97 ≤ w9_118 ∧ w9_118 ≤ w10_118 ∧ w10_118 ≤ (v 3) := p0_118
                          replace p1_118 : w8_118 ≠ 0 → w9_118 < w10_118 := p1_118
                          have rw8_118 : 0 ≤ w8_118 ∧ w8_118 ≤ 4 := hP.2.1 8
                          have rw9_118 : 0 ≤ w9_118 ∧ w9_118 ≤ 700 := hP.2.1 9
                          have rw10_118 : 0 ≤ w10_118 ∧ w10_118 ≤ 700 := hP.2.1 10
                          have rw11_118 : 0 ≤ w11_118 ∧ w11_118 ≤ 999999 := hP.2.1 11
                          refine lv_aload_n hx hb dX11_readKeys_241 rfl (lv_at hl 2 rfl) ?_
                          refine lv_bipush (v := iI 44) hx hb dX11_readKeys_242 (by decide) ?_
                          refine g_cv (As := [.int (iI 44)]) (rest := []) (n := 1) C hml (m_X11_isSign l D k A ad hD (va_up (va_up (va_up (va_up (va_up (va_up (va_up v 6 y6_7) 7 y7_7) 8 w8_118) 9 w9_118) 10 w10_118) 11 w11_118) 17 (y17_7 + 1)) (va_up (va_up f 14 (u1 c14_7 y17_7 2)) 16 (u1 c16_7 y17_7 z_12)) (va_up g 0 b0_118) 44 (by decide)) mM_X11_204 mI_X11_isSign mE_X11_isSign mN_X11 mC_X11_isSign (by decide +kernel) 0 (ci := 11) rfl rfl hP hS (fun _ h => h) ⟨Nat.le_of_ble_eq_true rfl, Nat.le_of_ble_eq_true rfl⟩ ⟨Nat.zero_le _, Nat.zero_le _⟩ hl.1 rfl rfl (Nat.le_of_ble_eq_true rfl) dX11_readKeys_244 (fun r_119 v_119 f_119 g_119 H locs hq_119 hP _ hS => ?_)
                          obtain ⟨z_119, rfl, rfl, rfl, rfl, p0_119, p1_119⟩ := hq_119
                          show W p l e (gRm 2 42) s m args below meth c _ _ 0 0 Q (F0 m 247 ls [.int (iI z_119)])
                          replace p0_119 : 0 ≤ z_119 ∧ z_119 ≤ 1 := p0_119
                          replace p1_119 : z_119 = 1 → w8_118 = 3 := p1_119
                          refine lv_istore_n (lv' := [(1, .int (iI z_119)), (3, .int (iI 2)), (2, .int (iI z_12)), (0, .ref (ad 0))]) hx hb dX11_readKeys_247 rfl hl (by decide) rfl (fun ls hl => ?_)
                          refine lv_iload_n hx hb dX11_readKeys_248 rfl (lv_at hl 0 rfl) ?_
                          refine gi_zeq (tgt := 256) hx hb dX11_readKeys_249 (by decide) (by omega) (fun c_120 => ?_) (fun c_120 => ?_)
                          · refine lv_goto (tgt := 7) hx hb dX11_readKeys_256 (by decide) ?_
                            exact ih_7 z_119 y6_7 y7_7 w8_118 w9_118 w10_118 w11_118 (y17_7 + 1) (u1 c14_7 y17_7 2) (u1 c16_7 y17_7 z_12) b0_118 _ _ _ (by omega) (by omega) (by omega) (by omega) (by omega) hP hS (lv_sub hl [3, 0] rfl)
                          · refine lv_aload_n hx hb dX11_readKeys_252 rfl (lv_at hl 3 rfl) ?_
                            refine g_cv (As := []) (rest := []) (n := 0) C hml (m_X11_next l D k A ad hD (va_up (va_up (va_up (va_up (va_up (va_up (va_up v 6 y6_7) 7 y7_7) 8 w8_118) 9 w9_118) 10 w10_118) 11 w11_118) 17 (y17_7 + 1)) (va_up (va_up f 14 (u1 c14_7 y17_7 2)) 16 (u1 c16_7 y17_7 z_12)) (va_up g 0 b0_118) (show w10_118 ≤ (v 3) from by omega)) mM_X11_201 mI_X11_next mE_X11_next mN_X11 mC_X11_next (by decide +kernel) 0 (ci := 11) rfl rfl hP hS (fun _ h => h) ⟨Nat.le_of_ble_eq_true rfl, Nat.le_of_ble_eq_true rfl⟩ ⟨Nat.zero_le _, Nat.zero_le _⟩ hl.1 rfl rfl (Nat.le_of_ble_eq_true rfl) dX11_readKeys_253 (fun r_121 v_121 f_121 g_121 H locs hq_121 hP _ hS => ?_)
                            obtain ⟨w8_121, w9_121, w10_121, w11_121, b0_121, rfl, rfl, rfl, rfl, p0_121, p1_121⟩ := hq_121
                            show W p l e (gRm 2 42) s m args below meth c _ _ 0 0 Q (F0 m 256 ls [])
                            have hP : gWd D (mdT k ad) (va_up (va_up (va_up (va_up (va_up (va_up (va_up v 6 y6_7) 7 y7_7) 8 w8_121) 9 w9_121) 10 w10_121) 11 w11_121) 17 (y17_7 + 1)) (va_up (va_up f 14 (u1 c14_7 y17_7 2)) 16 (u1 c16_7 y17_7 z_12)) (va_up g 0 b0_121) H := ⟨hP.1, (gF_up (V := mdV) (F := mdF) (gF_up (V := mdV) (F := mdF) (gR_up (V := mdV) (F := mdF) (gR_up (V := mdV) (F := mdF) (gR_up (V := mdV) (F := mdF) (gR_up (V := mdV) (F := mdF) (gR_up (V := mdV) (F := mdF) (gR_up (V := mdV) (F := mdF) (gR_up (V := mdV) (F := mdF) ⟨hok.1, hok.2⟩ 6 (hP.2.1 6)) 7 (hP.2.1 7)) 8 (hP.2.1 8)) 9 (hP.2.1 9)) 10 (hP.2.1 10)) 11 (hP.2.1 11)) 17 (hP.2.1 17)) 14 (hP.2.2 14)) 16 (hP.2.2 16))⟩
                            replace p0_121 : w10_118 ≤ w9_121 ∧ w9_121 ≤ w10_121 ∧ w10_121 ≤ (v 3) := p0_121
                            replace p1_121 : w8_121 ≠ 0 → w9_121 < w10_121 := p1_121
                            have rw8_121 : 0 ≤ w8_121 ∧ w8_121 ≤ 4 := hP.2.1 8
                            have rw9_121 : 0 ≤ w9_121 ∧ w9_121 ≤ 700 := hP.2.1 9
                            have rw10_121 : 0 ≤ w10_121 ∧ w10_121 ≤ 700 := hP.2.1 10
                            have rw11_121 : 0 ≤ w11_121 ∧ w11_121 ≤ 999999 := hP.2.1 11
                            refine lv_goto (tgt := 7) hx hb dX11_readKeys_256 (by decide) ?_
                            exact ih_7 z_119 y6_7 y7_7 w8_121 w9_121 w10_121 w11_121 (y17_7 + 1) (u1 c14_7 y17_7 2) (u1 c16_7 y17_7 z_12) b0_121 _ _ _ (by omega) (by omega) (by omega) (by omega) (by omega) hP hS (lv_sub hl [3, 0] rfl)
                        · exfalso; omega
                    · refine lv_iconst (v := iI 1) hx hb dX11_readKeys_141 rfl ?_
                      refine lv_goto (tgt := 197) hx hb dX11_readKeys_142 (by decide) ?_
                      refine lv_istore_n (lv' := [(3, .int (iI 1)), (2, .int (iI z_12)), (0, .ref (ad 0)), (1, .int (iI x1))]) hx hb dX11_readKeys_197 rfl hl (by decide) rfl (fun ls hl => ?_)
                      refine lv_iload_n hx hb dX11_readKeys_198 rfl (lv_at hl 0 rfl) ?_
                      refine gi_zge (tgt := 207) hx hb dX11_readKeys_199 (by decide) (by decide) (fun c_122 => ?_) (fun c_122 => ?_)
                      · refine lv_aload_n hx hb dX11_readKeys_207 rfl (lv_at hl 2 rfl) ?_
                        refine mdG_newUp C hP mF_X11_67 dX11_readKeys_208 ?_
                        refine lv_aload_n hx hb dX11_readKeys_211 rfl (lv_at hl 2 rfl) ?_
                        refine mdG_newKeys C hP mF_X11_214 dX11_readKeys_212 ?_
                        show W p l e (gRm 2 42) s m args below meth c _ _ 0 0 Q (F0 m 215 ls [.int (iI y17_7), .ref (ad 17)])
                        refine lv_iload_n hx hb dX11_readKeys_215 rfl (lv_at hl 1 rfl) ?_
                        refine mdS_newUp (f1 := (va_up (va_up f 14 c14_7) 16 (u1 c16_7 y17_7 z_12))) C hP hD hS (by omega) (by omega) (by omega) (by omega) rfl (Or.inr (gF_up (V := mdV) (F := mdF) (gF_up (V := mdV) (F := mdF) (gR_up (V := mdV) (F := mdF) (gR_up (V := mdV) (F := mdF) (gR_up (V := mdV) (F := mdF) (gR_up (V := mdV) (F := mdF) (gR_up (V := mdV) (F := mdF) (gR_up (V := mdV) (F := mdF) (gR_up (V := mdV) (F := mdF) ⟨hok.1, hok.2⟩ 6 (hP.2.1 6)) 7 (hP.2.1 7)) 8 (hP.2.1 8)) 9 (hP.2.1 9)) 10 (hP.2.1 10)) 11 (hP.2.1 11)) 17 (hP.2.1 17)) 14 (hP.2.2 14)) 16 (u1_rng (hP.2.2 16) (show 0 ≤ z_12 ∧ z_12 ≤ 1 from (by omega))))) dX11_readKeys_216 (fun H locs hP hS => ?_)
                        refine lv_aload_n hx hb dX11_readKeys_217 rfl (lv_at hl 2 rfl) ?_
                        refine mdG_newKey C hP mF_X11_60 dX11_readKeys_218 ?_
                        refine lv_aload_n hx hb dX11_readKeys_221 rfl (lv_at hl 2 rfl) ?_
                        refine mdG_newKeys C hP mF_X11_214 dX11_readKeys_222 ?_
                        show W p l e (gRm 2 42) s m args below meth c _ _ 0 0 Q (F0 m 225 ls [.int (iI y17_7), .ref (ad 15)])
                        refine lv_iload_n hx hb dX11_readKeys_225 rfl (lv_at hl 0 rfl) ?_
                        refine mdS_newKey (f1 := (va_up (va_up f 14 (u1 c14_7 y17_7 1)) 16 (u1 c16_7 y17_7 z_12))) C hP hD hS (by omega) (by omega) (by decide) rfl (Or.inr (gF_up (V := mdV) (F := mdF) (gF_up (V := mdV) (F := mdF) (gR_up (V := mdV) (F := mdF) (gR_up (V := mdV) (F := mdF) (gR_up (V := mdV) (F := mdF) (gR_up (V := mdV) (F := mdF) (gR_up (V := mdV) (F := mdF) (gR_up (V := mdV) (F := mdF) (gR_up (V := mdV) (F := mdF) ⟨hok.1, hok.2⟩ 6 (hP.2.1 6)) 7 (hP.2.1 7)) 8 (hP.2.1 8)) 9 (hP.2.1 9)) 10 (hP.2.1 10)) 11 (hP.2.1 11)) 17 (hP.2.1 17)) 14 (u1_rng (hP.2.2 14) (show 0 ≤ 1 ∧ 1 ≤ 3 from (by decide)))) 16 (hP.2.2 16))) dX11_readKeys_226 (fun H locs hP hS => ?_)
                        refine lv_aload_n hx hb dX11_readKeys_227 rfl (lv_at hl 2 rfl) ?_
                        refine lv_dup hx hb dX11_readKeys_228 rfl ?_
                        refine mdG_newKeys C hP mF_X11_214 dX11_readKeys_229 ?_
                        show W p l e (gRm 2 42) s m args below meth c _ _ 0 0 Q (F0 m 232 ls [.int (iI y17_7), .ref (ad 0)])
                        refine lv_iconst (v := iI 1) hx hb dX11_readKeys_232 rfl ?_
                        refine gi_add (z := (y17_7 + 1)) hx hb dX11_readKeys_233 rfl ?_
                        refine mdP_newKeys (v1 := (va_up (va_up (va_up (va_up (va_up (va_up (va_up v 6 y6_7) 7 y7_7) 8 w8_97) 9 w9_97) 10 w10_97) 11 w11_97) 17 (y17_7 + 1))) C hP hD hS mF_X11_214 (by omega) rfl (Or.inr (gF_up (V := mdV) (F := mdF) (gF_up (V := mdV) (F := mdF) (gR_up (V := mdV) (F := mdF) (gR_up (V := mdV) (F := mdF) (gR_up (V := mdV) (F := mdF) (gR_up (V := mdV) (F := mdF) (gR_up (V := mdV) (F := mdF) (gR_up (V := mdV) (F := mdF) (gR_up (V := mdV) (F := mdF) ⟨hok.1, hok.2⟩ 6 (hP.2.1 6)) 7 (hP.2.1 7)) 8 (hP.2.1 8)) 9 (hP.2.1 9)) 10 (hP.2.1 10)) 11 (hP.2.1 11)) 17 (show 0 ≤ (y17_7 + 1) ∧ (y17_7 + 1) ≤ 4 from by omega)) 14 (hP.2.2 14)) 16 (hP.2.2 16))) dX11_readKeys_234 (fun H locs hP hS => ?_)
                        refine lv_aload_n hx hb dX11_readKeys_237 rfl (lv_at hl 2 rfl) ?_
                        refine g_cv (As := []) (rest := []) (n := 0) C hml (m_X11_next l D k A ad hD (va_up (va_up (va_up (va_up (va_up (va_up (va_up v 6 y6_7) 7 y7_7) 8 w8_97) 9 w9_97) 10 w10_97) 11 w11_97) 17 (y17_7 + 1)) (va_up (va_up f 14 (u1 c14_7 y17_7 1)) 16 (u1 c16_7 y17_7 z_12)) (va_up g 0 b0_97) (show w10_97 ≤ (v 3) from by omega)) mM_X11_201 mI_X11_next mE_X11_next mN_X11 mC_X11_next (by decide +kernel) 0 (ci := 11) rfl rfl hP hS (fun _ h => h) ⟨Nat.le_of_ble_eq_true rfl, Nat.le_of_ble_eq_true rfl⟩ ⟨Nat.zero_le _, Nat.zero_le _⟩ hl.1 rfl rfl (Nat.le_of_ble_eq_true rfl) dX11_readKeys_238 (fun r_123 v_123 f_123 g_123 H locs hq_123 hP _ hS => ?_)
                        obtain ⟨w8_123, w9_123, w10_123, w11_123, b0_123, rfl, rfl, rfl, rfl, p0_123, p1_123⟩ := hq_123
                        show W p l e (gRm 2 42) s m args below meth c _ _ 0 0 Q (F0 m 241 ls [])
                        have hP : gWd D (mdT k ad) (va_up (va_up (va_up (va_up (va_up (va_up (va_up v 6 y6_7) 7 y7_7) 8 w8_123) 9 w9_123) 10 w10_123) 11 w11_123) 17 (y17_7 + 1)) (va_up (va_up f 14 (u1 c14_7 y17_7 1)) 16 (u1 c16_7 y17_7 z_12)) (va_up g 0 b0_123) H := ⟨hP.1, (gF_up (V := mdV) (F := mdF) (gF_up (V := mdV) (F := mdF) (gR_up (V := mdV) (F := mdF) (gR_up (V := mdV) (F := mdF) (gR_up (V := mdV) (F := mdF) (gR_up (V := mdV) (F := mdF) (gR_up (V := mdV) (F := mdF) (gR_up (V := mdV) (F := mdF) (gR_up (V := mdV) (F := mdF) ⟨hok.1, hok.2⟩ 6 (hP.2.1 6)) 7 (hP.2.1 7)) 8 (hP.2.1 8)) 9 (hP.2.1 9)) 10 (hP.2.1 10)) 11 (hP.2.1 11)) 17 (hP.2.1 17)) 14 (hP.2.2 14)) 16 (hP.2.2 16))⟩
                        replace p0_123 : w10_97 ≤ w9_123 ∧ w9_123 ≤ w10_123 ∧ w10_123 ≤ (v 3) := p0_123
                        replace p1_123 : w8_123 ≠ 0 → w9_123 < w10_123 := p1_123
                        have rw8_123 : 0 ≤ w8_123 ∧ w8_123 ≤ 4 := hP.2.1 8
                        have rw9_123 : 0 ≤ w9_123 ∧ w9_123 ≤ 700 := hP.2.1 9
                        have rw10_123 : 0 ≤ w10_123 ∧ w10_123 ≤ 700 := hP.2.1 10
                        have rw11_123 : 0 ≤ w11_123 ∧ w11_123 ≤ 999999 := hP.2.1 11
                        refine lv_aload_n hx hb dX11_readKeys_241 rfl (lv_at hl 2 rfl) ?_
                        refine lv_bipush (v := iI 44) hx hb dX11_readKeys_242 (by decide) ?_
                        refine g_cv (As := [.int (iI 44)]) (rest := []) (n := 1) C hml (m_X11_isSign l D k A ad hD (va_up (va_up (va_up (va_up (va_up (va_up (va_up v 6 y6_7) 7 y7_7) 8 w8_123) 9 w9_123) 10 w10_123) 11 w11_123) 17 (y17_7 + 1)) (va_up (va_up f 14 (u1 c14_7 y17_7 1)) 16 (u1 c16_7 y17_7 z_12)) (va_up g 0 b0_123) 44 (by decide)) mM_X11_204 mI_X11_isSign mE_X11_isSign mN_X11 mC_X11_isSign (by decide +kernel) 0 (ci := 11) rfl rfl hP hS (fun _ h => h) ⟨Nat.le_of_ble_eq_true rfl, Nat.le_of_ble_eq_true rfl⟩ ⟨Nat.zero_le _, Nat.zero_le _⟩ hl.1 rfl rfl (Nat.le_of_ble_eq_true rfl) dX11_readKeys_244 (fun r_124 v_124 f_124 g_124 H locs hq_124 hP _ hS => ?_)
                        obtain ⟨z_124, rfl, rfl, rfl, rfl, p0_124, p1_124⟩ := hq_124
                        show W p l e (gRm 2 42) s m args below meth c _ _ 0 0 Q (F0 m 247 ls [.int (iI z_124)])
                        replace p0_124 : 0 ≤ z_124 ∧ z_124 ≤ 1 := p0_124
                        replace p1_124 : z_124 = 1 → w8_123 = 3 := p1_124
                        refine lv_istore_n (lv' := [(1, .int (iI z_124)), (3, .int (iI 1)), (2, .int (iI z_12)), (0, .ref (ad 0))]) hx hb dX11_readKeys_247 rfl hl (by decide) rfl (fun ls hl => ?_)
                        refine lv_iload_n hx hb dX11_readKeys_248 rfl (lv_at hl 0 rfl) ?_
                        refine gi_zeq (tgt := 256) hx hb dX11_readKeys_249 (by decide) (by omega) (fun c_125 => ?_) (fun c_125 => ?_)
                        · refine lv_goto (tgt := 7) hx hb dX11_readKeys_256 (by decide) ?_
                          exact ih_7 z_124 y6_7 y7_7 w8_123 w9_123 w10_123 w11_123 (y17_7 + 1) (u1 c14_7 y17_7 1) (u1 c16_7 y17_7 z_12) b0_123 _ _ _ (by omega) (by omega) (by omega) (by omega) (by omega) hP hS (lv_sub hl [3, 0] rfl)
                        · refine lv_aload_n hx hb dX11_readKeys_252 rfl (lv_at hl 3 rfl) ?_
                          refine g_cv (As := []) (rest := []) (n := 0) C hml (m_X11_next l D k A ad hD (va_up (va_up (va_up (va_up (va_up (va_up (va_up v 6 y6_7) 7 y7_7) 8 w8_123) 9 w9_123) 10 w10_123) 11 w11_123) 17 (y17_7 + 1)) (va_up (va_up f 14 (u1 c14_7 y17_7 1)) 16 (u1 c16_7 y17_7 z_12)) (va_up g 0 b0_123) (show w10_123 ≤ (v 3) from by omega)) mM_X11_201 mI_X11_next mE_X11_next mN_X11 mC_X11_next (by decide +kernel) 0 (ci := 11) rfl rfl hP hS (fun _ h => h) ⟨Nat.le_of_ble_eq_true rfl, Nat.le_of_ble_eq_true rfl⟩ ⟨Nat.zero_le _, Nat.zero_le _⟩ hl.1 rfl rfl (Nat.le_of_ble_eq_true rfl) dX11_readKeys_253 (fun r_126 v_126 f_126 g_126 H locs hq_126 hP _ hS => ?_)
                          obtain ⟨w8_126, w9_126, w10_126, w11_126, b0_126, rfl, rfl, rfl, rfl, p0_126, p1_126⟩ := hq_126
                          show W p l e (gRm 2 42) s m args below meth c _ _ 0 0 Q (F0 m 256 ls [])
                          have hP : gWd D (mdT k ad) (va_up (va_up (va_up (va_up (va_up (va_up (va_up v 6 y6_7) 7 y7_7) 8 w8_126) 9 w9_126) 10 w10_126) 11 w11_126) 17 (y17_7 + 1)) (va_up (va_up f 14 (u1 c14_7 y17_7 1)) 16 (u1 c16_7 y17_7 z_12)) (va_up g 0 b0_126) H := ⟨hP.1, (gF_up (V := mdV) (F := mdF) (gF_up (V := mdV) (F := mdF) (gR_up (V := mdV) (F := mdF) (gR_up (V := mdV) (F := mdF) (gR_up (V := mdV) (F := mdF) (gR_up (V := mdV) (F := mdF) (gR_up (V := mdV) (F := mdF) (gR_up (V := mdV) (F := mdF) (gR_up (V := mdV) (F := mdF) ⟨hok.1, hok.2⟩ 6 (hP.2.1 6)) 7 (hP.2.1 7)) 8 (hP.2.1 8)) 9 (hP.2.1 9)) 10 (hP.2.1 10)) 11 (hP.2.1 11)) 17 (hP.2.1 17)) 14 (hP.2.2 14)) 16 (hP.2.2 16))⟩
                          replace p0_126 : w10_123 ≤ w9_126 ∧ w9_126 ≤ w10_126 ∧ w10_126 ≤ (v 3) := p0_126
                          replace p1_126 : w8_126 ≠ 0 → w9_126 < w10_126 := p1_126
                          have rw8_126 : 0 ≤ w8_126 ∧ w8_126 ≤ 4 := hP.2.1 8
                          have rw9_126 : 0 ≤ w9_126 ∧ w9_126 ≤ 700 := hP.2.1 9
                          have rw10_126 : 0 ≤ w10_126 ∧ w10_126 ≤ 700 := hP.2.1 10
                          have rw11_126 : 0 ≤ w11_126 ∧ w11_126 ≤ 999999 := hP.2.1 11
                          refine lv_goto (tgt := 7) hx hb dX11_readKeys_256 (by decide) ?_
                          exact ih_7 z_124 y6_7 y7_7 w8_126 w9_126 w10_126 w11_126 (y17_7 + 1) (u1 c14_7 y17_7 1) (u1 c16_7 y17_7 z_12) b0_126 _ _ _ (by omega) (by omega) (by omega) (by omega) (by omega) hP hS (lv_sub hl [3, 0] rfl)
                      · exfalso; omega
                  · refine lv_iconst (v := iI 0) hx hb dX11_readKeys_116 rfl ?_
                    refine lv_goto (tgt := 197) hx hb dX11_readKeys_117 (by decide) ?_
                    refine lv_istore_n (lv' := [(3, .int (iI 0)), (2, .int (iI z_12)), (0, .ref (ad 0)), (1, .int (iI x1))]) hx hb dX11_readKeys_197 rfl hl (by decide) rfl (fun ls hl => ?_)
                    refine lv_iload_n hx hb dX11_readKeys_198 rfl (lv_at hl 0 rfl) ?_
                    refine gi_zge (tgt := 207) hx hb dX11_readKeys_199 (by decide) (by decide) (fun c_127 => ?_) (fun c_127 => ?_)
                    · refine lv_aload_n hx hb dX11_readKeys_207 rfl (lv_at hl 2 rfl) ?_
                      refine mdG_newUp C hP mF_X11_67 dX11_readKeys_208 ?_
                      refine lv_aload_n hx hb dX11_readKeys_211 rfl (lv_at hl 2 rfl) ?_
                      refine mdG_newKeys C hP mF_X11_214 dX11_readKeys_212 ?_
                      show W p l e (gRm 2 42) s m args below meth c _ _ 0 0 Q (F0 m 215 ls [.int (iI y17_7), .ref (ad 17)])
                      refine lv_iload_n hx hb dX11_readKeys_215 rfl (lv_at hl 1 rfl) ?_
                      refine mdS_newUp (f1 := (va_up (va_up f 14 c14_7) 16 (u1 c16_7 y17_7 z_12))) C hP hD hS (by omega) (by omega) (by omega) (by omega) rfl (Or.inr (gF_up (V := mdV) (F := mdF) (gF_up (V := mdV) (F := mdF) (gR_up (V := mdV) (F := mdF) (gR_up (V := mdV) (F := mdF) (gR_up (V := mdV) (F := mdF) (gR_up (V := mdV) (F := mdF) (gR_up (V := mdV) (F := mdF) (gR_up (V := mdV) (F := mdF) (gR_up (V := mdV) (F := mdF) ⟨hok.1, hok.2⟩ 6 (hP.2.1 6)) 7 (hP.2.1 7)) 8 (hP.2.1 8)) 9 (hP.2.1 9)) 10 (hP.2.1 10)) 11 (hP.2.1 11)) 17 (hP.2.1 17)) 14 (hP.2.2 14)) 16 (u1_rng (hP.2.2 16) (show 0 ≤ z_12 ∧ z_12 ≤ 1 from (by omega))))) dX11_readKeys_216 (fun H locs hP hS => ?_)
                      refine lv_aload_n hx hb dX11_readKeys_217 rfl (lv_at hl 2 rfl) ?_
                      refine mdG_newKey C hP mF_X11_60 dX11_readKeys_218 ?_
                      refine lv_aload_n hx hb dX11_readKeys_221 rfl (lv_at hl 2 rfl) ?_
                      refine mdG_newKeys C hP mF_X11_214 dX11_readKeys_222 ?_
                      show W p l e (gRm 2 42) s m args below meth c _ _ 0 0 Q (F0 m 225 ls [.int (iI y17_7), .ref (ad 15)])
                      refine lv_iload_n hx hb dX11_readKeys_225 rfl (lv_at hl 0 rfl) ?_
                      refine mdS_newKey (f1 := (va_up (va_up f 14 (u1 c14_7 y17_7 0)) 16 (u1 c16_7 y17_7 z_12))) C hP hD hS (by omega) (by omega) (by decide) rfl (Or.inr (gF_up (V := mdV) (F := mdF) (gF_up (V := mdV) (F := mdF) (gR_up (V := mdV) (F := mdF) (gR_up (V := mdV) (F := mdF) (gR_up (V := mdV) (F := mdF) (gR_up (V := mdV) (F := mdF) (gR_up (V := mdV) (F := mdF) (gR_up (V := mdV) (F := mdF) (gR_up (V := mdV) (F := mdF) ⟨hok.1, hok.2⟩ 6 (hP.2.1 6)) 7 (hP.2.1 7)) 8 (hP.2.1 8)) 9 (hP.2.1 9)) 10 (hP.2.1 10)) 11 (hP.2.1 11)) 17 (hP.2.1 17)) 14 (u1_rng (hP.2.2 14) (show 0 ≤ 0 ∧ 0 ≤ 3 from (by decide)))) 16 (hP.2.2 16))) dX11_readKeys_226 (fun H locs hP hS => ?_)
                      refine lv_aload_n hx hb dX11_readKeys_227 rfl (lv_at hl 2 rfl) ?_
                      refine lv_dup hx hb dX11_readKeys_228 rfl ?_
                      refine mdG_newKeys C hP mF_X11_214 dX11_readKeys_229 ?_
                      show W p l e (gRm 2 42) s m args below meth c _ _ 0 0 Q (F0 m 232 ls [.int (iI y17_7), .ref (ad 0)])
                      refine lv_iconst (v := iI 1) hx hb dX11_readKeys_232 rfl ?_
                      refine gi_add (z := (y17_7 + 1)) hx hb dX11_readKeys_233 rfl ?_
                      refine mdP_newKeys (v1 := (va_up (va_up (va_up (va_up (va_up (va_up (va_up v 6 y6_7) 7 y7_7) 8 w8_97) 9 w9_97) 10 w10_97) 11 w11_97) 17 (y17_7 + 1))) C hP hD hS mF_X11_214 (by omega) rfl (Or.inr (gF_up (V := mdV) (F := mdF) (gF_up (V := mdV) (F := mdF) (gR_up (V := mdV) (F := mdF) (gR_up (V := mdV) (F := mdF) (gR_up (V := mdV) (F := mdF) (gR_up (V := mdV) (F := mdF) (gR_up (V := mdV) (F := mdF) (gR_up (V := mdV) (F := mdF) (gR_up (V := mdV) (F := mdF) ⟨hok.1, hok.2⟩ 6 (hP.2.1 6)) 7 (hP.2.1 7)) 8 (hP.2.1 8)) 9 (hP.2.1 9)) 10 (hP.2.1 10)) 11 (hP.2.1 11)) 17 (show 0 ≤ (y17_7 + 1) ∧ (y17_7 + 1) ≤ 4 from by omega)) 14 (hP.2.2 14)) 16 (hP.2.2 16))) dX11_readKeys_234 (fun H locs hP hS => ?_)
                      refine lv_aload_n hx hb dX11_readKeys_237 rfl (lv_at hl 2 rfl) ?_
                      refine g_cv (As := []) (rest := []) (n := 0) C hml (m_X11_next l D k A ad hD (va_up (va_up (va_up (va_up (va_up (va_up (va_up v 6 y6_7) 7 y7_7) 8 w8_97) 9 w9_97) 10 w10_97) 11 w11_97) 17 (y17_7 + 1)) (va_up (va_up f 14 (u1 c14_7 y17_7 0)) 16 (u1 c16_7 y17_7 z_12)) (va_up g 0 b0_97) (show w10_97 ≤ (v 3) from by omega)) mM_X11_201 mI_X11_next mE_X11_next mN_X11 mC_X11_next (by decide +kernel) 0 (ci := 11) rfl rfl hP hS (fun _ h => h) ⟨Nat.le_of_ble_eq_true rfl, Nat.le_of_ble_eq_true rfl⟩ ⟨Nat.zero_le _, Nat.zero_le _⟩ hl.1 rfl rfl (Nat.le_of_ble_eq_true rfl) dX11_readKeys_238 (fun r_128 v_128 f_128 g_128 H locs hq_128 hP _ hS => ?_)
                      obtain ⟨w8_128, w9_128, w10_128, w11_128, b0_128, rfl, rfl, rfl, rfl, p0_128, p1_128⟩ := hq_128
                      show W p l e (gRm 2 42) s m args below meth c _ _ 0 0 Q (F0 m 241 ls [])
                      have hP : gWd D (mdT k ad) (va_up (va_up (va_up (va_up (va_up (va_up (va_up v 6 y6_7) 7 y7_7) 8 w8_128) 9 w9_128) 10 w10_128) 11 w11_128) 17 (y17_7 + 1)) (va_up (va_up f 14 (u1 c14_7 y17_7 0)) 16 (u1 c16_7 y17_7 z_12)) (va_up g 0 b0_128) H := ⟨hP.1, (gF_up (V := mdV) (F := mdF) (gF_up (V := mdV) (F := mdF) (gR_up (V := mdV) (F := mdF) (gR_up (V := mdV) (F := mdF) (gR_up (V := mdV) (F := mdF) (gR_up (V := mdV) (F := mdF) (gR_up (V := mdV) (F := mdF) (gR_up (V := mdV) (F := mdF) (gR_up (V := mdV) (F := mdF) ⟨hok.1, hok.2⟩ 6 (hP.2.1 6)) 7 (hP.2.1 7)) 8 (hP.2.1 8)) 9 (hP.2.1 9)) 10 (hP.2.1 10)) 11 (hP.2.1 11)) 17 (hP.2.1 17)) 14 (hP.2.2 14)) 16 (hP.2.2 16))⟩
                      replace p0_128 : w10_97 ≤ w9_128 ∧ w9_128 ≤ w10_128 ∧ w10_128 ≤ (v 3) := p0_128
                      replace p1_128 : w8_128 ≠ 0 → w9_128 < w10_128 := p1_128
                      have rw8_128 : 0 ≤ w8_128 ∧ w8_128 ≤ 4 := hP.2.1 8
                      have rw9_128 : 0 ≤ w9_128 ∧ w9_128 ≤ 700 := hP.2.1 9
                      have rw10_128 : 0 ≤ w10_128 ∧ w10_128 ≤ 700 := hP.2.1 10
                      have rw11_128 : 0 ≤ w11_128 ∧ w11_128 ≤ 999999 := hP.2.1 11
                      refine lv_aload_n hx hb dX11_readKeys_241 rfl (lv_at hl 2 rfl) ?_
                      refine lv_bipush (v := iI 44) hx hb dX11_readKeys_242 (by decide) ?_
                      refine g_cv (As := [.int (iI 44)]) (rest := []) (n := 1) C hml (m_X11_isSign l D k A ad hD (va_up (va_up (va_up (va_up (va_up (va_up (va_up v 6 y6_7) 7 y7_7) 8 w8_128) 9 w9_128) 10 w10_128) 11 w11_128) 17 (y17_7 + 1)) (va_up (va_up f 14 (u1 c14_7 y17_7 0)) 16 (u1 c16_7 y17_7 z_12)) (va_up g 0 b0_128) 44 (by decide)) mM_X11_204 mI_X11_isSign mE_X11_isSign mN_X11 mC_X11_isSign (by decide +kernel) 0 (ci := 11) rfl rfl hP hS (fun _ h => h) ⟨Nat.le_of_ble_eq_true rfl, Nat.le_of_ble_eq_true rfl⟩ ⟨Nat.zero_le _, Nat.zero_le _⟩ hl.1 rfl rfl (Nat.le_of_ble_eq_true rfl) dX11_readKeys_244 (fun r_129 v_129 f_129 g_129 H locs hq_129 hP _ hS => ?_)
                      obtain ⟨z_129, rfl, rfl, rfl, rfl, p0_129, p1_129⟩ := hq_129
                      show W p l e (gRm 2 42) s m args below meth c _ _ 0 0 Q (F0 m 247 ls [.int (iI z_129)])
                      replace p0_129 : 0 ≤ z_129 ∧ z_129 ≤ 1 := p0_129
                      replace p1_129 : z_129 = 1 → w8_128 = 3 := p1_129
                      refine lv_istore_n (lv' := [(1, .int (iI z_129)), (3, .int (iI 0)), (2, .int (iI z_12)), (0, .ref (ad 0))]) hx hb dX11_readKeys_247 rfl hl (by decide) rfl (fun ls hl => ?_)
                      refine lv_iload_n hx hb dX11_readKeys_248 rfl (lv_at hl 0 rfl) ?_
                      refine gi_zeq (tgt := 256) hx hb dX11_readKeys_249 (by decide) (by omega) (fun c_130 => ?_) (fun c_130 => ?_)
                      · refine lv_goto (tgt := 7) hx hb dX11_readKeys_256 (by decide) ?_
                        exact ih_7 z_129 y6_7 y7_7 w8_128 w9_128 w10_128 w11_128 (y17_7 + 1) (u1 c14_7 y17_7 0) (u1 c16_7 y17_7 z_12) b0_128 _ _ _ (by omega) (by omega) (by omega) (by omega) (by omega) hP hS (lv_sub hl [3, 0] rfl)
                      · refine lv_aload_n hx hb dX11_readKeys_252 rfl (lv_at hl 3 rfl) ?_
                        refine g_cv (As := []) (rest := []) (n := 0) C hml (m_X11_next l D k A ad hD (va_up (va_up (va_up (va_up (va_up (va_up (va_up v 6 y6_7) 7 y7_7) 8 w8_128) 9 w9_128) 10 w10_128) 11 w11_128) 17 (y17_7 + 1)) (va_up (va_up f 14 (u1 c14_7 y17_7 0)) 16 (u1 c16_7 y17_7 z_12)) (va_up g 0 b0_128) (show w10_128 ≤ (v 3) from by omega)) mM_X11_201 mI_X11_next mE_X11_next mN_X11 mC_X11_next (by decide +kernel) 0 (ci := 11) rfl rfl hP hS (fun _ h => h) ⟨Nat.le_of_ble_eq_true rfl, Nat.le_of_ble_eq_true rfl⟩ ⟨Nat.zero_le _, Nat.zero_le _⟩ hl.1 rfl rfl (Nat.le_of_ble_eq_true rfl) dX11_readKeys_253 (fun r_131 v_131 f_131 g_131 H locs hq_131 hP _ hS => ?_)
                        obtain ⟨w8_131, w9_131, w10_131, w11_131, b0_131, rfl, rfl, rfl, rfl, p0_131, p1_131⟩ := hq_131
                        show W p l e (gRm 2 42) s m args below meth c _ _ 0 0 Q (F0 m 256 ls [])
                        have hP : gWd D (mdT k ad) (va_up (va_up (va_up (va_up (va_up (va_up (va_up v 6 y6_7) 7 y7_7) 8 w8_131) 9 w9_131) 10 w10_131) 11 w11_131) 17 (y17_7 + 1)) (va_up (va_up f 14 (u1 c14_7 y17_7 0)) 16 (u1 c16_7 y17_7 z_12)) (va_up g 0 b0_131) H := ⟨hP.1, (gF_up (V := mdV) (F := mdF) (gF_up (V := mdV) (F := mdF) (gR_up (V := mdV) (F := mdF) (gR_up (V := mdV) (F := mdF) (gR_up (V := mdV) (F := mdF) (gR_up (V := mdV) (F := mdF) (gR_up (V := mdV) (F := mdF) (gR_up (V := mdV) (F := mdF) (gR_up (V := mdV) (F := mdF) ⟨hok.1, hok.2⟩ 6 (hP.2.1 6)) 7 (hP.2.1 7)) 8 (hP.2.1 8)) 9 (hP.2.1 9)) 10 (hP.2.1 10)) 11 (hP.2.1 11)) 17 (hP.2.1 17)) 14 (hP.2.2 14)) 16 (hP.2.2 16))⟩
                        replace p0_131 : w10_128 ≤ w9_131 ∧ w9_131 ≤ w10_131 ∧ w10_131 ≤ (v 3) := p0_131
                        replace p1_131 : w8_131 ≠ 0 → w9_131 < w10_131 := p1_131
                        have rw8_131 : 0 ≤ w8_131 ∧ w8_131 ≤ 4 := hP.2.1 8
                        have rw9_131 : 0 ≤ w9_131 ∧ w9_131 ≤ 700 := hP.2.1 9
                        have rw10_131 : 0 ≤ w10_131 ∧ w10_131 ≤ 700 := hP.2.1 10
                        have rw11_131 : 0 ≤ w11_131 ∧ w11_131 ≤ 999999 := hP.2.1 11
                        refine lv_goto (tgt := 7) hx hb dX11_readKeys_256 (by decide) ?_
                        exact ih_7 z_129 y6_7 y7_7 w8_131 w9_131 w10_131 w11_131 (y17_7 + 1) (u1 c14_7 y17_7 0) (u1 c16_7 y17_7 z_12) b0_131 _ _ _ (by omega) (by omega) (by omega) (by omega) (by omega) hP hS (lv_sub hl [3, 0] rfl)
                    · exfalso; omega
                · exact g_vret hQ C hr hlocks hP hS dX11_readKeys_91 ⟨y6_7, y7_7, y8_7, y9_7, y10_7, y11_7, y17_7, c14_7, c16_7, d0_7, rfl, rfl, rfl, rfl, (by first | omega | (split <;> omega)), (by first | omega | (split <;> omega))⟩
              · refine lv_aload_n hx hb dX11_readKeys_75 rfl (lv_at hl 1 rfl) ?_
                refine lv_iconst (v := iI 3) hx hb dX11_readKeys_76 rfl ?_
                refine lv_aload_n hx hb dX11_readKeys_77 rfl (lv_at hl 1 rfl) ?_
                refine mdG_at C hP mF_X11_158 dX11_readKeys_78 ?_
                show W p l e (gRm 2 42) s m args below meth c _ _ 0 0 Q (F0 m 81 ls [.int (iI y9_7), .int (iI 3), .ref (ad 0)])
                have r_132 : 0 ≤ y9_7 ∧ y9_7 ≤ 700 := hP.2.1 9
                refine g_cv (As := [.int (iI 3), .int (iI y9_7)]) (rest := []) (n := 2) C hml (m_X11_fail l D k A ad hD (va_up (va_up (va_up (va_up (va_up (va_up (va_up v 6 y6_7) 7 y7_7) 8 y8_7) 9 y9_7) 10 y10_7) 11 y11_7) 17 y17_7) (va_up (va_up f 14 c14_7) 16 c16_7) (va_up g 0 d0_7) 3 y9_7 (by decide) (by omega) (show 1 ≤ (3 : Int) ∧ (3 : Int) ≤ 5 from by omega) (show 0 ≤ y9_7 ∧ y9_7 ≤ 700 from by omega)) mM_X11_194 mI_X11_fail mE_X11_fail mN_X11 mC_X11_fail (by decide +kernel) 0 (ci := 11) rfl rfl hP hS (fun _ h => h) ⟨Nat.le_of_ble_eq_true rfl, Nat.le_of_ble_eq_true rfl⟩ ⟨Nat.zero_le _, Nat.zero_le _⟩ hl.1 rfl rfl (Nat.le_of_ble_eq_true rfl) dX11_readKeys_81 (fun r_133 v_133 f_133 g_133 H locs hq_133 hP _ hS => ?_)
                obtain ⟨w6_133, w7_133, rfl, rfl, rfl, rfl, p0_133⟩ := hq_133
                show W p l e (gRm 2 42) s m args below meth c _ _ 0 0 Q (F0 m 84 ls [])
                have hP : gWd D (mdT k ad) (va_up (va_up (va_up (va_up (va_up (va_up (va_up v 6 w6_133) 7 w7_133) 8 y8_7) 9 y9_7) 10 y10_7) 11 y11_7) 17 y17_7) (va_up (va_up f 14 c14_7) 16 c16_7) (va_up g 0 d0_7) H := ⟨hP.1, (gF_up (V := mdV) (F := mdF) (gF_up (V := mdV) (F := mdF) (gR_up (V := mdV) (F := mdF) (gR_up (V := mdV) (F := mdF) (gR_up (V := mdV) (F := mdF) (gR_up (V := mdV) (F := mdF) (gR_up (V := mdV) (F := mdF) (gR_up (V := mdV) (F := mdF) (gR_up (V := mdV) (F := mdF) ⟨hok.1, hok.2⟩ 6 (hP.2.1 6)) 7 (hP.2.1 7)) 8 (hP.2.1 8)) 9 (hP.2.1 9)) 10 (hP.2.1 10)) 11 (hP.2.1 11)) 17 (hP.2.1 17)) 14 (hP.2.2 14)) 16 (hP.2.2 16))⟩
                replace p0_133 : 0 < w6_133 := p0_133
                have rw6_133 : 0 ≤ w6_133 ∧ w6_133 ≤ 5 := hP.2.1 6
                have rw7_133 : 0 ≤ w7_133 ∧ w7_133 ≤ 700 := hP.2.1 7
                refine lv_aload_n hx hb dX11_readKeys_84 rfl (lv_at hl 1 rfl) ?_
                refine mdG_bad C hP mF_X11_188 dX11_readKeys_85 ?_
                show W p l e (gRm 2 42) s m args below meth c _ _ 0 0 Q (F0 m 88 ls [.int (iI w6_133)])
                have r_134 : 0 ≤ w6_133 ∧ w6_133 ≤ 5 := hP.2.1 6
                refine gi_zle (tgt := 92) hx hb dX11_readKeys_88 (by decide) (by omega) (fun c_135 => ?_) (fun c_135 => ?_)
                · refine lv_aload_n hx hb dX11_readKeys_92 rfl (lv_at hl 1 rfl) ?_
                  refine g_cv (As := []) (rest := []) (n := 0) C hml (m_X11_next l D k A ad hD (va_up (va_up (va_up (va_up (va_up (va_up (va_up v 6 w6_133) 7 w7_133) 8 y8_7) 9 y9_7) 10 y10_7) 11 y11_7) 17 y17_7) (va_up (va_up f 14 c14_7) 16 c16_7) (va_up g 0 d0_7) (show y10_7 ≤ (v 3) from by omega)) mM_X11_201 mI_X11_next mE_X11_next mN_X11 mC_X11_next (by decide +kernel) 0 (ci := 11) rfl rfl hP hS (fun _ h => h) ⟨Nat.le_of_ble_eq_true rfl, Nat.le_of_ble_eq_true rfl⟩ ⟨Nat.zero_le _, Nat.zero_le _⟩ hl.1 rfl rfl (Nat.le_of_ble_eq_true rfl) dX11_readKeys_93 (fun r_136 v_136 f_136 g_136 H locs hq_136 hP _ hS => ?_)
                  obtain ⟨w8_136, w9_136, w10_136, w11_136, b0_136, rfl, rfl, rfl, rfl, p0_136, p1_136⟩ := hq_136
                  show W p l e (gRm 2 42) s m args below meth c _ _ 0 0 Q (F0 m 96 ls [])
                  have hP : gWd D (mdT k ad) (va_up (va_up (va_up (va_up (va_up (va_up (va_up v 6 w6_133) 7 w7_133) 8 w8_136) 9 w9_136) 10 w10_136) 11 w11_136) 17 y17_7) (va_up (va_up f 14 c14_7) 16 c16_7) (va_up g 0 b0_136) H := ⟨hP.1, (gF_up (V := mdV) (F := mdF) (gF_up (V := mdV) (F := mdF) (gR_up (V := mdV) (F := mdF) (gR_up (V := mdV) (F := mdF) (gR_up (V := mdV) (F := mdF) (gR_up (V := mdV) (F := mdF) (gR_up (V := mdV) (F := mdF) (gR_up (V := mdV) (F := mdF) (gR_up (V := mdV) (F := mdF) ⟨hok.1, hok.2⟩ 6 (hP.2.1 6)) 7 (hP.2.1 7)) 8 (hP.2.1 8)) 9 (hP.2.1 9)) 10 (hP.2.1 10)) 11 (hP.2.1 11)) 17 (hP.2.1 17)) 14 (hP.2.2 14)) 16 (hP.2.2 16))⟩
                  replace p0_136 : y10_7 ≤ w9_136 ∧ w9_136 ≤ w10_136 ∧ w10_136 ≤ (v 3) := p0_136
                  replace p1_136 : w8_136 ≠ 0 → w9_136 < w10_136 := p1_136
                  have rw8_136 : 0 ≤ w8_136 ∧ w8_136 ≤ 4 := hP.2.1 8
                  have rw9_136 : 0 ≤ w9_136 ∧ w9_136 ≤ 700 := hP.2.1 9
                  have rw10_136 : 0 ≤ w10_136 ∧ w10_136 ≤ 700 := hP.2.1 10
                  have rw11_136 : 0 ≤ w11_136 ∧ w11_136 ≤ 999999 := hP.2.1 11
                  refine lv_aload_n hx hb dX11_readKeys_96 rfl (lv_at hl 1 rfl) ?_
                  refine lv_bipush (v := iI 115) hx hb dX11_readKeys_97 (by decide) ?_
                  refine lv_bipush (v := iI 117) hx hb dX11_readKeys_99 (by decide) ?_
                  refine lv_bipush (v := iI 109) hx hb dX11_readKeys_101 (by decide) ?_
                  refine lv_iconst (v := iI 0) hx hb dX11_readKeys_103 rfl ?_
                  refine lv_iconst (v := iI 0) hx hb dX11_readKeys_104 rfl ?_
                  refine lv_iconst (v := iI 0) hx hb dX11_readKeys_105 rfl ?_
                  refine lv_iconst (v := iI 0) hx hb dX11_readKeys_106 rfl ?_
                  refine g_cs (As := [.int (iI 115), .int (iI 117), .int (iI 109), .int (iI 0), .int (iI 0), .int (iI 0), .int (iI 0)]) (rest := [.ref (ad 0)]) (n := 7) C hml (m_X11_spelled l D k A ad hD (va_up (va_up (va_up (va_up (va_up (va_up (va_up v 6 w6_133) 7 w7_133) 8 w8_136) 9 w9_136) 10 w10_136) 11 w11_136) 17 y17_7) (va_up (va_up f 14 c14_7) 16 c16_7) (va_up g 0 b0_136) 115 117 109 0 0 0 0 (by decide) (by decide) (by decide) (by decide) (by decide) (by decide) (by decide)) mM_X11_228 mS_X11_spelled mN_X11 mC_X11_spelled (by decide +kernel) hP hS (fun _ h => h) ⟨Nat.le_of_ble_eq_true rfl, Nat.le_of_ble_eq_true rfl⟩ ⟨Nat.zero_le _, Nat.zero_le _⟩ hl.1 rfl rfl (Nat.le_of_ble_eq_true rfl) dX11_readKeys_107 (fun r_137 v_137 f_137 g_137 H locs hq_137 hP _ hS => ?_)
                  obtain ⟨z_137, rfl, rfl, rfl, rfl⟩ := hq_137
                  show W p l e (gRm 2 42) s m args below meth c _ _ 0 0 Q (F0 m 110 ls [.long (iL z_137), .ref (ad 0)])
                  refine g_cv (As := [.long (iL z_137)]) (rest := []) (n := 1) C hml (m_X11_isWord l D k A ad hD (va_up (va_up (va_up (va_up (va_up (va_up (va_up v 6 w6_133) 7 w7_133) 8 w8_136) 9 w9_136) 10 w10_136) 11 w11_136) 17 y17_7) (va_up (va_up f 14 c14_7) 16 c16_7) (va_up g 0 b0_136) z_137) mM_X11_232 mI_X11_isWord mE_X11_isWord mN_X11 mC_X11_isWord (by decide +kernel) 0 (ci := 11) rfl rfl hP hS (fun _ h => h) ⟨Nat.le_of_ble_eq_true rfl, Nat.le_of_ble_eq_true rfl⟩ ⟨Nat.zero_le _, Nat.zero_le _⟩ hl.1 rfl rfl (Nat.le_of_ble_eq_true rfl) dX11_readKeys_110 (fun r_138 v_138 f_138 g_138 H locs hq_138 hP _ hS => ?_)
                  obtain ⟨z_138, rfl, rfl, rfl, rfl, p0_138, p1_138⟩ := hq_138
                  show W p l e (gRm 2 42) s m args below meth c _ _ 0 0 Q (F0 m 113 ls [.int (iI z_138)])
                  replace p0_138 : 0 ≤ z_138 ∧ z_138 ≤ 1 := p0_138
                  replace p1_138 : z_138 = 1 → w8_136 = 1 := p1_138
                  refine gi_zeq (tgt := 120) hx hb dX11_readKeys_113 (by decide) (by omega) (fun c_139 => ?_) (fun c_139 => ?_)
                  · refine lv_aload_n hx hb dX11_readKeys_120 rfl (lv_at hl 1 rfl) ?_
                    refine lv_bipush (v := iI 109) hx hb dX11_readKeys_121 (by decide) ?_
                    refine lv_bipush (v := iI 111) hx hb dX11_readKeys_123 (by decide) ?_
                    refine lv_bipush (v := iI 115) hx hb dX11_readKeys_125 (by decide) ?_
                    refine lv_bipush (v := iI 116) hx hb dX11_readKeys_127 (by decide) ?_
                    refine lv_iconst (v := iI 0) hx hb dX11_readKeys_129 rfl ?_
                    refine lv_iconst (v := iI 0) hx hb dX11_readKeys_130 rfl ?_
                    refine lv_iconst (v := iI 0) hx hb dX11_readKeys_131 rfl ?_
                    refine g_cs (As := [.int (iI 109), .int (iI 111), .int (iI 115), .int (iI 116), .int (iI 0), .int (iI 0), .int (iI 0)]) (rest := [.ref (ad 0)]) (n := 7) C hml (m_X11_spelled l D k A ad hD (va_up (va_up (va_up (va_up (va_up (va_up (va_up v 6 w6_133) 7 w7_133) 8 w8_136) 9 w9_136) 10 w10_136) 11 w11_136) 17 y17_7) (va_up (va_up f 14 c14_7) 16 c16_7) (va_up g 0 b0_136) 109 111 115 116 0 0 0 (by decide) (by decide) (by decide) (by decide) (by decide) (by decide) (by decide)) mM_X11_228 mS_X11_spelled mN_X11 mC_X11_spelled (by decide +kernel) hP hS (fun _ h => h) ⟨Nat.le_of_ble_eq_true rfl, Nat.le_of_ble_eq_true rfl⟩ ⟨Nat.zero_le _, Nat.zero_le _⟩ hl.1 rfl rfl (Nat.le_of_ble_eq_true rfl) dX11_readKeys_132 (fun r_140 v_140 f_140 g_140 H locs hq_140 hP _ hS => ?_)
                    obtain ⟨z_140, rfl, rfl, rfl, rfl⟩ := hq_140
                    show W p l e (gRm 2 42) s m args below meth c _ _ 0 0 Q (F0 m 135 ls [.long (iL z_140), .ref (ad 0)])
                    refine g_cv (As := [.long (iL z_140)]) (rest := []) (n := 1) C hml (m_X11_isWord l D k A ad hD (va_up (va_up (va_up (va_up (va_up (va_up (va_up v 6 w6_133) 7 w7_133) 8 w8_136) 9 w9_136) 10 w10_136) 11 w11_136) 17 y17_7) (va_up (va_up f 14 c14_7) 16 c16_7) (va_up g 0 b0_136) z_140) mM_X11_232 mI_X11_isWord mE_X11_isWord mN_X11 mC_X11_isWord (by decide +kernel) 0 (ci := 11) rfl rfl hP hS (fun _ h => h) ⟨Nat.le_of_ble_eq_true rfl, Nat.le_of_ble_eq_true rfl⟩ ⟨Nat.zero_le _, Nat.zero_le _⟩ hl.1 rfl rfl (Nat.le_of_ble_eq_true rfl) dX11_readKeys_135 (fun r_141 v_141 f_141 g_141 H locs hq_141 hP _ hS => ?_)
                    obtain ⟨z_141, rfl, rfl, rfl, rfl, p0_141, p1_141⟩ := hq_141
                    show W p l e (gRm 2 42) s m args below meth c _ _ 0 0 Q (F0 m 138 ls [.int (iI z_141)])
                    replace p0_141 : 0 ≤ z_141 ∧ z_141 ≤ 1 := p0_141
                    replace p1_141 : z_141 = 1 → w8_136 = 1 := p1_141
                    refine gi_zeq (tgt := 145) hx hb dX11_readKeys_138 (by decide) (by omega) (fun c_142 => ?_) (fun c_142 => ?_)
                    · refine lv_aload_n hx hb dX11_readKeys_145 rfl (lv_at hl 1 rfl) ?_
                      refine lv_bipush (v := iI 116) hx hb dX11_readKeys_146 (by decide) ?_
                      refine lv_bipush (v := iI 111) hx hb dX11_readKeys_148 (by decide) ?_
                      refine lv_bipush (v := iI 112) hx hb dX11_readKeys_150 (by decide) ?_
                      refine lv_bipush (v := iI 115) hx hb dX11_readKeys_152 (by decide) ?_
                      refine lv_iconst (v := iI 0) hx hb dX11_readKeys_154 rfl ?_
                      refine lv_iconst (v := iI 0) hx hb dX11_readKeys_155 rfl ?_
                      refine lv_iconst (v := iI 0) hx hb dX11_readKeys_156 rfl ?_
                      refine g_cs (As := [.int (iI 116), .int (iI 111), .int (iI 112), .int (iI 115), .int (iI 0), .int (iI 0), .int (iI 0)]) (rest := [.ref (ad 0)]) (n := 7) C hml (m_X11_spelled l D k A ad hD (va_up (va_up (va_up (va_up (va_up (va_up (va_up v 6 w6_133) 7 w7_133) 8 w8_136) 9 w9_136) 10 w10_136) 11 w11_136) 17 y17_7) (va_up (va_up f 14 c14_7) 16 c16_7) (va_up g 0 b0_136) 116 111 112 115 0 0 0 (by decide) (by decide) (by decide) (by decide) (by decide) (by decide) (by decide)) mM_X11_228 mS_X11_spelled mN_X11 mC_X11_spelled (by decide +kernel) hP hS (fun _ h => h) ⟨Nat.le_of_ble_eq_true rfl, Nat.le_of_ble_eq_true rfl⟩ ⟨Nat.zero_le _, Nat.zero_le _⟩ hl.1 rfl rfl (Nat.le_of_ble_eq_true rfl) dX11_readKeys_157 (fun r_143 v_143 f_143 g_143 H locs hq_143 hP _ hS => ?_)
                      obtain ⟨z_143, rfl, rfl, rfl, rfl⟩ := hq_143
                      show W p l e (gRm 2 42) s m args below meth c _ _ 0 0 Q (F0 m 160 ls [.long (iL z_143), .ref (ad 0)])
                      refine g_cv (As := [.long (iL z_143)]) (rest := []) (n := 1) C hml (m_X11_isWord l D k A ad hD (va_up (va_up (va_up (va_up (va_up (va_up (va_up v 6 w6_133) 7 w7_133) 8 w8_136) 9 w9_136) 10 w10_136) 11 w11_136) 17 y17_7) (va_up (va_up f 14 c14_7) 16 c16_7) (va_up g 0 b0_136) z_143) mM_X11_232 mI_X11_isWord mE_X11_isWord mN_X11 mC_X11_isWord (by decide +kernel) 0 (ci := 11) rfl rfl hP hS (fun _ h => h) ⟨Nat.le_of_ble_eq_true rfl, Nat.le_of_ble_eq_true rfl⟩ ⟨Nat.zero_le _, Nat.zero_le _⟩ hl.1 rfl rfl (Nat.le_of_ble_eq_true rfl) dX11_readKeys_160 (fun r_144 v_144 f_144 g_144 H locs hq_144 hP _ hS => ?_)
                      obtain ⟨z_144, rfl, rfl, rfl, rfl, p0_144, p1_144⟩ := hq_144
                      show W p l e (gRm 2 42) s m args below meth c _ _ 0 0 Q (F0 m 163 ls [.int (iI z_144)])
                      replace p0_144 : 0 ≤ z_144 ∧ z_144 ≤ 1 := p0_144
                      replace p1_144 : z_144 = 1 → w8_136 = 1 := p1_144
                      refine gi_zeq (tgt := 170) hx hb dX11_readKeys_163 (by decide) (by omega) (fun c_145 => ?_) (fun c_145 => ?_)
                      · refine lv_aload_n hx hb dX11_readKeys_170 rfl (lv_at hl 1 rfl) ?_
                        refine lv_bipush (v := iI 122) hx hb dX11_readKeys_171 (by decide) ?_
                        refine lv_bipush (v := iI 111) hx hb dX11_readKeys_173 (by decide) ?_
                        refine lv_bipush (v := iI 110) hx hb dX11_readKeys_175 (by decide) ?_
                        refine lv_bipush (v := iI 101) hx hb dX11_readKeys_177 (by decide) ?_
                        refine lv_bipush (v := iI 115) hx hb dX11_readKeys_179 (by decide) ?_
                        refine lv_iconst (v := iI 0) hx hb dX11_readKeys_181 rfl ?_
                        refine lv_iconst (v := iI 0) hx hb dX11_readKeys_182 rfl ?_
                        refine g_cs (As := [.int (iI 122), .int (iI 111), .int (iI 110), .int (iI 101), .int (iI 115), .int (iI 0), .int (iI 0)]) (rest := [.ref (ad 0)]) (n := 7) C hml (m_X11_spelled l D k A ad hD (va_up (va_up (va_up (va_up (va_up (va_up (va_up v 6 w6_133) 7 w7_133) 8 w8_136) 9 w9_136) 10 w10_136) 11 w11_136) 17 y17_7) (va_up (va_up f 14 c14_7) 16 c16_7) (va_up g 0 b0_136) 122 111 110 101 115 0 0 (by decide) (by decide) (by decide) (by decide) (by decide) (by decide) (by decide)) mM_X11_228 mS_X11_spelled mN_X11 mC_X11_spelled (by decide +kernel) hP hS (fun _ h => h) ⟨Nat.le_of_ble_eq_true rfl, Nat.le_of_ble_eq_true rfl⟩ ⟨Nat.zero_le _, Nat.zero_le _⟩ hl.1 rfl rfl (Nat.le_of_ble_eq_true rfl) dX11_readKeys_183 (fun r_146 v_146 f_146 g_146 H locs hq_146 hP _ hS => ?_)
                        obtain ⟨z_146, rfl, rfl, rfl, rfl⟩ := hq_146
                        show W p l e (gRm 2 42) s m args below meth c _ _ 0 0 Q (F0 m 186 ls [.long (iL z_146), .ref (ad 0)])
                        refine g_cv (As := [.long (iL z_146)]) (rest := []) (n := 1) C hml (m_X11_isWord l D k A ad hD (va_up (va_up (va_up (va_up (va_up (va_up (va_up v 6 w6_133) 7 w7_133) 8 w8_136) 9 w9_136) 10 w10_136) 11 w11_136) 17 y17_7) (va_up (va_up f 14 c14_7) 16 c16_7) (va_up g 0 b0_136) z_146) mM_X11_232 mI_X11_isWord mE_X11_isWord mN_X11 mC_X11_isWord (by decide +kernel) 0 (ci := 11) rfl rfl hP hS (fun _ h => h) ⟨Nat.le_of_ble_eq_true rfl, Nat.le_of_ble_eq_true rfl⟩ ⟨Nat.zero_le _, Nat.zero_le _⟩ hl.1 rfl rfl (Nat.le_of_ble_eq_true rfl) dX11_readKeys_186 (fun r_147 v_147 f_147 g_147 H locs hq_147 hP _ hS => ?_)
                        obtain ⟨z_147, rfl, rfl, rfl, rfl, p0_147, p1_147⟩ := hq_147
                        show W p l e (gRm 2 42) s m args below meth c _ _ 0 0 Q (F0 m 189 ls [.int (iI z_147)])
                        replace p0_147 : 0 ≤ z_147 ∧ z_147 ≤ 1 := p0_147
                        replace p1_147 : z_147 = 1 → w8_136 = 1 := p1_147
                        refine gi_zeq (tgt := 196) hx hb dX11_readKeys_189 (by decide) (by omega) (fun c_148 => ?_) (fun c_148 => ?_)
                        · refine lv_iconst (v := iI (-1)) hx hb dX11_readKeys_196 rfl ?_
                          refine lv_istore_n (lv' := [(3, .int (iI (-1))), (2, .int (iI z_12)), (0, .ref (ad 0)), (1, .int (iI x1))]) hx hb dX11_readKeys_197 rfl hl (by decide) rfl (fun ls hl => ?_)
                          refine lv_iload_n hx hb dX11_readKeys_198 rfl (lv_at hl 0 rfl) ?_
                          refine gi_zge (tgt := 207) hx hb dX11_readKeys_199 (by decide) (by decide) (fun c_149 => ?_) (fun c_149 => ?_)
                          · exfalso; omega
                          · refine lv_aload_n hx hb dX11_readKeys_202 rfl (lv_at hl 2 rfl) ?_
                            refine g_cv (As := []) (rest := []) (n := 0) C hml (m_X11_wrong l D k A ad hD (va_up (va_up (va_up (va_up (va_up (va_up (va_up v 6 w6_133) 7 w7_133) 8 w8_136) 9 w9_136) 10 w10_136) 11 w11_136) 17 y17_7) (va_up (va_up f 14 c14_7) 16 c16_7) (va_up g 0 b0_136)) mM_X11_198 mI_X11_wrong mE_X11_wrong mN_X11 mC_X11_wrong (by decide +kernel) 0 (ci := 11) rfl rfl hP hS (fun _ h => h) ⟨Nat.le_of_ble_eq_true rfl, Nat.le_of_ble_eq_true rfl⟩ ⟨Nat.zero_le _, Nat.zero_le _⟩ hl.1 rfl rfl (Nat.le_of_ble_eq_true rfl) dX11_readKeys_203 (fun r_150 v_150 f_150 g_150 H locs hq_150 hP _ hS => ?_)
                            obtain ⟨w6_150, w7_150, rfl, rfl, rfl, rfl, p0_150⟩ := hq_150
                            show W p l e (gRm 2 42) s m args below meth c _ _ 0 0 Q (F0 m 206 ls [])
                            have hP : gWd D (mdT k ad) (va_up (va_up (va_up (va_up (va_up (va_up (va_up v 6 w6_150) 7 w7_150) 8 w8_136) 9 w9_136) 10 w10_136) 11 w11_136) 17 y17_7) (va_up (va_up f 14 c14_7) 16 c16_7) (va_up g 0 b0_136) H := ⟨hP.1, (gF_up (V := mdV) (F := mdF) (gF_up (V := mdV) (F := mdF) (gR_up (V := mdV) (F := mdF) (gR_up (V := mdV) (F := mdF) (gR_up (V := mdV) (F := mdF) (gR_up (V := mdV) (F := mdF) (gR_up (V := mdV) (F := mdF) (gR_up (V := mdV) (F := mdF) (gR_up (V := mdV) (F := mdF) ⟨hok.1, hok.2⟩ 6 (hP.2.1 6)) 7 (hP.2.1 7)) 8 (hP.2.1 8)) 9 (hP.2.1 9)) 10 (hP.2.1 10)) 11 (hP.2.1 11)) 17 (hP.2.1 17)) 14 (hP.2.2 14)) 16 (hP.2.2 16))⟩
                            replace p0_150 : 0 < w6_150 := p0_150
                            have rw6_150 : 0 ≤ w6_150 ∧ w6_150 ≤ 5 := hP.2.1 6
                            have rw7_150 : 0 ≤ w7_150 ∧ w7_150 ≤ 700 := hP.2.1 7
                            exact g_vret hQ C hr hlocks hP hS dX11_readKeys_206 ⟨w6_150, w7_150, w8_136, w9_136, w10_136, w11_136, y17_7, c14_7, c16_7, b0_136, rfl, rfl, rfl, rfl, (by first | omega | (split <;> omega)), (by first | omega | (split <;> omega))⟩
                        · refine lv_iconst (v := iI 3) hx hb dX11_readKeys_192 rfl ?_
                          refine lv_goto (tgt := 197) hx hb dX11_readKeys_193 (by decide) ?_
                          refine lv_istore_n (lv' := [(3, .int (iI 3)), (2, .int (iI z_12)), (0, .ref (ad 0)), (1, .int (iI x1))]) hx hb dX11_readKeys_197 rfl hl (by decide) rfl (fun ls hl => ?_)
                          refine lv_iload_n hx hb dX11_readKeys_198 rfl (lv_at hl 0 rfl) ?_
                          refine gi_zge (tgt := 207) hx hb dX11_readKeys_199 (by decide) (by decide) (fun c_151 => ?_) (fun c_151 => ?_)
                          · refine lv_aload_n hx hb dX11_readKeys_207 rfl (lv_at hl 2 rfl) ?_
                            refine mdG_newUp C hP mF_X11_67 dX11_readKeys_208 ?_
                            refine lv_aload_n hx hb dX11_readKeys_211 rfl (lv_at hl 2 rfl) ?_
                            refine mdG_newKeys C hP mF_X11_214 dX11_readKeys_212 ?_
                            show W p l e (gRm 2 42) s m args below meth c _ _ 0 0 Q (F0 m 215 ls [.int (iI y17_7), .ref (ad 17)])
                            refine lv_iload_n hx hb dX11_readKeys_215 rfl (lv_at hl 1 rfl) ?_
                            refine mdS_newUp (f1 := (va_up (va_up f 14 c14_7) 16 (u1 c16_7 y17_7 z_12))) C hP hD hS (by omega) (by omega) (by omega) (by omega) rfl (Or.inr (gF_up (V := mdV) (F := mdF) (gF_up (V := mdV) (F := mdF) (gR_up (V := mdV) (F := mdF) (gR_up (V := mdV) (F := mdF) (gR_up (V := mdV) (F := mdF) (gR_up (V := mdV) (F := mdF) (gR_up (V := mdV) (F := mdF) (gR_up (V := mdV) (F := mdF) (gR_up (V := mdV) (F := mdF) ⟨hok.1, hok.2⟩ 6 (hP.2.1 6)) 7 (hP.2.1 7)) 8 (hP.2.1 8)) 9 (hP.2.1 9)) 10 (hP.2.1 10)) 11 (hP.2.1 11)) 17 (hP.2.1 17)) 14 (hP.2.2 14)) 16 (u1_rng (hP.2.2 16) (show 0 ≤ z_12 ∧ z_12 ≤ 1 from (by omega))))) dX11_readKeys_216 (fun H locs hP hS => ?_)
                            refine lv_aload_n hx hb dX11_readKeys_217 rfl (lv_at hl 2 rfl) ?_
                            refine mdG_newKey C hP mF_X11_60 dX11_readKeys_218 ?_
                            refine lv_aload_n hx hb dX11_readKeys_221 rfl (lv_at hl 2 rfl) ?_
                            refine mdG_newKeys C hP mF_X11_214 dX11_readKeys_222 ?_
                            show W p l e (gRm 2 42) s m args below meth c _ _ 0 0 Q (F0 m 225 ls [.int (iI y17_7), .ref (ad 15)])
                            refine lv_iload_n hx hb dX11_readKeys_225 rfl (lv_at hl 0 rfl) ?_
                            refine mdS_newKey (f1 := (va_up (va_up f 14 (u1 c14_7 y17_7 3)) 16 (u1 c16_7 y17_7 z_12))) C hP hD hS (by omega) (by omega) (by decide) rfl (Or.inr (gF_up (V := mdV) (F := mdF) (gF_up (V := mdV) (F := mdF) (gR_up (V := mdV) (F := mdF) (gR_up (V := mdV) (F := mdF) (gR_up (V := mdV) (F := mdF) (gR_up (V := mdV) (F := mdF) (gR_up (V := mdV) (F := mdF) (gR_up (V := mdV) (F := mdF) (gR_up (V := mdV) (F := mdF) ⟨hok.1, hok.2⟩ 6 (hP.2.1 6)) 7 (hP.2.1 7)) 8 (hP.2.1 8)) 9 (hP.2.1 9)) 10 (hP.2.1 10)) 11 (hP.2.1 11)) 17 (hP.2.1 17)) 14 (u1_rng (hP.2.2 14) (show 0 ≤ 3 ∧ 3 ≤ 3 from (by decide)))) 16 (hP.2.2 16))) dX11_readKeys_226 (fun H locs hP hS => ?_)
                            refine lv_aload_n hx hb dX11_readKeys_227 rfl (lv_at hl 2 rfl) ?_
                            refine lv_dup hx hb dX11_readKeys_228 rfl ?_
                            refine mdG_newKeys C hP mF_X11_214 dX11_readKeys_229 ?_
                            show W p l e (gRm 2 42) s m args below meth c _ _ 0 0 Q (F0 m 232 ls [.int (iI y17_7), .ref (ad 0)])
                            refine lv_iconst (v := iI 1) hx hb dX11_readKeys_232 rfl ?_
                            refine gi_add (z := (y17_7 + 1)) hx hb dX11_readKeys_233 rfl ?_
                            refine mdP_newKeys (v1 := (va_up (va_up (va_up (va_up (va_up (va_up (va_up v 6 w6_133) 7 w7_133) 8 w8_136) 9 w9_136) 10 w10_136) 11 w11_136) 17 (y17_7 + 1))) C hP hD hS mF_X11_214 (by omega) rfl (Or.inr (gF_up (V := mdV) (F := mdF) (gF_up (V := mdV) (F := mdF) (gR_up (V := mdV) (F := mdF) (gR_up (V := mdV) (F := mdF) (gR_up (V := mdV) (F := mdF) (gR_up (V := mdV) (F := mdF) (gR_up (V := mdV) (F := mdF) (gR_up (V := mdV) (F := mdF) (gR_up (V := mdV) (F := mdF) ⟨hok.1, hok.2⟩ 6 (hP.2.1 6)) 7 (hP.2.1 7)) 8 (hP.2.1 8)) 9 (hP.2.1 9)) 10 (hP.2.1 10)) 11 (hP.2.1 11)) 17 (show 0 ≤ (y17_7 + 1) ∧ (y17_7 + 1) ≤ 4 from by omega)) 14 (hP.2.2 14)) 16 (hP.2.2 16))) dX11_readKeys_234 (fun H locs hP hS => ?_)
                            refine lv_aload_n hx hb dX11_readKeys_237 rfl (lv_at hl 2 rfl) ?_
                            refine g_cv (As := []) (rest := []) (n := 0) C hml (m_X11_next l D k A ad hD (va_up (va_up (va_up (va_up (va_up (va_up (va_up v 6 w6_133) 7 w7_133) 8 w8_136) 9 w9_136) 10 w10_136) 11 w11_136) 17 (y17_7 + 1)) (va_up (va_up f 14 (u1 c14_7 y17_7 3)) 16 (u1 c16_7 y17_7 z_12)) (va_up g 0 b0_136) (show w10_136 ≤ (v 3) from by omega)) mM_X11_201 mI_X11_next mE_X11_next mN_X11 mC_X11_next (by decide +kernel) 0 (ci := 11) rfl rfl hP hS (fun _ h => h) ⟨Nat.le_of_ble_eq_true rfl, Nat.le_of_ble_eq_true rfl⟩ ⟨Nat.zero_le _, Nat.zero_le _⟩ hl.1 rfl rfl (Nat.le_of_ble_eq_true rfl) dX11_readKeys_238 (fun r_152 v_152 f_152 g_152 H locs hq_152 hP _ hS => ?_)
                            obtain ⟨w8_152, w9_152, w10_152, w11_152, b0_152, rfl, rfl, rfl, rfl, p0_152, p1_152⟩ := hq_152
                            show W p l e (gRm 2 42) s m args below meth c _ _ 0 0 Q (F0 m 241 ls [])
                            have hP : gWd D (mdT k ad) (va_up (va_up (va_up (va_up (va_up (va_up (va_up v 6 w6_133) 7 w7_133) 8 w8_152) 9 w9_152) 10 w10_152) 11 w11_152) 17 (y17_7 + 1)) (va_up (va_up f 14 (u1 c14_7 y17_7 3)) 16 (u1 c16_7 y17_7 z_12)) (va_up g 0 b0_152) H := ⟨hP.1, (gF_up (V := mdV) (F := mdF) (gF_up (V := mdV) (F := mdF) (gR_up (V := mdV) (F := mdF) (gR_up (V := mdV) (F := mdF) (gR_up (V := mdV) (F := mdF) (gR_up (V := mdV) (F := mdF) (gR_up (V := mdV) (F := mdF) (gR_up (V := mdV) (F := mdF) (gR_up (V := mdV) (F := mdF) ⟨hok.1, hok.2⟩ 6 (hP.2.1 6)) 7 (hP.2.1 7)) 8 (hP.2.1 8)) 9 (hP.2.1 9)) 10 (hP.2.1 10)) 11 (hP.2.1 11)) 17 (hP.2.1 17)) 14 (hP.2.2 14)) 16 (hP.2.2 16))⟩
                            replace p0_152 : w10_136 ≤ w9_152 ∧ w9_152 ≤ w10_152 ∧ w10_152 ≤ (v 3) := p0_152
                            replace p1_152 : w8_152 ≠ 0 → w9_152 < w10_152 := p1_152
                            have rw8_152 : 0 ≤ w8_152 ∧ w8_152 ≤ 4 := hP.2.1 8
                            have rw9_152 : 0 ≤ w9_152 ∧ w9_152 ≤ 700 := hP.2.1 9
                            have rw10_152 : 0 ≤ w10_152 ∧ w10_152 ≤ 700 := hP.2.1 10
                            have rw11_152 : 0 ≤ w11_152 ∧ w11_152 ≤ 999999 := hP.2.1 11
                            refine lv_aload_n hx hb dX11_readKeys_241 rfl (lv_at hl 2 rfl) ?_
                            refine lv_bipush (v := iI 44) hx hb dX11_readKeys_242 (by decide) ?_
                            refine g_cv (As := [.int (iI 44)]) (rest := []) (n := 1) C hml (m_X11_isSign l D k A ad hD (va_up (va_up (va_up (va_up (va_up (va_up (va_up v 6 w6_133) 7 w7_133) 8 w8_152) 9 w9_152) 10 w10_152) 11 w11_152) 17 (y17_7 + 1)) (va_up (va_up f 14 (u1 c14_7 y17_7 3)) 16 (u1 c16_7 y17_7 z_12)) (va_up g 0 b0_152) 44 (by decide)) mM_X11_204 mI_X11_isSign mE_X11_isSign mN_X11 mC_X11_isSign (by decide +kernel) 0 (ci := 11) rfl rfl hP hS (fun _ h => h) ⟨Nat.le_of_ble_eq_true rfl, Nat.le_of_ble_eq_true rfl⟩ ⟨Nat.zero_le _, Nat.zero_le _⟩ hl.1 rfl rfl (Nat.le_of_ble_eq_true rfl) dX11_readKeys_244 (fun r_153 v_153 f_153 g_153 H locs hq_153 hP _ hS => ?_)
                            obtain ⟨z_153, rfl, rfl, rfl, rfl, p0_153, p1_153⟩ := hq_153
                            show W p l e (gRm 2 42) s m args below meth c _ _ 0 0 Q (F0 m 247 ls [.int (iI z_153)])
                            replace p0_153 : 0 ≤ z_153 ∧ z_153 ≤ 1 := p0_153
                            replace p1_153 : z_153 = 1 → w8_152 = 3 := p1_153
                            refine lv_istore_n (lv' := [(1, .int (iI z_153)), (3, .int (iI 3)), (2, .int (iI z_12)), (0, .ref (ad 0))]) hx hb dX11_readKeys_247 rfl hl (by decide) rfl (fun ls hl => ?_)
                            refine lv_iload_n hx hb dX11_readKeys_248 rfl (lv_at hl 0 rfl) ?_
                            refine gi_zeq (tgt := 256) hx hb dX11_readKeys_249 (by decide) (by omega) (fun c_154 => ?_) (fun c_154 => ?_)
                            · refine lv_goto (tgt := 7) hx hb dX11_readKeys_256 (by decide) ?_
                              exact ih_7 z_153 w6_133 w7_133 w8_152 w9_152 w10_152 w11_152 (y17_7 + 1) (u1 c14_7 y17_7 3) (u1 c16_7 y17_7 z_12) b0_152 _ _ _ (by omega) (by omega) (by omega) (by omega) (by omega) hP hS (lv_sub hl [3, 0] rfl)
                            · refine lv_aload_n hx hb dX11_readKeys_252 rfl (lv_at hl 3 rfl) ?_
                              refine g_cv (As := []) (rest := []) (n := 0) C hml (m_X11_next l D k A ad hD (va_up (va_up (va_up (va_up (va_up (va_up (va_up v 6 w6_133) 7 w7_133) 8 w8_152) 9 w9_152) 10 w10_152) 11 w11_152) 17 (y17_7 + 1)) (va_up (va_up f 14 (u1 c14_7 y17_7 3)) 16 (u1 c16_7 y17_7 z_12)) (va_up g 0 b0_152) (show w10_152 ≤ (v 3) from by omega)) mM_X11_201 mI_X11_next mE_X11_next mN_X11 mC_X11_next (by decide +kernel) 0 (ci := 11) rfl rfl hP hS (fun _ h => h) ⟨Nat.le_of_ble_eq_true rfl, Nat.le_of_ble_eq_true rfl⟩ ⟨Nat.zero_le _, Nat.zero_le _⟩ hl.1 rfl rfl (Nat.le_of_ble_eq_true rfl) dX11_readKeys_253 (fun r_155 v_155 f_155 g_155 H locs hq_155 hP _ hS => ?_)
                              obtain ⟨w8_155, w9_155, w10_155, w11_155, b0_155, rfl, rfl, rfl, rfl, p0_155, p1_155⟩ := hq_155
                              show W p l e (gRm 2 42) s m args below meth c _ _ 0 0 Q (F0 m 256 ls [])
                              have hP : gWd D (mdT k ad) (va_up (va_up (va_up (va_up (va_up (va_up (va_up v 6 w6_133) 7 w7_133) 8 w8_155) 9 w9_155) 10 w10_155) 11 w11_155) 17 (y17_7 + 1)) (va_up (va_up f 14 (u1 c14_7 y17_7 3)) 16 (u1 c16_7 y17_7 z_12)) (va_up g 0 b0_155) H := ⟨hP.1, (gF_up (V := mdV) (F := mdF) (gF_up (V := mdV) (F := mdF) (gR_up (V := mdV) (F := mdF) (gR_up (V := mdV) (F := mdF) (gR_up (V := mdV) (F := mdF) (gR_up (V := mdV) (F := mdF) (gR_up (V := mdV) (F := mdF) (gR_up (V := mdV) (F := mdF) (gR_up (V := mdV) (F := mdF) ⟨hok.1, hok.2⟩ 6 (hP.2.1 6)) 7 (hP.2.1 7)) 8 (hP.2.1 8)) 9 (hP.2.1 9)) 10 (hP.2.1 10)) 11 (hP.2.1 11)) 17 (hP.2.1 17)) 14 (hP.2.2 14)) 16 (hP.2.2 16))⟩
                              replace p0_155 : w10_152 ≤ w9_155 ∧ w9_155 ≤ w10_155 ∧ w10_155 ≤ (v 3) := p0_155
                              replace p1_155 : w8_155 ≠ 0 → w9_155 < w10_155 := p1_155
                              have rw8_155 : 0 ≤ w8_155 ∧ w8_155 ≤ 4 := hP.2.1 8
                              have rw9_155 : 0 ≤ w9_155 ∧ w9_155 ≤ 700 := hP.2.1 9
                              have rw10_155 : 0 ≤ w10_155 ∧ w10_155 ≤ 700 := hP.2.1 10
                              have rw11_155 : 0 ≤ w11_155 ∧ w11_155 ≤ 999999 := hP.2.1 11
                              refine lv_goto (tgt := 7) hx hb dX11_readKeys_256 (by decide) ?_
                              exact ih_7 z_153 w6_133 w7_133 w8_155 w9_155 w10_155 w11_155 (y17_7 + 1) (u1 c14_7 y17_7 3) (u1 c16_7 y17_7 z_12) b0_155 _ _ _ (by omega) (by omega) (by omega) (by omega) (by omega) hP hS (lv_sub hl [3, 0] rfl)
                          · exfalso; omega
                      · refine lv_iconst (v := iI 2) hx hb dX11_readKeys_166 rfl ?_
                        refine lv_goto (tgt := 197) hx hb dX11_readKeys_167 (by decide) ?_
                        refine lv_istore_n (lv' := [(3, .int (iI 2)), (2, .int (iI z_12)), (0, .ref (ad 0)), (1, .int (iI x1))]) hx hb dX11_readKeys_197 rfl hl (by decide) rfl (fun ls hl => ?_)
                        refine lv_iload_n hx hb dX11_readKeys_198 rfl (lv_at hl 0 rfl) ?_
                        refine gi_zge (tgt := 207) hx hb dX11_readKeys_199 (by decide) (by decide) (fun c_156 => ?_) (fun c_156 => ?_)
                        · refine lv_aload_n hx hb dX11_readKeys_207 rfl (lv_at hl 2 rfl) ?_
                          refine mdG_newUp C hP mF_X11_67 dX11_readKeys_208 ?_
                          refine lv_aload_n hx hb dX11_readKeys_211 rfl (lv_at hl 2 rfl) ?_
                          refine mdG_newKeys C hP mF_X11_214 dX11_readKeys_212 ?_
                          show W p l e (gRm 2 42) s m args below meth c _ _ 0 0 Q (F0 m 215 ls [.int (iI y17_7), .ref (ad 17)])
                          refine lv_iload_n hx hb dX11_readKeys_215 rfl (lv_at hl 1 rfl) ?_
                          refine mdS_newUp (f1 := (va_up (va_up f 14 c14_7) 16 (u1 c16_7 y17_7 z_12))) C hP hD hS (by omega) (by omega) (by omega) (by omega) rfl (Or.inr (gF_up (V := mdV) (F := mdF) (gF_up (V := mdV) (F := mdF) (gR_up (V := mdV) (F := mdF) (gR_up (V := mdV) (F := mdF) (gR_up (V := mdV) (F := mdF) (gR_up (V := mdV) (F := mdF) (gR_up (V := mdV) (F := mdF) (gR_up (V := mdV) (F := mdF) (gR_up (V := mdV) (F := mdF) ⟨hok.1, hok.2⟩ 6 (hP.2.1 6)) 7 (hP.2.1 7)) 8 (hP.2.1 8)) 9 (hP.2.1 9)) 10 (hP.2.1 10)) 11 (hP.2.1 11)) 17 (hP.2.1 17)) 14 (hP.2.2 14)) 16 (u1_rng (hP.2.2 16) (show 0 ≤ z_12 ∧ z_12 ≤ 1 from (by omega))))) dX11_readKeys_216 (fun H locs hP hS => ?_)
                          refine lv_aload_n hx hb dX11_readKeys_217 rfl (lv_at hl 2 rfl) ?_
                          refine mdG_newKey C hP mF_X11_60 dX11_readKeys_218 ?_
                          refine lv_aload_n hx hb dX11_readKeys_221 rfl (lv_at hl 2 rfl) ?_
                          refine mdG_newKeys C hP mF_X11_214 dX11_readKeys_222 ?_
                          show W p l e (gRm 2 42) s m args below meth c _ _ 0 0 Q (F0 m 225 ls [.int (iI y17_7), .ref (ad 15)])
                          refine lv_iload_n hx hb dX11_readKeys_225 rfl (lv_at hl 0 rfl) ?_
                          refine mdS_newKey (f1 := (va_up (va_up f 14 (u1 c14_7 y17_7 2)) 16 (u1 c16_7 y17_7 z_12))) C hP hD hS (by omega) (by omega) (by decide) rfl (Or.inr (gF_up (V := mdV) (F := mdF) (gF_up (V := mdV) (F := mdF) (gR_up (V := mdV) (F := mdF) (gR_up (V := mdV) (F := mdF) (gR_up (V := mdV) (F := mdF) (gR_up (V := mdV) (F := mdF) (gR_up (V := mdV) (F := mdF) (gR_up (V := mdV) (F := mdF) (gR_up (V := mdV) (F := mdF) ⟨hok.1, hok.2⟩ 6 (hP.2.1 6)) 7 (hP.2.1 7)) 8 (hP.2.1 8)) 9 (hP.2.1 9)) 10 (hP.2.1 10)) 11 (hP.2.1 11)) 17 (hP.2.1 17)) 14 (u1_rng (hP.2.2 14) (show 0 ≤ 2 ∧ 2 ≤ 3 from (by decide)))) 16 (hP.2.2 16))) dX11_readKeys_226 (fun H locs hP hS => ?_)
                          refine lv_aload_n hx hb dX11_readKeys_227 rfl (lv_at hl 2 rfl) ?_
                          refine lv_dup hx hb dX11_readKeys_228 rfl ?_
                          refine mdG_newKeys C hP mF_X11_214 dX11_readKeys_229 ?_
                          show W p l e (gRm 2 42) s m args below meth c _ _ 0 0 Q (F0 m 232 ls [.int (iI y17_7), .ref (ad 0)])
                          refine lv_iconst (v := iI 1) hx hb dX11_readKeys_232 rfl ?_
                          refine gi_add (z := (y17_7 + 1)) hx hb dX11_readKeys_233 rfl ?_
                          refine mdP_newKeys (v1 := (va_up (va_up (va_up (va_up (va_up (va_up (va_up v 6 w6_133) 7 w7_133) 8 w8_136) 9 w9_136) 10 w10_136) 11 w11_136) 17 (y17_7 + 1))) C hP hD hS mF_X11_214 (by omega) rfl (Or.inr (gF_up (V := mdV) (F := mdF) (gF_up (V := mdV) (F := mdF) (gR_up (V := mdV) (F := mdF) (gR_up (V := mdV) (F := mdF) (gR_up (V := mdV) (F := mdF) (gR_up (V := mdV) (F := mdF) (gR_up (V := mdV) (F := mdF) (gR_up (V := mdV) (F := mdF) (gR_up (V := mdV) (F := mdF) ⟨hok.1, hok.2⟩ 6 (hP.2.1 6)) 7 (hP.2.1 7)) 8 (hP.2.1 8)) 9 (hP.2.1 9)) 10 (hP.2.1 10)) 11 (hP.2.1 11)) 17 (show 0 ≤ (y17_7 + 1) ∧ (y17_7 + 1) ≤ 4 from by omega)) 14 (hP.2.2 14)) 16 (hP.2.2 16))) dX11_readKeys_234 (fun H locs hP hS => ?_)
                          refine lv_aload_n hx hb dX11_readKeys_237 rfl (lv_at hl 2 rfl) ?_
                          refine g_cv (As := []) (rest := []) (n := 0) C hml (m_X11_next l D k A ad hD (va_up (va_up (va_up (va_up (va_up (va_up (va_up v 6 w6_133) 7 w7_133) 8 w8_136) 9 w9_136) 10 w10_136) 11 w11_136) 17 (y17_7 + 1)) (va_up (va_up f 14 (u1 c14_7 y17_7 2)) 16 (u1 c16_7 y17_7 z_12)) (va_up g 0 b0_136) (show w10_136 ≤ (v 3) from by omega)) mM_X11_201 mI_X11_next mE_X11_next mN_X11 mC_X11_next (by decide +kernel) 0 (ci := 11) rfl rfl hP hS (fun _ h => h) ⟨Nat.le_of_ble_eq_true rfl, Nat.le_of_ble_eq_true rfl⟩ ⟨Nat.zero_le _, Nat.zero_le _⟩ hl.1 rfl rfl (Nat.le_of_ble_eq_true rfl) dX11_readKeys_238 (fun r_157 v_157 f_157 g_157 H locs hq_157 hP _ hS => ?_)
                          obtain ⟨w8_157, w9_157, w10_157, w11_157, b0_157, rfl, rfl, rfl, rfl, p0_157, p1_157⟩ := hq_157
                          show W p l e (gRm 2 42) s m args below meth c _ _ 0 0 Q (F0 m 241 ls [])
                          have hP : gWd D (mdT k ad) (va_up (va_up (va_up (va_up (va_up (va_up (va_up v 6 w6_133) 7 w7_133) 8 w8_157) 9 w9_157) 10 w10_157) 11 w11_157) 17 (y17_7 + 1)) (va_up (va_up f 14 (u1 c14_7 y17_7 2)) 16 (u1 c16_7 y17_7 z_12)) (va_up g 0 b0_157) H := ⟨hP.1, (gF_up (V := mdV) (F := mdF) (gF_up (V := mdV) (F := mdF) (gR_up (V := mdV) (F := mdF) (gR_up (V := mdV) (F := mdF) (gR_up (V := mdV) (F := mdF) (gR_up (V := mdV) (F := mdF) (gR_up (V := mdV) (F := mdF) (gR_up (V := mdV) (F := mdF) (gR_up (V := mdV) (F := mdF) ⟨hok.1, hok.2⟩ 6 (hP.2.1 6)) 7 (hP.2.1 7)) 8 (hP.2.1 8)) 9 (hP.2.1 9)) 10 (hP.2.1 10)) 11 (hP.2.1 11)) 17 (hP.2.1 17)) 14 (hP.2.2 14)) 16 (hP.2.2 16))⟩
                          replace p0_157 : w10_136 ≤ w9_157 ∧ w9_157 ≤ w10_157 ∧ w10_157 ≤ (v 3) := p0_157
                          replace p1_157 : w8_157 ≠ 0 → w9_157 < w10_157 := p1_157
                          have rw8_157 : 0 ≤ w8_157 ∧ w8_157 ≤ 4 := hP.2.1 8
                          have rw9_157 : 0 ≤ w9_157 ∧ w9_157 ≤ 700 := hP.2.1 9
                          have rw10_157 : 0 ≤ w10_157 ∧ w10_157 ≤ 700 := hP.2.1 10
                          have rw11_157 : 0 ≤ w11_157 ∧ w11_157 ≤ 999999 := hP.2.1 11
                          refine lv_aload_n hx hb dX11_readKeys_241 rfl (lv_at hl 2 rfl) ?_
                          refine lv_bipush (v := iI 44) hx hb dX11_readKeys_242 (by decide) ?_
                          refine g_cv (As := [.int (iI 44)]) (rest := []) (n := 1) C hml (m_X11_isSign l D k A ad hD (va_up (va_up (va_up (va_up (va_up (va_up (va_up v 6 w6_133) 7 w7_133) 8 w8_157) 9 w9_157) 10 w10_157) 11 w11_157) 17 (y17_7 + 1)) (va_up (va_up f 14 (u1 c14_7 y17_7 2)) 16 (u1 c16_7 y17_7 z_12)) (va_up g 0 b0_157) 44 (by decide)) mM_X11_204 mI_X11_isSign mE_X11_isSign mN_X11 mC_X11_isSign (by decide +kernel) 0 (ci := 11) rfl rfl hP hS (fun _ h => h) ⟨Nat.le_of_ble_eq_true rfl, Nat.le_of_ble_eq_true rfl⟩ ⟨Nat.zero_le _, Nat.zero_le _⟩ hl.1 rfl rfl (Nat.le_of_ble_eq_true rfl) dX11_readKeys_244 (fun r_158 v_158 f_158 g_158 H locs hq_158 hP _ hS => ?_)
                          obtain ⟨z_158, rfl, rfl, rfl, rfl, p0_158, p1_158⟩ := hq_158
                          show W p l e (gRm 2 42) s m args below meth c _ _ 0 0 Q (F0 m 247 ls [.int (iI z_158)])
                          replace p0_158 : 0 ≤ z_158 ∧ z_158 ≤ 1 := p0_158
                          replace p1_158 : z_158 = 1 → w8_157 = 3 := p1_158
                          refine lv_istore_n (lv' := [(1, .int (iI z_158)), (3, .int (iI 2)), (2, .int (iI z_12)), (0, .ref (ad 0))]) hx hb dX11_readKeys_247 rfl hl (by decide) rfl (fun ls hl => ?_)
                          refine lv_iload_n hx hb dX11_readKeys_248 rfl (lv_at hl 0 rfl) ?_
                          refine gi_zeq (tgt := 256) hx hb dX11_readKeys_249 (by decide) (by omega) (fun c_159 => ?_) (fun c_159 => ?_)
                          · refine lv_goto (tgt := 7) hx hb dX11_readKeys_256 (by decide) ?_
                            exact ih_7 z_158 w6_133 w7_133 w8_157 w9_157 w10_157 w11_157 (y17_7 + 1) (u1 c14_7 y17_7 2) (u1 c16_7 y17_7 z_12) b0_157 _ _ _ (by omega) (by omega) (by omega) (by omega) (by omega) hP hS (lv_sub hl [3, 0] rfl)
                          · refine lv_aload_n hx hb dX11_readKeys_252 rfl (lv_at hl 3 rfl) ?_
                            refine g_cv (As := []) (rest := []) (n := 0) C hml (m_X11_next l D k A ad hD (va_up (va_up (va_up (va_up (va_up (va_up (va_up v 6 w6_133) 7 w7_133) 8 w8_157) 9 w9_157) 10 w10_157) 11 w11_157) 17 (y17_7 + 1)) (va_up (va_up f 14 (u1 c14_7 y17_7 2)) 16 (u1 c16_7 y17_7 z_12)) (va_up g 0 b0_157) (show w10_157 ≤ (v 3) from by omega)) mM_X11_201 mI_X11_next mE_X11_next mN_X11 mC_X11_next (by decide +kernel) 0 (ci := 11) rfl rfl hP hS (fun _ h => h) ⟨Nat.le_of_ble_eq_true rfl, Nat.le_of_ble_eq_true rfl⟩ ⟨Nat.zero_le _, Nat.zero_le _⟩ hl.1 rfl rfl (Nat.le_of_ble_eq_true rfl) dX11_readKeys_253 (fun r_160 v_160 f_160 g_160 H locs hq_160 hP _ hS => ?_)
                            obtain ⟨w8_160, w9_160, w10_160, w11_160, b0_160, rfl, rfl, rfl, rfl, p0_160, p1_160⟩ := hq_160
                            show W p l e (gRm 2 42) s m args below meth c _ _ 0 0 Q (F0 m 256 ls [])
                            have hP : gWd D (mdT k ad) (va_up (va_up (va_up (va_up (va_up (va_up (va_up v 6 w6_133) 7 w7_133) 8 w8_160) 9 w9_160) 10 w10_160) 11 w11_160) 17 (y17_7 + 1)) (va_up (va_up f 14 (u1 c14_7 y17_7 2)) 16 (u1 c16_7 y17_7 z_12)) (va_up g 0 b0_160) H := ⟨hP.1, (gF_up (V := mdV) (F := mdF) (gF_up (V := mdV) (F := mdF) (gR_up (V := mdV) (F := mdF) (gR_up (V := mdV) (F := mdF) (gR_up (V := mdV) (F := mdF) (gR_up (V := mdV) (F := mdF) (gR_up (V := mdV) (F := mdF) (gR_up (V := mdV) (F := mdF) (gR_up (V := mdV) (F := mdF) ⟨hok.1, hok.2⟩ 6 (hP.2.1 6)) 7 (hP.2.1 7)) 8 (hP.2.1 8)) 9 (hP.2.1 9)) 10 (hP.2.1 10)) 11 (hP.2.1 11)) 17 (hP.2.1 17)) 14 (hP.2.2 14)) 16 (hP.2.2 16))⟩
                            replace p0_160 : w10_157 ≤ w9_160 ∧ w9_160 ≤ w10_160 ∧ w10_160 ≤ (v 3) := p0_160
                            replace p1_160 : w8_160 ≠ 0 → w9_160 < w10_160 := p1_160
                            have rw8_160 : 0 ≤ w8_160 ∧ w8_160 ≤ 4 := hP.2.1 8
                            have rw9_160 : 0 ≤ w9_160 ∧ w9_160 ≤ 700 := hP.2.1 9
                            have rw10_160 : 0 ≤ w10_160 ∧ w10_160 ≤ 700 := hP.2.1 10
                            have rw11_160 : 0 ≤ w11_160 ∧ w11_160 ≤ 999999 := hP.2.1 11
                            refine lv_goto (tgt := 7) hx hb dX11_readKeys_256 (by decide) ?_
                            exact ih_7 z_158 w6_133 w7_133 w8_160 w9_160 w10_160 w11_160 (y17_7 + 1) (u1 c14_7 y17_7 2) (u1 c16_7 y17_7 z_12) b0_160 _ _ _ (by omega) (by omega) (by omega) (by omega) (by omega) hP hS (lv_sub hl [3, 0] rfl)
                        · exfalso; omega
                    · refine lv_iconst (v := iI 1) hx hb dX11_readKeys_141 rfl ?_
                      refine lv_goto (tgt := 197) hx hb dX11_readKeys_142 (by decide) ?_
                      refine lv_istore_n (lv' := [(3, .int (iI 1)), (2, .int (iI z_12)), (0, .ref (ad 0)), (1, .int (iI x1))]) hx hb dX11_readKeys_197 rfl hl (by decide) rfl (fun ls hl => ?_)
                      refine lv_iload_n hx hb dX11_readKeys_198 rfl (lv_at hl 0 rfl) ?_
                      refine gi_zge (tgt := 207) hx hb dX11_readKeys_199 (by decide) (by decide) (fun c_161 => ?_) (fun c_161 => ?_)
                      · refine lv_aload_n hx hb dX11_readKeys_207 rfl (lv_at hl 2 rfl) ?_
                        refine mdG_newUp C hP mF_X11_67 dX11_readKeys_208 ?_
                        refine lv_aload_n hx hb dX11_readKeys_211 rfl (lv_at hl 2 rfl) ?_
                        refine mdG_newKeys C hP mF_X11_214 dX11_readKeys_212 ?_
                        show W p l e (gRm 2 42) s m args below meth c _ _ 0 0 Q (F0 m 215 ls [.int (iI y17_7), .ref (ad 17)])
                        refine lv_iload_n hx hb dX11_readKeys_215 rfl (lv_at hl 1 rfl) ?_
                        refine mdS_newUp (f1 := (va_up (va_up f 14 c14_7) 16 (u1 c16_7 y17_7 z_12))) C hP hD hS (by omega) (by omega) (by omega) (by omega) rfl (Or.inr (gF_up (V := mdV) (F := mdF) (gF_up (V := mdV) (F := mdF) (gR_up (V := mdV) (F := mdF) (gR_up (V := mdV) (F := mdF) (gR_up (V := mdV) (F := mdF) (gR_up (V := mdV) (F := mdF) (gR_up (V := mdV) (F := mdF) (gR_up (V := mdV) (F := mdF) (gR_up (V := mdV) (F := mdF) ⟨hok.1, hok.2⟩ 6 (hP.2.1 6)) 7 (hP.2.1 7)) 8 (hP.2.1 8)) 9 (hP.2.1 9)) 10 (hP.2.1 10)) 11 (hP.2.1 11)) 17 (hP.2.1 17)) 14 (hP.2.2 14)) 16 (u1_rng (hP.2.2 16) (show 0 ≤ z_12 ∧ z_12 ≤ 1 from (by omega))))) dX11_readKeys_216 (fun H locs hP hS => ?_)
                        refine lv_aload_n hx hb dX11_readKeys_217 rfl (lv_at hl 2 rfl) ?_
                        refine mdG_newKey C hP mF_X11_60 dX11_readKeys_218 ?_
                        refine lv_aload_n hx hb dX11_readKeys_221 rfl (lv_at hl 2 rfl) ?_
                        refine mdG_newKeys C hP mF_X11_214 dX11_readKeys_222 ?_
                        show W p l e (gRm 2 42) s m args below meth c _ _ 0 0 Q (F0 m 225 ls [.int (iI y17_7), .ref (ad 15)])
                        refine lv_iload_n hx hb dX11_readKeys_225 rfl (lv_at hl 0 rfl) ?_
                        refine mdS_newKey (f1 := (va_up (va_up f 14 (u1 c14_7 y17_7 1)) 16 (u1 c16_7 y17_7 z_12))) C hP hD hS (by omega) (by omega) (by decide) rfl (Or.inr (gF_up (V := mdV) (F := mdF) (gF_up (V := mdV) (F := mdF) (gR_up (V := mdV) (F := mdF) (gR_up (V := mdV) (F := mdF) (gR_up (V := mdV) (F := mdF) (gR_up (V := mdV) (F := mdF) (gR_up (V := mdV) (F := mdF) (gR_up (V := mdV) (F := mdF) (gR_up (V := mdV) (F := mdF) ⟨hok.1, hok.2⟩ 6 (hP.2.1 6)) 7 (hP.2.1 7)) 8 (hP.2.1 8)) 9 (hP.2.1 9)) 10 (hP.2.1 10)) 11 (hP.2.1 11)) 17 (hP.2.1 17)) 14 (u1_rng (hP.2.2 14) (show 0 ≤ 1 ∧ 1 ≤ 3 from (by decide)))) 16 (hP.2.2 16))) dX11_readKeys_226 (fun H locs hP hS => ?_)
                        refine lv_aload_n hx hb dX11_readKeys_227 rfl (lv_at hl 2 rfl) ?_
                        refine lv_dup hx hb dX11_readKeys_228 rfl ?_
                        refine mdG_newKeys C hP mF_X11_214 dX11_readKeys_229 ?_
                        show W p l e (gRm 2 42) s m args below meth c _ _ 0 0 Q (F0 m 232 ls [.int (iI y17_7), .ref (ad 0)])
                        refine lv_iconst (v := iI 1) hx hb dX11_readKeys_232 rfl ?_
                        refine gi_add (z := (y17_7 + 1)) hx hb dX11_readKeys_233 rfl ?_
                        refine mdP_newKeys (v1 := (va_up (va_up (va_up (va_up (va_up (va_up (va_up v 6 w6_133) 7 w7_133) 8 w8_136) 9 w9_136) 10 w10_136) 11 w11_136) 17 (y17_7 + 1))) C hP hD hS mF_X11_214 (by omega) rfl (Or.inr (gF_up (V := mdV) (F := mdF) (gF_up (V := mdV) (F := mdF) (gR_up (V := mdV) (F := mdF) (gR_up (V := mdV) (F := mdF) (gR_up (V := mdV) (F := mdF) (gR_up (V := mdV) (F := mdF) (gR_up (V := mdV) (F := mdF) (gR_up (V := mdV) (F := mdF) (gR_up (V := mdV) (F := mdF) ⟨hok.1, hok.2⟩ 6 (hP.2.1 6)) 7 (hP.2.1 7)) 8 (hP.2.1 8)) 9 (hP.2.1 9)) 10 (hP.2.1 10)) 11 (hP.2.1 11)) 17 (show 0 ≤ (y17_7 + 1) ∧ (y17_7 + 1) ≤ 4 from by omega)) 14 (hP.2.2 14)) 16 (hP.2.2 16))) dX11_readKeys_234 (fun H locs hP hS => ?_)
                        refine lv_aload_n hx hb dX11_readKeys_237 rfl (lv_at hl 2 rfl) ?_
                        refine g_cv (As := []) (rest := []) (n := 0) C hml (m_X11_next l D k A ad hD (va_up (va_up (va_up (va_up (va_up (va_up (va_up v 6 w6_133) 7 w7_133) 8 w8_136) 9 w9_136) 10 w10_136) 11 w11_136) 17 (y17_7 + 1)) (va_up (va_up f 14 (u1 c14_7 y17_7 1)) 16 (u1 c16_7 y17_7 z_12)) (va_up g 0 b0_136) (show w10_136 ≤ (v 3) from by omega)) mM_X11_201 mI_X11_next mE_X11_next mN_X11 mC_X11_next (by decide +kernel) 0 (ci := 11) rfl rfl hP hS (fun _ h => h) ⟨Nat.le_of_ble_eq_true rfl, Nat.le_of_ble_eq_true rfl⟩ ⟨Nat.zero_le _, Nat.zero_le _⟩ hl.1 rfl rfl (Nat.le_of_ble_eq_true rfl) dX11_readKeys_238 (fun r_162 v_162 f_162 g_162 H locs hq_162 hP _ hS => ?_)
                        obtain ⟨w8_162, w9_162, w10_162, w11_162, b0_162, rfl, rfl, rfl, rfl, p0_162, p1_162⟩ := hq_162
                        show W p l e (gRm 2 42) s m args below meth c _ _ 0 0 Q (F0 m 241 ls [])
                        have hP : gWd D (mdT k ad) (va_up (va_up (va_up (va_up (va_up (va_up (va_up v 6 w6_133) 7 w7_133) 8 w8_162) 9 w9_162) 10 w10_162) 11 w11_162) 17 (y17_7 + 1)) (va_up (va_up f 14 (u1 c14_7 y17_7 1)) 16 (u1 c16_7 y17_7 z_12)) (va_up g 0 b0_162) H := ⟨hP.1, (gF_up (V := mdV) (F := mdF) (gF_up (V := mdV) (F := mdF) (gR_up (V := mdV) (F := mdF) (gR_up (V := mdV) (F := mdF) (gR_up (V := mdV) (F := mdF) (gR_up (V := mdV) (F := mdF) (gR_up (V := mdV) (F := mdF) (gR_up (V := mdV) (F := mdF) (gR_up (V := mdV) (F := mdF) ⟨hok.1, hok.2⟩ 6 (hP.2.1 6)) 7 (hP.2.1 7)) 8 (hP.2.1 8)) 9 (hP.2.1 9)) 10 (hP.2.1 10)) 11 (hP.2.1 11)) 17 (hP.2.1 17)) 14 (hP.2.2 14)) 16 (hP.2.2 16))⟩
                        replace p0_162 : w10_136 ≤ w9_162 ∧ w9_162 ≤ w10_162 ∧ w10_162 ≤ (v 3) := p0_162
                        replace p1_162 : w8_162 ≠ 0 → w9_162 < w10_162 := p1_162
                        have rw8_162 : 0 ≤ w8_162 ∧ w8_162 ≤ 4 := hP.2.1 8
                        have rw9_162 : 0 ≤ w9_162 ∧ w9_162 ≤ 700 := hP.2.1 9
                        have rw10_162 : 0 ≤ w10_162 ∧ w10_162 ≤ 700 := hP.2.1 10
                        have rw11_162 : 0 ≤ w11_162 ∧ w11_162 ≤ 999999 := hP.2.1 11
                        refine lv_aload_n hx hb dX11_readKeys_241 rfl (lv_at hl 2 rfl) ?_
                        refine lv_bipush (v := iI 44) hx hb dX11_readKeys_242 (by decide) ?_
                        refine g_cv (As := [.int (iI 44)]) (rest := []) (n := 1) C hml (m_X11_isSign l D k A ad hD (va_up (va_up (va_up (va_up (va_up (va_up (va_up v 6 w6_133) 7 w7_133) 8 w8_162) 9 w9_162) 10 w10_162) 11 w11_162) 17 (y17_7 + 1)) (va_up (va_up f 14 (u1 c14_7 y17_7 1)) 16 (u1 c16_7 y17_7 z_12)) (va_up g 0 b0_162) 44 (by decide)) mM_X11_204 mI_X11_isSign mE_X11_isSign mN_X11 mC_X11_isSign (by decide +kernel) 0 (ci := 11) rfl rfl hP hS (fun _ h => h) ⟨Nat.le_of_ble_eq_true rfl, Nat.le_of_ble_eq_true rfl⟩ ⟨Nat.zero_le _, Nat.zero_le _⟩ hl.1 rfl rfl (Nat.le_of_ble_eq_true rfl) dX11_readKeys_244 (fun r_163 v_163 f_163 g_163 H locs hq_163 hP _ hS => ?_)
                        obtain ⟨z_163, rfl, rfl, rfl, rfl, p0_163, p1_163⟩ := hq_163
                        show W p l e (gRm 2 42) s m args below meth c _ _ 0 0 Q (F0 m 247 ls [.int (iI z_163)])
                        replace p0_163 : 0 ≤ z_163 ∧ z_163 ≤ 1 := p0_163
                        replace p1_163 : z_163 = 1 → w8_162 = 3 := p1_163
                        refine lv_istore_n (lv' := [(1, .int (iI z_163)), (3, .int (iI 1)), (2, .int (iI z_12)), (0, .ref (ad 0))]) hx hb dX11_readKeys_247 rfl hl (by decide) rfl (fun ls hl => ?_)
                        refine lv_iload_n hx hb dX11_readKeys_248 rfl (lv_at hl 0 rfl) ?_
                        refine gi_zeq (tgt := 256) hx hb dX11_readKeys_249 (by decide) (by omega) (fun c_164 => ?_) (fun c_164 => ?_)
                        · refine lv_goto (tgt := 7) hx hb dX11_readKeys_256 (by decide) ?_
                          exact ih_7 z_163 w6_133 w7_133 w8_162 w9_162 w10_162 w11_162 (y17_7 + 1) (u1 c14_7 y17_7 1) (u1 c16_7 y17_7 z_12) b0_162 _ _ _ (by omega) (by omega) (by omega) (by omega) (by omega) hP hS (lv_sub hl [3, 0] rfl)
                        · refine lv_aload_n hx hb dX11_readKeys_252 rfl (lv_at hl 3 rfl) ?_
                          refine g_cv (As := []) (rest := []) (n := 0) C hml (m_X11_next l D k A ad hD (va_up (va_up (va_up (va_up (va_up (va_up (va_up v 6 w6_133) 7 w7_133) 8 w8_162) 9 w9_162) 10 w10_162) 11 w11_162) 17 (y17_7 + 1)) (va_up (va_up f 14 (u1 c14_7 y17_7 1)) 16 (u1 c16_7 y17_7 z_12)) (va_up g 0 b0_162) (show w10_162 ≤ (v 3) from by omega)) mM_X11_201 mI_X11_next mE_X11_next mN_X11 mC_X11_next (by decide +kernel) 0 (ci := 11) rfl rfl hP hS (fun _ h => h) ⟨Nat.le_of_ble_eq_true rfl, Nat.le_of_ble_eq_true rfl⟩ ⟨Nat.zero_le _, Nat.zero_le _⟩ hl.1 rfl rfl (Nat.le_of_ble_eq_true rfl) dX11_readKeys_253 (fun r_165 v_165 f_165 g_165 H locs hq_165 hP _ hS => ?_)
                          obtain ⟨w8_165, w9_165, w10_165, w11_165, b0_165, rfl, rfl, rfl, rfl, p0_165, p1_165⟩ := hq_165
                          show W p l e (gRm 2 42) s m args below meth c _ _ 0 0 Q (F0 m 256 ls [])
                          have hP : gWd D (mdT k ad) (va_up (va_up (va_up (va_up (va_up (va_up (va_up v 6 w6_133) 7 w7_133) 8 w8_165) 9 w9_165) 10 w10_165) 11 w11_165) 17 (y17_7 + 1)) (va_up (va_up f 14 (u1 c14_7 y17_7 1)) 16 (u1 c16_7 y17_7 z_12)) (va_up g 0 b0_165) H := ⟨hP.1, (gF_up (V := mdV) (F := mdF) (gF_up (V := mdV) (F := mdF) (gR_up (V := mdV) (F := mdF) (gR_up (V := mdV) (F := mdF) (gR_up (V := mdV) (F := mdF) (gR_up (V := mdV) (F := mdF) (gR_up (V := mdV) (F := mdF) (gR_up (V := mdV) (F := mdF) (gR_up (V := mdV) (F := mdF) ⟨hok.1, hok.2⟩ 6 (hP.2.1 6)) 7 (hP.2.1 7)) 8 (hP.2.1 8)) 9 (hP.2.1 9)) 10 (hP.2.1 10)) 11 (hP.2.1 11)) 17 (hP.2.1 17)) 14 (hP.2.2 14)) 16 (hP.2.2 16))⟩
                          replace p0_165 : w10_162 ≤ w9_165 ∧ w9_165 ≤ w10_165 ∧ w10_165 ≤ (v 3) := p0_165
                          replace p1_165 : w8_165 ≠ 0 → w9_165 < w10_165 := p1_165
                          have rw8_165 : 0 ≤ w8_165 ∧ w8_165 ≤ 4 := hP.2.1 8
                          have rw9_165 : 0 ≤ w9_165 ∧ w9_165 ≤ 700 := hP.2.1 9
                          have rw10_165 : 0 ≤ w10_165 ∧ w10_165 ≤ 700 := hP.2.1 10
                          have rw11_165 : 0 ≤ w11_165 ∧ w11_165 ≤ 999999 := hP.2.1 11
                          refine lv_goto (tgt := 7) hx hb dX11_readKeys_256 (by decide) ?_
                          exact ih_7 z_163 w6_133 w7_133 w8_165 w9_165 w10_165 w11_165 (y17_7 + 1) (u1 c14_7 y17_7 1) (u1 c16_7 y17_7 z_12) b0_165 _ _ _ (by omega) (by omega) (by omega) (by omega) (by omega) hP hS (lv_sub hl [3, 0] rfl)
                      · exfalso; omega
                  · refine lv_iconst (v := iI 0) hx hb dX11_readKeys_116 rfl ?_
                    refine lv_goto (tgt := 197) hx hb dX11_readKeys_117 (by decide) ?_
                    refine lv_istore_n (lv' := [(3, .int (iI 0)), (2, .int (iI z_12)), (0, .ref (ad 0)), (1, .int (iI x1))]) hx hb dX11_readKeys_197 rfl hl (by decide) rfl (fun ls hl => ?_)
                    refine lv_iload_n hx hb dX11_readKeys_198 rfl (lv_at hl 0 rfl) ?_
                    refine gi_zge (tgt := 207) hx hb dX11_readKeys_199 (by decide) (by decide) (fun c_166 => ?_) (fun c_166 => ?_)
                    · refine lv_aload_n hx hb dX11_readKeys_207 rfl (lv_at hl 2 rfl) ?_
                      refine mdG_newUp C hP mF_X11_67 dX11_readKeys_208 ?_
                      refine lv_aload_n hx hb dX11_readKeys_211 rfl (lv_at hl 2 rfl) ?_
                      refine mdG_newKeys C hP mF_X11_214 dX11_readKeys_212 ?_
                      show W p l e (gRm 2 42) s m args below meth c _ _ 0 0 Q (F0 m 215 ls [.int (iI y17_7), .ref (ad 17)])
                      refine lv_iload_n hx hb dX11_readKeys_215 rfl (lv_at hl 1 rfl) ?_
                      refine mdS_newUp (f1 := (va_up (va_up f 14 c14_7) 16 (u1 c16_7 y17_7 z_12))) C hP hD hS (by omega) (by omega) (by omega) (by omega) rfl (Or.inr (gF_up (V := mdV) (F := mdF) (gF_up (V := mdV) (F := mdF) (gR_up (V := mdV) (F := mdF) (gR_up (V := mdV) (F := mdF) (gR_up (V := mdV) (F := mdF) (gR_up (V := mdV) (F := mdF) (gR_up (V := mdV) (F := mdF) (gR_up (V := mdV) (F := mdF) (gR_up (V := mdV) (F := mdF) ⟨hok.1, hok.2⟩ 6 (hP.2.1 6)) 7 (hP.2.1 7)) 8 (hP.2.1 8)) 9 (hP.2.1 9)) 10 (hP.2.1 10)) 11 (hP.2.1 11)) 17 (hP.2.1 17)) 14 (hP.2.2 14)) 16 (u1_rng (hP.2.2 16) (show 0 ≤ z_12 ∧ z_12 ≤ 1 from (by omega))))) dX11_readKeys_216 (fun H locs hP hS => ?_)
                      refine lv_aload_n hx hb dX11_readKeys_217 rfl (lv_at hl 2 rfl) ?_
                      refine mdG_newKey C hP mF_X11_60 dX11_readKeys_218 ?_
                      refine lv_aload_n hx hb dX11_readKeys_221 rfl (lv_at hl 2 rfl) ?_
                      refine mdG_newKeys C hP mF_X11_214 dX11_readKeys_222 ?_
                      show W p l e (gRm 2 42) s m args below meth c _ _ 0 0 Q (F0 m 225 ls [.int (iI y17_7), .ref (ad 15)])
                      refine lv_iload_n hx hb dX11_readKeys_225 rfl (lv_at hl 0 rfl) ?_
                      refine mdS_newKey (f1 := (va_up (va_up f 14 (u1 c14_7 y17_7 0)) 16 (u1 c16_7 y17_7 z_12))) C hP hD hS (by omega) (by omega) (by decide) rfl (Or.inr (gF_up (V := mdV) (F := mdF) (gF_up (V := mdV) (F := mdF) (gR_up (V := mdV) (F := mdF) (gR_up (V := mdV) (F := mdF) (gR_up (V := mdV) (F := mdF) (gR_up (V := mdV) (F := mdF) (gR_up (V := mdV) (F := mdF) (gR_up (V := mdV) (F := mdF) (gR_up (V := mdV) (F := mdF) ⟨hok.1, hok.2⟩ 6 (hP.2.1 6)) 7 (hP.2.1 7)) 8 (hP.2.1 8)) 9 (hP.2.1 9)) 10 (hP.2.1 10)) 11 (hP.2.1 11)) 17 (hP.2.1 17)) 14 (u1_rng (hP.2.2 14) (show 0 ≤ 0 ∧ 0 ≤ 3 from (by decide)))) 16 (hP.2.2 16))) dX11_readKeys_226 (fun H locs hP hS => ?_)
                      refine lv_aload_n hx hb dX11_readKeys_227 rfl (lv_at hl 2 rfl) ?_
                      refine lv_dup hx hb dX11_readKeys_228 rfl ?_
                      refine mdG_newKeys C hP mF_X11_214 dX11_readKeys_229 ?_
                      show W p l e (gRm 2 42) s m args below meth c _ _ 0 0 Q (F0 m 232 ls [.int (iI y17_7), .ref (ad 0)])
                      refine lv_iconst (v := iI 1) hx hb dX11_readKeys_232 rfl ?_
                      refine gi_add (z := (y17_7 + 1)) hx hb dX11_readKeys_233 rfl ?_
                      refine mdP_newKeys (v1 := (va_up (va_up (va_up (va_up (va_up (va_up (va_up v 6 w6_133) 7 w7_133) 8 w8_136) 9 w9_136) 10 w10_136) 11 w11_136) 17 (y17_7 + 1))) C hP hD hS mF_X11_214 (by omega) rfl (Or.inr (gF_up (V := mdV) (F := mdF) (gF_up (V := mdV) (F := mdF) (gR_up (V := mdV) (F := mdF) (gR_up (V := mdV) (F := mdF) (gR_up (V := mdV) (F := mdF) (gR_up (V := mdV) (F := mdF) (gR_up (V := mdV) (F := mdF) (gR_up (V := mdV) (F := mdF) (gR_up (V := mdV) (F := mdF) ⟨hok.1, hok.2⟩ 6 (hP.2.1 6)) 7 (hP.2.1 7)) 8 (hP.2.1 8)) 9 (hP.2.1 9)) 10 (hP.2.1 10)) 11 (hP.2.1 11)) 17 (show 0 ≤ (y17_7 + 1) ∧ (y17_7 + 1) ≤ 4 from by omega)) 14 (hP.2.2 14)) 16 (hP.2.2 16))) dX11_readKeys_234 (fun H locs hP hS => ?_)
                      refine lv_aload_n hx hb dX11_readKeys_237 rfl (lv_at hl 2 rfl) ?_
                      refine g_cv (As := []) (rest := []) (n := 0) C hml (m_X11_next l D k A ad hD (va_up (va_up (va_up (va_up (va_up (va_up (va_up v 6 w6_133) 7 w7_133) 8 w8_136) 9 w9_136) 10 w10_136) 11 w11_136) 17 (y17_7 + 1)) (va_up (va_up f 14 (u1 c14_7 y17_7 0)) 16 (u1 c16_7 y17_7 z_12)) (va_up g 0 b0_136) (show w10_136 ≤ (v 3) from by omega)) mM_X11_201 mI_X11_next mE_X11_next mN_X11 mC_X11_next (by decide +kernel) 0 (ci := 11) rfl rfl hP hS (fun _ h => h) ⟨Nat.le_of_ble_eq_true rfl, Nat.le_of_ble_eq_true rfl⟩ ⟨Nat.zero_le _, Nat.zero_le _⟩ hl.1 rfl rfl (Nat.le_of_ble_eq_true rfl) dX11_readKeys_238 (fun r_167 v_167 f_167 g_167 H locs hq_167 hP _ hS => ?_)
                      obtain ⟨w8_167, w9_167, w10_167, w11_167, b0_167, rfl, rfl, rfl, rfl, p0_167, p1_167⟩ := hq_167
                      show W p l e (gRm 2 42) s m args below meth c _ _ 0 0 Q (F0 m 241 ls [])
                      have hP : gWd D (mdT k ad) (va_up (va_up (va_up (va_up (va_up (va_up (va_up v 6 w6_133) 7 w7_133) 8 w8_167) 9 w9_167) 10 w10_167) 11 w11_167) 17 (y17_7 + 1)) (va_up (va_up f 14 (u1 c14_7 y17_7 0)) 16 (u1 c16_7 y17_7 z_12)) (va_up g 0 b0_167) H := ⟨hP.1, (gF_up (V := mdV) (F := mdF) (gF_up (V := mdV) (F := mdF) (gR_up (V := mdV) (F := mdF) (gR_up (V := mdV) (F := mdF) (gR_up (V := mdV) (F := mdF) (gR_up (V := mdV) (F := mdF) (gR_up (V := mdV) (F := mdF) (gR_up (V := mdV) (F := mdF) (gR_up (V := mdV) (F := mdF) ⟨hok.1, hok.2⟩ 6 (hP.2.1 6)) 7 (hP.2.1 7)) 8 (hP.2.1 8)) 9 (hP.2.1 9)) 10 (hP.2.1 10)) 11 (hP.2.1 11)) 17 (hP.2.1 17)) 14 (hP.2.2 14)) 16 (hP.2.2 16))⟩
                      replace p0_167 : w10_136 ≤ w9_167 ∧ w9_167 ≤ w10_167 ∧ w10_167 ≤ (v 3) := p0_167
                      replace p1_167 : w8_167 ≠ 0 → w9_167 < w10_167 := p1_167
                      have rw8_167 : 0 ≤ w8_167 ∧ w8_167 ≤ 4 := hP.2.1 8
                      have rw9_167 : 0 ≤ w9_167 ∧ w9_167 ≤ 700 := hP.2.1 9
                      have rw10_167 : 0 ≤ w10_167 ∧ w10_167 ≤ 700 := hP.2.1 10
                      have rw11_167 : 0 ≤ w11_167 ∧ w11_167 ≤ 999999 := hP.2.1 11
                      refine lv_aload_n hx hb dX11_readKeys_241 rfl (lv_at hl 2 rfl) ?_
                      refine lv_bipush (v := iI 44) hx hb dX11_readKeys_242 (by decide) ?_
                      refine g_cv (As := [.int (iI 44)]) (rest := []) (n := 1) C hml (m_X11_isSign l D k A ad hD (va_up (va_up (va_up (va_up (va_up (va_up (va_up v 6 w6_133) 7 w7_133) 8 w8_167) 9 w9_167) 10 w10_167) 11 w11_167) 17 (y17_7 + 1)) (va_up (va_up f 14 (u1 c14_7 y17_7 0)) 16 (u1 c16_7 y17_7 z_12)) (va_up g 0 b0_167) 44 (by decide)) mM_X11_204 mI_X11_isSign mE_X11_isSign mN_X11 mC_X11_isSign (by decide +kernel) 0 (ci := 11) rfl rfl hP hS (fun _ h => h) ⟨Nat.le_of_ble_eq_true rfl, Nat.le_of_ble_eq_true rfl⟩ ⟨Nat.zero_le _, Nat.zero_le _⟩ hl.1 rfl rfl (Nat.le_of_ble_eq_true rfl) dX11_readKeys_244 (fun r_168 v_168 f_168 g_168 H locs hq_168 hP _ hS => ?_)
                      obtain ⟨z_168, rfl, rfl, rfl, rfl, p0_168, p1_168⟩ := hq_168
                      show W p l e (gRm 2 42) s m args below meth c _ _ 0 0 Q (F0 m 247 ls [.int (iI z_168)])
                      replace p0_168 : 0 ≤ z_168 ∧ z_168 ≤ 1 := p0_168
                      replace p1_168 : z_168 = 1 → w8_167 = 3 := p1_168
                      refine lv_istore_n (lv' := [(1, .int (iI z_168)), (3, .int (iI 0)), (2, .int (iI z_12)), (0, .ref (ad 0))]) hx hb dX11_readKeys_247 rfl hl (by decide) rfl (fun ls hl => ?_)
                      refine lv_iload_n hx hb dX11_readKeys_248 rfl (lv_at hl 0 rfl) ?_
                      refine gi_zeq (tgt := 256) hx hb dX11_readKeys_249 (by decide) (by omega) (fun c_169 => ?_) (fun c_169 => ?_)
                      · refine lv_goto (tgt := 7) hx hb dX11_readKeys_256 (by decide) ?_
                        exact ih_7 z_168 w6_133 w7_133 w8_167 w9_167 w10_167 w11_167 (y17_7 + 1) (u1 c14_7 y17_7 0) (u1 c16_7 y17_7 z_12) b0_167 _ _ _ (by omega) (by omega) (by omega) (by omega) (by omega) hP hS (lv_sub hl [3, 0] rfl)
                      · refine lv_aload_n hx hb dX11_readKeys_252 rfl (lv_at hl 3 rfl) ?_
                        refine g_cv (As := []) (rest := []) (n := 0) C hml (m_X11_next l D k A ad hD (va_up (va_up (va_up (va_up (va_up (va_up (va_up v 6 w6_133) 7 w7_133) 8 w8_167) 9 w9_167) 10 w10_167) 11 w11_167) 17 (y17_7 + 1)) (va_up (va_up f 14 (u1 c14_7 y17_7 0)) 16 (u1 c16_7 y17_7 z_12)) (va_up g 0 b0_167) (show w10_167 ≤ (v 3) from by omega)) mM_X11_201 mI_X11_next mE_X11_next mN_X11 mC_X11_next (by decide +kernel) 0 (ci := 11) rfl rfl hP hS (fun _ h => h) ⟨Nat.le_of_ble_eq_true rfl, Nat.le_of_ble_eq_true rfl⟩ ⟨Nat.zero_le _, Nat.zero_le _⟩ hl.1 rfl rfl (Nat.le_of_ble_eq_true rfl) dX11_readKeys_253 (fun r_170 v_170 f_170 g_170 H locs hq_170 hP _ hS => ?_)
                        obtain ⟨w8_170, w9_170, w10_170, w11_170, b0_170, rfl, rfl, rfl, rfl, p0_170, p1_170⟩ := hq_170
                        show W p l e (gRm 2 42) s m args below meth c _ _ 0 0 Q (F0 m 256 ls [])
                        have hP : gWd D (mdT k ad) (va_up (va_up (va_up (va_up (va_up (va_up (va_up v 6 w6_133) 7 w7_133) 8 w8_170) 9 w9_170) 10 w10_170) 11 w11_170) 17 (y17_7 + 1)) (va_up (va_up f 14 (u1 c14_7 y17_7 0)) 16 (u1 c16_7 y17_7 z_12)) (va_up g 0 b0_170) H := ⟨hP.1, (gF_up (V := mdV) (F := mdF) (gF_up (V := mdV) (F := mdF) (gR_up (V := mdV) (F := mdF) (gR_up (V := mdV) (F := mdF) (gR_up (V := mdV) (F := mdF) (gR_up (V := mdV) (F := mdF) (gR_up (V := mdV) (F := mdF) (gR_up (V := mdV) (F := mdF) (gR_up (V := mdV) (F := mdF) ⟨hok.1, hok.2⟩ 6 (hP.2.1 6)) 7 (hP.2.1 7)) 8 (hP.2.1 8)) 9 (hP.2.1 9)) 10 (hP.2.1 10)) 11 (hP.2.1 11)) 17 (hP.2.1 17)) 14 (hP.2.2 14)) 16 (hP.2.2 16))⟩
                        replace p0_170 : w10_167 ≤ w9_170 ∧ w9_170 ≤ w10_170 ∧ w10_170 ≤ (v 3) := p0_170
                        replace p1_170 : w8_170 ≠ 0 → w9_170 < w10_170 := p1_170
                        have rw8_170 : 0 ≤ w8_170 ∧ w8_170 ≤ 4 := hP.2.1 8
                        have rw9_170 : 0 ≤ w9_170 ∧ w9_170 ≤ 700 := hP.2.1 9
                        have rw10_170 : 0 ≤ w10_170 ∧ w10_170 ≤ 700 := hP.2.1 10
                        have rw11_170 : 0 ≤ w11_170 ∧ w11_170 ≤ 999999 := hP.2.1 11
                        refine lv_goto (tgt := 7) hx hb dX11_readKeys_256 (by decide) ?_
                        exact ih_7 z_168 w6_133 w7_133 w8_170 w9_170 w10_170 w11_170 (y17_7 + 1) (u1 c14_7 y17_7 0) (u1 c16_7 y17_7 z_12) b0_170 _ _ _ (by omega) (by omega) (by omega) (by omega) (by omega) hP hS (lv_sub hl [3, 0] rfl)
                    · exfalso; omega
                · exact g_vret hQ C hr hlocks hP hS dX11_readKeys_91 ⟨w6_133, w7_133, y8_7, y9_7, y10_7, y11_7, y17_7, c14_7, c16_7, d0_7, rfl, rfl, rfl, rfl, (by first | omega | (split <;> omega)), (by first | omega | (split <;> omega))⟩
            · refine lv_aload_n hx hb dX11_readKeys_60 rfl (lv_at hl 1 rfl) ?_
              refine g_cv (As := []) (rest := []) (n := 0) C hml (m_X11_wrong l D k A ad hD (va_up (va_up (va_up (va_up (va_up (va_up (va_up v 6 y6_7) 7 y7_7) 8 y8_7) 9 y9_7) 10 y10_7) 11 y11_7) 17 y17_7) (va_up (va_up f 14 c14_7) 16 c16_7) (va_up g 0 d0_7)) mM_X11_198 mI_X11_wrong mE_X11_wrong mN_X11 mC_X11_wrong (by decide +kernel) 0 (ci := 11) rfl rfl hP hS (fun _ h => h) ⟨Nat.le_of_ble_eq_true rfl, Nat.le_of_ble_eq_true rfl⟩ ⟨Nat.zero_le _, Nat.zero_le _⟩ hl.1 rfl rfl (Nat.le_of_ble_eq_true rfl) dX11_readKeys_61 (fun r_171 v_171 f_171 g_171 H locs hq_171 hP _ hS => ?_)
              obtain ⟨w6_171, w7_171, rfl, rfl, rfl, rfl, p0_171⟩ := hq_171
              show W p l e (gRm 2 42) s m args below meth c _ _ 0 0 Q (F0 m 64 ls [])
              have hP : gWd D (mdT k ad) (va_up (va_up (va_up (va_up (va_up (va_up (va_up v 6 w6_171) 7 w7_171) 8 y8_7) 9 y9_7) 10 y10_7) 11 y11_7) 17 y17_7) (va_up (va_up f 14 c14_7) 16 c16_7) (va_up g 0 d0_7) H := ⟨hP.1, (gF_up (V := mdV) (F := mdF) (gF_up (V := mdV) (F := mdF) (gR_up (V := mdV) (F := mdF) (gR_up (V := mdV) (F := mdF) (gR_up (V := mdV) (F := mdF) (gR_up (V := mdV) (F := mdF) (gR_up (V := mdV) (F := mdF) (gR_up (V := mdV) (F := mdF) (gR_up (V := mdV) (F := mdF) ⟨hok.1, hok.2⟩ 6 (hP.2.1 6)) 7 (hP.2.1 7)) 8 (hP.2.1 8)) 9 (hP.2.1 9)) 10 (hP.2.1 10)) 11 (hP.2.1 11)) 17 (hP.2.1 17)) 14 (hP.2.2 14)) 16 (hP.2.2 16))⟩
              replace p0_171 : 0 < w6_171 := p0_171
              have rw6_171 : 0 ≤ w6_171 ∧ w6_171 ≤ 5 := hP.2.1 6
              have rw7_171 : 0 ≤ w7_171 ∧ w7_171 ≤ 700 := hP.2.1 7
              refine lv_goto (tgt := 84) hx hb dX11_readKeys_64 (by decide) ?_
              refine lv_aload_n hx hb dX11_readKeys_84 rfl (lv_at hl 1 rfl) ?_
              refine mdG_bad C hP mF_X11_188 dX11_readKeys_85 ?_
              show W p l e (gRm 2 42) s m args below meth c _ _ 0 0 Q (F0 m 88 ls [.int (iI w6_171)])
              have r_172 : 0 ≤ w6_171 ∧ w6_171 ≤ 5 := hP.2.1 6
              refine gi_zle (tgt := 92) hx hb dX11_readKeys_88 (by decide) (by omega) (fun c_173 => ?_) (fun c_173 => ?_)
              · refine lv_aload_n hx hb dX11_readKeys_92 rfl (lv_at hl 1 rfl) ?_
                refine g_cv (As := []) (rest := []) (n := 0) C hml (m_X11_next l D k A ad hD (va_up (va_up (va_up (va_up (va_up (va_up (va_up v 6 w6_171) 7 w7_171) 8 y8_7) 9 y9_7) 10 y10_7) 11 y11_7) 17 y17_7) (va_up (va_up f 14 c14_7) 16 c16_7) (va_up g 0 d0_7) (show y10_7 ≤ (v 3) from by omega)) mM_X11_201 mI_X11_next mE_X11_next mN_X11 mC_X11_next (by decide +kernel) 0 (ci := 11) rfl rfl hP hS (fun _ h => h) ⟨Nat.le_of_ble_eq_true rfl, Nat.le_of_ble_eq_true rfl⟩ ⟨Nat.zero_le _, Nat.zero_le _⟩ hl.1 rfl rfl (Nat.le_of_ble_eq_true rfl) dX11_readKeys_93 (fun r_174 v_174 f_174 g_174 H locs hq_174 hP _ hS => ?_)
                obtain ⟨w8_174, w9_174, w10_174, w11_174, b0_174, rfl, rfl, rfl, rfl, p0_174, p1_174⟩ := hq_174
                show W p l e (gRm 2 42) s m args below meth c _ _ 0 0 Q (F0 m 96 ls [])
                have hP : gWd D (mdT k ad) (va_up (va_up (va_up (va_up (va_up (va_up (va_up v 6 w6_171) 7 w7_171) 8 w8_174) 9 w9_174) 10 w10_174) 11 w11_174) 17 y17_7) (va_up (va_up f 14 c14_7) 16 c16_7) (va_up g 0 b0_174) H := ⟨hP.1, (gF_up (V := mdV) (F := mdF) (gF_up (V := mdV) (F := mdF) (gR_up (V := mdV) (F := mdF) (gR_up (V := mdV) (F := mdF) (gR_up (V := mdV) (F := mdF) (gR_up (V := mdV) (F := mdF) (gR_up (V := mdV) (F := mdF) (gR_up (V := mdV) (F := mdF) (gR_up (V := mdV) (F := mdF) ⟨hok.1, hok.2⟩ 6 (hP.2.1 6)) 7 (hP.2.1 7)) 8 (hP.2.1 8)) 9 (hP.2.1 9)) 10 (hP.2.1 10)) 11 (hP.2.1 11)) 17 (hP.2.1 17)) 14 (hP.2.2 14)) 16 (hP.2.2 16))⟩
                replace p0_174 : y10_7 ≤ w9_174 ∧ w9_174 ≤ w10_174 ∧ w10_174 ≤ (v 3) := p0_174
                replace p1_174 : w8_174 ≠ 0 → w9_174 < w10_174 := p1_174
                have rw8_174 : 0 ≤ w8_174 ∧ w8_174 ≤ 4 := hP.2.1 8
                have rw9_174 : 0 ≤ w9_174 ∧ w9_174 ≤ 700 := hP.2.1 9
                have rw10_174 : 0 ≤ w10_174 ∧ w10_174 ≤ 700 := hP.2.1 10
                have rw11_174 : 0 ≤ w11_174 ∧ w11_174 ≤ 999999 := hP.2.1 11
                refine lv_aload_n hx hb dX11_readKeys_96 rfl (lv_at hl 1 rfl) ?_
                refine lv_bipush (v := iI 115) hx hb dX11_readKeys_97 (by decide) ?_
                refine lv_bipush (v := iI 117) hx hb dX11_readKeys_99 (by decide) ?_
                refine lv_bipush (v := iI 109) hx hb dX11_readKeys_101 (by decide) ?_
                refine lv_iconst (v := iI 0) hx hb dX11_readKeys_103 rfl ?_
                refine lv_iconst (v := iI 0) hx hb dX11_readKeys_104 rfl ?_
                refine lv_iconst (v := iI 0) hx hb dX11_readKeys_105 rfl ?_
                refine lv_iconst (v := iI 0) hx hb dX11_readKeys_106 rfl ?_
                refine g_cs (As := [.int (iI 115), .int (iI 117), .int (iI 109), .int (iI 0), .int (iI 0), .int (iI 0), .int (iI 0)]) (rest := [.ref (ad 0)]) (n := 7) C hml (m_X11_spelled l D k A ad hD (va_up (va_up (va_up (va_up (va_up (va_up (va_up v 6 w6_171) 7 w7_171) 8 w8_174) 9 w9_174) 10 w10_174) 11 w11_174) 17 y17_7) (va_up (va_up f 14 c14_7) 16 c16_7) (va_up g 0 b0_174) 115 117 109 0 0 0 0 (by decide) (by decide) (by decide) (by decide) (by decide) (by decide) (by decide)) mM_X11_228 mS_X11_spelled mN_X11 mC_X11_spelled (by decide +kernel) hP hS (fun _ h => h) ⟨Nat.le_of_ble_eq_true rfl, Nat.le_of_ble_eq_true rfl⟩ ⟨Nat.zero_le _, Nat.zero_le _⟩ hl.1 rfl rfl (Nat.le_of_ble_eq_true rfl) dX11_readKeys_107 (fun r_175 v_175 f_175 g_175 H locs hq_175 hP _ hS => ?_)
                obtain ⟨z_175, rfl, rfl, rfl, rfl⟩ := hq_175
                show W p l e (gRm 2 42) s m args below meth c _ _ 0 0 Q (F0 m 110 ls [.long (iL z_175), .ref (ad 0)])
                refine g_cv (As := [.long (iL z_175)]) (rest := []) (n := 1) C hml (m_X11_isWord l D k A ad hD (va_up (va_up (va_up (va_up (va_up (va_up (va_up v 6 w6_171) 7 w7_171) 8 w8_174) 9 w9_174) 10 w10_174) 11 w11_174) 17 y17_7) (va_up (va_up f 14 c14_7) 16 c16_7) (va_up g 0 b0_174) z_175) mM_X11_232 mI_X11_isWord mE_X11_isWord mN_X11 mC_X11_isWord (by decide +kernel) 0 (ci := 11) rfl rfl hP hS (fun _ h => h) ⟨Nat.le_of_ble_eq_true rfl, Nat.le_of_ble_eq_true rfl⟩ ⟨Nat.zero_le _, Nat.zero_le _⟩ hl.1 rfl rfl (Nat.le_of_ble_eq_true rfl) dX11_readKeys_110 (fun r_176 v_176 f_176 g_176 H locs hq_176 hP _ hS => ?_)
                obtain ⟨z_176, rfl, rfl, rfl, rfl, p0_176, p1_176⟩ := hq_176
                show W p l e (gRm 2 42) s m args below meth c _ _ 0 0 Q (F0 m 113 ls [.int (iI z_176)])
                replace p0_176 : 0 ≤ z_176 ∧ z_176 ≤ 1 := p0_176
                replace p1_176 : z_176 = 1 → w8_174 = 1 := p1_176
                refine gi_zeq (tgt := 120) hx hb dX11_readKeys_113 (by decide) (by omega) (fun c_177 => ?_) (fun c_177 => ?_)
                · refine lv_aload_n hx hb dX11_readKeys_120 rfl (lv_at hl 1 rfl) ?_
                  refine lv_bipush (v := iI 109) hx hb dX11_readKeys_121 (by decide) ?_
                  refine lv_bipush (v := iI 111) hx hb dX11_readKeys_123 (by decide) ?_
                  refine lv_bipush (v := iI 115) hx hb dX11_readKeys_125 (by decide) ?_
                  refine lv_bipush (v := iI 116) hx hb dX11_readKeys_127 (by decide) ?_
                  refine lv_iconst (v := iI 0) hx hb dX11_readKeys_129 rfl ?_
                  refine lv_iconst (v := iI 0) hx hb dX11_readKeys_130 rfl ?_
                  refine lv_iconst (v := iI 0) hx hb dX11_readKeys_131 rfl ?_
                  refine g_cs (As := [.int (iI 109), .int (iI 111), .int (iI 115), .int (iI 116), .int (iI 0), .int (iI 0), .int (iI 0)]) (rest := [.ref (ad 0)]) (n := 7) C hml (m_X11_spelled l D k A ad hD (va_up (va_up (va_up (va_up (va_up (va_up (va_up v 6 w6_171) 7 w7_171) 8 w8_174) 9 w9_174) 10 w10_174) 11 w11_174) 17 y17_7) (va_up (va_up f 14 c14_7) 16 c16_7) (va_up g 0 b0_174) 109 111 115 116 0 0 0 (by decide) (by decide) (by decide) (by decide) (by decide) (by decide) (by decide)) mM_X11_228 mS_X11_spelled mN_X11 mC_X11_spelled (by decide +kernel) hP hS (fun _ h => h) ⟨Nat.le_of_ble_eq_true rfl, Nat.le_of_ble_eq_true rfl⟩ ⟨Nat.zero_le _, Nat.zero_le _⟩ hl.1 rfl rfl (Nat.le_of_ble_eq_true rfl) dX11_readKeys_132 (fun r_178 v_178 f_178 g_178 H locs hq_178 hP _ hS => ?_)
                  obtain ⟨z_178, rfl, rfl, rfl, rfl⟩ := hq_178
                  show W p l e (gRm 2 42) s m args below meth c _ _ 0 0 Q (F0 m 135 ls [.long (iL z_178), .ref (ad 0)])
                  refine g_cv (As := [.long (iL z_178)]) (rest := []) (n := 1) C hml (m_X11_isWord l D k A ad hD (va_up (va_up (va_up (va_up (va_up (va_up (va_up v 6 w6_171) 7 w7_171) 8 w8_174) 9 w9_174) 10 w10_174) 11 w11_174) 17 y17_7) (va_up (va_up f 14 c14_7) 16 c16_7) (va_up g 0 b0_174) z_178) mM_X11_232 mI_X11_isWord mE_X11_isWord mN_X11 mC_X11_isWord (by decide +kernel) 0 (ci := 11) rfl rfl hP hS (fun _ h => h) ⟨Nat.le_of_ble_eq_true rfl, Nat.le_of_ble_eq_true rfl⟩ ⟨Nat.zero_le _, Nat.zero_le _⟩ hl.1 rfl rfl (Nat.le_of_ble_eq_true rfl) dX11_readKeys_135 (fun r_179 v_179 f_179 g_179 H locs hq_179 hP _ hS => ?_)
                  obtain ⟨z_179, rfl, rfl, rfl, rfl, p0_179, p1_179⟩ := hq_179
                  show W p l e (gRm 2 42) s m args below meth c _ _ 0 0 Q (F0 m 138 ls [.int (iI z_179)])
                  replace p0_179 : 0 ≤ z_179 ∧ z_179 ≤ 1 := p0_179
                  replace p1_179 : z_179 = 1 → w8_174 = 1 := p1_179
                  refine gi_zeq (tgt := 145) hx hb dX11_readKeys_138 (by decide) (by omega) (fun c_180 => ?_) (fun c_180 => ?_)
                  · refine lv_aload_n hx hb dX11_readKeys_145 rfl (lv_at hl 1 rfl) ?_
                    refine lv_bipush (v := iI 116) hx hb dX11_readKeys_146 (by decide) ?_
                    refine lv_bipush (v := iI 111) hx hb dX11_readKeys_148 (by decide) ?_
                    refine lv_bipush (v := iI 112) hx hb dX11_readKeys_150 (by decide) ?_
                    refine lv_bipush (v := iI 115) hx hb dX11_readKeys_152 (by decide) ?_
                    refine lv_iconst (v := iI 0) hx hb dX11_readKeys_154 rfl ?_
                    refine lv_iconst (v := iI 0) hx hb dX11_readKeys_155 rfl ?_
                    refine lv_iconst (v := iI 0) hx hb dX11_readKeys_156 rfl ?_
                    refine g_cs (As := [.int (iI 116), .int (iI 111), .int (iI 112), .int (iI 115), .int (iI 0), .int (iI 0), .int (iI 0)]) (rest := [.ref (ad 0)]) (n := 7) C hml (m_X11_spelled l D k A ad hD (va_up (va_up (va_up (va_up (va_up (va_up (va_up v 6 w6_171) 7 w7_171) 8 w8_174) 9 w9_174) 10 w10_174) 11 w11_174) 17 y17_7) (va_up (va_up f 14 c14_7) 16 c16_7) (va_up g 0 b0_174) 116 111 112 115 0 0 0 (by decide) (by decide) (by decide) (by decide) (by decide) (by decide) (by decide)) mM_X11_228 mS_X11_spelled mN_X11 mC_X11_spelled (by decide +kernel) hP hS (fun _ h => h) ⟨Nat.le_of_ble_eq_true rfl, Nat.le_of_ble_eq_true rfl⟩ ⟨Nat.zero_le _, Nat.zero_le _⟩ hl.1 rfl rfl (Nat.le_of_ble_eq_true rfl) dX11_readKeys_157 (fun r_181 v_181 f_181 g_181 H locs hq_181 hP _ hS => ?_)
                    obtain ⟨z_181, rfl, rfl, rfl, rfl⟩ := hq_181
                    show W p l e (gRm 2 42) s m args below meth c _ _ 0 0 Q (F0 m 160 ls [.long (iL z_181), .ref (ad 0)])
                    refine g_cv (As := [.long (iL z_181)]) (rest := []) (n := 1) C hml (m_X11_isWord l D k A ad hD (va_up (va_up (va_up (va_up (va_up (va_up (va_up v 6 w6_171) 7 w7_171) 8 w8_174) 9 w9_174) 10 w10_174) 11 w11_174) 17 y17_7) (va_up (va_up f 14 c14_7) 16 c16_7) (va_up g 0 b0_174) z_181) mM_X11_232 mI_X11_isWord mE_X11_isWord mN_X11 mC_X11_isWord (by decide +kernel) 0 (ci := 11) rfl rfl hP hS (fun _ h => h) ⟨Nat.le_of_ble_eq_true rfl, Nat.le_of_ble_eq_true rfl⟩ ⟨Nat.zero_le _, Nat.zero_le _⟩ hl.1 rfl rfl (Nat.le_of_ble_eq_true rfl) dX11_readKeys_160 (fun r_182 v_182 f_182 g_182 H locs hq_182 hP _ hS => ?_)
                    obtain ⟨z_182, rfl, rfl, rfl, rfl, p0_182, p1_182⟩ := hq_182
                    show W p l e (gRm 2 42) s m args below meth c _ _ 0 0 Q (F0 m 163 ls [.int (iI z_182)])
                    replace p0_182 : 0 ≤ z_182 ∧ z_182 ≤ 1 := p0_182
                    replace p1_182 : z_182 = 1 → w8_174 = 1 := p1_182
                    refine gi_zeq (tgt := 170) hx hb dX11_readKeys_163 (by decide) (by omega) (fun c_183 => ?_) (fun c_183 => ?_)
                    · refine lv_aload_n hx hb dX11_readKeys_170 rfl (lv_at hl 1 rfl) ?_
                      refine lv_bipush (v := iI 122) hx hb dX11_readKeys_171 (by decide) ?_
                      refine lv_bipush (v := iI 111) hx hb dX11_readKeys_173 (by decide) ?_
                      refine lv_bipush (v := iI 110) hx hb dX11_readKeys_175 (by decide) ?_
                      refine lv_bipush (v := iI 101) hx hb dX11_readKeys_177 (by decide) ?_
                      refine lv_bipush (v := iI 115) hx hb dX11_readKeys_179 (by decide) ?_
                      refine lv_iconst (v := iI 0) hx hb dX11_readKeys_181 rfl ?_
                      refine lv_iconst (v := iI 0) hx hb dX11_readKeys_182 rfl ?_
                      refine g_cs (As := [.int (iI 122), .int (iI 111), .int (iI 110), .int (iI 101), .int (iI 115), .int (iI 0), .int (iI 0)]) (rest := [.ref (ad 0)]) (n := 7) C hml (m_X11_spelled l D k A ad hD (va_up (va_up (va_up (va_up (va_up (va_up (va_up v 6 w6_171) 7 w7_171) 8 w8_174) 9 w9_174) 10 w10_174) 11 w11_174) 17 y17_7) (va_up (va_up f 14 c14_7) 16 c16_7) (va_up g 0 b0_174) 122 111 110 101 115 0 0 (by decide) (by decide) (by decide) (by decide) (by decide) (by decide) (by decide)) mM_X11_228 mS_X11_spelled mN_X11 mC_X11_spelled (by decide +kernel) hP hS (fun _ h => h) ⟨Nat.le_of_ble_eq_true rfl, Nat.le_of_ble_eq_true rfl⟩ ⟨Nat.zero_le _, Nat.zero_le _⟩ hl.1 rfl rfl (Nat.le_of_ble_eq_true rfl) dX11_readKeys_183 (fun r_184 v_184 f_184 g_184 H locs hq_184 hP _ hS => ?_)
                      obtain ⟨z_184, rfl, rfl, rfl, rfl⟩ := hq_184
                      show W p l e (gRm 2 42) s m args below meth c _ _ 0 0 Q (F0 m 186 ls [.long (iL z_184), .ref (ad 0)])
                      refine g_cv (As := [.long (iL z_184)]) (rest := []) (n := 1) C hml (m_X11_isWord l D k A ad hD (va_up (va_up (va_up (va_up (va_up (va_up (va_up v 6 w6_171) 7 w7_171) 8 w8_174) 9 w9_174) 10 w10_174) 11 w11_174) 17 y17_7) (va_up (va_up f 14 c14_7) 16 c16_7) (va_up g 0 b0_174) z_184) mM_X11_232 mI_X11_isWord mE_X11_isWord mN_X11 mC_X11_isWord (by decide +kernel) 0 (ci := 11) rfl rfl hP hS (fun _ h => h) ⟨Nat.le_of_ble_eq_true rfl, Nat.le_of_ble_eq_true rfl⟩ ⟨Nat.zero_le _, Nat.zero_le _⟩ hl.1 rfl rfl (Nat.le_of_ble_eq_true rfl) dX11_readKeys_186 (fun r_185 v_185 f_185 g_185 H locs hq_185 hP _ hS => ?_)
                      obtain ⟨z_185, rfl, rfl, rfl, rfl, p0_185, p1_185⟩ := hq_185
                      show W p l e (gRm 2 42) s m args below meth c _ _ 0 0 Q (F0 m 189 ls [.int (iI z_185)])
                      replace p0_185 : 0 ≤ z_185 ∧ z_185 ≤ 1 := p0_185
                      replace p1_185 : z_185 = 1 → w8_174 = 1 := p1_185
                      refine gi_zeq (tgt := 196) hx hb dX11_readKeys_189 (by decide) (by omega) (fun c_186 => ?_) (fun c_186 => ?_)
                      · refine lv_iconst (v := iI (-1)) hx hb dX11_readKeys_196 rfl ?_
                        refine lv_istore_n (lv' := [(3, .int (iI (-1))), (2, .int (iI z_12)), (0, .ref (ad 0)), (1, .int (iI x1))]) hx hb dX11_readKeys_197 rfl hl (by decide) rfl (fun ls hl => ?_)
                        refine lv_iload_n hx hb dX11_readKeys_198 rfl (lv_at hl 0 rfl) ?_
                        refine gi_zge (tgt := 207) hx hb dX11_readKeys_199 (by decide) (by decide) (fun c_187 => ?_) (fun c_187 => ?_)
                        · exfalso; omega
                        · refine lv_aload_n hx hb dX11_readKeys_202 rfl (lv_at hl 2 rfl) ?_
                          refine g_cv (As := []) (rest := []) (n := 0) C hml (m_X11_wrong l D k A ad hD (va_up (va_up (va_up (va_up (va_up (va_up (va_up v 6 w6_171) 7 w7_171) 8 w8_174) 9 w9_174) 10 w10_174) 11 w11_174) 17 y17_7) (va_up (va_up f 14 c14_7) 16 c16_7) (va_up g 0 b0_174)) mM_X11_198 mI_X11_wrong mE_X11_wrong mN_X11 mC_X11_wrong (by decide +kernel) 0 (ci := 11) rfl rfl hP hS (fun _ h => h) ⟨Nat.le_of_ble_eq_true rfl, Nat.le_of_ble_eq_true rfl⟩ ⟨Nat.zero_le _, Nat.zero_le _⟩ hl.1 rfl rfl (Nat.le_of_ble_eq_true rfl) dX11_readKeys_203 (fun r_188 v_188 f_188 g_188 H locs hq_188 hP _ hS => ?_)
                          obtain ⟨w6_188, w7_188, rfl, rfl, rfl, rfl, p0_188⟩ := hq_188
                          show W p l e (gRm 2 42) s m args below meth c _ _ 0 0 Q (F0 m 206 ls [])
                          have hP : gWd D (mdT k ad) (va_up (va_up (va_up (va_up (va_up (va_up (va_up v 6 w6_188) 7 w7_188) 8 w8_174) 9 w9_174) 10 w10_174) 11 w11_174) 17 y17_7) (va_up (va_up f 14 c14_7) 16 c16_7) (va_up g 0 b0_174) H := ⟨hP.1, (gF_up (V := mdV) (F := mdF) (gF_up (V := mdV) (F := mdF) (gR_up (V := mdV) (F := mdF) (gR_up (V := mdV) (F := mdF) (gR_up (V := mdV) (F := mdF) (gR_up (V := mdV) (F := mdF) (gR_up (V := mdV) (F := mdF) (gR_up (V := mdV) (F := mdF) (gR_up (V := mdV) (F := mdF) ⟨hok.1, hok.2⟩ 6 (hP.2.1 6)) 7 (hP.2.1 7)) 8 (hP.2.1 8)) 9 (hP.2.1 9)) 10 (hP.2.1 10)) 11 (hP.2.1 11)) 17 (hP.2.1 17)) 14 (hP.2.2 14)) 16 (hP.2.2 16))⟩
                          replace p0_188 : 0 < w6_188 := p0_188
                          have rw6_188 : 0 ≤ w6_188 ∧ w6_188 ≤ 5 := hP.2.1 6
                          have rw7_188 : 0 ≤ w7_188 ∧ w7_188 ≤ 700 := hP.2.1 7
                          exact g_vret hQ C hr hlocks hP hS dX11_readKeys_206 ⟨w6_188, w7_188, w8_174, w9_174, w10_174, w11_174, y17_7, c14_7, c16_7, b0_174, rfl, rfl, rfl, rfl, (by first | omega | (split <;> omega)), (by first | omega | (split <;> omega))⟩
                      · refine lv_iconst (v := iI 3) hx hb dX11_readKeys_192 rfl ?_
                        refine lv_goto (tgt := 197) hx hb dX11_readKeys_193 (by decide) ?_
                        refine lv_istore_n (lv' := [(3, .int (iI 3)), (2, .int (iI z_12)), (0, .ref (ad 0)), (1, .int (iI x1))]) hx hb dX11_readKeys_197 rfl hl (by decide) rfl (fun ls hl => ?_)
                        refine lv_iload_n hx hb dX11_readKeys_198 rfl (lv_at hl 0 rfl) ?_
                        refine gi_zge (tgt := 207) hx hb dX11_readKeys_199 (by decide) (by decide) (fun c_189 => ?_) (fun c_189 => ?_)
                        · refine lv_aload_n hx hb dX11_readKeys_207 rfl (lv_at hl 2 rfl) ?_
                          refine mdG_newUp C hP mF_X11_67 dX11_readKeys_208 ?_
                          refine lv_aload_n hx hb dX11_readKeys_211 rfl (lv_at hl 2 rfl) ?_
                          refine mdG_newKeys C hP mF_X11_214 dX11_readKeys_212 ?_
                          show W p l e (gRm 2 42) s m args below meth c _ _ 0 0 Q (F0 m 215 ls [.int (iI y17_7), .ref (ad 17)])
                          have r_190 : 0 ≤ y17_7 ∧ y17_7 ≤ 4 := hP.2.1 17
                          refine lv_iload_n hx hb dX11_readKeys_215 rfl (lv_at hl 1 rfl) ?_
                          refine mdS_newUp (f1 := (va_up (va_up f 14 c14_7) 16 (u1 c16_7 y17_7 z_12))) C hP hD hS (by omega) (by omega) (by omega) (by omega) rfl (Or.inr (gF_up (V := mdV) (F := mdF) (gF_up (V := mdV) (F := mdF) (gR_up (V := mdV) (F := mdF) (gR_up (V := mdV) (F := mdF) (gR_up (V := mdV) (F := mdF) (gR_up (V := mdV) (F := mdF) (gR_up (V := mdV) (F := mdF) (gR_up (V := mdV) (F := mdF) (gR_up (V := mdV) (F := mdF) ⟨hok.1, hok.2⟩ 6 (hP.2.1 6)) 7 (hP.2.1 7)) 8 (hP.2.1 8)) 9 (hP.2.1 9)) 10 (hP.2.1 10)) 11 (hP.2.1 11)) 17 (hP.2.1 17)) 14 (hP.2.2 14)) 16 (u1_rng (hP.2.2 16) (show 0 ≤ z_12 ∧ z_12 ≤ 1 from (by omega))))) dX11_readKeys_216 (fun H locs hP hS => ?_)
                          refine lv_aload_n hx hb dX11_readKeys_217 rfl (lv_at hl 2 rfl) ?_
                          refine mdG_newKey C hP mF_X11_60 dX11_readKeys_218 ?_
                          refine lv_aload_n hx hb dX11_readKeys_221 rfl (lv_at hl 2 rfl) ?_
                          refine mdG_newKeys C hP mF_X11_214 dX11_readKeys_222 ?_
                          show W p l e (gRm 2 42) s m args below meth c _ _ 0 0 Q (F0 m 225 ls [.int (iI y17_7), .ref (ad 15)])
                          refine lv_iload_n hx hb dX11_readKeys_225 rfl (lv_at hl 0 rfl) ?_
                          refine mdS_newKey (f1 := (va_up (va_up f 14 (u1 c14_7 y17_7 3)) 16 (u1 c16_7 y17_7 z_12))) C hP hD hS (by omega) (by omega) (by decide) rfl (Or.inr (gF_up (V := mdV) (F := mdF) (gF_up (V := mdV) (F := mdF) (gR_up (V := mdV) (F := mdF) (gR_up (V := mdV) (F := mdF) (gR_up (V := mdV) (F := mdF) (gR_up (V := mdV) (F := mdF) (gR_up (V := mdV) (F := mdF) (gR_up (V := mdV) (F := mdF) (gR_up (V := mdV) (F := mdF) ⟨hok.1, hok.2⟩ 6 (hP.2.1 6)) 7 (hP.2.1 7)) 8 (hP.2.1 8)) 9 (hP.2.1 9)) 10 (hP.2.1 10)) 11 (hP.2.1 11)) 17 (hP.2.1 17)) 14 (u1_rng (hP.2.2 14) (show 0 ≤ 3 ∧ 3 ≤ 3 from (by decide)))) 16 (hP.2.2 16))) dX11_readKeys_226 (fun H locs hP hS => ?_)
                          refine lv_aload_n hx hb dX11_readKeys_227 rfl (lv_at hl 2 rfl) ?_
                          refine lv_dup hx hb dX11_readKeys_228 rfl ?_
                          refine mdG_newKeys C hP mF_X11_214 dX11_readKeys_229 ?_
                          show W p l e (gRm 2 42) s m args below meth c _ _ 0 0 Q (F0 m 232 ls [.int (iI y17_7), .ref (ad 0)])
                          refine lv_iconst (v := iI 1) hx hb dX11_readKeys_232 rfl ?_
                          refine gi_add (z := (y17_7 + 1)) hx hb dX11_readKeys_233 rfl ?_
                          refine mdP_newKeys (v1 := (va_up (va_up (va_up (va_up (va_up (va_up (va_up v 6 w6_171) 7 w7_171) 8 w8_174) 9 w9_174) 10 w10_174) 11 w11_174) 17 (y17_7 + 1))) C hP hD hS mF_X11_214 (by omega) rfl (Or.inr (gF_up (V := mdV) (F := mdF) (gF_up (V := mdV) (F := mdF) (gR_up (V := mdV) (F := mdF) (gR_up (V := mdV) (F := mdF) (gR_up (V := mdV) (F := mdF) (gR_up (V := mdV) (F := mdF) (gR_up (V := mdV) (F := mdF) (gR_up (V := mdV) (F := mdF) (gR_up (V := mdV) (F := mdF) ⟨hok.1, hok.2⟩ 6 (hP.2.1 6)) 7 (hP.2.1 7)) 8 (hP.2.1 8)) 9 (hP.2.1 9)) 10 (hP.2.1 10)) 11 (hP.2.1 11)) 17 (show 0 ≤ (y17_7 + 1) ∧ (y17_7 + 1) ≤ 4 from by omega)) 14 (hP.2.2 14)) 16 (hP.2.2 16))) dX11_readKeys_234 (fun H locs hP hS => ?_)
                          refine lv_aload_n hx hb dX11_readKeys_237 rfl (lv_at hl 2 rfl) ?_
                          refine g_cv (As := []) (rest := []) (n := 0) C hml (m_X11_next l D k A ad hD (va_up (va_up (va_up (va_up (va_up (va_up (va_up v 6 w6_171) 7 w7_171) 8 w8_174) 9 w9_174) 10 w10_174) 11 w11_174) 17 (y17_7 + 1)) (va_up (va_up f 14 (u1 c14_7 y17_7 3)) 16 (u1 c16_7 y17_7 z_12)) (va_up g 0 b0_174) (show w10_174 ≤ (v 3) from by omega)) mM_X11_201 mI_X11_next mE_X11_next mN_X11 mC_X11_next (by decide +kernel) 0 (ci := 11) rfl rfl hP hS (fun _ h => h) ⟨Nat.le_of_ble_eq_true rfl, Nat.le_of_ble_eq_true rfl⟩ ⟨Nat.zero_le _, Nat.zero_le _⟩ hl.1 rfl rfl (Nat.le_of_ble_eq_true rfl) dX11_readKeys_238 (fun r_191 v_191 f_191 g_191 H locs hq_191 hP _ hS => ?_)
                          obtain ⟨w8_191, w9_191, w10_191, w11_191, b0_191, rfl, rfl, rfl, rfl, p0_191, p1_191⟩ := hq_191
                          show W p l e (gRm 2 42) s m args below meth c _ _ 0 0 Q (F0 m 241 ls [])
                          have hP : gWd D (mdT k ad) (va_up (va_up (va_up (va_up (va_up (va_up (va_up v 6 w6_171) 7 w7_171) 8 w8_191) 9 w9_191) 10 w10_191) 11 w11_191) 17 (y17_7 + 1)) (va_up (va_up f 14 (u1 c14_7 y17_7 3)) 16 (u1 c16_7 y17_7 z_12)) (va_up g 0 b0_191) H := ⟨hP.1, (gF_up (V := mdV) (F := mdF) (gF_up (V := mdV) (F := mdF) (gR_up (V := mdV) (F := mdF) (gR_up (V := mdV) (F := mdF) (gR_up (V := mdV) (F := mdF) (gR_up (V := mdV) (F := mdF) (gR_up (V := mdV) (F := mdF) (gR_up (V := mdV) (F := mdF) (gR_up (V := mdV) (F := mdF) ⟨hok.1, hok.2⟩ 6 (hP.2.1 6)) 7 (hP.2.1 7)) 8 (hP.2.1 8)) 9 (hP.2.1 9)) 10 (hP.2.1 10)) 11 (hP.2.1 11)) 17 (hP.2.1 17)) 14 (hP.2.2 14)) 16 (hP.2.2 16))⟩
                          replace p0_191 : w10_174 ≤ w9_191 ∧ w9_191 ≤ w10_191 ∧ w10_191 ≤ (v 3) := p0_191
                          replace p1_191 : w8_191 ≠ 0 → w9_191 < w10_191 := p1_191
                          have rw8_191 : 0 ≤ w8_191 ∧ w8_191 ≤ 4 := hP.2.1 8
                          have rw9_191 : 0 ≤ w9_191 ∧ w9_191 ≤ 700 := hP.2.1 9
                          have rw10_191 : 0 ≤ w10_191 ∧ w10_191 ≤ 700 := hP.2.1 10
                          have rw11_191 : 0 ≤ w11_191 ∧ w11_191 ≤ 999999 := hP.2.1 11
                          refine lv_aload_n hx hb dX11_readKeys_241 rfl (lv_at hl 2 rfl) ?_
                          refine lv_bipush (v := iI 44) hx hb dX11_readKeys_242 (by decide) ?_
                          refine g_cv (As := [.int (iI 44)]) (rest := []) (n := 1) C hml (m_X11_isSign l D k A ad hD (va_up (va_up (va_up (va_up (va_up (va_up (va_up v 6 w6_171) 7 w7_171) 8 w8_191) 9 w9_191) 10 w10_191) 11 w11_191) 17 (y17_7 + 1)) (va_up (va_up f 14 (u1 c14_7 y17_7 3)) 16 (u1 c16_7 y17_7 z_12)) (va_up g 0 b0_191) 44 (by decide)) mM_X11_204 mI_X11_isSign mE_X11_isSign mN_X11 mC_X11_isSign (by decide +kernel) 0 (ci := 11) rfl rfl hP hS (fun _ h => h) ⟨Nat.le_of_ble_eq_true rfl, Nat.le_of_ble_eq_true rfl⟩ ⟨Nat.zero_le _, Nat.zero_le _⟩ hl.1 rfl rfl (Nat.le_of_ble_eq_true rfl) dX11_readKeys_244 (fun r_192 v_192 f_192 g_192 H locs hq_192 hP _ hS => ?_)
                          obtain ⟨z_192, rfl, rfl, rfl, rfl, p0_192, p1_192⟩ := hq_192
                          show W p l e (gRm 2 42) s m args below meth c _ _ 0 0 Q (F0 m 247 ls [.int (iI z_192)])
                          replace p0_192 : 0 ≤ z_192 ∧ z_192 ≤ 1 := p0_192
                          replace p1_192 : z_192 = 1 → w8_191 = 3 := p1_192
                          refine lv_istore_n (lv' := [(1, .int (iI z_192)), (3, .int (iI 3)), (2, .int (iI z_12)), (0, .ref (ad 0))]) hx hb dX11_readKeys_247 rfl hl (by decide) rfl (fun ls hl => ?_)
                          refine lv_iload_n hx hb dX11_readKeys_248 rfl (lv_at hl 0 rfl) ?_
                          refine gi_zeq (tgt := 256) hx hb dX11_readKeys_249 (by decide) (by omega) (fun c_193 => ?_) (fun c_193 => ?_)
                          · refine lv_goto (tgt := 7) hx hb dX11_readKeys_256 (by decide) ?_
                            exact ih_7 z_192 w6_171 w7_171 w8_191 w9_191 w10_191 w11_191 (y17_7 + 1) (u1 c14_7 y17_7 3) (u1 c16_7 y17_7 z_12) b0_191 _ _ _ (by omega) (by omega) (by omega) (by omega) (by omega) hP hS (lv_sub hl [3, 0] rfl)
                          · refine lv_aload_n hx hb dX11_readKeys_252 rfl (lv_at hl 3 rfl) ?_
                            refine g_cv (As := []) (rest := []) (n := 0) C hml (m_X11_next l D k A ad hD (va_up (va_up (va_up (va_up (va_up (va_up (va_up v 6 w6_171) 7 w7_171) 8 w8_191) 9 w9_191) 10 w10_191) 11 w11_191) 17 (y17_7 + 1)) (va_up (va_up f 14 (u1 c14_7 y17_7 3)) 16 (u1 c16_7 y17_7 z_12)) (va_up g 0 b0_191) (show w10_191 ≤ (v 3) from by omega)) mM_X11_201 mI_X11_next mE_X11_next mN_X11 mC_X11_next (by decide +kernel) 0 (ci := 11) rfl rfl hP hS (fun _ h => h) ⟨Nat.le_of_ble_eq_true rfl, Nat.le_of_ble_eq_true rfl⟩ ⟨Nat.zero_le _, Nat.zero_le _⟩ hl.1 rfl rfl (Nat.le_of_ble_eq_true rfl) dX11_readKeys_253 (fun r_194 v_194 f_194 g_194 H locs hq_194 hP _ hS => ?_)
                            obtain ⟨w8_194, w9_194, w10_194, w11_194, b0_194, rfl, rfl, rfl, rfl, p0_194, p1_194⟩ := hq_194
                            show W p l e (gRm 2 42) s m args below meth c _ _ 0 0 Q (F0 m 256 ls [])
                            have hP : gWd D (mdT k ad) (va_up (va_up (va_up (va_up (va_up (va_up (va_up v 6 w6_171) 7 w7_171) 8 w8_194) 9 w9_194) 10 w10_194) 11 w11_194) 17 (y17_7 + 1)) (va_up (va_up f 14 (u1 c14_7 y17_7 3)) 16 (u1 c16_7 y17_7 z_12)) (va_up g 0 b0_194) H := ⟨hP.1, (gF_up (V := mdV) (F := mdF) (gF_up (V := mdV) (F := mdF) (gR_up (V := mdV) (F := mdF) (gR_up (V := mdV) (F := mdF) (gR_up (V := mdV) (F := mdF) (gR_up (V := mdV) (F := mdF) (gR_up (V := mdV) (F := mdF) (gR_up (V := mdV) (F := mdF) (gR_up (V := mdV) (F := mdF) ⟨hok.1, hok.2⟩ 6 (hP.2.1 6)) 7 (hP.2.1 7)) 8 (hP.2.1 8)) 9 (hP.2.1 9)) 10 (hP.2.1 10)) 11 (hP.2.1 11)) 17 (hP.2.1 17)) 14 (hP.2.2 14)) 16 (hP.2.2 16))⟩
                            replace p0_194 : w10_191 ≤ w9_194 ∧ w9_194 ≤ w10_194 ∧ w10_194 ≤ (v 3) := p0_194
                            replace p1_194 : w8_194 ≠ 0 → w9_194 < w10_194 := p1_194
                            have rw8_194 : 0 ≤ w8_194 ∧ w8_194 ≤ 4 := hP.2.1 8
                            have rw9_194 : 0 ≤ w9_194 ∧ w9_194 ≤ 700 := hP.2.1 9
                            have rw10_194 : 0 ≤ w10_194 ∧ w10_194 ≤ 700 := hP.2.1 10
                            have rw11_194 : 0 ≤ w11_194 ∧ w11_194 ≤ 999999 := hP.2.1 11
                            refine lv_goto (tgt := 7) hx hb dX11_readKeys_256 (by decide) ?_
                            exact ih_7 z_192 w6_171 w7_171 w8_194 w9_194 w10_194 w11_194 (y17_7 + 1) (u1 c14_7 y17_7 3) (u1 c16_7 y17_7 z_12) b0_194 _ _ _ (by omega) (by omega) (by omega) (by omega) (by omega) hP hS (lv_sub hl [3, 0] rfl)
                        · exfalso; omega
                    · refine lv_iconst (v := iI 2) hx hb dX11_readKeys_166 rfl ?_
                      refine lv_goto (tgt := 197) hx hb dX11_readKeys_167 (by decide) ?_
                      refine lv_istore_n (lv' := [(3, .int (iI 2)), (2, .int (iI z_12)), (0, .ref (ad 0)), (1, .int (iI x1))]) hx hb dX11_readKeys_197 rfl hl (by decide) rfl (fun ls hl => ?_)
                      refine lv_iload_n hx hb dX11_readKeys_198 rfl (lv_at hl 0 rfl) ?_
                      refine gi_zge (tgt := 207) hx hb dX11_readKeys_199 (by decide) (by decide) (fun c_195 => ?_) (fun c_195 => ?_)
                      · refine lv_aload_n hx hb dX11_readKeys_207 rfl (lv_at hl 2 rfl) ?_
                        refine mdG_newUp C hP mF_X11_67 dX11_readKeys_208 ?_
                        refine lv_aload_n hx hb dX11_readKeys_211 rfl (lv_at hl 2 rfl) ?_
                        refine mdG_newKeys C hP mF_X11_214 dX11_readKeys_212 ?_
                        show W p l e (gRm 2 42) s m args below meth c _ _ 0 0 Q (F0 m 215 ls [.int (iI y17_7), .ref (ad 17)])
                        have r_196 : 0 ≤ y17_7 ∧ y17_7 ≤ 4 := hP.2.1 17
                        refine lv_iload_n hx hb dX11_readKeys_215 rfl (lv_at hl 1 rfl) ?_
                        refine mdS_newUp (f1 := (va_up (va_up f 14 c14_7) 16 (u1 c16_7 y17_7 z_12))) C hP hD hS (by omega) (by omega) (by omega) (by omega) rfl (Or.inr (gF_up (V := mdV) (F := mdF) (gF_up (V := mdV) (F := mdF) (gR_up (V := mdV) (F := mdF) (gR_up (V := mdV) (F := mdF) (gR_up (V := mdV) (F := mdF) (gR_up (V := mdV) (F := mdF) (gR_up (V := mdV) (F := mdF) (gR_up (V := mdV) (F := mdF) (gR_up (V := mdV) (F := mdF) ⟨hok.1, hok.2⟩ 6 (hP.2.1 6)) 7 (hP.2.1 7)) 8 (hP.2.1 8)) 9 (hP.2.1 9)) 10 (hP.2.1 10)) 11 (hP.2.1 11)) 17 (hP.2.1 17)) 14 (hP.2.2 14)) 16 (u1_rng (hP.2.2 16) (show 0 ≤ z_12 ∧ z_12 ≤ 1 from (by omega))))) dX11_readKeys_216 (fun H locs hP hS => ?_)
                        refine lv_aload_n hx hb dX11_readKeys_217 rfl (lv_at hl 2 rfl) ?_
                        refine mdG_newKey C hP mF_X11_60 dX11_readKeys_218 ?_
                        refine lv_aload_n hx hb dX11_readKeys_221 rfl (lv_at hl 2 rfl) ?_
                        refine mdG_newKeys C hP mF_X11_214 dX11_readKeys_222 ?_
                        show W p l e (gRm 2 42) s m args below meth c _ _ 0 0 Q (F0 m 225 ls [.int (iI y17_7), .ref (ad 15)])
                        refine lv_iload_n hx hb dX11_readKeys_225 rfl (lv_at hl 0 rfl) ?_
                        refine mdS_newKey (f1 := (va_up (va_up f 14 (u1 c14_7 y17_7 2)) 16 (u1 c16_7 y17_7 z_12))) C hP hD hS (by omega) (by omega) (by decide) rfl (Or.inr (gF_up (V := mdV) (F := mdF) (gF_up (V := mdV) (F := mdF) (gR_up (V := mdV) (F := mdF) (gR_up (V := mdV) (F := mdF) (gR_up (V := mdV) (F := mdF) (gR_up (V := mdV) (F := mdF) (gR_up (V := mdV) (F := mdF) (gR_up (V := mdV) (F := mdF) (gR_up (V := mdV) (F := mdF) ⟨hok.1, hok.2⟩ 6 (hP.2.1 6)) 7 (hP.2.1 7)) 8 (hP.2.1 8)) 9 (hP.2.1 9)) 10 (hP.2.1 10)) 11 (hP.2.1 11)) 17 (hP.2.1 17)) 14 (u1_rng (hP.2.2 14) (show 0 ≤ 2 ∧ 2 ≤ 3 from (by decide)))) 16 (hP.2.2 16))) dX11_readKeys_226 (fun H locs hP hS => ?_)
                        refine lv_aload_n hx hb dX11_readKeys_227 rfl (lv_at hl 2 rfl) ?_
                        refine lv_dup hx hb dX11_readKeys_228 rfl ?_
                        refine mdG_newKeys C hP mF_X11_214 dX11_readKeys_229 ?_
                        show W p l e (gRm 2 42) s m args below meth c _ _ 0 0 Q (F0 m 232 ls [.int (iI y17_7), .ref (ad 0)])
                        refine lv_iconst (v := iI 1) hx hb dX11_readKeys_232 rfl ?_
                        refine gi_add (z := (y17_7 + 1)) hx hb dX11_readKeys_233 rfl ?_
                        refine mdP_newKeys (v1 := (va_up (va_up (va_up (va_up (va_up (va_up (va_up v 6 w6_171) 7 w7_171) 8 w8_174) 9 w9_174) 10 w10_174) 11 w11_174) 17 (y17_7 + 1))) C hP hD hS mF_X11_214 (by omega) rfl (Or.inr (gF_up (V := mdV) (F := mdF) (gF_up (V := mdV) (F := mdF) (gR_up (V := mdV) (F := mdF) (gR_up (V := mdV) (F := mdF) (gR_up (V := mdV) (F := mdF) (gR_up (V := mdV) (F := mdF) (gR_up (V := mdV) (F := mdF) (gR_up (V := mdV) (F := mdF) (gR_up (V := mdV) (F := mdF) ⟨hok.1, hok.2⟩ 6 (hP.2.1 6)) 7 (hP.2.1 7)) 8 (hP.2.1 8)) 9 (hP.2.1 9)) 10 (hP.2.1 10)) 11 (hP.2.1 11)) 17 (show 0 ≤ (y17_7 + 1) ∧ (y17_7 + 1) ≤ 4 from by omega)) 14 (hP.2.2 14)) 16 (hP.2.2 16))) dX11_readKeys_234 (fun H locs hP hS => ?_)
                        refine lv_aload_n hx hb dX11_readKeys_237 rfl (lv_at hl 2 rfl) ?_
                        refine g_cv (As := []) (rest := []) (n := 0) C hml (m_X11_next l D k A ad hD (va_up (va_up (va_up (va_up (va_up (va_up (va_up v 6 w6_171) 7 w7_171) 8 w8_174) 9 w9_174) 10 w10_174) 11 w11_174) 17 (y17_7 + 1)) (va_up (va_up f 14 (u1 c14_7 y17_7 2)) 16 (u1 c16_7 y17_7 z_12)) (va_up g 0 b0_174) (show w10_174 ≤ (v 3) from by omega)) mM_X11_201 mI_X11_next mE_X11_next mN_X11 mC_X11_next (by decide +kernel) 0 (ci := 11) rfl rfl hP hS (fun _ h => h) ⟨Nat.le_of_ble_eq_true rfl, Nat.le_of_ble_eq_true rfl⟩ ⟨Nat.zero_le _, Nat.zero_le _⟩ hl.1 rfl rfl (Nat.le_of_ble_eq_true rfl) dX11_readKeys_238 (fun r_197 v_197 f_197 g_197 H locs hq_197 hP _ hS => ?_)
                        obtain ⟨w8_197, w9_197, w10_197, w11_197, b0_197, rfl, rfl, rfl, rfl, p0_197, p1_197⟩ := hq_197
                        show W p l e (gRm 2 42) s m args below meth c _ _ 0 0 Q (F0 m 241 ls [])
                        have hP : gWd D (mdT k ad) (va_up (va_up (va_up (va_up (va_up (va_up (va_up v 6 w6_171) 7 w7_171) 8 w8_197) 9 w9_197) 10 w10_197) 11 w11_197) 17 (y17_7 + 1)) (va_up (va_up f 14 (u1 c14_7 y17_7 2)) 16 (u1 c16_7 y17_7 z_12)) (va_up g 0 b0_197) H := ⟨hP.1, (gF_up (V := mdV) (F := mdF) (gF_up (V := mdV) (F := mdF) (gR_up (V := mdV) (F := mdF) (gR_up (V := mdV) (F := mdF) (gR_up (V := mdV) (F := mdF) (gR_up (V := mdV) (F := mdF) (gR_up (V := mdV) (F := mdF) (gR_up (V := mdV) (F := mdF) (gR_up (V := mdV) (F := mdF) ⟨hok.1, hok.2⟩ 6 (hP.2.1 6)) 7 (hP.2.1 7)) 8 (hP.2.1 8)) 9 (hP.2.1 9)) 10 (hP.2.1 10)) 11 (hP.2.1 11)) 17 (hP.2.1 17)) 14 (hP.2.2 14)) 16 (hP.2.2 16))⟩
                        replace p0_197 : w10_174 ≤ w9_197 ∧ w9_197 ≤ w10_197 ∧ w10_197 ≤ (v 3) := p0_197
                        replace p1_197 : w8_197 ≠ 0 → w9_197 < w10_197 := p1_197
                        have rw8_197 : 0 ≤ w8_197 ∧ w8_197 ≤ 4 := hP.2.1 8
                        have rw9_197 : 0 ≤ w9_197 ∧ w9_197 ≤ 700 := hP.2.1 9
                        have rw10_197 : 0 ≤ w10_197 ∧ w10_197 ≤ 700 := hP.2.1 10
                        have rw11_197 : 0 ≤ w11_197 ∧ w11_197 ≤ 999999 := hP.2.1 11
                        refine lv_aload_n hx hb dX11_readKeys_241 rfl (lv_at hl 2 rfl) ?_
                        refine lv_bipush (v := iI 44) hx hb dX11_readKeys_242 (by decide) ?_
                        refine g_cv (As := [.int (iI 44)]) (rest := []) (n := 1) C hml (m_X11_isSign l D k A ad hD (va_up (va_up (va_up (va_up (va_up (va_up (va_up v 6 w6_171) 7 w7_171) 8 w8_197) 9 w9_197) 10 w10_197) 11 w11_197) 17 (y17_7 + 1)) (va_up (va_up f 14 (u1 c14_7 y17_7 2)) 16 (u1 c16_7 y17_7 z_12)) (va_up g 0 b0_197) 44 (by decide)) mM_X11_204 mI_X11_isSign mE_X11_isSign mN_X11 mC_X11_isSign (by decide +kernel) 0 (ci := 11) rfl rfl hP hS (fun _ h => h) ⟨Nat.le_of_ble_eq_true rfl, Nat.le_of_ble_eq_true rfl⟩ ⟨Nat.zero_le _, Nat.zero_le _⟩ hl.1 rfl rfl (Nat.le_of_ble_eq_true rfl) dX11_readKeys_244 (fun r_198 v_198 f_198 g_198 H locs hq_198 hP _ hS => ?_)
                        obtain ⟨z_198, rfl, rfl, rfl, rfl, p0_198, p1_198⟩ := hq_198
                        show W p l e (gRm 2 42) s m args below meth c _ _ 0 0 Q (F0 m 247 ls [.int (iI z_198)])
                        replace p0_198 : 0 ≤ z_198 ∧ z_198 ≤ 1 := p0_198
                        replace p1_198 : z_198 = 1 → w8_197 = 3 := p1_198
                        refine lv_istore_n (lv' := [(1, .int (iI z_198)), (3, .int (iI 2)), (2, .int (iI z_12)), (0, .ref (ad 0))]) hx hb dX11_readKeys_247 rfl hl (by decide) rfl (fun ls hl => ?_)
                        refine lv_iload_n hx hb dX11_readKeys_248 rfl (lv_at hl 0 rfl) ?_
                        refine gi_zeq (tgt := 256) hx hb dX11_readKeys_249 (by decide) (by omega) (fun c_199 => ?_) (fun c_199 => ?_)
                        · refine lv_goto (tgt := 7) hx hb dX11_readKeys_256 (by decide) ?_
                          exact ih_7 z_198 w6_171 w7_171 w8_197 w9_197 w10_197 w11_197 (y17_7 + 1) (u1 c14_7 y17_7 2) (u1 c16_7 y17_7 z_12) b0_197 _ _ _ (by omega) (by omega) (by omega) (by omega) (by omega) hP hS (lv_sub hl [3, 0] rfl)
                        · refine lv_aload_n hx hb dX11_readKeys_252 rfl (lv_at hl 3 rfl) ?_
                          refine g_cv (As := []) (rest := []) (n := 0) C hml (m_X11_next l D k A ad hD (va_up (va_up (va_up (va_up (va_up (va_up (va_up v 6 w6_171) 7 w7_171) 8 w8_197) 9 w9_197) 10 w10_197) 11 w11_197) 17 (y17_7 + 1)) (va_up (va_up f 14 (u1 c14_7 y17_7 2)) 16 (u1 c16_7 y17_7 z_12)) (va_up g 0 b0_197) (show w10_197 ≤ (v 3) from by omega)) mM_X11_201 mI_X11_next mE_X11_next mN_X11 mC_X11_next (by decide +kernel) 0 (ci := 11) rfl rfl hP hS (fun _ h => h) ⟨Nat.le_of_ble_eq_true rfl, Nat.le_of_ble_eq_true rfl⟩ ⟨Nat.zero_le _, Nat.zero_le _⟩ hl.1 rfl rfl (Nat.le_of_ble_eq_true rfl) dX11_readKeys_253 (fun r_200 v_200 f_200 g_200 H locs hq_200 hP _ hS => ?_)
                          obtain ⟨w8_200, w9_200, w10_200, w11_200, b0_200, rfl, rfl, rfl, rfl, p0_200, p1_200⟩ := hq_200
                          show W p l e (gRm 2 42) s m args below meth c _ _ 0 0 Q (F0 m 256 ls [])
                          have hP : gWd D (mdT k ad) (va_up (va_up (va_up (va_up (va_up (va_up (va_up v 6 w6_171) 7 w7_171) 8 w8_200) 9 w9_200) 10 w10_200) 11 w11_200) 17 (y17_7 + 1)) (va_up (va_up f 14 (u1 c14_7 y17_7 2)) 16 (u1 c16_7 y17_7 z_12)) (va_up g 0 b0_200) H := ⟨hP.1, (gF_up (V := mdV) (F := mdF) (gF_up (V := mdV) (F := mdF) (gR_up (V := mdV) (F := mdF) (gR_up (V := mdV) (F := mdF) (gR_up (V := mdV) (F := mdF) (gR_up (V := mdV) (F := mdF) (gR_up (V := mdV) (F := mdF) (gR_up (V := mdV) (F := mdF) (gR_up (V := mdV) (F := mdF) ⟨hok.1, hok.2⟩ 6 (hP.2.1 6)) 7 (hP.2.1 7)) 8 (hP.2.1 8)) 9 (hP.2.1 9)) 10 (hP.2.1 10)) 11 (hP.2.1 11)) 17 (hP.2.1 17)) 14 (hP.2.2 14)) 16 (hP.2.2 16))⟩
                          replace p0_200 : w10_197 ≤ w9_200 ∧ w9_200 ≤ w10_200 ∧ w10_200 ≤ (v 3) := p0_200
                          replace p1_200 : w8_200 ≠ 0 → w9_200 < w10_200 := p1_200
                          have rw8_200 : 0 ≤ w8_200 ∧ w8_200 ≤ 4 := hP.2.1 8
                          have rw9_200 : 0 ≤ w9_200 ∧ w9_200 ≤ 700 := hP.2.1 9
                          have rw10_200 : 0 ≤ w10_200 ∧ w10_200 ≤ 700 := hP.2.1 10
                          have rw11_200 : 0 ≤ w11_200 ∧ w11_200 ≤ 999999 := hP.2.1 11
                          refine lv_goto (tgt := 7) hx hb dX11_readKeys_256 (by decide) ?_
                          exact ih_7 z_198 w6_171 w7_171 w8_200 w9_200 w10_200 w11_200 (y17_7 + 1) (u1 c14_7 y17_7 2) (u1 c16_7 y17_7 z_12) b0_200 _ _ _ (by omega) (by omega) (by omega) (by omega) (by omega) hP hS (lv_sub hl [3, 0] rfl)
                      · exfalso; omega
                  · refine lv_iconst (v := iI 1) hx hb dX11_readKeys_141 rfl ?_
                    refine lv_goto (tgt := 197) hx hb dX11_readKeys_142 (by decide) ?_
                    refine lv_istore_n (lv' := [(3, .int (iI 1)), (2, .int (iI z_12)), (0, .ref (ad 0)), (1, .int (iI x1))]) hx hb dX11_readKeys_197 rfl hl (by decide) rfl (fun ls hl => ?_)
                    refine lv_iload_n hx hb dX11_readKeys_198 rfl (lv_at hl 0 rfl) ?_
                    refine gi_zge (tgt := 207) hx hb dX11_readKeys_199 (by decide) (by decide) (fun c_201 => ?_) (fun c_201 => ?_)
                    · refine lv_aload_n hx hb dX11_readKeys_207 rfl (lv_at hl 2 rfl) ?_
                      refine mdG_newUp C hP mF_X11_67 dX11_readKeys_208 ?_
                      refine lv_aload_n hx hb dX11_readKeys_211 rfl (lv_at hl 2 rfl) ?_
                      refine mdG_newKeys C hP mF_X11_214 dX11_readKeys_212 ?_
                      show W p l e (gRm 2 42) s m args below meth c _ _ 0 0 Q (F0 m 215 ls [.int (iI y17_7), .ref (ad 17)])
                      have r_202 : 0 ≤ y17_7 ∧ y17_7 ≤ 4 := hP.2.1 17
                      refine lv_iload_n hx hb dX11_readKeys_215 rfl (lv_at hl 1 rfl) ?_
                      refine mdS_newUp (f1 := (va_up (va_up f 14 c14_7) 16 (u1 c16_7 y17_7 z_12))) C hP hD hS (by omega) (by omega) (by omega) (by omega) rfl (Or.inr (gF_up (V := mdV) (F := mdF) (gF_up (V := mdV) (F := mdF) (gR_up (V := mdV) (F := mdF) (gR_up (V := mdV) (F := mdF) (gR_up (V := mdV) (F := mdF) (gR_up (V := mdV) (F := mdF) (gR_up (V := mdV) (F := mdF) (gR_up (V := mdV) (F := mdF) (gR_up (V := mdV) (F := mdF) ⟨hok.1, hok.2⟩ 6 (hP.2.1 6)) 7 (hP.2.1 7)) 8 (hP.2.1 8)) 9 (hP.2.1 9)) 10 (hP.2.1 10)) 11 (hP.2.1 11)) 17 (hP.2.1 17)) 14 (hP.2.2 14)) 16 (u1_rng (hP.2.2 16) (show 0 ≤ z_12 ∧ z_12 ≤ 1 from (by omega))))) dX11_readKeys_216 (fun H locs hP hS => ?_)
                      refine lv_aload_n hx hb dX11_readKeys_217 rfl (lv_at hl 2 rfl) ?_
                      refine mdG_newKey C hP mF_X11_60 dX11_readKeys_218 ?_
                      refine lv_aload_n hx hb dX11_readKeys_221 rfl (lv_at hl 2 rfl) ?_
                      refine mdG_newKeys C hP mF_X11_214 dX11_readKeys_222 ?_
                      show W p l e (gRm 2 42) s m args below meth c _ _ 0 0 Q (F0 m 225 ls [.int (iI y17_7), .ref (ad 15)])
                      refine lv_iload_n hx hb dX11_readKeys_225 rfl (lv_at hl 0 rfl) ?_
                      refine mdS_newKey (f1 := (va_up (va_up f 14 (u1 c14_7 y17_7 1)) 16 (u1 c16_7 y17_7 z_12))) C hP hD hS (by omega) (by omega) (by decide) rfl (Or.inr (gF_up (V := mdV) (F := mdF) (gF_up (V := mdV) (F := mdF) (gR_up (V := mdV) (F := mdF) (gR_up (V := mdV) (F := mdF) (gR_up (V := mdV) (F := mdF) (gR_up (V := mdV) (F := mdF) (gR_up (V := mdV) (F := mdF) (gR_up (V := mdV) (F := mdF) (gR_up (V := mdV) (F := mdF) ⟨hok.1, hok.2⟩ 6 (hP.2.1 6)) 7 (hP.2.1 7)) 8 (hP.2.1 8)) 9 (hP.2.1 9)) 10 (hP.2.1 10)) 11 (hP.2.1 11)) 17 (hP.2.1 17)) 14 (u1_rng (hP.2.2 14) (show 0 ≤ 1 ∧ 1 ≤ 3 from (by decide)))) 16 (hP.2.2 16))) dX11_readKeys_226 (fun H locs hP hS => ?_)
                      refine lv_aload_n hx hb dX11_readKeys_227 rfl (lv_at hl 2 rfl) ?_
                      refine lv_dup hx hb dX11_readKeys_228 rfl ?_
                      refine mdG_newKeys C hP mF_X11_214 dX11_readKeys_229 ?_
                      show W p l e (gRm 2 42) s m args below meth c _ _ 0 0 Q (F0 m 232 ls [.int (iI y17_7), .ref (ad 0)])
                      refine lv_iconst (v := iI 1) hx hb dX11_readKeys_232 rfl ?_
                      refine gi_add (z := (y17_7 + 1)) hx hb dX11_readKeys_233 rfl ?_
                      refine mdP_newKeys (v1 := (va_up (va_up (va_up (va_up (va_up (va_up (va_up v 6 w6_171) 7 w7_171) 8 w8_174) 9 w9_174) 10 w10_174) 11 w11_174) 17 (y17_7 + 1))) C hP hD hS mF_X11_214 (by omega) rfl (Or.inr (gF_up (V := mdV) (F := mdF) (gF_up (V := mdV) (F := mdF) (gR_up (V := mdV) (F := mdF) (gR_up (V := mdV) (F := mdF) (gR_up (V := mdV) (F := mdF) (gR_up (V := mdV) (F := mdF) (gR_up (V := mdV) (F := mdF) (gR_up (V := mdV) (F := mdF) (gR_up (V := mdV) (F := mdF) ⟨hok.1, hok.2⟩ 6 (hP.2.1 6)) 7 (hP.2.1 7)) 8 (hP.2.1 8)) 9 (hP.2.1 9)) 10 (hP.2.1 10)) 11 (hP.2.1 11)) 17 (show 0 ≤ (y17_7 + 1) ∧ (y17_7 + 1) ≤ 4 from by omega)) 14 (hP.2.2 14)) 16 (hP.2.2 16))) dX11_readKeys_234 (fun H locs hP hS => ?_)
                      refine lv_aload_n hx hb dX11_readKeys_237 rfl (lv_at hl 2 rfl) ?_
                      refine g_cv (As := []) (rest := []) (n := 0) C hml (m_X11_next l D k A ad hD (va_up (va_up (va_up (va_up (va_up (va_up (va_up v 6 w6_171) 7 w7_171) 8 w8_174) 9 w9_174) 10 w10_174) 11 w11_174) 17 (y17_7 + 1)) (va_up (va_up f 14 (u1 c14_7 y17_7 1)) 16 (u1 c16_7 y17_7 z_12)) (va_up g 0 b0_174) (show w10_174 ≤ (v 3) from by omega)) mM_X11_201 mI_X11_next mE_X11_next mN_X11 mC_X11_next (by decide +kernel) 0 (ci := 11) rfl rfl hP hS (fun _ h => h) ⟨Nat.le_of_ble_eq_true rfl, Nat.le_of_ble_eq_true rfl⟩ ⟨Nat.zero_le _, Nat.zero_le _⟩ hl.1 rfl rfl (Nat.le_of_ble_eq_true rfl) dX11_readKeys_238 (fun r_203 v_203 f_203 g_203 H locs hq_203 hP _ hS => ?_)
                      obtain ⟨w8_203, w9_203, w10_203, w11_203, b0_203, rfl, rfl, rfl, rfl, p0_203, p1_203⟩ := hq_203
                      show W p l e (gRm 2 42) s m args below meth c _ _ 0 0 Q (F0 m 241 ls [])
                      have hP : gWd D (mdT k ad) (va_up (va_up (va_up (va_up (va_up (va_up (va_up v 6 w6_171) 7 w7_171) 8 w8_203) 9 w9_203) 10 w10_203) 11 w11_203) 17 (y17_7 + 1)) (va_up (va_up f 14 (u1 c14_7 y17_7 1)) 16 (u1 c16_7 y17_7 z_12)) (va_up g 0 b0_203) H := ⟨hP.1, (gF_up (V := mdV) (F := mdF) (gF_up (V := mdV) (F := mdF) (gR_up (V := mdV) (F := mdF) (gR_up (V := mdV) (F := mdF) (gR_up (V := mdV) (F := mdF) (gR_up (V := mdV) (F := mdF) (gR_up (V := mdV) (F := mdF) (gR_up (V := mdV) (F := mdF) (gR_up (V := mdV) (F := mdF) ⟨hok.1, hok.2⟩ 6 (hP.2.1 6)) 7 (hP.2.1 7)) 8 (hP.2.1 8)) 9 (hP.2.1 9)) 10 (hP.2.1 10)) 11 (hP.2.1 11)) 17 (hP.2.1 17)) 14 (hP.2.2 14)) 16 (hP.2.2 16))⟩
                      replace p0_203 : w10_174 ≤ w9_203 ∧ w9_203 ≤ w10_203 ∧ w10_203 ≤ (v 3) := p0_203
                      replace p1_203 : w8_203 ≠ 0 → w9_203 < w10_203 := p1_203
                      have rw8_203 : 0 ≤ w8_203 ∧ w8_203 ≤ 4 := hP.2.1 8
                      have rw9_203 : 0 ≤ w9_203 ∧ w9_203 ≤ 700 := hP.2.1 9
                      have rw10_203 : 0 ≤ w10_203 ∧ w10_203 ≤ 700 := hP.2.1 10
                      have rw11_203 : 0 ≤ w11_203 ∧ w11_203 ≤ 999999 := hP.2.1 11
                      refine lv_aload_n hx hb dX11_readKeys_241 rfl (lv_at hl 2 rfl) ?_
                      refine lv_bipush (v := iI 44) hx hb dX11_readKeys_242 (by decide) ?_
                      refine g_cv (As := [.int (iI 44)]) (rest := []) (n := 1) C hml (m_X11_isSign l D k A ad hD (va_up (va_up (va_up (va_up (va_up (va_up (va_up v 6 w6_171) 7 w7_171) 8 w8_203) 9 w9_203) 10 w10_203) 11 w11_203) 17 (y17_7 + 1)) (va_up (va_up f 14 (u1 c14_7 y17_7 1)) 16 (u1 c16_7 y17_7 z_12)) (va_up g 0 b0_203) 44 (by decide)) mM_X11_204 mI_X11_isSign mE_X11_isSign mN_X11 mC_X11_isSign (by decide +kernel) 0 (ci := 11) rfl rfl hP hS (fun _ h => h) ⟨Nat.le_of_ble_eq_true rfl, Nat.le_of_ble_eq_true rfl⟩ ⟨Nat.zero_le _, Nat.zero_le _⟩ hl.1 rfl rfl (Nat.le_of_ble_eq_true rfl) dX11_readKeys_244 (fun r_204 v_204 f_204 g_204 H locs hq_204 hP _ hS => ?_)
                      obtain ⟨z_204, rfl, rfl, rfl, rfl, p0_204, p1_204⟩ := hq_204
                      show W p l e (gRm 2 42) s m args below meth c _ _ 0 0 Q (F0 m 247 ls [.int (iI z_204)])
                      replace p0_204 : 0 ≤ z_204 ∧ z_204 ≤ 1 := p0_204
                      replace p1_204 : z_204 = 1 → w8_203 = 3 := p1_204
                      refine lv_istore_n (lv' := [(1, .int (iI z_204)), (3, .int (iI 1)), (2, .int (iI z_12)), (0, .ref (ad 0))]) hx hb dX11_readKeys_247 rfl hl (by decide) rfl (fun ls hl => ?_)
                      refine lv_iload_n hx hb dX11_readKeys_248 rfl (lv_at hl 0 rfl) ?_
                      refine gi_zeq (tgt := 256) hx hb dX11_readKeys_249 (by decide) (by omega) (fun c_205 => ?_) (fun c_205 => ?_)
                      · refine lv_goto (tgt := 7) hx hb dX11_readKeys_256 (by decide) ?_
                        exact ih_7 z_204 w6_171 w7_171 w8_203 w9_203 w10_203 w11_203 (y17_7 + 1) (u1 c14_7 y17_7 1) (u1 c16_7 y17_7 z_12) b0_203 _ _ _ (by omega) (by omega) (by omega) (by omega) (by omega) hP hS (lv_sub hl [3, 0] rfl)
                      · refine lv_aload_n hx hb dX11_readKeys_252 rfl (lv_at hl 3 rfl) ?_
                        refine g_cv (As := []) (rest := []) (n := 0) C hml (m_X11_next l D k A ad hD (va_up (va_up (va_up (va_up (va_up (va_up (va_up v 6 w6_171) 7 w7_171) 8 w8_203) 9 w9_203) 10 w10_203) 11 w11_203) 17 (y17_7 + 1)) (va_up (va_up f 14 (u1 c14_7 y17_7 1)) 16 (u1 c16_7 y17_7 z_12)) (va_up g 0 b0_203) (show w10_203 ≤ (v 3) from by omega)) mM_X11_201 mI_X11_next mE_X11_next mN_X11 mC_X11_next (by decide +kernel) 0 (ci := 11) rfl rfl hP hS (fun _ h => h) ⟨Nat.le_of_ble_eq_true rfl, Nat.le_of_ble_eq_true rfl⟩ ⟨Nat.zero_le _, Nat.zero_le _⟩ hl.1 rfl rfl (Nat.le_of_ble_eq_true rfl) dX11_readKeys_253 (fun r_206 v_206 f_206 g_206 H locs hq_206 hP _ hS => ?_)
                        obtain ⟨w8_206, w9_206, w10_206, w11_206, b0_206, rfl, rfl, rfl, rfl, p0_206, p1_206⟩ := hq_206
                        show W p l e (gRm 2 42) s m args below meth c _ _ 0 0 Q (F0 m 256 ls [])
                        have hP : gWd D (mdT k ad) (va_up (va_up (va_up (va_up (va_up (va_up (va_up v 6 w6_171) 7 w7_171) 8 w8_206) 9 w9_206) 10 w10_206) 11 w11_206) 17 (y17_7 + 1)) (va_up (va_up f 14 (u1 c14_7 y17_7 1)) 16 (u1 c16_7 y17_7 z_12)) (va_up g 0 b0_206) H := ⟨hP.1, (gF_up (V := mdV) (F := mdF) (gF_up (V := mdV) (F := mdF) (gR_up (V := mdV) (F := mdF) (gR_up (V := mdV) (F := mdF) (gR_up (V := mdV) (F := mdF) (gR_up (V := mdV) (F := mdF) (gR_up (V := mdV) (F := mdF) (gR_up (V := mdV) (F := mdF) (gR_up (V := mdV) (F := mdF) ⟨hok.1, hok.2⟩ 6 (hP.2.1 6)) 7 (hP.2.1 7)) 8 (hP.2.1 8)) 9 (hP.2.1 9)) 10 (hP.2.1 10)) 11 (hP.2.1 11)) 17 (hP.2.1 17)) 14 (hP.2.2 14)) 16 (hP.2.2 16))⟩
                        replace p0_206 : w10_203 ≤ w9_206 ∧ w9_206 ≤ w10_206 ∧ w10_206 ≤ (v 3) := p0_206
                        replace p1_206 : w8_206 ≠ 0 → w9_206 < w10_206 := p1_206
                        have rw8_206 : 0 ≤ w8_206 ∧ w8_206 ≤ 4 := hP.2.1 8
                        have rw9_206 : 0 ≤ w9_206 ∧ w9_206 ≤ 700 := hP.2.1 9
                        have rw10_206 : 0 ≤ w10_206 ∧ w10_206 ≤ 700 := hP.2.1 10
                        have rw11_206 : 0 ≤ w11_206 ∧ w11_206 ≤ 999999 := hP.2.1 11
                        refine lv_goto (tgt := 7) hx hb dX11_readKeys_256 (by decide) ?_
                        exact ih_7 z_204 w6_171 w7_171 w8_206 w9_206 w10_206 w11_206 (y17_7 + 1) (u1 c14_7 y17_7 1) (u1 c16_7 y17_7 z_12) b0_206 _ _ _ (by omega) (by omega) (by omega) (by omega) (by omega) hP hS (lv_sub hl [3, 0] rfl)
                    · exfalso; omega
                · refine lv_iconst (v := iI 0) hx hb dX11_readKeys_116 rfl ?_
                  refine lv_goto (tgt := 197) hx hb dX11_readKeys_117 (by decide) ?_
                  refine lv_istore_n (lv' := [(3, .int (iI 0)), (2, .int (iI z_12)), (0, .ref (ad 0)), (1, .int (iI x1))]) hx hb dX11_readKeys_197 rfl hl (by decide) rfl (fun ls hl => ?_)
                  refine lv_iload_n hx hb dX11_readKeys_198 rfl (lv_at hl 0 rfl) ?_
                  refine gi_zge (tgt := 207) hx hb dX11_readKeys_199 (by decide) (by decide) (fun c_207 => ?_) (fun c_207 => ?_)
                  · refine lv_aload_n hx hb dX11_readKeys_207 rfl (lv_at hl 2 rfl) ?_
                    refine mdG_newUp C hP mF_X11_67 dX11_readKeys_208 ?_
                    refine lv_aload_n hx hb dX11_readKeys_211 rfl (lv_at hl 2 rfl) ?_
                    refine mdG_newKeys C hP mF_X11_214 dX11_readKeys_212 ?_
                    show W p l e (gRm 2 42) s m args below meth c _ _ 0 0 Q (F0 m 215 ls [.int (iI y17_7), .ref (ad 17)])
                    have r_208 : 0 ≤ y17_7 ∧ y17_7 ≤ 4 := hP.2.1 17
                    refine lv_iload_n hx hb dX11_readKeys_215 rfl (lv_at hl 1 rfl) ?_
                    refine mdS_newUp (f1 := (va_up (va_up f 14 c14_7) 16 (u1 c16_7 y17_7 z_12))) C hP hD hS (by omega) (by omega) (by omega) (by omega) rfl (Or.inr (gF_up (V := mdV) (F := mdF) (gF_up (V := mdV) (F := mdF) (gR_up (V := mdV) (F := mdF) (gR_up (V := mdV) (F := mdF) (gR_up (V := mdV) (F := mdF) (gR_up (V := mdV) (F := mdF) (gR_up (V := mdV) (F := mdF) (gR_up (V := mdV) (F := mdF) (gR_up (V := mdV) (F := mdF) ⟨hok.1, hok.2⟩ 6 (hP.2.1 6)) 7 (hP.2.1 7)) 8 (hP.2.1 8)) 9 (hP.2.1 9)) 10 (hP.2.1 10)) 11 (hP.2.1 11)) 17 (hP.2.1 17)) 14 (hP.2.2 14)) 16 (u1_rng (hP.2.2 16) (show 0 ≤ z_12 ∧ z_12 ≤ 1 from (by omega))))) dX11_readKeys_216 (fun H locs hP hS => ?_)
                    refine lv_aload_n hx hb dX11_readKeys_217 rfl (lv_at hl 2 rfl) ?_
                    refine mdG_newKey C hP mF_X11_60 dX11_readKeys_218 ?_
                    refine lv_aload_n hx hb dX11_readKeys_221 rfl (lv_at hl 2 rfl) ?_
                    refine mdG_newKeys C hP mF_X11_214 dX11_readKeys_222 ?_
                    show W p l e (gRm 2 42) s m args below meth c _ _ 0 0 Q (F0 m 225 ls [.int (iI y17_7), .ref (ad 15)])
                    refine lv_iload_n hx hb dX11_readKeys_225 rfl (lv_at hl 0 rfl) ?_
                    refine mdS_newKey (f1 := (va_up (va_up f 14 (u1 c14_7 y17_7 0)) 16 (u1 c16_7 y17_7 z_12))) C hP hD hS (by omega) (by omega) (by decide) rfl (Or.inr (gF_up (V := mdV) (F := mdF) (gF_up (V := mdV) (F := mdF) (gR_up (V := mdV) (F := mdF) (gR_up (V := mdV) (F := mdF) (gR_up (V := mdV) (F := mdF) (gR_up (V := mdV) (F := mdF) (gR_up (V := mdV) (F := mdF) (gR_up (V := mdV) (F := mdF) (gR_up (V := mdV) (F := mdF) ⟨hok.1, hok.2⟩ 6 (hP.2.1 6)) 7 (hP.2.1 7)) 8 (hP.2.1 8)) 9 (hP.2.1 9)) 10 (hP.2.1 10)) 11 (hP.2.1 11)) 17 (hP.2.1 17)) 14 (u1_rng (hP.2.2 14) (show 0 ≤ 0 ∧ 0 ≤ 3 from (by decide)))) 16 (hP.2.2 16))) dX11_readKeys_226 (fun H locs hP hS => ?_)
                    refine lv_aload_n hx hb dX11_readKeys_227 rfl (lv_at hl 2 rfl) ?_
                    refine lv_dup hx hb dX11_readKeys_228 rfl ?_
                    refine mdG_newKeys C hP mF_X11_214 dX11_readKeys_229 ?_
                    show W p l e (gRm 2 42) s m args below meth c _ _ 0 0 Q (F0 m 232 ls [.int (iI y17_7), .ref (ad 0)])
                    refine lv_iconst (v := iI 1) hx hb dX11_readKeys_232 rfl ?_
                    refine gi_add (z := (y17_7 + 1)) hx hb dX11_readKeys_233 rfl ?_
                    refine mdP_newKeys (v1 := (va_up (va_up (va_up (va_up (va_up (va_up (va_up v 6 w6_171) 7 w7_171) 8 w8_174) 9 w9_174) 10 w10_174) 11 w11_174) 17 (y17_7 + 1))) C hP hD hS mF_X11_214 (by omega) rfl (Or.inr (gF_up (V := mdV) (F := mdF) (gF_up (V := mdV) (F := mdF) (gR_up (V := mdV) (F := mdF) (gR_up (V := mdV) (F := mdF) (gR_up (V := mdV) (F := mdF) (gR_up (V := mdV) (F := mdF) (gR_up (V := mdV) (F := mdF) (gR_up (V := mdV) (F := mdF) (gR_up (V := mdV) (F := mdF) ⟨hok.1, hok.2⟩ 6 (hP.2.1 6)) 7 (hP.2.1 7)) 8 (hP.2.1 8)) 9 (hP.2.1 9)) 10 (hP.2.1 10)) 11 (hP.2.1 11)) 17 (show 0 ≤ (y17_7 + 1) ∧ (y17_7 + 1) ≤ 4 from by omega)) 14 (hP.2.2 14)) 16 (hP.2.2 16))) dX11_readKeys_234 (fun H locs hP hS => ?_)
                    refine lv_aload_n hx hb dX11_readKeys_237 rfl (lv_at hl 2 rfl) ?_
                    refine g_cv (As := []) (rest := []) (n := 0) C hml (m_X11_next l D k A ad hD (va_up (va_up (va_up (va_up (va_up (va_up (va_up v 6 w6_171) 7 w7_171) 8 w8_174) 9 w9_174) 10 w10_174) 11 w11_174) 17 (y17_7 + 1)) (va_up (va_up f 14 (u1 c14_7 y17_7 0)) 16 (u1 c16_7 y17_7 z_12)) (va_up g 0 b0_174) (show w10_174 ≤ (v 3) from by omega)) mM_X11_201 mI_X11_next mE_X11_next mN_X11 mC_X11_next (by decide +kernel) 0 (ci := 11) rfl rfl hP hS (fun _ h => h) ⟨Nat.le_of_ble_eq_true rfl, Nat.le_of_ble_eq_true rfl⟩ ⟨Nat.zero_le _, Nat.zero_le _⟩ hl.1 rfl rfl (Nat.le_of_ble_eq_true rfl) dX11_readKeys_238 (fun r_209 v_209 f_209 g_209 H locs hq_209 hP _ hS => ?_)
                    obtain ⟨w8_209, w9_209, w10_209, w11_209, b0_209, rfl, rfl, rfl, rfl, p0_209, p1_209⟩ := hq_209
                    show W p l e (gRm 2 42) s m args below meth c _ _ 0 0 Q (F0 m 241 ls [])
                    have hP : gWd D (mdT k ad) (va_up (va_up (va_up (va_up (va_up (va_up (va_up v 6 w6_171) 7 w7_171) 8 w8_209) 9 w9_209) 10 w10_209) 11 w11_209) 17 (y17_7 + 1)) (va_up (va_up f 14 (u1 c14_7 y17_7 0)) 16 (u1 c16_7 y17_7 z_12)) (va_up g 0 b0_209) H := ⟨hP.1, (gF_up (V := mdV) (F := mdF) (gF_up (V := mdV) (F := mdF) (gR_up (V := mdV) (F := mdF) (gR_up (V := mdV) (F := mdF) (gR_up (V := mdV) (F := mdF) (gR_up (V := mdV) (F := mdF) (gR_up (V := mdV) (F := mdF) (gR_up (V := mdV) (F := mdF) (gR_up (V := mdV) (F := mdF) ⟨hok.1, hok.2⟩ 6 (hP.2.1 6)) 7 (hP.2.1 7)) 8 (hP.2.1 8)) 9 (hP.2.1 9)) 10 (hP.2.1 10)) 11 (hP.2.1 11)) 17 (hP.2.1 17)) 14 (hP.2.2 14)) 16 (hP.2.2 16))⟩
                    replace p0_209 : w10_174 ≤ w9_209 ∧ w9_209 ≤ w10_209 ∧ w10_209 ≤ (v 3) := p0_209
                    replace p1_209 : w8_209 ≠ 0 → w9_209 < w10_209 := p1_209
                    have rw8_209 : 0 ≤ w8_209 ∧ w8_209 ≤ 4 := hP.2.1 8
                    have rw9_209 : 0 ≤ w9_209 ∧ w9_209 ≤ 700 := hP.2.1 9
                    have rw10_209 : 0 ≤ w10_209 ∧ w10_209 ≤ 700 := hP.2.1 10
                    have rw11_209 : 0 ≤ w11_209 ∧ w11_209 ≤ 999999 := hP.2.1 11
                    refine lv_aload_n hx hb dX11_readKeys_241 rfl (lv_at hl 2 rfl) ?_
                    refine lv_bipush (v := iI 44) hx hb dX11_readKeys_242 (by decide) ?_
                    refine g_cv (As := [.int (iI 44)]) (rest := []) (n := 1) C hml (m_X11_isSign l D k A ad hD (va_up (va_up (va_up (va_up (va_up (va_up (va_up v 6 w6_171) 7 w7_171) 8 w8_209) 9 w9_209) 10 w10_209) 11 w11_209) 17 (y17_7 + 1)) (va_up (va_up f 14 (u1 c14_7 y17_7 0)) 16 (u1 c16_7 y17_7 z_12)) (va_up g 0 b0_209) 44 (by decide)) mM_X11_204 mI_X11_isSign mE_X11_isSign mN_X11 mC_X11_isSign (by decide +kernel) 0 (ci := 11) rfl rfl hP hS (fun _ h => h) ⟨Nat.le_of_ble_eq_true rfl, Nat.le_of_ble_eq_true rfl⟩ ⟨Nat.zero_le _, Nat.zero_le _⟩ hl.1 rfl rfl (Nat.le_of_ble_eq_true rfl) dX11_readKeys_244 (fun r_210 v_210 f_210 g_210 H locs hq_210 hP _ hS => ?_)
                    obtain ⟨z_210, rfl, rfl, rfl, rfl, p0_210, p1_210⟩ := hq_210
                    show W p l e (gRm 2 42) s m args below meth c _ _ 0 0 Q (F0 m 247 ls [.int (iI z_210)])
                    replace p0_210 : 0 ≤ z_210 ∧ z_210 ≤ 1 := p0_210
                    replace p1_210 : z_210 = 1 → w8_209 = 3 := p1_210
                    refine lv_istore_n (lv' := [(1, .int (iI z_210)), (3, .int (iI 0)), (2, .int (iI z_12)), (0, .ref (ad 0))]) hx hb dX11_readKeys_247 rfl hl (by decide) rfl (fun ls hl => ?_)
                    refine lv_iload_n hx hb dX11_readKeys_248 rfl (lv_at hl 0 rfl) ?_
                    refine gi_zeq (tgt := 256) hx hb dX11_readKeys_249 (by decide) (by omega) (fun c_211 => ?_) (fun c_211 => ?_)
                    · refine lv_goto (tgt := 7) hx hb dX11_readKeys_256 (by decide) ?_
                      exact ih_7 z_210 w6_171 w7_171 w8_209 w9_209 w10_209 w11_209 (y17_7 + 1) (u1 c14_7 y17_7 0) (u1 c16_7 y17_7 z_12) b0_209 _ _ _ (by omega) (by omega) (by omega) (by omega) (by omega) hP hS (lv_sub hl [3, 0] rfl)
                    · refine lv_aload_n hx hb dX11_readKeys_252 rfl (lv_at hl 3 rfl) ?_
                      refine g_cv (As := []) (rest := []) (n := 0) C hml (m_X11_next l D k A ad hD (va_up (va_up (va_up (va_up (va_up (va_up (va_up v 6 w6_171) 7 w7_171) 8 w8_209) 9 w9_209) 10 w10_209) 11 w11_209) 17 (y17_7 + 1)) (va_up (va_up f 14 (u1 c14_7 y17_7 0)) 16 (u1 c16_7 y17_7 z_12)) (va_up g 0 b0_209) (show w10_209 ≤ (v 3) from by omega)) mM_X11_201 mI_X11_next mE_X11_next mN_X11 mC_X11_next (by decide +kernel) 0 (ci := 11) rfl rfl hP hS (fun _ h => h) ⟨Nat.le_of_ble_eq_true rfl, Nat.le_of_ble_eq_true rfl⟩ ⟨Nat.zero_le _, Nat.zero_le _⟩ hl.1 rfl rfl (Nat.le_of_ble_eq_true rfl) dX11_readKeys_253 (fun r_212 v_212 f_212 g_212 H locs hq_212 hP _ hS => ?_)
                      obtain ⟨w8_212, w9_212, w10_212, w11_212, b0_212, rfl, rfl, rfl, rfl, p0_212, p1_212⟩ := hq_212
                      show W p l e (gRm 2 42) s m args below meth c _ _ 0 0 Q (F0 m 256 ls [])
                      have hP : gWd D (mdT k ad) (va_up (va_up (va_up (va_up (va_up (va_up (va_up v 6 w6_171) 7 w7_171) 8 w8_212) 9 w9_212) 10 w10_212) 11 w11_212) 17 (y17_7 + 1)) (va_up (va_up f 14 (u1 c14_7 y17_7 0)) 16 (u1 c16_7 y17_7 z_12)) (va_up g 0 b0_212) H := ⟨hP.1, (gF_up (V := mdV) (F := mdF) (gF_up (V := mdV) (F := mdF) (gR_up (V := mdV) (F := mdF) (gR_up (V := mdV) (F := mdF) (gR_up (V := mdV) (F := mdF) (gR_up (V := mdV) (F := mdF) (gR_up (V := mdV) (F := mdF) (gR_up (V := mdV) (F := mdF) (gR_up (V := mdV) (F := mdF) ⟨hok.1, hok.2⟩ 6 (hP.2.1 6)) 7 (hP.2.1 7)) 8 (hP.2.1 8)) 9 (hP.2.1 9)) 10 (hP.2.1 10)) 11 (hP.2.1 11)) 17 (hP.2.1 17)) 14 (hP.2.2 14)) 16 (hP.2.2 16))⟩
                      replace p0_212 : w10_209 ≤ w9_212 ∧ w9_212 ≤ w10_212 ∧ w10_212 ≤ (v 3) := p0_212
                      replace p1_212 : w8_212 ≠ 0 → w9_212 < w10_212 := p1_212
                      have rw8_212 : 0 ≤ w8_212 ∧ w8_212 ≤ 4 := hP.2.1 8
                      have rw9_212 : 0 ≤ w9_212 ∧ w9_212 ≤ 700 := hP.2.1 9
                      have rw10_212 : 0 ≤ w10_212 ∧ w10_212 ≤ 700 := hP.2.1 10
                      have rw11_212 : 0 ≤ w11_212 ∧ w11_212 ≤ 999999 := hP.2.1 11
                      refine lv_goto (tgt := 7) hx hb dX11_readKeys_256 (by decide) ?_
                      exact ih_7 z_210 w6_171 w7_171 w8_212 w9_212 w10_212 w11_212 (y17_7 + 1) (u1 c14_7 y17_7 0) (u1 c16_7 y17_7 z_12) b0_212 _ _ _ (by omega) (by omega) (by omega) (by omega) (by omega) hP hS (lv_sub hl [3, 0] rfl)
                  · exfalso; omega
              · exact g_vret hQ C hr hlocks hP hS dX11_readKeys_91 ⟨w6_171, w7_171, y8_7, y9_7, y10_7, y11_7, y17_7, c14_7, c16_7, d0_7, rfl, rfl, rfl, rfl, (by first | omega | (split <;> omega)), (by first | omega | (split <;> omega))⟩
  exact L_7 701 1 (v 6) (v 7) (v 8) (v 9) (v 10) (v 11) 0 (f 14) (f 16) (g 0) _ _ _ (by omega) (by omega) (by omega) (by omega) (by omega) hP hS (lv_sub hl [1, 0] rfl)

set_option maxHeartbeats 40000000 in
set_option maxRecDepth 100000 in
theorem m_X11_readLaw (l : Launch) (D : va_G) (k : Nat → ClassId) (A : Nat → Prop) (ad : Nat → Nat) (hD : mdD A k ad) (v : gV) (f g : gF) (a1 : Int) (h_a1 : inR a1) (hj : (v 9) ≤ (v 10) ∧ (v 10) ≤ (v 3) ∧ ((v 8) ≠ 0 → (v 9) < (v 10))) (hb0 : (v 6) = 0) (hs : (v 8) ≠ 0) (h1 : 0 ≤ a1 ∧ a1 ≤ 3) (hrp : rpOk (v 16) (f 11) ∧ (v 16) ≤ 40) : GM l D k A (mdT k ad) yX11_readLaw cX11_readLaw 2 none 4 92 [.ref (ad 0), .int (iI a1)] v f g (fun r v1 f1 g1 => ∃ (w6 : Int) (w7 : Int) (w8 : Int) (w9 : Int) (w10 : Int) (w11 : Int) (w16 : Int) (w20 : Int) (w21 : Int) (w27 : Int) (w17 : Int) (w15 : Int) (w19 : Int) (a11_ : Int → Int) (a12_ : Int → Int) (a17_ : Int → Int) (a14_ : Int → Int) (a16_ : Int → Int) (a5_ : Int → Int) (a6_ : Int → Int) (a7_ : Int → Int) (a8_ : Int → Int) (b0_ : Int → Int), r = none ∧ (va_up (va_up (va_up (va_up (va_up (va_up (va_up (va_up (va_up (va_up (va_up (va_up (va_up v 6 w6) 7 w7) 8 w8) 9 w9) 10 w10) 11 w11) 16 w16) 20 w20) 21 w21) 27 w27) 17 w17) 15 w15) 19 w19) = v1 ∧ (va_up (va_up (va_up (va_up (va_up (va_up (va_up (va_up (va_up f 11 a11_) 12 a12_) 17 a17_) 14 a14_) 16 a16_) 5 a5_) 6 a6_) 7 a7_) 8 a8_) = f1 ∧ (va_up g 0 b0_) = g1 ∧ ((v 9) ≤ w9 ∧ w9 ≤ w10 ∧ w10 ≤ (v 3)) ∧ (w8 ≠ 0 → w9 < w10) ∧ (w6 = 0 → (v 9) < w9) ∧ (w6 = 0 → rpOk w16 a11_ ∧ w16 ≤ 40)) := by
  refine GM.of (by decide) (Nat.le_of_ble_eq_true rfl) ?_
  intro p e s m args below meth c Q ls hQ C hml hr hlocks hP hl
  have hx := C.1
  have hb := C.2.1
  have hok := hP.2
  have hS : va_S A s.heap s.heap [] := va_S.rf
  have hl : lv_has ls 2 [(0, .ref (ad 0)), (1, .int (iI a1))] := hl
  have hP : gWd D (mdT k ad) (va_up (va_up (va_up (va_up (va_up (va_up (va_up (va_up (va_up (va_up (va_up (va_up (va_up v 6 (v 6)) 7 (v 7)) 8 (v 8)) 9 (v 9)) 10 (v 10)) 11 (v 11)) 16 (v 16)) 20 (v 20)) 21 (v 21)) 27 (v 27)) 17 (v 17)) 15 (v 15)) 19 (v 19)) (va_up (va_up (va_up (va_up (va_up (va_up (va_up (va_up (va_up f 11 (f 11)) 12 (f 12)) 17 (f 17)) 14 (f 14)) 16 (f 16)) 5 (f 5)) 6 (f 6)) 7 (f 7)) 8 (f 8)) (va_up g 0 (g 0)) s.heap := by rw [va_id, va_id, va_id, va_id, va_id, va_id, va_id, va_id, va_id, va_id, va_id, va_id, va_id, va_id, va_id, va_id, va_id, va_id, va_id, va_id, va_id, va_id, va_id]; exact hP
  have r_1 : 0 ≤ (v 9) ∧ (v 9) ≤ 700 := hok.1 9
  have r_2 : 0 ≤ (v 10) ∧ (v 10) ≤ 700 := hok.1 10
  have r_3 : 0 ≤ (v 3) ∧ (v 3) ≤ 700 := hok.1 3
  have r_4 : 0 ≤ (v 8) ∧ (v 8) ≤ 4 := hok.1 8
  have r_5 : 0 ≤ (v 6) ∧ (v 6) ≤ 5 := hok.1 6
  have r_6 : 0 ≤ (v 17) ∧ (v 17) ≤ 4 := hok.1 17
  have r_7 : 0 ≤ (v 15) ∧ (v 15) ≤ 4 := hok.1 15
  refine lv_iload_n hx hb dX11_readLaw_0 rfl (lv_at hl 1 rfl) ?_
  refine gi_zne (tgt := 22) hx hb dX11_readLaw_1 (by decide) (by omega) (fun c_8 => ?_) (fun c_8 => ?_)
  · refine lv_aload_n hx hb dX11_readLaw_22 rfl (lv_at hl 0 rfl) ?_
    refine g_cv (As := []) (rest := []) (n := 0) C hml (m_X11_next l D k A ad hD (va_up (va_up (va_up (va_up (va_up (va_up (va_up (va_up (va_up (va_up (va_up (va_up (va_up v 6 (v 6)) 7 (v 7)) 8 (v 8)) 9 (v 9)) 10 (v 10)) 11 (v 11)) 16 (v 16)) 20 (v 20)) 21 (v 21)) 27 (v 27)) 17 (v 17)) 15 (v 15)) 19 (v 19)) (va_up (va_up (va_up (va_up (va_up (va_up (va_up (va_up (va_up f 11 (f 11)) 12 (f 12)) 17 (f 17)) 14 (f 14)) 16 (f 16)) 5 (f 5)) 6 (f 6)) 7 (f 7)) 8 (f 8)) (va_up g 0 (g 0)) (show (v 10) ≤ (v 3) from by omega)) mM_X11_201 mI_X11_next mE_X11_next mN_X11 mC_X11_next (by decide +kernel) 0 (ci := 11) rfl rfl hP hS (fun _ h => h) ⟨Nat.le_of_ble_eq_true rfl, Nat.le_of_ble_eq_true rfl⟩ ⟨Nat.zero_le _, Nat.zero_le _⟩ hl.1 rfl rfl (Nat.le_of_ble_eq_true rfl) dX11_readLaw_23 (fun r_9 v_9 f_9 g_9 H locs hq_9 hP _ hS => ?_)
    obtain ⟨w8_9, w9_9, w10_9, w11_9, b0_9, rfl, rfl, rfl, rfl, p0_9, p1_9⟩ := hq_9
    show W p l e (gRm 4 92) s m args below meth c _ _ 0 0 Q (F0 m 26 ls [])
    have hP : gWd D (mdT k ad) (va_up (va_up (va_up (va_up (va_up (va_up (va_up (va_up (va_up (va_up (va_up (va_up (va_up v 6 (v 6)) 7 (v 7)) 8 w8_9) 9 w9_9) 10 w10_9) 11 w11_9) 16 (v 16)) 20 (v 20)) 21 (v 21)) 27 (v 27)) 17 (v 17)) 15 (v 15)) 19 (v 19)) (va_up (va_up (va_up (va_up (va_up (va_up (va_up (va_up (va_up f 11 (f 11)) 12 (f 12)) 17 (f 17)) 14 (f 14)) 16 (f 16)) 5 (f 5)) 6 (f 6)) 7 (f 7)) 8 (f 8)) (va_up g 0 b0_9) H := ⟨hP.1, (gF_up (V := mdV) (F := mdF) (gF_up (V := mdV) (F := mdF) (gF_up (V := mdV) (F := mdF) (gF_up (V := mdV) (F := mdF) (gF_up (V := mdV) (F := mdF) (gF_up (V := mdV) (F := mdF) (gF_up (V := mdV) (F := mdF) (gF_up (V := mdV) (F := mdF) (gF_up (V := mdV) (F := mdF) (gR_up (V := mdV) (F := mdF) (gR_up (V := mdV) (F := mdF) (gR_up (V := mdV) (F := mdF) (gR_up (V := mdV) (F := mdF) (gR_up (V := mdV) (F := mdF) (gR_up (V := mdV) (F := mdF) (gR_up (V := mdV) (F := mdF) (gR_up (V := mdV) (F := mdF) (gR_up (V := mdV) (F := mdF) (gR_up (V := mdV) (F := mdF) (gR_up (V := mdV) (F := mdF) (gR_up (V := mdV) (F := mdF) (gR_up (V := mdV) (F := mdF) ⟨hok.1, hok.2⟩ 6 (hP.2.1 6)) 7 (hP.2.1 7)) 8 (hP.2.1 8)) 9 (hP.2.1 9)) 10 (hP.2.1 10)) 11 (hP.2.1 11)) 16 (hP.2.1 16)) 20 (hP.2.1 20)) 21 (hP.2.1 21)) 27 (hP.2.1 27)) 17 (hP.2.1 17)) 15 (hP.2.1 15)) 19 (hP.2.1 19)) 11 (hP.2.2 11)) 12 (hP.2.2 12)) 17 (hP.2.2 17)) 14 (hP.2.2 14)) 16 (hP.2.2 16)) 5 (hP.2.2 5)) 6 (hP.2.2 6)) 7 (hP.2.2 7)) 8 (hP.2.2 8))⟩
    replace p0_9 : (v 10) ≤ w9_9 ∧ w9_9 ≤ w10_9 ∧ w10_9 ≤ (v 3) := p0_9
    replace p1_9 : w8_9 ≠ 0 → w9_9 < w10_9 := p1_9
    have rw8_9 : 0 ≤ w8_9 ∧ w8_9 ≤ 4 := hP.2.1 8
    have rw9_9 : 0 ≤ w9_9 ∧ w9_9 ≤ 700 := hP.2.1 9
    have rw10_9 : 0 ≤ w10_9 ∧ w10_9 ≤ 700 := hP.2.1 10
    have rw11_9 : 0 ≤ w11_9 ∧ w11_9 ≤ 999999 := hP.2.1 11
    refine lv_iload_n hx hb dX11_readLaw_26 rfl (lv_at hl 1 rfl) ?_
    by_cases c_10_0 : a1 = 0
    · refine lv_tableIn (off := 25) (tgt := 52) hx hb dX11_readLaw_27 (by rw [c_10_0]; decide) (by rw [c_10_0]; decide) (by rw [c_10_0]; rfl) (by decide) ?_
      refine lv_aload_n hx hb dX11_readLaw_52 rfl (lv_at hl 0 rfl) ?_
      refine mdG_newRoutes C hP mF_X11_33 dX11_readLaw_53 ?_
      refine lv_aload_n hx hb dX11_readLaw_56 rfl (lv_at hl 0 rfl) ?_
      refine mdG_newRounds C hP mF_X11_207 dX11_readLaw_57 ?_
      show W p l e (gRm 4 92) s m args below meth c _ _ 0 0 Q (F0 m 60 ls [.int (iI (v 15)), .ref (ad 6)])
      refine lv_aload_n hx hb dX11_readLaw_60 rfl (lv_at hl 0 rfl) ?_
      refine lv_iconst (v := iI 1) hx hb dX11_readLaw_61 rfl ?_
      refine lv_iconst (v := iI 5) hx hb dX11_readLaw_62 rfl ?_
      refine g_cv (As := [.int (iI 1), .int (iI 5)]) (rest := [.int (iI (v 15)), .ref (ad 6)]) (n := 2) C hml (m_X11_numberOf l D k A ad hD (va_up (va_up (va_up (va_up (va_up (va_up (va_up (va_up (va_up (va_up (va_up (va_up (va_up v 6 (v 6)) 7 (v 7)) 8 w8_9) 9 w9_9) 10 w10_9) 11 w11_9) 16 (v 16)) 20 (v 20)) 21 (v 21)) 27 (v 27)) 17 (v 17)) 15 (v 15)) 19 (v 19)) (va_up (va_up (va_up (va_up (va_up (va_up (va_up (va_up (va_up f 11 (f 11)) 12 (f 12)) 17 (f 17)) 14 (f 14)) 16 (f 16)) 5 (f 5)) 6 (f 6)) 7 (f 7)) 8 (f 8)) (va_up g 0 b0_9) 1 5 (by decide) (by decide) (show w9_9 ≤ w10_9 ∧ w10_9 ≤ (v 3) ∧ (w8_9 ≠ 0 → w9_9 < w10_9) from by omega) (show 0 ≤ (1 : Int) ∧ (1 : Int) ≤ (5 : Int) ∧ (5 : Int) ≤ 999 from by omega)) mM_X11_236 mI_X11_numberOf mE_X11_numberOf mN_X11 mC_X11_numberOf (by decide +kernel) 0 (ci := 11) rfl rfl hP hS (fun _ h => h) ⟨Nat.le_of_ble_eq_true rfl, Nat.le_of_ble_eq_true rfl⟩ ⟨Nat.zero_le _, Nat.zero_le _⟩ hl.1 rfl rfl (Nat.le_of_ble_eq_true rfl) dX11_readLaw_63 (fun r_11 v_11 f_11 g_11 H locs hq_11 hP _ hS => ?_)
      obtain ⟨z_11, w6_11, w7_11, w8_11, w9_11, w10_11, w11_11, b0_11, rfl, rfl, rfl, rfl, p0_11, p1_11, p2_11, p3_11⟩ := hq_11
      show W p l e (gRm 4 92) s m args below meth c _ _ 0 0 Q (F0 m 66 ls [.int (iI z_11), .int (iI (v 15)), .ref (ad 6)])
      have hP : gWd D (mdT k ad) (va_up (va_up (va_up (va_up (va_up (va_up (va_up (va_up (va_up (va_up (va_up (va_up (va_up v 6 w6_11) 7 w7_11) 8 w8_11) 9 w9_11) 10 w10_11) 11 w11_11) 16 (v 16)) 20 (v 20)) 21 (v 21)) 27 (v 27)) 17 (v 17)) 15 (v 15)) 19 (v 19)) (va_up (va_up (va_up (va_up (va_up (va_up (va_up (va_up (va_up f 11 (f 11)) 12 (f 12)) 17 (f 17)) 14 (f 14)) 16 (f 16)) 5 (f 5)) 6 (f 6)) 7 (f 7)) 8 (f 8)) (va_up g 0 b0_11) H := ⟨hP.1, (gF_up (V := mdV) (F := mdF) (gF_up (V := mdV) (F := mdF) (gF_up (V := mdV) (F := mdF) (gF_up (V := mdV) (F := mdF) (gF_up (V := mdV) (F := mdF) (gF_up (V := mdV) (F := mdF) (gF_up (V := mdV) (F := mdF) (gF_up (V := mdV) (F := mdF) (gF_up (V := mdV) (F := mdF) (gR_up (V := mdV) (F := mdF) (gR_up (V := mdV) (F := mdF) (gR_up (V := mdV) (F := mdF) (gR_up (V := mdV) (F := mdF) (gR_up (V := mdV) (F := mdF) (gR_up (V := mdV) (F := mdF) (gR_up (V := mdV) (F := mdF) (gR_up (V := mdV) (F := mdF) (gR_up (V := mdV) (F := mdF) (gR_up (V := mdV) (F := mdF) (gR_up (V := mdV) (F := mdF) (gR_up (V := mdV) (F := mdF) (gR_up (V := mdV) (F := mdF) ⟨hok.1, hok.2⟩ 6 (hP.2.1 6)) 7 (hP.2.1 7)) 8 (hP.2.1 8)) 9 (hP.2.1 9)) 10 (hP.2.1 10)) 11 (hP.2.1 11)) 16 (hP.2.1 16)) 20 (hP.2.1 20)) 21 (hP.2.1 21)) 27 (hP.2.1 27)) 17 (hP.2.1 17)) 15 (hP.2.1 15)) 19 (hP.2.1 19)) 11 (hP.2.2 11)) 12 (hP.2.2 12)) 17 (hP.2.2 17)) 14 (hP.2.2 14)) 16 (hP.2.2 16)) 5 (hP.2.2 5)) 6 (hP.2.2 6)) 7 (hP.2.2 7)) 8 (hP.2.2 8))⟩
      replace p0_11 : (1 : Int) ≤ z_11 ∧ z_11 ≤ (5 : Int) := p0_11
      replace p1_11 : w9_9 ≤ w9_11 ∧ w9_11 ≤ w10_11 ∧ w10_11 ≤ (v 3) := p1_11
      replace p2_11 : w8_11 ≠ 0 → w9_11 < w10_11 := p2_11
      replace p3_11 : 0 < (v 6) → 0 < w6_11 := p3_11
      have rw6_11 : 0 ≤ w6_11 ∧ w6_11 ≤ 5 := hP.2.1 6
      have rw7_11 : 0 ≤ w7_11 ∧ w7_11 ≤ 700 := hP.2.1 7
      have rw8_11 : 0 ≤ w8_11 ∧ w8_11 ≤ 4 := hP.2.1 8
      have rw9_11 : 0 ≤ w9_11 ∧ w9_11 ≤ 700 := hP.2.1 9
      have rw10_11 : 0 ≤ w10_11 ∧ w10_11 ≤ 700 := hP.2.1 10
      have rw11_11 : 0 ≤ w11_11 ∧ w11_11 ≤ 999999 := hP.2.1 11
      have hz_11 : inR z_11 := (by first | omega | (rw [p0_11]; split <;> omega))
      refine mdS_newRoutes (f1 := (va_up (va_up (va_up (va_up (va_up (va_up (va_up (va_up (va_up f 11 (f 11)) 12 (f 12)) 17 (f 17)) 14 (f 14)) 16 (f 16)) 5 (u1 (f 5) (v 15) z_11)) 6 (f 6)) 7 (f 7)) 8 (f 8))) C hP hD hS (by omega) (by omega) (by omega) rfl (Or.inr (gF_up (V := mdV) (F := mdF) (gF_up (V := mdV) (F := mdF) (gF_up (V := mdV) (F := mdF) (gF_up (V := mdV) (F := mdF) (gF_up (V := mdV) (F := mdF) (gF_up (V := mdV) (F := mdF) (gF_up (V := mdV) (F := mdF) (gF_up (V := mdV) (F := mdF) (gF_up (V := mdV) (F := mdF) (gR_up (V := mdV) (F := mdF) (gR_up (V := mdV) (F := mdF) (gR_up (V := mdV) (F := mdF) (gR_up (V := mdV) (F := mdF) (gR_up (V := mdV) (F := mdF) (gR_up (V := mdV) (F := mdF) (gR_up (V := mdV) (F := mdF) (gR_up (V := mdV) (F := mdF) (gR_up (V := mdV) (F := mdF) (gR_up (V := mdV) (F := mdF) (gR_up (V := mdV) (F := mdF) (gR_up (V := mdV) (F := mdF) (gR_up (V := mdV) (F := mdF) ⟨hok.1, hok.2⟩ 6 (hP.2.1 6)) 7 (hP.2.1 7)) 8 (hP.2.1 8)) 9 (hP.2.1 9)) 10 (hP.2.1 10)) 11 (hP.2.1 11)) 16 (hP.2.1 16)) 20 (hP.2.1 20)) 21 (hP.2.1 21)) 27 (hP.2.1 27)) 17 (hP.2.1 17)) 15 (hP.2.1 15)) 19 (hP.2.1 19)) 11 (hP.2.2 11)) 12 (hP.2.2 12)) 17 (hP.2.2 17)) 14 (hP.2.2 14)) 16 (hP.2.2 16)) 5 (u1_rng (hP.2.2 5) (show 0 ≤ z_11 ∧ z_11 ≤ 5 from (by omega)))) 6 (hP.2.2 6)) 7 (hP.2.2 7)) 8 (hP.2.2 8))) dX11_readLaw_66 (fun H locs hP hS => ?_)
      refine lv_aload_n hx hb dX11_readLaw_67 rfl (lv_at hl 0 rfl) ?_
      refine mdG_newTries C hP mF_X11_36 dX11_readLaw_68 ?_
      refine lv_aload_n hx hb dX11_readLaw_71 rfl (lv_at hl 0 rfl) ?_
      refine mdG_newRounds C hP mF_X11_207 dX11_readLaw_72 ?_
      show W p l e (gRm 4 92) s m args below meth c _ _ 0 0 Q (F0 m 75 ls [.int (iI (v 15)), .ref (ad 7)])
      refine lv_aload_n hx hb dX11_readLaw_75 rfl (lv_at hl 0 rfl) ?_
      refine mdG_bad C hP mF_X11_188 dX11_readLaw_76 ?_
      show W p l e (gRm 4 92) s m args below meth c _ _ 0 0 Q (F0 m 79 ls [.int (iI w6_11), .int (iI (v 15)), .ref (ad 7)])
      have r_12 : 0 ≤ w6_11 ∧ w6_11 ≤ 5 := hP.2.1 6
      refine gi_zne (tgt := 92) hx hb dX11_readLaw_79 (by decide) (by omega) (fun c_13 => ?_) (fun c_13 => ?_)
      · refine lv_iconst (v := iI 1) hx hb dX11_readLaw_92 rfl ?_
        refine mdS_newTries (f1 := (va_up (va_up (va_up (va_up (va_up (va_up (va_up (va_up (va_up f 11 (f 11)) 12 (f 12)) 17 (f 17)) 14 (f 14)) 16 (f 16)) 5 (u1 (f 5) (v 15) z_11)) 6 (u1 (f 6) (v 15) 1)) 7 (f 7)) 8 (f 8))) C hP hD hS (by omega) (by omega) (by decide) rfl (Or.inr (gF_up (V := mdV) (F := mdF) (gF_up (V := mdV) (F := mdF) (gF_up (V := mdV) (F := mdF) (gF_up (V := mdV) (F := mdF) (gF_up (V := mdV) (F := mdF) (gF_up (V := mdV) (F := mdF) (gF_up (V := mdV) (F := mdF) (gF_up (V := mdV) (F := mdF) (gF_up (V := mdV) (F := mdF) (gR_up (V := mdV) (F := mdF) (gR_up (V := mdV) (F := mdF) (gR_up (V := mdV) (F := mdF) (gR_up (V := mdV) (F := mdF) (gR_up (V := mdV) (F := mdF) (gR_up (V := mdV) (F := mdF) (gR_up (V := mdV) (F := mdF) (gR_up (V := mdV) (F := mdF) (gR_up (V := mdV) (F := mdF) (gR_up (V := mdV) (F := mdF) (gR_up (V := mdV) (F := mdF) (gR_up (V := mdV) (F := mdF) (gR_up (V := mdV) (F := mdF) ⟨hok.1, hok.2⟩ 6 (hP.2.1 6)) 7 (hP.2.1 7)) 8 (hP.2.1 8)) 9 (hP.2.1 9)) 10 (hP.2.1 10)) 11 (hP.2.1 11)) 16 (hP.2.1 16)) 20 (hP.2.1 20)) 21 (hP.2.1 21)) 27 (hP.2.1 27)) 17 (hP.2.1 17)) 15 (hP.2.1 15)) 19 (hP.2.1 19)) 11 (hP.2.2 11)) 12 (hP.2.2 12)) 17 (hP.2.2 17)) 14 (hP.2.2 14)) 16 (hP.2.2 16)) 5 (hP.2.2 5)) 6 (u1_rng (hP.2.2 6) (show 0 ≤ 1 ∧ 1 ≤ 9 from (by decide)))) 7 (hP.2.2 7)) 8 (hP.2.2 8))) dX11_readLaw_93 (fun H locs hP hS => ?_)
        refine lv_aload_n hx hb dX11_readLaw_94 rfl (lv_at hl 0 rfl) ?_
        refine mdG_newSeconds C hP mF_X11_39 dX11_readLaw_95 ?_
        refine lv_aload_n hx hb dX11_readLaw_98 rfl (lv_at hl 0 rfl) ?_
        refine mdG_newRounds C hP mF_X11_207 dX11_readLaw_99 ?_
        show W p l e (gRm 4 92) s m args below meth c _ _ 0 0 Q (F0 m 102 ls [.int (iI (v 15)), .ref (ad 8)])
        refine lv_aload_n hx hb dX11_readLaw_102 rfl (lv_at hl 0 rfl) ?_
        refine mdG_bad C hP mF_X11_188 dX11_readLaw_103 ?_
        show W p l e (gRm 4 92) s m args below meth c _ _ 0 0 Q (F0 m 106 ls [.int (iI w6_11), .int (iI (v 15)), .ref (ad 8)])
        refine gi_zne (tgt := 121) hx hb dX11_readLaw_106 (by decide) (by omega) (fun c_14 => ?_) (fun c_14 => ?_)
        · refine lv_bipush (v := iI 10) hx hb dX11_readLaw_121 (by decide) ?_
          refine mdS_newSeconds (f1 := (va_up (va_up (va_up (va_up (va_up (va_up (va_up (va_up (va_up f 11 (f 11)) 12 (f 12)) 17 (f 17)) 14 (f 14)) 16 (f 16)) 5 (u1 (f 5) (v 15) z_11)) 6 (u1 (f 6) (v 15) 1)) 7 (u1 (f 7) (v 15) 10)) 8 (f 8))) C hP hD hS (by omega) (by omega) (by decide) rfl (Or.inr (gF_up (V := mdV) (F := mdF) (gF_up (V := mdV) (F := mdF) (gF_up (V := mdV) (F := mdF) (gF_up (V := mdV) (F := mdF) (gF_up (V := mdV) (F := mdF) (gF_up (V := mdV) (F := mdF) (gF_up (V := mdV) (F := mdF) (gF_up (V := mdV) (F := mdF) (gF_up (V := mdV) (F := mdF) (gR_up (V := mdV) (F := mdF) (gR_up (V := mdV) (F := mdF) (gR_up (V := mdV) (F := mdF) (gR_up (V := mdV) (F := mdF) (gR_up (V := mdV) (F := mdF) (gR_up (V := mdV) (F := mdF) (gR_up (V := mdV) (F := mdF) (gR_up (V := mdV) (F := mdF) (gR_up (V := mdV) (F := mdF) (gR_up (V := mdV) (F := mdF) (gR_up (V := mdV) (F := mdF) (gR_up (V := mdV) (F := mdF) (gR_up (V := mdV) (F := mdF) ⟨hok.1, hok.2⟩ 6 (hP.2.1 6)) 7 (hP.2.1 7)) 8 (hP.2.1 8)) 9 (hP.2.1 9)) 10 (hP.2.1 10)) 11 (hP.2.1 11)) 16 (hP.2.1 16)) 20 (hP.2.1 20)) 21 (hP.2.1 21)) 27 (hP.2.1 27)) 17 (hP.2.1 17)) 15 (hP.2.1 15)) 19 (hP.2.1 19)) 11 (hP.2.2 11)) 12 (hP.2.2 12)) 17 (hP.2.2 17)) 14 (hP.2.2 14)) 16 (hP.2.2 16)) 5 (hP.2.2 5)) 6 (hP.2.2 6)) 7 (u1_rng (hP.2.2 7) (show 0 ≤ 10 ∧ 10 ≤ 999 from (by decide)))) 8 (hP.2.2 8))) dX11_readLaw_123 (fun H locs hP hS => ?_)
          refine lv_aload_n hx hb dX11_readLaw_124 rfl (lv_at hl 0 rfl) ?_
          refine mdG_newRest C hP mF_X11_42 dX11_readLaw_125 ?_
          refine lv_aload_n hx hb dX11_readLaw_128 rfl (lv_at hl 0 rfl) ?_
          refine mdG_newRounds C hP mF_X11_207 dX11_readLaw_129 ?_
          show W p l e (gRm 4 92) s m args below meth c _ _ 0 0 Q (F0 m 132 ls [.int (iI (v 15)), .ref (ad 9)])
          refine lv_aload_n hx hb dX11_readLaw_132 rfl (lv_at hl 0 rfl) ?_
          refine mdG_bad C hP mF_X11_188 dX11_readLaw_133 ?_
          show W p l e (gRm 4 92) s m args below meth c _ _ 0 0 Q (F0 m 136 ls [.int (iI w6_11), .int (iI (v 15)), .ref (ad 9)])
          refine gi_zne (tgt := 150) hx hb dX11_readLaw_136 (by decide) (by omega) (fun c_15 => ?_) (fun c_15 => ?_)
          · refine lv_iconst (v := iI 0) hx hb dX11_readLaw_150 rfl ?_
            refine mdS_newRest (f1 := (va_up (va_up (va_up (va_up (va_up (va_up (va_up (va_up (va_up f 11 (f 11)) 12 (f 12)) 17 (f 17)) 14 (f 14)) 16 (f 16)) 5 (u1 (f 5) (v 15) z_11)) 6 (u1 (f 6) (v 15) 1)) 7 (u1 (f 7) (v 15) 10)) 8 (u1 (f 8) (v 15) 0))) C hP hD hS (by omega) (by omega) (by decide) rfl (Or.inr (gF_up (V := mdV) (F := mdF) (gF_up (V := mdV) (F := mdF) (gF_up (V := mdV) (F := mdF) (gF_up (V := mdV) (F := mdF) (gF_up (V := mdV) (F := mdF) (gF_up (V := mdV) (F := mdF) (gF_up (V := mdV) (F := mdF) (gF_up (V := mdV) (F := mdF) (gF_up (V := mdV) (F := mdF) (gR_up (V := mdV) (F := mdF) (gR_up (V := mdV) (F := mdF) (gR_up (V := mdV) (F := mdF) (gR_up (V := mdV) (F := mdF) (gR_up (V := mdV) (F := mdF) (gR_up (V := mdV) (F := mdF) (gR_up (V := mdV) (F := mdF) (gR_up (V := mdV) (F := mdF) (gR_up (V := mdV) (F := mdF) (gR_up (V := mdV) (F := mdF) (gR_up (V := mdV) (F := mdF) (gR_up (V := mdV) (F := mdF) (gR_up (V := mdV) (F := mdF) ⟨hok.1, hok.2⟩ 6 (hP.2.1 6)) 7 (hP.2.1 7)) 8 (hP.2.1 8)) 9 (hP.2.1 9)) 10 (hP.2.1 10)) 11 (hP.2.1 11)) 16 (hP.2.1 16)) 20 (hP.2.1 20)) 21 (hP.2.1 21)) 27 (hP.2.1 27)) 17 (hP.2.1 17)) 15 (hP.2.1 15)) 19 (hP.2.1 19)) 11 (hP.2.2 11)) 12 (hP.2.2 12)) 17 (hP.2.2 17)) 14 (hP.2.2 14)) 16 (hP.2.2 16)) 5 (hP.2.2 5)) 6 (hP.2.2 6)) 7 (hP.2.2 7)) 8 (u1_rng (hP.2.2 8) (show 0 ≤ 0 ∧ 0 ≤ 999 from (by decide))))) dX11_readLaw_151 (fun H locs hP hS => ?_)
            refine lv_aload_n hx hb dX11_readLaw_152 rfl (lv_at hl 0 rfl) ?_
            refine lv_dup hx hb dX11_readLaw_153 rfl ?_
            refine mdG_newRounds C hP mF_X11_207 dX11_readLaw_154 ?_
            show W p l e (gRm 4 92) s m args below meth c _ _ 0 0 Q (F0 m 157 ls [.int (iI (v 15)), .ref (ad 0)])
            refine lv_iconst (v := iI 1) hx hb dX11_readLaw_157 rfl ?_
            refine gi_add (z := ((v 15) + 1)) hx hb dX11_readLaw_158 rfl ?_
            refine mdP_newRounds (v1 := (va_up (va_up (va_up (va_up (va_up (va_up (va_up (va_up (va_up (va_up (va_up (va_up (va_up v 6 w6_11) 7 w7_11) 8 w8_11) 9 w9_11) 10 w10_11) 11 w11_11) 16 (v 16)) 20 (v 20)) 21 (v 21)) 27 (v 27)) 17 (v 17)) 15 ((v 15) + 1)) 19 (v 19))) C hP hD hS mF_X11_207 (by omega) rfl (Or.inr (gF_up (V := mdV) (F := mdF) (gF_up (V := mdV) (F := mdF) (gF_up (V := mdV) (F := mdF) (gF_up (V := mdV) (F := mdF) (gF_up (V := mdV) (F := mdF) (gF_up (V := mdV) (F := mdF) (gF_up (V := mdV) (F := mdF) (gF_up (V := mdV) (F := mdF) (gF_up (V := mdV) (F := mdF) (gR_up (V := mdV) (F := mdF) (gR_up (V := mdV) (F := mdF) (gR_up (V := mdV) (F := mdF) (gR_up (V := mdV) (F := mdF) (gR_up (V := mdV) (F := mdF) (gR_up (V := mdV) (F := mdF) (gR_up (V := mdV) (F := mdF) (gR_up (V := mdV) (F := mdF) (gR_up (V := mdV) (F := mdF) (gR_up (V := mdV) (F := mdF) (gR_up (V := mdV) (F := mdF) (gR_up (V := mdV) (F := mdF) (gR_up (V := mdV) (F := mdF) ⟨hok.1, hok.2⟩ 6 (hP.2.1 6)) 7 (hP.2.1 7)) 8 (hP.2.1 8)) 9 (hP.2.1 9)) 10 (hP.2.1 10)) 11 (hP.2.1 11)) 16 (hP.2.1 16)) 20 (hP.2.1 20)) 21 (hP.2.1 21)) 27 (hP.2.1 27)) 17 (hP.2.1 17)) 15 (show 0 ≤ ((v 15) + 1) ∧ ((v 15) + 1) ≤ 4 from by omega)) 19 (hP.2.1 19)) 11 (hP.2.2 11)) 12 (hP.2.2 12)) 17 (hP.2.2 17)) 14 (hP.2.2 14)) 16 (hP.2.2 16)) 5 (hP.2.2 5)) 6 (hP.2.2 6)) 7 (hP.2.2 7)) 8 (hP.2.2 8))) dX11_readLaw_159 (fun H locs hP hS => ?_)
            refine lv_goto (tgt := 246) hx hb dX11_readLaw_162 (by decide) ?_
            refine lv_aload_n hx hb dX11_readLaw_246 rfl (lv_at hl 0 rfl) ?_
            refine mdG_bad C hP mF_X11_188 dX11_readLaw_247 ?_
            show W p l e (gRm 4 92) s m args below meth c _ _ 0 0 Q (F0 m 250 ls [.int (iI w6_11)])
            refine gi_zne (tgt := 257) hx hb dX11_readLaw_250 (by decide) (by omega) (fun c_16 => ?_) (fun c_16 => ?_)
            · exact g_vret hQ C hr hlocks hP hS dX11_readLaw_257 ⟨w6_11, w7_11, w8_11, w9_11, w10_11, w11_11, (v 16), (v 20), (v 21), (v 27), (v 17), ((v 15) + 1), (v 19), (f 11), (f 12), (f 17), (f 14), (f 16), (u1 (f 5) (v 15) z_11), (u1 (f 6) (v 15) 1), (u1 (f 7) (v 15) 10), (u1 (f 8) (v 15) 0), b0_11, rfl, rfl, rfl, rfl, (by first | omega | (split <;> omega)), (by first | omega | (split <;> omega)), (by first | omega | (split <;> omega)), (by first | (intro h; exfalso; omega) | exact fun _ => hrp | exact fun _ => hX (by omega))⟩
            · refine lv_aload_n hx hb dX11_readLaw_253 rfl (lv_at hl 0 rfl) ?_
              refine g_cv (As := []) (rest := []) (n := 0) C hml (m_X11_ends l D k A ad hD (va_up (va_up (va_up (va_up (va_up (va_up (va_up (va_up (va_up (va_up (va_up (va_up (va_up v 6 w6_11) 7 w7_11) 8 w8_11) 9 w9_11) 10 w10_11) 11 w11_11) 16 (v 16)) 20 (v 20)) 21 (v 21)) 27 (v 27)) 17 (v 17)) 15 ((v 15) + 1)) 19 (v 19)) (va_up (va_up (va_up (va_up (va_up (va_up (va_up (va_up (va_up f 11 (f 11)) 12 (f 12)) 17 (f 17)) 14 (f 14)) 16 (f 16)) 5 (u1 (f 5) (v 15) z_11)) 6 (u1 (f 6) (v 15) 1)) 7 (u1 (f 7) (v 15) 10)) 8 (u1 (f 8) (v 15) 0)) (va_up g 0 b0_11) (show w9_11 ≤ w10_11 ∧ w10_11 ≤ (v 3) ∧ (w8_11 ≠ 0 → w9_11 < w10_11) from by omega)) mM_X11_246 mI_X11_ends mE_X11_ends mN_X11 mC_X11_ends (by decide +kernel) 0 (ci := 11) rfl rfl hP hS (fun _ h => h) ⟨Nat.le_of_ble_eq_true rfl, Nat.le_of_ble_eq_true rfl⟩ ⟨Nat.zero_le _, Nat.zero_le _⟩ hl.1 rfl rfl (Nat.le_of_ble_eq_true rfl) dX11_readLaw_254 (fun r_17 v_17 f_17 g_17 H locs hq_17 hP _ hS => ?_)
              obtain ⟨w6_17, w7_17, w8_17, w9_17, w10_17, w11_17, b0_17, rfl, rfl, rfl, rfl, p0_17, p1_17, p2_17, p3_17⟩ := hq_17
              show W p l e (gRm 4 92) s m args below meth c _ _ 0 0 Q (F0 m 257 ls [])
              have hP : gWd D (mdT k ad) (va_up (va_up (va_up (va_up (va_up (va_up (va_up (va_up (va_up (va_up (va_up (va_up (va_up v 6 w6_17) 7 w7_17) 8 w8_17) 9 w9_17) 10 w10_17) 11 w11_17) 16 (v 16)) 20 (v 20)) 21 (v 21)) 27 (v 27)) 17 (v 17)) 15 ((v 15) + 1)) 19 (v 19)) (va_up (va_up (va_up (va_up (va_up (va_up (va_up (va_up (va_up f 11 (f 11)) 12 (f 12)) 17 (f 17)) 14 (f 14)) 16 (f 16)) 5 (u1 (f 5) (v 15) z_11)) 6 (u1 (f 6) (v 15) 1)) 7 (u1 (f 7) (v 15) 10)) 8 (u1 (f 8) (v 15) 0)) (va_up g 0 b0_17) H := ⟨hP.1, (gF_up (V := mdV) (F := mdF) (gF_up (V := mdV) (F := mdF) (gF_up (V := mdV) (F := mdF) (gF_up (V := mdV) (F := mdF) (gF_up (V := mdV) (F := mdF) (gF_up (V := mdV) (F := mdF) (gF_up (V := mdV) (F := mdF) (gF_up (V := mdV) (F := mdF) (gF_up (V := mdV) (F := mdF) (gR_up (V := mdV) (F := mdF) (gR_up (V := mdV) (F := mdF) (gR_up (V := mdV) (F := mdF) (gR_up (V := mdV) (F := mdF) (gR_up (V := mdV) (F := mdF) (gR_up (V := mdV) (F := mdF) (gR_up (V := mdV) (F := mdF) (gR_up (V := mdV) (F := mdF) (gR_up (V := mdV) (F := mdF) (gR_up (V := mdV) (F := mdF) (gR_up (V := mdV) (F := mdF) (gR_up (V := mdV) (F := mdF) (gR_up (V := mdV) (F := mdF) ⟨hok.1, hok.2⟩ 6 (hP.2.1 6)) 7 (hP.2.1 7)) 8 (hP.2.1 8)) 9 (hP.2.1 9)) 10 (hP.2.1 10)) 11 (hP.2.1 11)) 16 (hP.2.1 16)) 20 (hP.2.1 20)) 21 (hP.2.1 21)) 27 (hP.2.1 27)) 17 (hP.2.1 17)) 15 (hP.2.1 15)) 19 (hP.2.1 19)) 11 (hP.2.2 11)) 12 (hP.2.2 12)) 17 (hP.2.2 17)) 14 (hP.2.2 14)) 16 (hP.2.2 16)) 5 (hP.2.2 5)) 6 (hP.2.2 6)) 7 (hP.2.2 7)) 8 (hP.2.2 8))⟩
              replace p0_17 : w9_11 ≤ w9_17 ∧ w9_17 ≤ w10_17 ∧ w10_17 ≤ (v 3) := p0_17
              replace p1_17 : w8_17 ≠ 0 → w9_17 < w10_17 := p1_17
              replace p2_17 : 0 < w6_11 → 0 < w6_17 := p2_17
              replace p3_17 : w6_17 = 0 → w6_11 = 0 := p3_17
              have rw6_17 : 0 ≤ w6_17 ∧ w6_17 ≤ 5 := hP.2.1 6
              have rw7_17 : 0 ≤ w7_17 ∧ w7_17 ≤ 700 := hP.2.1 7
              have rw8_17 : 0 ≤ w8_17 ∧ w8_17 ≤ 4 := hP.2.1 8
              have rw9_17 : 0 ≤ w9_17 ∧ w9_17 ≤ 700 := hP.2.1 9
              have rw10_17 : 0 ≤ w10_17 ∧ w10_17 ≤ 700 := hP.2.1 10
              have rw11_17 : 0 ≤ w11_17 ∧ w11_17 ≤ 999999 := hP.2.1 11
              exact g_vret hQ C hr hlocks hP hS dX11_readLaw_257 ⟨w6_17, w7_17, w8_17, w9_17, w10_17, w11_17, (v 16), (v 20), (v 21), (v 27), (v 17), ((v 15) + 1), (v 19), (f 11), (f 12), (f 17), (f 14), (f 16), (u1 (f 5) (v 15) z_11), (u1 (f 6) (v 15) 1), (u1 (f 7) (v 15) 10), (u1 (f 8) (v 15) 0), b0_17, rfl, rfl, rfl, rfl, (by first | omega | (split <;> omega)), (by first | omega | (split <;> omega)), (by first | omega | (split <;> omega)), (by first | (intro h; exfalso; omega) | exact fun _ => hrp | exact fun _ => hX (by omega))⟩
          · refine lv_aload_n hx hb dX11_readLaw_139 rfl (lv_at hl 0 rfl) ?_
            refine lv_iconst (v := iI 0) hx hb dX11_readLaw_140 rfl ?_
            refine lv_sipush (v := iI 999) hx hb dX11_readLaw_141 (by decide) ?_
            refine g_cv (As := [.int (iI 0), .int (iI 999)]) (rest := [.int (iI (v 15)), .ref (ad 9)]) (n := 2) C hml (m_X11_numberOf l D k A ad hD (va_up (va_up (va_up (va_up (va_up (va_up (va_up (va_up (va_up (va_up (va_up (va_up (va_up v 6 w6_11) 7 w7_11) 8 w8_11) 9 w9_11) 10 w10_11) 11 w11_11) 16 (v 16)) 20 (v 20)) 21 (v 21)) 27 (v 27)) 17 (v 17)) 15 (v 15)) 19 (v 19)) (va_up (va_up (va_up (va_up (va_up (va_up (va_up (va_up (va_up f 11 (f 11)) 12 (f 12)) 17 (f 17)) 14 (f 14)) 16 (f 16)) 5 (u1 (f 5) (v 15) z_11)) 6 (u1 (f 6) (v 15) 1)) 7 (u1 (f 7) (v 15) 10)) 8 (f 8)) (va_up g 0 b0_11) 0 999 (by decide) (by decide) (show w9_11 ≤ w10_11 ∧ w10_11 ≤ (v 3) ∧ (w8_11 ≠ 0 → w9_11 < w10_11) from by omega) (show 0 ≤ (0 : Int) ∧ (0 : Int) ≤ (999 : Int) ∧ (999 : Int) ≤ 999 from by omega)) mM_X11_236 mI_X11_numberOf mE_X11_numberOf mN_X11 mC_X11_numberOf (by decide +kernel) 0 (ci := 11) rfl rfl hP hS (fun _ h => h) ⟨Nat.le_of_ble_eq_true rfl, Nat.le_of_ble_eq_true rfl⟩ ⟨Nat.zero_le _, Nat.zero_le _⟩ hl.1 rfl rfl (Nat.le_of_ble_eq_true rfl) dX11_readLaw_144 (fun r_18 v_18 f_18 g_18 H locs hq_18 hP _ hS => ?_)
            obtain ⟨z_18, w6_18, w7_18, w8_18, w9_18, w10_18, w11_18, b0_18, rfl, rfl, rfl, rfl, p0_18, p1_18, p2_18, p3_18⟩ := hq_18
            show W p l e (gRm 4 92) s m args below meth c _ _ 0 0 Q (F0 m 147 ls [.int (iI z_18), .int (iI (v 15)), .ref (ad 9)])
            have hP : gWd D (mdT k ad) (va_up (va_up (va_up (va_up (va_up (va_up (va_up (va_up (va_up (va_up (va_up (va_up (va_up v 6 w6_18) 7 w7_18) 8 w8_18) 9 w9_18) 10 w10_18) 11 w11_18) 16 (v 16)) 20 (v 20)) 21 (v 21)) 27 (v 27)) 17 (v 17)) 15 (v 15)) 19 (v 19)) (va_up (va_up (va_up (va_up (va_up (va_up (va_up (va_up (va_up f 11 (f 11)) 12 (f 12)) 17 (f 17)) 14 (f 14)) 16 (f 16)) 5 (u1 (f 5) (v 15) z_11)) 6 (u1 (f 6) (v 15) 1)) 7 (u1 (f 7) (v 15) 10)) 8 (f 8)) (va_up g 0 b0_18) H := ⟨hP.1, (gF_up (V := mdV) (F := mdF) (gF_up (V := mdV) (F := mdF) (gF_up (V := mdV) (F := mdF) (gF_up (V := mdV) (F := mdF) (gF_up (V := mdV) (F := mdF) (gF_up (V := mdV) (F := mdF) (gF_up (V := mdV) (F := mdF) (gF_up (V := mdV) (F := mdF) (gF_up (V := mdV) (F := mdF) (gR_up (V := mdV) (F := mdF) (gR_up (V := mdV) (F := mdF) (gR_up (V := mdV) (F := mdF) (gR_up (V := mdV) (F := mdF) (gR_up (V := mdV) (F := mdF) (gR_up (V := mdV) (F := mdF) (gR_up (V := mdV) (F := mdF) (gR_up (V := mdV) (F := mdF) (gR_up (V := mdV) (F := mdF) (gR_up (V := mdV) (F := mdF) (gR_up (V := mdV) (F := mdF) (gR_up (V := mdV) (F := mdF) (gR_up (V := mdV) (F := mdF) ⟨hok.1, hok.2⟩ 6 (hP.2.1 6)) 7 (hP.2.1 7)) 8 (hP.2.1 8)) 9 (hP.2.1 9)) 10 (hP.2.1 10)) 11 (hP.2.1 11)) 16 (hP.2.1 16)) 20 (hP.2.1 20)) 21 (hP.2.1 21)) 27 (hP.2.1 27)) 17 (hP.2.1 17)) 15 (hP.2.1 15)) 19 (hP.2.1 19)) 11 (hP.2.2 11)) 12 (hP.2.2 12)) 17 (hP.2.2 17)) 14 (hP.2.2 14)) 16 (hP.2.2 16)) 5 (hP.2.2 5)) 6 (hP.2.2 6)) 7 (hP.2.2 7)) 8 (hP.2.2 8))⟩
            replace p0_18 : (0 : Int) ≤ z_18 ∧ z_18 ≤ (999 : Int) := p0_18
            replace p1_18 : w9_11 ≤ w9_18 ∧ w9_18 ≤ w10_18 ∧ w10_18 ≤ (v 3) := p1_18
            replace p2_18 : w8_18 ≠ 0 → w9_18 < w10_18 := p2_18
            replace p3_18 : 0 < w6_11 → 0 < w6_18 := p3_18
            have rw6_18 : 0 ≤ w6_18 ∧ w6_18 ≤ 5 := hP.2.1 6
            have rw7_18 : 0 ≤ w7_18 ∧ w7_18 ≤ 700 := hP.2.1 7
            have rw8_18 : 0 ≤ w8_18 ∧ w8_18 ≤ 4 := hP.2.1 8
            have rw9_18 : 0 ≤ w9_18 ∧ w9_18 ≤ 700 := hP.2.1 9
            have rw10_18 : 0 ≤ w10_18 ∧ w10_18 ≤ 700 := hP.2.1 10
            have rw11_18 : 0 ≤ w11_18 ∧ w11_18 ≤ 999999 := hP.2.1 11
            have hz_18 : inR z_18 := (by first | omega | (rw [p0_18]; split <;> omega))
            refine lv_goto (tgt := 151) hx hb dX11_readLaw_147 (by decide) ?_
            refine mdS_newRest (f1 := (va_up (va_up (va_up (va_up (va_up (va_up (va_up (va_up (va_up f 11 (f 11)) 12 (f 12)) 17 (f 17)) 14 (f 14)) 16 (f 16)) 5 (u1 (f 5) (v 15) z_11)) 6 (u1 (f 6) (v 15) 1)) 7 (u1 (f 7) (v 15) 10)) 8 (u1 (f 8) (v 15) z_18))) C hP hD hS (by omega) (by omega) (by omega) rfl (Or.inr (gF_up (V := mdV) (F := mdF) (gF_up (V := mdV) (F := mdF) (gF_up (V := mdV) (F := mdF) (gF_up (V := mdV) (F := mdF) (gF_up (V := mdV) (F := mdF) (gF_up (V := mdV) (F := mdF) (gF_up (V := mdV) (F := mdF) (gF_up (V := mdV) (F := mdF) (gF_up (V := mdV) (F := mdF) (gR_up (V := mdV) (F := mdF) (gR_up (V := mdV) (F := mdF) (gR_up (V := mdV) (F := mdF) (gR_up (V := mdV) (F := mdF) (gR_up (V := mdV) (F := mdF) (gR_up (V := mdV) (F := mdF) (gR_up (V := mdV) (F := mdF) (gR_up (V := mdV) (F := mdF) (gR_up (V := mdV) (F := mdF) (gR_up (V := mdV) (F := mdF) (gR_up (V := mdV) (F := mdF) (gR_up (V := mdV) (F := mdF) (gR_up (V := mdV) (F := mdF) ⟨hok.1, hok.2⟩ 6 (hP.2.1 6)) 7 (hP.2.1 7)) 8 (hP.2.1 8)) 9 (hP.2.1 9)) 10 (hP.2.1 10)) 11 (hP.2.1 11)) 16 (hP.2.1 16)) 20 (hP.2.1 20)) 21 (hP.2.1 21)) 27 (hP.2.1 27)) 17 (hP.2.1 17)) 15 (hP.2.1 15)) 19 (hP.2.1 19)) 11 (hP.2.2 11)) 12 (hP.2.2 12)) 17 (hP.2.2 17)) 14 (hP.2.2 14)) 16 (hP.2.2 16)) 5 (hP.2.2 5)) 6 (hP.2.2 6)) 7 (hP.2.2 7)) 8 (u1_rng (hP.2.2 8) (show 0 ≤ z_18 ∧ z_18 ≤ 999 from (by omega))))) dX11_readLaw_151 (fun H locs hP hS => ?_)
            refine lv_aload_n hx hb dX11_readLaw_152 rfl (lv_at hl 0 rfl) ?_
            refine lv_dup hx hb dX11_readLaw_153 rfl ?_
            refine mdG_newRounds C hP mF_X11_207 dX11_readLaw_154 ?_
            show W p l e (gRm 4 92) s m args below meth c _ _ 0 0 Q (F0 m 157 ls [.int (iI (v 15)), .ref (ad 0)])
            refine lv_iconst (v := iI 1) hx hb dX11_readLaw_157 rfl ?_
            refine gi_add (z := ((v 15) + 1)) hx hb dX11_readLaw_158 rfl ?_
            refine mdP_newRounds (v1 := (va_up (va_up (va_up (va_up (va_up (va_up (va_up (va_up (va_up (va_up (va_up (va_up (va_up v 6 w6_18) 7 w7_18) 8 w8_18) 9 w9_18) 10 w10_18) 11 w11_18) 16 (v 16)) 20 (v 20)) 21 (v 21)) 27 (v 27)) 17 (v 17)) 15 ((v 15) + 1)) 19 (v 19))) C hP hD hS mF_X11_207 (by omega) rfl (Or.inr (gF_up (V := mdV) (F := mdF) (gF_up (V := mdV) (F := mdF) (gF_up (V := mdV) (F := mdF) (gF_up (V := mdV) (F := mdF) (gF_up (V := mdV) (F := mdF) (gF_up (V := mdV) (F := mdF) (gF_up (V := mdV) (F := mdF) (gF_up (V := mdV) (F := mdF) (gF_up (V := mdV) (F := mdF) (gR_up (V := mdV) (F := mdF) (gR_up (V := mdV) (F := mdF) (gR_up (V := mdV) (F := mdF) (gR_up (V := mdV) (F := mdF) (gR_up (V := mdV) (F := mdF) (gR_up (V := mdV) (F := mdF) (gR_up (V := mdV) (F := mdF) (gR_up (V := mdV) (F := mdF) (gR_up (V := mdV) (F := mdF) (gR_up (V := mdV) (F := mdF) (gR_up (V := mdV) (F := mdF) (gR_up (V := mdV) (F := mdF) (gR_up (V := mdV) (F := mdF) ⟨hok.1, hok.2⟩ 6 (hP.2.1 6)) 7 (hP.2.1 7)) 8 (hP.2.1 8)) 9 (hP.2.1 9)) 10 (hP.2.1 10)) 11 (hP.2.1 11)) 16 (hP.2.1 16)) 20 (hP.2.1 20)) 21 (hP.2.1 21)) 27 (hP.2.1 27)) 17 (hP.2.1 17)) 15 (show 0 ≤ ((v 15) + 1) ∧ ((v 15) + 1) ≤ 4 from by omega)) 19 (hP.2.1 19)) 11 (hP.2.2 11)) 12 (hP.2.2 12)) 17 (hP.2.2 17)) 14 (hP.2.2 14)) 16 (hP.2.2 16)) 5 (hP.2.2 5)) 6 (hP.2.2 6)) 7 (hP.2.2 7)) 8 (hP.2.2 8))) dX11_readLaw_159 (fun H locs hP hS => ?_)
            refine lv_goto (tgt := 246) hx hb dX11_readLaw_162 (by decide) ?_
            refine lv_aload_n hx hb dX11_readLaw_246 rfl (lv_at hl 0 rfl) ?_
            refine mdG_bad C hP mF_X11_188 dX11_readLaw_247 ?_
            show W p l e (gRm 4 92) s m args below meth c _ _ 0 0 Q (F0 m 250 ls [.int (iI w6_18)])
            have r_19 : 0 ≤ w6_18 ∧ w6_18 ≤ 5 := hP.2.1 6
            refine gi_zne (tgt := 257) hx hb dX11_readLaw_250 (by decide) (by omega) (fun c_20 => ?_) (fun c_20 => ?_)
            · exact g_vret hQ C hr hlocks hP hS dX11_readLaw_257 ⟨w6_18, w7_18, w8_18, w9_18, w10_18, w11_18, (v 16), (v 20), (v 21), (v 27), (v 17), ((v 15) + 1), (v 19), (f 11), (f 12), (f 17), (f 14), (f 16), (u1 (f 5) (v 15) z_11), (u1 (f 6) (v 15) 1), (u1 (f 7) (v 15) 10), (u1 (f 8) (v 15) z_18), b0_18, rfl, rfl, rfl, rfl, (by first | omega | (split <;> omega)), (by first | omega | (split <;> omega)), (by first | omega | (split <;> omega)), (by first | (intro h; exfalso; omega) | exact fun _ => hrp | exact fun _ => hX (by omega))⟩
            · refine lv_aload_n hx hb dX11_readLaw_253 rfl (lv_at hl 0 rfl) ?_
              refine g_cv (As := []) (rest := []) (n := 0) C hml (m_X11_ends l D k A ad hD (va_up (va_up (va_up (va_up (va_up (va_up (va_up (va_up (va_up (va_up (va_up (va_up (va_up v 6 w6_18) 7 w7_18) 8 w8_18) 9 w9_18) 10 w10_18) 11 w11_18) 16 (v 16)) 20 (v 20)) 21 (v 21)) 27 (v 27)) 17 (v 17)) 15 ((v 15) + 1)) 19 (v 19)) (va_up (va_up (va_up (va_up (va_up (va_up (va_up (va_up (va_up f 11 (f 11)) 12 (f 12)) 17 (f 17)) 14 (f 14)) 16 (f 16)) 5 (u1 (f 5) (v 15) z_11)) 6 (u1 (f 6) (v 15) 1)) 7 (u1 (f 7) (v 15) 10)) 8 (u1 (f 8) (v 15) z_18)) (va_up g 0 b0_18) (show w9_18 ≤ w10_18 ∧ w10_18 ≤ (v 3) ∧ (w8_18 ≠ 0 → w9_18 < w10_18) from by omega)) mM_X11_246 mI_X11_ends mE_X11_ends mN_X11 mC_X11_ends (by decide +kernel) 0 (ci := 11) rfl rfl hP hS (fun _ h => h) ⟨Nat.le_of_ble_eq_true rfl, Nat.le_of_ble_eq_true rfl⟩ ⟨Nat.zero_le _, Nat.zero_le _⟩ hl.1 rfl rfl (Nat.le_of_ble_eq_true rfl) dX11_readLaw_254 (fun r_21 v_21 f_21 g_21 H locs hq_21 hP _ hS => ?_)
              obtain ⟨w6_21, w7_21, w8_21, w9_21, w10_21, w11_21, b0_21, rfl, rfl, rfl, rfl, p0_21, p1_21, p2_21, p3_21⟩ := hq_21
              show W p l e (gRm 4 92) s m args below meth c _ _ 0 0 Q (F0 m 257 ls [])
              have hP : gWd D (mdT k ad) (va_up (va_up (va_up (va_up (va_up (va_up (va_up (va_up (va_up (va_up (va_up (va_up (va_up v 6 w6_21) 7 w7_21) 8 w8_21) 9 w9_21) 10 w10_21) 11 w11_21) 16 (v 16)) 20 (v 20)) 21 (v 21)) 27 (v 27)) 17 (v 17)) 15 ((v 15) + 1)) 19 (v 19)) (va_up (va_up (va_up (va_up (va_up (va_up (va_up (va_up (va_up f 11 (f 11)) 12 (f 12)) 17 (f 17)) 14 (f 14)) 16 (f 16)) 5 (u1 (f 5) (v 15) z_11)) 6 (u1 (f 6) (v 15) 1)) 7 (u1 (f 7) (v 15) 10)) 8 (u1 (f 8) (v 15) z_18)) (va_up g 0 b0_21) H := ⟨hP.1, (gF_up (V := mdV) (F := mdF) (gF_up (V := mdV) (F := mdF) (gF_up (V := mdV) (F := mdF) (gF_up (V := mdV) (F := mdF) (gF_up (V := mdV) (F := mdF) (gF_up (V := mdV) (F := mdF) (gF_up (V := mdV) (F := mdF) (gF_up (V := mdV) (F := mdF) (gF_up (V := mdV) (F := mdF) (gR_up (V := mdV) (F := mdF) (gR_up (V := mdV) (F := mdF) (gR_up (V := mdV) (F := mdF) (gR_up (V := mdV) (F := mdF) (gR_up (V := mdV) (F := mdF) (gR_up (V := mdV) (F := mdF) (gR_up (V := mdV) (F := mdF) (gR_up (V := mdV) (F := mdF) (gR_up (V := mdV) (F := mdF) (gR_up (V := mdV) (F := mdF) (gR_up (V := mdV) (F := mdF) (gR_up (V := mdV) (F := mdF) (gR_up (V := mdV) (F := mdF) ⟨hok.1, hok.2⟩ 6 (hP.2.1 6)) 7 (hP.2.1 7)) 8 (hP.2.1 8)) 9 (hP.2.1 9)) 10 (hP.2.1 10)) 11 (hP.2.1 11)) 16 (hP.2.1 16)) 20 (hP.2.1 20)) 21 (hP.2.1 21)) 27 (hP.2.1 27)) 17 (hP.2.1 17)) 15 (hP.2.1 15)) 19 (hP.2.1 19)) 11 (hP.2.2 11)) 12 (hP.2.2 12)) 17 (hP.2.2 17)) 14 (hP.2.2 14)) 16 (hP.2.2 16)) 5 (hP.2.2 5)) 6 (hP.2.2 6)) 7 (hP.2.2 7)) 8 (hP.2.2 8))⟩
              replace p0_21 : w9_18 ≤ w9_21 ∧ w9_21 ≤ w10_21 ∧ w10_21 ≤ (v 3) := p0_21
              replace p1_21 : w8_21 ≠ 0 → w9_21 < w10_21 := p1_21
              replace p2_21 : 0 < w6_18 → 0 < w6_21 := p2_21
              replace p3_21 : w6_21 = 0 → w6_18 = 0 := p3_21
              have rw6_21 : 0 ≤ w6_21 ∧ w6_21 ≤ 5 := hP.2.1 6
              have rw7_21 : 0 ≤ w7_21 ∧ w7_21 ≤ 700 := hP.2.1 7
              have rw8_21 : 0 ≤ w8_21 ∧ w8_21 ≤ 4 := hP.2.1 8
              have rw9_21 : 0 ≤ w9_21 ∧ w9_21 ≤ 700 := hP.2.1 9
              have rw10_21 : 0 ≤ w10_21 ∧ w10_21 ≤ 700 := hP.2.1 10
              have rw11_21 : 0 ≤ w11_21 ∧ w11_21 ≤ 999999 := hP.2.1 11
              exact g_vret hQ C hr hlocks hP hS dX11_readLaw_257 ⟨w6_21, w7_21, w8_21, w9_21, w10_21, w11_21, (v 16), (v 20), (v 21), (v 27), (v 17), ((v 15) + 1), (v 19), (f 11), (f 12), (f 17), (f 14), (f 16), (u1 (f 5) (v 15) z_11), (u1 (f 6) (v 15) 1), (u1 (f 7) (v 15) 10), (u1 (f 8) (v 15) z_18), b0_21, rfl, rfl, rfl, rfl, (by first | omega | (split <;> omega)), (by first | omega | (split <;> omega)), (by first | omega | (split <;> omega)), (by first | (intro h; exfalso; omega) | exact fun _ => hrp | exact fun _ => hX (by omega))⟩
        · refine lv_aload_n hx hb dX11_readLaw_109 rfl (lv_at hl 0 rfl) ?_
          refine lv_bipush (v := iI 10) hx hb dX11_readLaw_110 (by decide) ?_
          refine lv_sipush (v := iI 999) hx hb dX11_readLaw_112 (by decide) ?_
          refine g_cv (As := [.int (iI 10), .int (iI 999)]) (rest := [.int (iI (v 15)), .ref (ad 8)]) (n := 2) C hml (m_X11_numberOf l D k A ad hD (va_up (va_up (va_up (va_up (va_up (va_up (va_up (va_up (va_up (va_up (va_up (va_up (va_up v 6 w6_11) 7 w7_11) 8 w8_11) 9 w9_11) 10 w10_11) 11 w11_11) 16 (v 16)) 20 (v 20)) 21 (v 21)) 27 (v 27)) 17 (v 17)) 15 (v 15)) 19 (v 19)) (va_up (va_up (va_up (va_up (va_up (va_up (va_up (va_up (va_up f 11 (f 11)) 12 (f 12)) 17 (f 17)) 14 (f 14)) 16 (f 16)) 5 (u1 (f 5) (v 15) z_11)) 6 (u1 (f 6) (v 15) 1)) 7 (f 7)) 8 (f 8)) (va_up g 0 b0_11) 10 999 (by decide) (by decide) (show w9_11 ≤ w10_11 ∧ w10_11 ≤ (v 3) ∧ (w8_11 ≠ 0 → w9_11 < w10_11) from by omega) (show 0 ≤ (10 : Int) ∧ (10 : Int) ≤ (999 : Int) ∧ (999 : Int) ≤ 999 from by omega)) mM_X11_236 mI_X11_numberOf mE_X11_numberOf mN_X11 mC_X11_numberOf (by decide +kernel) 0 (ci := 11) rfl rfl hP hS (fun _ h => h) ⟨Nat.le_of_ble_eq_true rfl, Nat.le_of_ble_eq_true rfl⟩ ⟨Nat.zero_le _, Nat.zero_le _⟩ hl.1 rfl rfl (Nat.le_of_ble_eq_true rfl) dX11_readLaw_115 (fun r_22 v_22 f_22 g_22 H locs hq_22 hP _ hS => ?_)
          obtain ⟨z_22, w6_22, w7_22, w8_22, w9_22, w10_22, w11_22, b0_22, rfl, rfl, rfl, rfl, p0_22, p1_22, p2_22, p3_22⟩ := hq_22
          show W p l e (gRm 4 92) s m args below meth c _ _ 0 0 Q (F0 m 118 ls [.int (iI z_22), .int (iI (v 15)), .ref (ad 8)])
          have hP : gWd D (mdT k ad) (va_up (va_up (va_up (va_up (va_up (va_up (va_up (va_up (va_up (va_up (va_up (va_up (va_up v 6 w6_22) 7 w7_22) 8 w8_22) 9 w9_22) 10 w10_22) 11 w11_22) 16 (v 16)) 20 (v 20)) 21 (v 21)) 27 (v 27)) 17 (v 17)) 15 (v 15)) 19 (v 19)) (va_up (va_up (va_up (va_up (va_up (va_up (va_up (va_up (va_up f 11 (f 11)) 12 (f 12)) 17 (f 17)) 14 (f 14)) 16 (f 16)) 5 (u1 (f 5) (v 15) z_11)) 6 (u1 (f 6) (v 15) 1)) 7 (f 7)) 8 (f 8)) (va_up g 0 b0_22) H := ⟨hP.1, (gF_up (V := mdV) (F := mdF) (gF_up (V := mdV) (F := mdF) (gF_up (V := mdV) (F := mdF) (gF_up (V := mdV) (F := mdF) (gF_up (V := mdV) (F := mdF) (gF_up (V := mdV) (F := mdF) (gF_up (V := mdV) (F := mdF) (gF_up (V := mdV) (F := mdF) (gF_up (V := mdV) (F := mdF) (gR_up (V := mdV) (F := mdF) (gR_up (V := mdV) (F := mdF) (gR_up (V := mdV) (F := mdF) (gR_up (V := mdV) (F := mdF) (gR_up (V := mdV) (F := mdF) (gR_up (V := mdV) (F := mdF) (gR_up (V := mdV) (F := mdF) (gR_up (V := mdV) (F := mdF) (gR_up (V := mdV) (F := mdF) (gR_up (V := mdV) (F := mdF) (gR_up (V := mdV) (F := mdF) (gR_up (V := mdV) (F := mdF) (gR_up (V := mdV) (F := mdF) ⟨hok.1, hok.2⟩ 6 (hP.2.1 6)) 7 (hP.2.1 7)) 8 (hP.2.1 8)) 9 (hP.2.1 9)) 10 (hP.2.1 10)) 11 (hP.2.1 11)) 16 (hP.2.1 16)) 20 (hP.2.1 20)) 21 (hP.2.1 21)) 27 (hP.2.1 27)) 17 (hP.2.1 17)) 15 (hP.2.1 15)) 19 (hP.2.1 19)) 11 (hP.2.2 11)) 12 (hP.2.2 12)) 17 (hP.2.2 17)) 14 (hP.2.2 14)) 16 (hP.2.2 16)) 5 (hP.2.2 5)) 6 (hP.2.2 6)) 7 (hP.2.2 7)) 8 (hP.2.2 8))⟩
          replace p0_22 : (10 : Int) ≤ z_22 ∧ z_22 ≤ (999 : Int) := p0_22
          replace p1_22 : w9_11 ≤ w9_22 ∧ w9_22 ≤ w10_22 ∧ w10_22 ≤ (v 3) := p1_22
          replace p2_22 : w8_22 ≠ 0 → w9_22 < w10_22 := p2_22
          replace p3_22 : 0 < w6_11 → 0 < w6_22 := p3_22
          have rw6_22 : 0 ≤ w6_22 ∧ w6_22 ≤ 5 := hP.2.1 6
          have rw7_22 : 0 ≤ w7_22 ∧ w7_22 ≤ 700 := hP.2.1 7
          have rw8_22 : 0 ≤ w8_22 ∧ w8_22 ≤ 4 := hP.2.1 8
          have rw9_22 : 0 ≤ w9_22 ∧ w9_22 ≤ 700 := hP.2.1 9
          have rw10_22 : 0 ≤ w10_22 ∧ w10_22 ≤ 700 := hP.2.1 10
          have rw11_22 : 0 ≤ w11_22 ∧ w11_22 ≤ 999999 := hP.2.1 11
          have hz_22 : inR z_22 := (by first | omega | (rw [p0_22]; split <;> omega))
          refine lv_goto (tgt := 123) hx hb dX11_readLaw_118 (by decide) ?_
          refine mdS_newSeconds (f1 := (va_up (va_up (va_up (va_up (va_up (va_up (va_up (va_up (va_up f 11 (f 11)) 12 (f 12)) 17 (f 17)) 14 (f 14)) 16 (f 16)) 5 (u1 (f 5) (v 15) z_11)) 6 (u1 (f 6) (v 15) 1)) 7 (u1 (f 7) (v 15) z_22)) 8 (f 8))) C hP hD hS (by omega) (by omega) (by omega) rfl (Or.inr (gF_up (V := mdV) (F := mdF) (gF_up (V := mdV) (F := mdF) (gF_up (V := mdV) (F := mdF) (gF_up (V := mdV) (F := mdF) (gF_up (V := mdV) (F := mdF) (gF_up (V := mdV) (F := mdF) (gF_up (V := mdV) (F := mdF) (gF_up (V := mdV) (F := mdF) (gF_up (V := mdV) (F := mdF) (gR_up (V := mdV) (F := mdF) (gR_up (V := mdV) (F := mdF) (gR_up (V := mdV) (F := mdF) (gR_up (V := mdV) (F := mdF) (gR_up (V := mdV) (F := mdF) (gR_up (V := mdV) (F := mdF) (gR_up (V := mdV) (F := mdF) (gR_up (V := mdV) (F := mdF) (gR_up (V := mdV) (F := mdF) (gR_up (V := mdV) (F := mdF) (gR_up (V := mdV) (F := mdF) (gR_up (V := mdV) (F := mdF) (gR_up (V := mdV) (F := mdF) ⟨hok.1, hok.2⟩ 6 (hP.2.1 6)) 7 (hP.2.1 7)) 8 (hP.2.1 8)) 9 (hP.2.1 9)) 10 (hP.2.1 10)) 11 (hP.2.1 11)) 16 (hP.2.1 16)) 20 (hP.2.1 20)) 21 (hP.2.1 21)) 27 (hP.2.1 27)) 17 (hP.2.1 17)) 15 (hP.2.1 15)) 19 (hP.2.1 19)) 11 (hP.2.2 11)) 12 (hP.2.2 12)) 17 (hP.2.2 17)) 14 (hP.2.2 14)) 16 (hP.2.2 16)) 5 (hP.2.2 5)) 6 (hP.2.2 6)) 7 (u1_rng (hP.2.2 7) (show 0 ≤ z_22 ∧ z_22 ≤ 999 from (by omega)))) 8 (hP.2.2 8))) dX11_readLaw_123 (fun H locs hP hS => ?_)
          refine lv_aload_n hx hb dX11_readLaw_124 rfl (lv_at hl 0 rfl) ?_
          refine mdG_newRest C hP mF_X11_42 dX11_readLaw_125 ?_
          refine lv_aload_n hx hb dX11_readLaw_128 rfl (lv_at hl 0 rfl) ?_
          refine mdG_newRounds C hP mF_X11_207 dX11_readLaw_129 ?_
          show W p l e (gRm 4 92) s m args below meth c _ _ 0 0 Q (F0 m 132 ls [.int (iI (v 15)), .ref (ad 9)])
          refine lv_aload_n hx hb dX11_readLaw_132 rfl (lv_at hl 0 rfl) ?_
          refine mdG_bad C hP mF_X11_188 dX11_readLaw_133 ?_
          show W p l e (gRm 4 92) s m args below meth c _ _ 0 0 Q (F0 m 136 ls [.int (iI w6_22), .int (iI (v 15)), .ref (ad 9)])
          have r_23 : 0 ≤ w6_22 ∧ w6_22 ≤ 5 := hP.2.1 6
          refine gi_zne (tgt := 150) hx hb dX11_readLaw_136 (by decide) (by omega) (fun c_24 => ?_) (fun c_24 => ?_)
          · refine lv_iconst (v := iI 0) hx hb dX11_readLaw_150 rfl ?_
            refine mdS_newRest (f1 := (va_up (va_up (va_up (va_up (va_up (va_up (va_up (va_up (va_up f 11 (f 11)) 12 (f 12)) 17 (f 17)) 14 (f 14)) 16 (f 16)) 5 (u1 (f 5) (v 15) z_11)) 6 (u1 (f 6) (v 15) 1)) 7 (u1 (f 7) (v 15) z_22)) 8 (u1 (f 8) (v 15) 0))) C hP hD hS (by omega) (by omega) (by decide) rfl (Or.inr (gF_up (V := mdV) (F := mdF) (gF_up (V := mdV) (F := mdF) (gF_up (V := mdV) (F := mdF) (gF_up (V := mdV) (F := mdF) (gF_up (V := mdV) (F := mdF) (gF_up (V := mdV) (F := mdF) (gF_up (V := mdV) (F := mdF) (gF_up (V := mdV) (F := mdF) (gF_up (V := mdV) (F := mdF) (gR_up (V := mdV) (F := mdF) (gR_up (V := mdV) (F := mdF) (gR_up (V := mdV) (F := mdF) (gR_up (V := mdV) (F := mdF) (gR_up (V := mdV) (F := mdF) (gR_up (V := mdV) (F := mdF) (gR_up (V := mdV) (F := mdF) (gR_up (V := mdV) (F := mdF) (gR_up (V := mdV) (F := mdF) (gR_up (V := mdV) (F := mdF) (gR_up (V := mdV) (F := mdF) (gR_up (V := mdV) (F := mdF) (gR_up (V := mdV) (F := mdF) ⟨hok.1, hok.2⟩ 6 (hP.2.1 6)) 7 (hP.2.1 7)) 8 (hP.2.1 8)) 9 (hP.2.1 9)) 10 (hP.2.1 10)) 11 (hP.2.1 11)) 16 (hP.2.1 16)) 20 (hP.2.1 20)) 21 (hP.2.1 21)) 27 (hP.2.1 27)) 17 (hP.2.1 17)) 15 (hP.2.1 15)) 19 (hP.2.1 19)) 11 (hP.2.2 11)) 12 (hP.2.2 12)) 17 (hP.2.2 17)) 14 (hP.2.2 14)) 16 (hP.2.2 16)) 5 (hP.2.2 5)) 6 (hP.2.2 6)) 7 (hP.2.2 7)) 8 (u1_rng (hP.2.2 8) (show 0 ≤ 0 ∧ 0 ≤ 999 from (by decide))))) dX11_readLaw_151 (fun H locs hP hS => ?_)
            refine lv_aload_n hx hb dX11_readLaw_152 rfl (lv_at hl 0 rfl) ?_
            refine lv_dup hx hb dX11_readLaw_153 rfl ?_
            refine mdG_newRounds C hP mF_X11_207 dX11_readLaw_154 ?_
            show W p l e (gRm 4 92) s m args below meth c _ _ 0 0 Q (F0 m 157 ls [.int (iI (v 15)), .ref (ad 0)])
            refine lv_iconst (v := iI 1) hx hb dX11_readLaw_157 rfl ?_
            refine gi_add (z := ((v 15) + 1)) hx hb dX11_readLaw_158 rfl ?_
            refine mdP_newRounds (v1 := (va_up (va_up (va_up (va_up (va_up (va_up (va_up (va_up (va_up (va_up (va_up (va_up (va_up v 6 w6_22) 7 w7_22) 8 w8_22) 9 w9_22) 10 w10_22) 11 w11_22) 16 (v 16)) 20 (v 20)) 21 (v 21)) 27 (v 27)) 17 (v 17)) 15 ((v 15) + 1)) 19 (v 19))) C hP hD hS mF_X11_207 (by omega) rfl (Or.inr (gF_up (V := mdV) (F := mdF) (gF_up (V := mdV) (F := mdF) (gF_up (V := mdV) (F := mdF) (gF_up (V := mdV) (F := mdF) (gF_up (V := mdV) (F := mdF) (gF_up (V := mdV) (F := mdF) (gF_up (V := mdV) (F := mdF) (gF_up (V := mdV) (F := mdF) (gF_up (V := mdV) (F := mdF) (gR_up (V := mdV) (F := mdF) (gR_up (V := mdV) (F := mdF) (gR_up (V := mdV) (F := mdF) (gR_up (V := mdV) (F := mdF) (gR_up (V := mdV) (F := mdF) (gR_up (V := mdV) (F := mdF) (gR_up (V := mdV) (F := mdF) (gR_up (V := mdV) (F := mdF) (gR_up (V := mdV) (F := mdF) (gR_up (V := mdV) (F := mdF) (gR_up (V := mdV) (F := mdF) (gR_up (V := mdV) (F := mdF) (gR_up (V := mdV) (F := mdF) ⟨hok.1, hok.2⟩ 6 (hP.2.1 6)) 7 (hP.2.1 7)) 8 (hP.2.1 8)) 9 (hP.2.1 9)) 10 (hP.2.1 10)) 11 (hP.2.1 11)) 16 (hP.2.1 16)) 20 (hP.2.1 20)) 21 (hP.2.1 21)) 27 (hP.2.1 27)) 17 (hP.2.1 17)) 15 (show 0 ≤ ((v 15) + 1) ∧ ((v 15) + 1) ≤ 4 from by omega)) 19 (hP.2.1 19)) 11 (hP.2.2 11)) 12 (hP.2.2 12)) 17 (hP.2.2 17)) 14 (hP.2.2 14)) 16 (hP.2.2 16)) 5 (hP.2.2 5)) 6 (hP.2.2 6)) 7 (hP.2.2 7)) 8 (hP.2.2 8))) dX11_readLaw_159 (fun H locs hP hS => ?_)
            refine lv_goto (tgt := 246) hx hb dX11_readLaw_162 (by decide) ?_
            refine lv_aload_n hx hb dX11_readLaw_246 rfl (lv_at hl 0 rfl) ?_
            refine mdG_bad C hP mF_X11_188 dX11_readLaw_247 ?_
            show W p l e (gRm 4 92) s m args below meth c _ _ 0 0 Q (F0 m 250 ls [.int (iI w6_22)])
            refine gi_zne (tgt := 257) hx hb dX11_readLaw_250 (by decide) (by omega) (fun c_25 => ?_) (fun c_25 => ?_)
            · exact g_vret hQ C hr hlocks hP hS dX11_readLaw_257 ⟨w6_22, w7_22, w8_22, w9_22, w10_22, w11_22, (v 16), (v 20), (v 21), (v 27), (v 17), ((v 15) + 1), (v 19), (f 11), (f 12), (f 17), (f 14), (f 16), (u1 (f 5) (v 15) z_11), (u1 (f 6) (v 15) 1), (u1 (f 7) (v 15) z_22), (u1 (f 8) (v 15) 0), b0_22, rfl, rfl, rfl, rfl, (by first | omega | (split <;> omega)), (by first | omega | (split <;> omega)), (by first | omega | (split <;> omega)), (by first | (intro h; exfalso; omega) | exact fun _ => hrp | exact fun _ => hX (by omega))⟩
            · refine lv_aload_n hx hb dX11_readLaw_253 rfl (lv_at hl 0 rfl) ?_
              refine g_cv (As := []) (rest := []) (n := 0) C hml (m_X11_ends l D k A ad hD (va_up (va_up (va_up (va_up (va_up (va_up (va_up (va_up (va_up (va_up (va_up (va_up (va_up v 6 w6_22) 7 w7_22) 8 w8_22) 9 w9_22) 10 w10_22) 11 w11_22) 16 (v 16)) 20 (v 20)) 21 (v 21)) 27 (v 27)) 17 (v 17)) 15 ((v 15) + 1)) 19 (v 19)) (va_up (va_up (va_up (va_up (va_up (va_up (va_up (va_up (va_up f 11 (f 11)) 12 (f 12)) 17 (f 17)) 14 (f 14)) 16 (f 16)) 5 (u1 (f 5) (v 15) z_11)) 6 (u1 (f 6) (v 15) 1)) 7 (u1 (f 7) (v 15) z_22)) 8 (u1 (f 8) (v 15) 0)) (va_up g 0 b0_22) (show w9_22 ≤ w10_22 ∧ w10_22 ≤ (v 3) ∧ (w8_22 ≠ 0 → w9_22 < w10_22) from by omega)) mM_X11_246 mI_X11_ends mE_X11_ends mN_X11 mC_X11_ends (by decide +kernel) 0 (ci := 11) rfl rfl hP hS (fun _ h => h) ⟨Nat.le_of_ble_eq_true rfl, Nat.le_of_ble_eq_true rfl⟩ ⟨Nat.zero_le _, Nat.zero_le _⟩ hl.1 rfl rfl (Nat.le_of_ble_eq_true rfl) dX11_readLaw_254 (fun r_26 v_26 f_26 g_26 H locs hq_26 hP _ hS => ?_)
              obtain ⟨w6_26, w7_26, w8_26, w9_26, w10_26, w11_26, b0_26, rfl, rfl, rfl, rfl, p0_26, p1_26, p2_26, p3_26⟩ := hq_26
              show W p l e (gRm 4 92) s m args below meth c _ _ 0 0 Q (F0 m 257 ls [])
              have hP : gWd D (mdT k ad) (va_up (va_up (va_up (va_up (va_up (va_up (va_up (va_up (va_up (va_up (va_up (va_up (va_up v 6 w6_26) 7 w7_26) 8 w8_26) 9 w9_26) 10 w10_26) 11 w11_26) 16 (v 16)) 20 (v 20)) 21 (v 21)) 27 (v 27)) 17 (v 17)) 15 ((v 15) + 1)) 19 (v 19)) (va_up (va_up (va_up (va_up (va_up (va_up (va_up (va_up (va_up f 11 (f 11)) 12 (f 12)) 17 (f 17)) 14 (f 14)) 16 (f 16)) 5 (u1 (f 5) (v 15) z_11)) 6 (u1 (f 6) (v 15) 1)) 7 (u1 (f 7) (v 15) z_22)) 8 (u1 (f 8) (v 15) 0)) (va_up g 0 b0_26) H := ⟨hP.1, (gF_up (V := mdV) (F := mdF) (gF_up (V := mdV) (F := mdF) (gF_up (V := mdV) (F := mdF) (gF_up (V := mdV) (F := mdF) (gF_up (V := mdV) (F := mdF) (gF_up (V := mdV) (F := mdF) (gF_up (V := mdV) (F := mdF) (gF_up (V := mdV) (F := mdF) (gF_up (V := mdV) (F := mdF) (gR_up (V := mdV) (F := mdF) (gR_up (V := mdV) (F := mdF) (gR_up (V := mdV) (F := mdF) (gR_up (V := mdV) (F := mdF) (gR_up (V := mdV) (F := mdF) (gR_up (V := mdV) (F := mdF) (gR_up (V := mdV) (F := mdF) (gR_up (V := mdV) (F := mdF) (gR_up (V := mdV) (F := mdF) (gR_up (V := mdV) (F := mdF) (gR_up (V := mdV) (F := mdF) (gR_up (V := mdV) (F := mdF) (gR_up (V := mdV) (F := mdF) ⟨hok.1, hok.2⟩ 6 (hP.2.1 6)) 7 (hP.2.1 7)) 8 (hP.2.1 8)) 9 (hP.2.1 9)) 10 (hP.2.1 10)) 11 (hP.2.1 11)) 16 (hP.2.1 16)) 20 (hP.2.1 20)) 21 (hP.2.1 21)) 27 (hP.2.1 27)) 17 (hP.2.1 17)) 15 (hP.2.1 15)) 19 (hP.2.1 19)) 11 (hP.2.2 11)) 12 (hP.2.2 12)) 17 (hP.2.2 17)) 14 (hP.2.2 14)) 16 (hP.2.2 16)) 5 (hP.2.2 5)) 6 (hP.2.2 6)) 7 (hP.2.2 7)) 8 (hP.2.2 8))⟩
              replace p0_26 : w9_22 ≤ w9_26 ∧ w9_26 ≤ w10_26 ∧ w10_26 ≤ (v 3) := p0_26
              replace p1_26 : w8_26 ≠ 0 → w9_26 < w10_26 := p1_26
              replace p2_26 : 0 < w6_22 → 0 < w6_26 := p2_26
              replace p3_26 : w6_26 = 0 → w6_22 = 0 := p3_26
              have rw6_26 : 0 ≤ w6_26 ∧ w6_26 ≤ 5 := hP.2.1 6
              have rw7_26 : 0 ≤ w7_26 ∧ w7_26 ≤ 700 := hP.2.1 7
              have rw8_26 : 0 ≤ w8_26 ∧ w8_26 ≤ 4 := hP.2.1 8
              have rw9_26 : 0 ≤ w9_26 ∧ w9_26 ≤ 700 := hP.2.1 9
              have rw10_26 : 0 ≤ w10_26 ∧ w10_26 ≤ 700 := hP.2.1 10
              have rw11_26 : 0 ≤ w11_26 ∧ w11_26 ≤ 999999 := hP.2.1 11
              exact g_vret hQ C hr hlocks hP hS dX11_readLaw_257 ⟨w6_26, w7_26, w8_26, w9_26, w10_26, w11_26, (v 16), (v 20), (v 21), (v 27), (v 17), ((v 15) + 1), (v 19), (f 11), (f 12), (f 17), (f 14), (f 16), (u1 (f 5) (v 15) z_11), (u1 (f 6) (v 15) 1), (u1 (f 7) (v 15) z_22), (u1 (f 8) (v 15) 0), b0_26, rfl, rfl, rfl, rfl, (by first | omega | (split <;> omega)), (by first | omega | (split <;> omega)), (by first | omega | (split <;> omega)), (by first | (intro h; exfalso; omega) | exact fun _ => hrp | exact fun _ => hX (by omega))⟩
          · refine lv_aload_n hx hb dX11_readLaw_139 rfl (lv_at hl 0 rfl) ?_
            refine lv_iconst (v := iI 0) hx hb dX11_readLaw_140 rfl ?_
            refine lv_sipush (v := iI 999) hx hb dX11_readLaw_141 (by decide) ?_
            refine g_cv (As := [.int (iI 0), .int (iI 999)]) (rest := [.int (iI (v 15)), .ref (ad 9)]) (n := 2) C hml (m_X11_numberOf l D k A ad hD (va_up (va_up (va_up (va_up (va_up (va_up (va_up (va_up (va_up (va_up (va_up (va_up (va_up v 6 w6_22) 7 w7_22) 8 w8_22) 9 w9_22) 10 w10_22) 11 w11_22) 16 (v 16)) 20 (v 20)) 21 (v 21)) 27 (v 27)) 17 (v 17)) 15 (v 15)) 19 (v 19)) (va_up (va_up (va_up (va_up (va_up (va_up (va_up (va_up (va_up f 11 (f 11)) 12 (f 12)) 17 (f 17)) 14 (f 14)) 16 (f 16)) 5 (u1 (f 5) (v 15) z_11)) 6 (u1 (f 6) (v 15) 1)) 7 (u1 (f 7) (v 15) z_22)) 8 (f 8)) (va_up g 0 b0_22) 0 999 (by decide) (by decide) (show w9_22 ≤ w10_22 ∧ w10_22 ≤ (v 3) ∧ (w8_22 ≠ 0 → w9_22 < w10_22) from by omega) (show 0 ≤ (0 : Int) ∧ (0 : Int) ≤ (999 : Int) ∧ (999 : Int) ≤ 999 from by omega)) mM_X11_236 mI_X11_numberOf mE_X11_numberOf mN_X11 mC_X11_numberOf (by decide +kernel) 0 (ci := 11) rfl rfl hP hS (fun _ h => h) ⟨Nat.le_of_ble_eq_true rfl, Nat.le_of_ble_eq_true rfl⟩ ⟨Nat.zero_le _, Nat.zero_le _⟩ hl.1 rfl rfl (Nat.le_of_ble_eq_true rfl) dX11_readLaw_144 (fun r_27 v_27 f_27 g_27 H locs hq_27 hP _ hS => ?_)
            obtain ⟨z_27, w6_27, w7_27, w8_27, w9_27, w10_27, w11_27, b0_27, rfl, rfl, rfl, rfl, p0_27, p1_27, p2_27, p3_27⟩ := hq_27
            show W p l e (gRm 4 92) s m args below meth c _ _ 0 0 Q (F0 m 147 ls [.int (iI z_27), .int (iI (v 15)), .ref (ad 9)])
            have hP : gWd D (mdT k ad) (va_up (va_up (va_up (va_up (va_up (va_up (va_up (va_up (va_up (va_up (va_up (va_up (va_up v 6 w6_27) 7 w7_27) 8 w8_27) 9 w9_27) 10 w10_27) 11 w11_27) 16 (v 16)) 20 (v 20)) 21 (v 21)) 27 (v 27)) 17 (v 17)) 15 (v 15)) 19 (v 19)) (va_up (va_up (va_up (va_up (va_up (va_up (va_up (va_up (va_up f 11 (f 11)) 12 (f 12)) 17 (f 17)) 14 (f 14)) 16 (f 16)) 5 (u1 (f 5) (v 15) z_11)) 6 (u1 (f 6) (v 15) 1)) 7 (u1 (f 7) (v 15) z_22)) 8 (f 8)) (va_up g 0 b0_27) H := ⟨hP.1, (gF_up (V := mdV) (F := mdF) (gF_up (V := mdV) (F := mdF) (gF_up (V := mdV) (F := mdF) (gF_up (V := mdV) (F := mdF) (gF_up (V := mdV) (F := mdF) (gF_up (V := mdV) (F := mdF) (gF_up (V := mdV) (F := mdF) (gF_up (V := mdV) (F := mdF) (gF_up (V := mdV) (F := mdF) (gR_up (V := mdV) (F := mdF) (gR_up (V := mdV) (F := mdF) (gR_up (V := mdV) (F := mdF) (gR_up (V := mdV) (F := mdF) (gR_up (V := mdV) (F := mdF) (gR_up (V := mdV) (F := mdF) (gR_up (V := mdV) (F := mdF) (gR_up (V := mdV) (F := mdF) (gR_up (V := mdV) (F := mdF) (gR_up (V := mdV) (F := mdF) (gR_up (V := mdV) (F := mdF) (gR_up (V := mdV) (F := mdF) (gR_up (V := mdV) (F := mdF) ⟨hok.1, hok.2⟩ 6 (hP.2.1 6)) 7 (hP.2.1 7)) 8 (hP.2.1 8)) 9 (hP.2.1 9)) 10 (hP.2.1 10)) 11 (hP.2.1 11)) 16 (hP.2.1 16)) 20 (hP.2.1 20)) 21 (hP.2.1 21)) 27 (hP.2.1 27)) 17 (hP.2.1 17)) 15 (hP.2.1 15)) 19 (hP.2.1 19)) 11 (hP.2.2 11)) 12 (hP.2.2 12)) 17 (hP.2.2 17)) 14 (hP.2.2 14)) 16 (hP.2.2 16)) 5 (hP.2.2 5)) 6 (hP.2.2 6)) 7 (hP.2.2 7)) 8 (hP.2.2 8))⟩
            replace p0_27 : (0 : Int) ≤ z_27 ∧ z_27 ≤ (999 : Int) := p0_27
            replace p1_27 : w9_22 ≤ w9_27 ∧ w9_27 ≤ w10_27 ∧ w10_27 ≤ (v 3) := p1_27
            replace p2_27 : w8_27 ≠ 0 → w9_27 < w10_27 := p2_27
            replace p3_27 : 0 < w6_22 → 0 < w6_27 := p3_27
            have rw6_27 : 0 ≤ w6_27 ∧ w6_27 ≤ 5 := hP.2.1 6
            have rw7_27 : 0 ≤ w7_27 ∧ w7_27 ≤ 700 := hP.2.1 7
            have rw8_27 : 0 ≤ w8_27 ∧ w8_27 ≤ 4 := hP.2.1 8
            have rw9_27 : 0 ≤ w9_27 ∧ w9_27 ≤ 700 := hP.2.1 9
            have rw10_27 : 0 ≤ w10_27 ∧ w10_27 ≤ 700 := hP.2.1 10
            have rw11_27 : 0 ≤ w11_27 ∧ w11_27 ≤ 999999 := hP.2.1 11
            have hz_27 : inR z_27 := (by first | omega | (rw [p0_27]; split <;> omega))
            refine lv_goto (tgt := 151) hx hb dX11_readLaw_147 (by decide) ?_
            refine mdS_newRest (f1 := (va_up (va_up (va_up (va_up (va_up (va_up (va_up (va_up (va_up f 11 (f 11)) 12 (f 12)) 17 (f 17)) 14 (f 14)) 16 (f 16)) 5 (u1 (f 5) (v 15) z_11)) 6 (u1 (f 6) (v 15) 1)) 7 (u1 (f 7) (v 15) z_22)) 8 (u1 (f 8) (v 15) z_27))) C hP hD hS (by omega) (by omega) (by omega) rfl (Or.inr (gF_up (V := mdV) (F := mdF) (gF_up (V := mdV) (F := mdF) (gF_up (V := mdV) (F := mdF) (gF_up (V := mdV) (F := mdF) (gF_up (V := mdV) (F := mdF) (gF_up (V := mdV) (F := mdF) (gF_up (V := mdV) (F := mdF) (gF_up (V := mdV) (F := mdF) (gF_up (V := mdV) (F := mdF) (gR_up (V := mdV) (F := mdF) (gR_up (V := mdV) (F := mdF) (gR_up (V := mdV) (F := mdF) (gR_up (V := mdV) (F := mdF) (gR_up (V := mdV) (F := mdF) (gR_up (V := mdV) (F := mdF) (gR_up (V := mdV) (F := mdF) (gR_up (V := mdV) (F := mdF) (gR_up (V := mdV) (F := mdF) (gR_up (V := mdV) (F := mdF) (gR_up (V := mdV) (F := mdF) (gR_up (V := mdV) (F := mdF) (gR_up (V := mdV) (F := mdF) ⟨hok.1, hok.2⟩ 6 (hP.2.1 6)) 7 (hP.2.1 7)) 8 (hP.2.1 8)) 9 (hP.2.1 9)) 10 (hP.2.1 10)) 11 (hP.2.1 11)) 16 (hP.2.1 16)) 20 (hP.2.1 20)) 21 (hP.2.1 21)) 27 (hP.2.1 27)) 17 (hP.2.1 17)) 15 (hP.2.1 15)) 19 (hP.2.1 19)) 11 (hP.2.2 11)) 12 (hP.2.2 12)) 17 (hP.2.2 17)) 14 (hP.2.2 14)) 16 (hP.2.2 16)) 5 (hP.2.2 5)) 6 (hP.2.2 6)) 7 (hP.2.2 7)) 8 (u1_rng (hP.2.2 8) (show 0 ≤ z_27 ∧ z_27 ≤ 999 from (by omega))))) dX11_readLaw_151 (fun H locs hP hS => ?_)
            refine lv_aload_n hx hb dX11_readLaw_152 rfl (lv_at hl 0 rfl) ?_
            refine lv_dup hx hb dX11_readLaw_153 rfl ?_
            refine mdG_newRounds C hP mF_X11_207 dX11_readLaw_154 ?_
            show W p l e (gRm 4 92) s m args below meth c _ _ 0 0 Q (F0 m 157 ls [.int (iI (v 15)), .ref (ad 0)])
            refine lv_iconst (v := iI 1) hx hb dX11_readLaw_157 rfl ?_
            refine gi_add (z := ((v 15) + 1)) hx hb dX11_readLaw_158 rfl ?_
            refine mdP_newRounds (v1 := (va_up (va_up (va_up (va_up (va_up (va_up (va_up (va_up (va_up (va_up (va_up (va_up (va_up v 6 w6_27) 7 w7_27) 8 w8_27) 9 w9_27) 10 w10_27) 11 w11_27) 16 (v 16)) 20 (v 20)) 21 (v 21)) 27 (v 27)) 17 (v 17)) 15 ((v 15) + 1)) 19 (v 19))) C hP hD hS mF_X11_207 (by omega) rfl (Or.inr (gF_up (V := mdV) (F := mdF) (gF_up (V := mdV) (F := mdF) (gF_up (V := mdV) (F := mdF) (gF_up (V := mdV) (F := mdF) (gF_up (V := mdV) (F := mdF) (gF_up (V := mdV) (F := mdF) (gF_up (V := mdV) (F := mdF) (gF_up (V := mdV) (F := mdF) (gF_up (V := mdV) (F := mdF) (gR_up (V := mdV) (F := mdF) (gR_up (V := mdV) (F := mdF) (gR_up (V := mdV) (F := mdF) (gR_up (V := mdV) (F := mdF) (gR_up (V := mdV) (F := mdF) (gR_up (V := mdV) (F := mdF) (gR_up (V := mdV) (F := mdF) (gR_up (V := mdV) (F := mdF) (gR_up (V := mdV) (F := mdF) (gR_up (V := mdV) (F := mdF) (gR_up (V := mdV) (F := mdF) (gR_up (V := mdV) (F := mdF) (gR_up (V := mdV) (F := mdF) ⟨hok.1, hok.2⟩ 6 (hP.2.1 6)) 7 (hP.2.1 7)) 8 (hP.2.1 8)) 9 (hP.2.1 9)) 10 (hP.2.1 10)) 11 (hP.2.1 11)) 16 (hP.2.1 16)) 20 (hP.2.1 20)) 21 (hP.2.1 21)) 27 (hP.2.1 27)) 17 (hP.2.1 17)) 15 (show 0 ≤ ((v 15) + 1) ∧ ((v 15) + 1) ≤ 4 from by omega)) 19 (hP.2.1 19)) 11 (hP.2.2 11)) 12 (hP.2.2 12)) 17 (hP.2.2 17)) 14 (hP.2.2 14)) 16 (hP.2.2 16)) 5 (hP.2.2 5)) 6 (hP.2.2 6)) 7 (hP.2.2 7)) 8 (hP.2.2 8))) dX11_readLaw_159 (fun H locs hP hS => ?_)
            refine lv_goto (tgt := 246) hx hb dX11_readLaw_162 (by decide) ?_
            refine lv_aload_n hx hb dX11_readLaw_246 rfl (lv_at hl 0 rfl) ?_
            refine mdG_bad C hP mF_X11_188 dX11_readLaw_247 ?_
            show W p l e (gRm 4 92) s m args below meth c _ _ 0 0 Q (F0 m 250 ls [.int (iI w6_27)])
            have r_28 : 0 ≤ w6_27 ∧ w6_27 ≤ 5 := hP.2.1 6
            refine gi_zne (tgt := 257) hx hb dX11_readLaw_250 (by decide) (by omega) (fun c_29 => ?_) (fun c_29 => ?_)
            · exact g_vret hQ C hr hlocks hP hS dX11_readLaw_257 ⟨w6_27, w7_27, w8_27, w9_27, w10_27, w11_27, (v 16), (v 20), (v 21), (v 27), (v 17), ((v 15) + 1), (v 19), (f 11), (f 12), (f 17), (f 14), (f 16), (u1 (f 5) (v 15) z_11), (u1 (f 6) (v 15) 1), (u1 (f 7) (v 15) z_22), (u1 (f 8) (v 15) z_27), b0_27, rfl, rfl, rfl, rfl, (by first | omega | (split <;> omega)), (by first | omega | (split <;> omega)), (by first | omega | (split <;> omega)), (by first | (intro h; exfalso; omega) | exact fun _ => hrp | exact fun _ => hX (by omega))⟩
            · refine lv_aload_n hx hb dX11_readLaw_253 rfl (lv_at hl 0 rfl) ?_
              refine g_cv (As := []) (rest := []) (n := 0) C hml (m_X11_ends l D k A ad hD (va_up (va_up (va_up (va_up (va_up (va_up (va_up (va_up (va_up (va_up (va_up (va_up (va_up v 6 w6_27) 7 w7_27) 8 w8_27) 9 w9_27) 10 w10_27) 11 w11_27) 16 (v 16)) 20 (v 20)) 21 (v 21)) 27 (v 27)) 17 (v 17)) 15 ((v 15) + 1)) 19 (v 19)) (va_up (va_up (va_up (va_up (va_up (va_up (va_up (va_up (va_up f 11 (f 11)) 12 (f 12)) 17 (f 17)) 14 (f 14)) 16 (f 16)) 5 (u1 (f 5) (v 15) z_11)) 6 (u1 (f 6) (v 15) 1)) 7 (u1 (f 7) (v 15) z_22)) 8 (u1 (f 8) (v 15) z_27)) (va_up g 0 b0_27) (show w9_27 ≤ w10_27 ∧ w10_27 ≤ (v 3) ∧ (w8_27 ≠ 0 → w9_27 < w10_27) from by omega)) mM_X11_246 mI_X11_ends mE_X11_ends mN_X11 mC_X11_ends (by decide +kernel) 0 (ci := 11) rfl rfl hP hS (fun _ h => h) ⟨Nat.le_of_ble_eq_true rfl, Nat.le_of_ble_eq_true rfl⟩ ⟨Nat.zero_le _, Nat.zero_le _⟩ hl.1 rfl rfl (Nat.le_of_ble_eq_true rfl) dX11_readLaw_254 (fun r_30 v_30 f_30 g_30 H locs hq_30 hP _ hS => ?_)
              obtain ⟨w6_30, w7_30, w8_30, w9_30, w10_30, w11_30, b0_30, rfl, rfl, rfl, rfl, p0_30, p1_30, p2_30, p3_30⟩ := hq_30
              show W p l e (gRm 4 92) s m args below meth c _ _ 0 0 Q (F0 m 257 ls [])
              have hP : gWd D (mdT k ad) (va_up (va_up (va_up (va_up (va_up (va_up (va_up (va_up (va_up (va_up (va_up (va_up (va_up v 6 w6_30) 7 w7_30) 8 w8_30) 9 w9_30) 10 w10_30) 11 w11_30) 16 (v 16)) 20 (v 20)) 21 (v 21)) 27 (v 27)) 17 (v 17)) 15 ((v 15) + 1)) 19 (v 19)) (va_up (va_up (va_up (va_up (va_up (va_up (va_up (va_up (va_up f 11 (f 11)) 12 (f 12)) 17 (f 17)) 14 (f 14)) 16 (f 16)) 5 (u1 (f 5) (v 15) z_11)) 6 (u1 (f 6) (v 15) 1)) 7 (u1 (f 7) (v 15) z_22)) 8 (u1 (f 8) (v 15) z_27)) (va_up g 0 b0_30) H := ⟨hP.1, (gF_up (V := mdV) (F := mdF) (gF_up (V := mdV) (F := mdF) (gF_up (V := mdV) (F := mdF) (gF_up (V := mdV) (F := mdF) (gF_up (V := mdV) (F := mdF) (gF_up (V := mdV) (F := mdF) (gF_up (V := mdV) (F := mdF) (gF_up (V := mdV) (F := mdF) (gF_up (V := mdV) (F := mdF) (gR_up (V := mdV) (F := mdF) (gR_up (V := mdV) (F := mdF) (gR_up (V := mdV) (F := mdF) (gR_up (V := mdV) (F := mdF) (gR_up (V := mdV) (F := mdF) (gR_up (V := mdV) (F := mdF) (gR_up (V := mdV) (F := mdF) (gR_up (V := mdV) (F := mdF) (gR_up (V := mdV) (F := mdF) (gR_up (V := mdV) (F := mdF) (gR_up (V := mdV) (F := mdF) (gR_up (V := mdV) (F := mdF) (gR_up (V := mdV) (F := mdF) ⟨hok.1, hok.2⟩ 6 (hP.2.1 6)) 7 (hP.2.1 7)) 8 (hP.2.1 8)) 9 (hP.2.1 9)) 10 (hP.2.1 10)) 11 (hP.2.1 11)) 16 (hP.2.1 16)) 20 (hP.2.1 20)) 21 (hP.2.1 21)) 27 (hP.2.1 27)) 17 (hP.2.1 17)) 15 (hP.2.1 15)) 19 (hP.2.1 19)) 11 (hP.2.2 11)) 12 (hP.2.2 12)) 17 (hP.2.2 17)) 14 (hP.2.2 14)) 16 (hP.2.2 16)) 5 (hP.2.2 5)) 6 (hP.2.2 6)) 7 (hP.2.2 7)) 8 (hP.2.2 8))⟩
              replace p0_30 : w9_27 ≤ w9_30 ∧ w9_30 ≤ w10_30 ∧ w10_30 ≤ (v 3) := p0_30
              replace p1_30 : w8_30 ≠ 0 → w9_30 < w10_30 := p1_30
              replace p2_30 : 0 < w6_27 → 0 < w6_30 := p2_30
              replace p3_30 : w6_30 = 0 → w6_27 = 0 := p3_30
              have rw6_30 : 0 ≤ w6_30 ∧ w6_30 ≤ 5 := hP.2.1 6
              have rw7_30 : 0 ≤ w7_30 ∧ w7_30 ≤ 700 := hP.2.1 7
              have rw8_30 : 0 ≤ w8_30 ∧ w8_30 ≤ 4 := hP.2.1 8
              have rw9_30 : 0 ≤ w9_30 ∧ w9_30 ≤ 700 := hP.2.1 9
              have rw10_30 : 0 ≤ w10_30 ∧ w10_30 ≤ 700 := hP.2.1 10
              have rw11_30 : 0 ≤ w11_30 ∧ w11_30 ≤ 999999 := hP.2.1 11
              exact g_vret hQ C hr hlocks hP hS dX11_readLaw_257 ⟨w6_30, w7_30, w8_30, w9_30, w10_30, w11_30, (v 16), (v 20), (v 21), (v 27), (v 17), ((v 15) + 1), (v 19), (f 11), (f 12), (f 17), (f 14), (f 16), (u1 (f 5) (v 15) z_11), (u1 (f 6) (v 15) 1), (u1 (f 7) (v 15) z_22), (u1 (f 8) (v 15) z_27), b0_30, rfl, rfl, rfl, rfl, (by first | omega | (split <;> omega)), (by first | omega | (split <;> omega)), (by first | omega | (split <;> omega)), (by first | (intro h; exfalso; omega) | exact fun _ => hrp | exact fun _ => hX (by omega))⟩
      · refine lv_aload_n hx hb dX11_readLaw_82 rfl (lv_at hl 0 rfl) ?_
        refine lv_iconst (v := iI 1) hx hb dX11_readLaw_83 rfl ?_
        refine lv_bipush (v := iI 9) hx hb dX11_readLaw_84 (by decide) ?_
        refine g_cv (As := [.int (iI 1), .int (iI 9)]) (rest := [.int (iI (v 15)), .ref (ad 7)]) (n := 2) C hml (m_X11_numberOf l D k A ad hD (va_up (va_up (va_up (va_up (va_up (va_up (va_up (va_up (va_up (va_up (va_up (va_up (va_up v 6 w6_11) 7 w7_11) 8 w8_11) 9 w9_11) 10 w10_11) 11 w11_11) 16 (v 16)) 20 (v 20)) 21 (v 21)) 27 (v 27)) 17 (v 17)) 15 (v 15)) 19 (v 19)) (va_up (va_up (va_up (va_up (va_up (va_up (va_up (va_up (va_up f 11 (f 11)) 12 (f 12)) 17 (f 17)) 14 (f 14)) 16 (f 16)) 5 (u1 (f 5) (v 15) z_11)) 6 (f 6)) 7 (f 7)) 8 (f 8)) (va_up g 0 b0_11) 1 9 (by decide) (by decide) (show w9_11 ≤ w10_11 ∧ w10_11 ≤ (v 3) ∧ (w8_11 ≠ 0 → w9_11 < w10_11) from by omega) (show 0 ≤ (1 : Int) ∧ (1 : Int) ≤ (9 : Int) ∧ (9 : Int) ≤ 999 from by omega)) mM_X11_236 mI_X11_numberOf mE_X11_numberOf mN_X11 mC_X11_numberOf (by decide +kernel) 0 (ci := 11) rfl rfl hP hS (fun _ h => h) ⟨Nat.le_of_ble_eq_true rfl, Nat.le_of_ble_eq_true rfl⟩ ⟨Nat.zero_le _, Nat.zero_le _⟩ hl.1 rfl rfl (Nat.le_of_ble_eq_true rfl) dX11_readLaw_86 (fun r_31 v_31 f_31 g_31 H locs hq_31 hP _ hS => ?_)
        obtain ⟨z_31, w6_31, w7_31, w8_31, w9_31, w10_31, w11_31, b0_31, rfl, rfl, rfl, rfl, p0_31, p1_31, p2_31, p3_31⟩ := hq_31
        show W p l e (gRm 4 92) s m args below meth c _ _ 0 0 Q (F0 m 89 ls [.int (iI z_31), .int (iI (v 15)), .ref (ad 7)])
        have hP : gWd D (mdT k ad) (va_up (va_up (va_up (va_up (va_up (va_up (va_up (va_up (va_up (va_up (va_up (va_up (va_up v 6 w6_31) 7 w7_31) 8 w8_31) 9 w9_31) 10 w10_31) 11 w11_31) 16 (v 16)) 20 (v 20)) 21 (v 21)) 27 (v 27)) 17 (v 17)) 15 (v 15)) 19 (v 19)) (va_up (va_up (va_up (va_up (va_up (va_up (va_up (va_up (va_up f 11 (f 11)) 12 (f 12)) 17 (f 17)) 14 (f 14)) 16 (f 16)) 5 (u1 (f 5) (v 15) z_11)) 6 (f 6)) 7 (f 7)) 8 (f 8)) (va_up g 0 b0_31) H := ⟨hP.1, (gF_up (V := mdV) (F := mdF) (gF_up (V := mdV) (F := mdF) (gF_up (V := mdV) (F := mdF) (gF_up (V := mdV) (F := mdF) (gF_up (V := mdV) (F := mdF) (gF_up (V := mdV) (F := mdF) (gF_up (V := mdV) (F := mdF) (gF_up (V := mdV) (F := mdF) (gF_up (V := mdV) (F := mdF) (gR_up (V := mdV) (F := mdF) (gR_up (V := mdV) (F := mdF) (gR_up (V := mdV) (F := mdF) (gR_up (V := mdV) (F := mdF) (gR_up (V := mdV) (F := mdF) (gR_up (V := mdV) (F := mdF) (gR_up (V := mdV) (F := mdF) (gR_up (V := mdV) (F := mdF) (gR_up (V := mdV) (F := mdF) (gR_up (V := mdV) (F := mdF) (gR_up (V := mdV) (F := mdF) (gR_up (V := mdV) (F := mdF) (gR_up (V := mdV) (F := mdF) ⟨hok.1, hok.2⟩ 6 (hP.2.1 6)) 7 (hP.2.1 7)) 8 (hP.2.1 8)) 9 (hP.2.1 9)) 10 (hP.2.1 10)) 11 (hP.2.1 11)) 16 (hP.2.1 16)) 20 (hP.2.1 20)) 21 (hP.2.1 21)) 27 (hP.2.1 27)) 17 (hP.2.1 17)) 15 (hP.2.1 15)) 19 (hP.2.1 19)) 11 (hP.2.2 11)) 12 (hP.2.2 12)) 17 (hP.2.2 17)) 14 (hP.2.2 14)) 16 (hP.2.2 16)) 5 (hP.2.2 5)) 6 (hP.2.2 6)) 7 (hP.2.2 7)) 8 (hP.2.2 8))⟩
        replace p0_31 : (1 : Int) ≤ z_31 ∧ z_31 ≤ (9 : Int) := p0_31
        replace p1_31 : w9_11 ≤ w9_31 ∧ w9_31 ≤ w10_31 ∧ w10_31 ≤ (v 3) := p1_31
        replace p2_31 : w8_31 ≠ 0 → w9_31 < w10_31 := p2_31
        replace p3_31 : 0 < w6_11 → 0 < w6_31 := p3_31
        have rw6_31 : 0 ≤ w6_31 ∧ w6_31 ≤ 5 := hP.2.1 6
        have rw7_31 : 0 ≤ w7_31 ∧ w7_31 ≤ 700 := hP.2.1 7
        have rw8_31 : 0 ≤ w8_31 ∧ w8_31 ≤ 4 := hP.2.1 8
        have rw9_31 : 0 ≤ w9_31 ∧ w9_31 ≤ 700 := hP.2.1 9
        have rw10_31 : 0 ≤ w10_31 ∧ w10_31 ≤ 700 := hP.2.1 10
        have rw11_31 : 0 ≤ w11_31 ∧ w11_31 ≤ 999999 := hP.2.1 11
        have hz_31 : inR z_31 := (by first | omega | (rw [p0_31]; split <;> omega))
        refine lv_goto (tgt := 93) hx hb dX11_readLaw_89 (by decide) ?_
        refine mdS_newTries (f1 := (va_up (va_up (va_up (va_up (va_up (va_up (va_up (va_up (va_up f 11 (f 11)) 12 (f 12)) 17 (f 17)) 14 (f 14)) 16 (f 16)) 5 (u1 (f 5) (v 15) z_11)) 6 (u1 (f 6) (v 15) z_31)) 7 (f 7)) 8 (f 8))) C hP hD hS (by omega) (by omega) (by omega) rfl (Or.inr (gF_up (V := mdV) (F := mdF) (gF_up (V := mdV) (F := mdF) (gF_up (V := mdV) (F := mdF) (gF_up (V := mdV) (F := mdF) (gF_up (V := mdV) (F := mdF) (gF_up (V := mdV) (F := mdF) (gF_up (V := mdV) (F := mdF) (gF_up (V := mdV) (F := mdF) (gF_up (V := mdV) (F := mdF) (gR_up (V := mdV) (F := mdF) (gR_up (V := mdV) (F := mdF) (gR_up (V := mdV) (F := mdF) (gR_up (V := mdV) (F := mdF) (gR_up (V := mdV) (F := mdF) (gR_up (V := mdV) (F := mdF) (gR_up (V := mdV) (F := mdF) (gR_up (V := mdV) (F := mdF) (gR_up (V := mdV) (F := mdF) (gR_up (V := mdV) (F := mdF) (gR_up (V := mdV) (F := mdF) (gR_up (V := mdV) (F := mdF) (gR_up (V := mdV) (F := mdF) ⟨hok.1, hok.2⟩ 6 (hP.2.1 6)) 7 (hP.2.1 7)) 8 (hP.2.1 8)) 9 (hP.2.1 9)) 10 (hP.2.1 10)) 11 (hP.2.1 11)) 16 (hP.2.1 16)) 20 (hP.2.1 20)) 21 (hP.2.1 21)) 27 (hP.2.1 27)) 17 (hP.2.1 17)) 15 (hP.2.1 15)) 19 (hP.2.1 19)) 11 (hP.2.2 11)) 12 (hP.2.2 12)) 17 (hP.2.2 17)) 14 (hP.2.2 14)) 16 (hP.2.2 16)) 5 (hP.2.2 5)) 6 (u1_rng (hP.2.2 6) (show 0 ≤ z_31 ∧ z_31 ≤ 9 from (by omega)))) 7 (hP.2.2 7)) 8 (hP.2.2 8))) dX11_readLaw_93 (fun H locs hP hS => ?_)
        refine lv_aload_n hx hb dX11_readLaw_94 rfl (lv_at hl 0 rfl) ?_
        refine mdG_newSeconds C hP mF_X11_39 dX11_readLaw_95 ?_
        refine lv_aload_n hx hb dX11_readLaw_98 rfl (lv_at hl 0 rfl) ?_
        refine mdG_newRounds C hP mF_X11_207 dX11_readLaw_99 ?_
        show W p l e (gRm 4 92) s m args below meth c _ _ 0 0 Q (F0 m 102 ls [.int (iI (v 15)), .ref (ad 8)])
        refine lv_aload_n hx hb dX11_readLaw_102 rfl (lv_at hl 0 rfl) ?_
        refine mdG_bad C hP mF_X11_188 dX11_readLaw_103 ?_
        show W p l e (gRm 4 92) s m args below meth c _ _ 0 0 Q (F0 m 106 ls [.int (iI w6_31), .int (iI (v 15)), .ref (ad 8)])
        have r_32 : 0 ≤ w6_31 ∧ w6_31 ≤ 5 := hP.2.1 6
        refine gi_zne (tgt := 121) hx hb dX11_readLaw_106 (by decide) (by omega) (fun c_33 => ?_) (fun c_33 => ?_)
        · refine lv_bipush (v := iI 10) hx hb dX11_readLaw_121 (by decide) ?_
          refine mdS_newSeconds (f1 := (va_up (va_up (va_up (va_up (va_up (va_up (va_up (va_up (va_up f 11 (f 11)) 12 (f 12)) 17 (f 17)) 14 (f 14)) 16 (f 16)) 5 (u1 (f 5) (v 15) z_11)) 6 (u1 (f 6) (v 15) z_31)) 7 (u1 (f 7) (v 15) 10)) 8 (f 8))) C hP hD hS (by omega) (by omega) (by decide) rfl (Or.inr (gF_up (V := mdV) (F := mdF) (gF_up (V := mdV) (F := mdF) (gF_up (V := mdV) (F := mdF) (gF_up (V := mdV) (F := mdF) (gF_up (V := mdV) (F := mdF) (gF_up (V := mdV) (F := mdF) (gF_up (V := mdV) (F := mdF) (gF_up (V := mdV) (F := mdF) (gF_up (V := mdV) (F := mdF) (gR_up (V := mdV) (F := mdF) (gR_up (V := mdV) (F := mdF) (gR_up (V := mdV) (F := mdF) (gR_up (V := mdV) (F := mdF) (gR_up (V := mdV) (F := mdF) (gR_up (V := mdV) (F := mdF) (gR_up (V := mdV) (F := mdF) (gR_up (V := mdV) (F := mdF) (gR_up (V := mdV) (F := mdF) (gR_up (V := mdV) (F := mdF) (gR_up (V := mdV) (F := mdF) (gR_up (V := mdV) (F := mdF) (gR_up (V := mdV) (F := mdF) ⟨hok.1, hok.2⟩ 6 (hP.2.1 6)) 7 (hP.2.1 7)) 8 (hP.2.1 8)) 9 (hP.2.1 9)) 10 (hP.2.1 10)) 11 (hP.2.1 11)) 16 (hP.2.1 16)) 20 (hP.2.1 20)) 21 (hP.2.1 21)) 27 (hP.2.1 27)) 17 (hP.2.1 17)) 15 (hP.2.1 15)) 19 (hP.2.1 19)) 11 (hP.2.2 11)) 12 (hP.2.2 12)) 17 (hP.2.2 17)) 14 (hP.2.2 14)) 16 (hP.2.2 16)) 5 (hP.2.2 5)) 6 (hP.2.2 6)) 7 (u1_rng (hP.2.2 7) (show 0 ≤ 10 ∧ 10 ≤ 999 from (by decide)))) 8 (hP.2.2 8))) dX11_readLaw_123 (fun H locs hP hS => ?_)
          refine lv_aload_n hx hb dX11_readLaw_124 rfl (lv_at hl 0 rfl) ?_
          refine mdG_newRest C hP mF_X11_42 dX11_readLaw_125 ?_
          refine lv_aload_n hx hb dX11_readLaw_128 rfl (lv_at hl 0 rfl) ?_
          refine mdG_newRounds C hP mF_X11_207 dX11_readLaw_129 ?_
          show W p l e (gRm 4 92) s m args below meth c _ _ 0 0 Q (F0 m 132 ls [.int (iI (v 15)), .ref (ad 9)])
          refine lv_aload_n hx hb dX11_readLaw_132 rfl (lv_at hl 0 rfl) ?_
          refine mdG_bad C hP mF_X11_188 dX11_readLaw_133 ?_
          show W p l e (gRm 4 92) s m args below meth c _ _ 0 0 Q (F0 m 136 ls [.int (iI w6_31), .int (iI (v 15)), .ref (ad 9)])
          refine gi_zne (tgt := 150) hx hb dX11_readLaw_136 (by decide) (by omega) (fun c_34 => ?_) (fun c_34 => ?_)
          · refine lv_iconst (v := iI 0) hx hb dX11_readLaw_150 rfl ?_
            refine mdS_newRest (f1 := (va_up (va_up (va_up (va_up (va_up (va_up (va_up (va_up (va_up f 11 (f 11)) 12 (f 12)) 17 (f 17)) 14 (f 14)) 16 (f 16)) 5 (u1 (f 5) (v 15) z_11)) 6 (u1 (f 6) (v 15) z_31)) 7 (u1 (f 7) (v 15) 10)) 8 (u1 (f 8) (v 15) 0))) C hP hD hS (by omega) (by omega) (by decide) rfl (Or.inr (gF_up (V := mdV) (F := mdF) (gF_up (V := mdV) (F := mdF) (gF_up (V := mdV) (F := mdF) (gF_up (V := mdV) (F := mdF) (gF_up (V := mdV) (F := mdF) (gF_up (V := mdV) (F := mdF) (gF_up (V := mdV) (F := mdF) (gF_up (V := mdV) (F := mdF) (gF_up (V := mdV) (F := mdF) (gR_up (V := mdV) (F := mdF) (gR_up (V := mdV) (F := mdF) (gR_up (V := mdV) (F := mdF) (gR_up (V := mdV) (F := mdF) (gR_up (V := mdV) (F := mdF) (gR_up (V := mdV) (F := mdF) (gR_up (V := mdV) (F := mdF) (gR_up (V := mdV) (F := mdF) (gR_up (V := mdV) (F := mdF) (gR_up (V := mdV) (F := mdF) (gR_up (V := mdV) (F := mdF) (gR_up (V := mdV) (F := mdF) (gR_up (V := mdV) (F := mdF) ⟨hok.1, hok.2⟩ 6 (hP.2.1 6)) 7 (hP.2.1 7)) 8 (hP.2.1 8)) 9 (hP.2.1 9)) 10 (hP.2.1 10)) 11 (hP.2.1 11)) 16 (hP.2.1 16)) 20 (hP.2.1 20)) 21 (hP.2.1 21)) 27 (hP.2.1 27)) 17 (hP.2.1 17)) 15 (hP.2.1 15)) 19 (hP.2.1 19)) 11 (hP.2.2 11)) 12 (hP.2.2 12)) 17 (hP.2.2 17)) 14 (hP.2.2 14)) 16 (hP.2.2 16)) 5 (hP.2.2 5)) 6 (hP.2.2 6)) 7 (hP.2.2 7)) 8 (u1_rng (hP.2.2 8) (show 0 ≤ 0 ∧ 0 ≤ 999 from (by decide))))) dX11_readLaw_151 (fun H locs hP hS => ?_)
            refine lv_aload_n hx hb dX11_readLaw_152 rfl (lv_at hl 0 rfl) ?_
            refine lv_dup hx hb dX11_readLaw_153 rfl ?_
            refine mdG_newRounds C hP mF_X11_207 dX11_readLaw_154 ?_
            show W p l e (gRm 4 92) s m args below meth c _ _ 0 0 Q (F0 m 157 ls [.int (iI (v 15)), .ref (ad 0)])
            refine lv_iconst (v := iI 1) hx hb dX11_readLaw_157 rfl ?_
            refine gi_add (z := ((v 15) + 1)) hx hb dX11_readLaw_158 rfl ?_
            refine mdP_newRounds (v1 := (va_up (va_up (va_up (va_up (va_up (va_up (va_up (va_up (va_up (va_up (va_up (va_up (va_up v 6 w6_31) 7 w7_31) 8 w8_31) 9 w9_31) 10 w10_31) 11 w11_31) 16 (v 16)) 20 (v 20)) 21 (v 21)) 27 (v 27)) 17 (v 17)) 15 ((v 15) + 1)) 19 (v 19))) C hP hD hS mF_X11_207 (by omega) rfl (Or.inr (gF_up (V := mdV) (F := mdF) (gF_up (V := mdV) (F := mdF) (gF_up (V := mdV) (F := mdF) (gF_up (V := mdV) (F := mdF) (gF_up (V := mdV) (F := mdF) (gF_up (V := mdV) (F := mdF) (gF_up (V := mdV) (F := mdF) (gF_up (V := mdV) (F := mdF) (gF_up (V := mdV) (F := mdF) (gR_up (V := mdV) (F := mdF) (gR_up (V := mdV) (F := mdF) (gR_up (V := mdV) (F := mdF) (gR_up (V := mdV) (F := mdF) (gR_up (V := mdV) (F := mdF) (gR_up (V := mdV) (F := mdF) (gR_up (V := mdV) (F := mdF) (gR_up (V := mdV) (F := mdF) (gR_up (V := mdV) (F := mdF) (gR_up (V := mdV) (F := mdF) (gR_up (V := mdV) (F := mdF) (gR_up (V := mdV) (F := mdF) (gR_up (V := mdV) (F := mdF) ⟨hok.1, hok.2⟩ 6 (hP.2.1 6)) 7 (hP.2.1 7)) 8 (hP.2.1 8)) 9 (hP.2.1 9)) 10 (hP.2.1 10)) 11 (hP.2.1 11)) 16 (hP.2.1 16)) 20 (hP.2.1 20)) 21 (hP.2.1 21)) 27 (hP.2.1 27)) 17 (hP.2.1 17)) 15 (show 0 ≤ ((v 15) + 1) ∧ ((v 15) + 1) ≤ 4 from by omega)) 19 (hP.2.1 19)) 11 (hP.2.2 11)) 12 (hP.2.2 12)) 17 (hP.2.2 17)) 14 (hP.2.2 14)) 16 (hP.2.2 16)) 5 (hP.2.2 5)) 6 (hP.2.2 6)) 7 (hP.2.2 7)) 8 (hP.2.2 8))) dX11_readLaw_159 (fun H locs hP hS => ?_)
            refine lv_goto (tgt := 246) hx hb dX11_readLaw_162 (by decide) ?_
            refine lv_aload_n hx hb dX11_readLaw_246 rfl (lv_at hl 0 rfl) ?_
            refine mdG_bad C hP mF_X11_188 dX11_readLaw_247 ?_
            show W p l e (gRm 4 92) s m args below meth c _ _ 0 0 Q (F0 m 250 ls [.int (iI w6_31)])
            refine gi_zne (tgt := 257) hx hb dX11_readLaw_250 (by decide) (by omega) (fun c_35 => ?_) (fun c_35 => ?_)
            · exact g_vret hQ C hr hlocks hP hS dX11_readLaw_257 ⟨w6_31, w7_31, w8_31, w9_31, w10_31, w11_31, (v 16), (v 20), (v 21), (v 27), (v 17), ((v 15) + 1), (v 19), (f 11), (f 12), (f 17), (f 14), (f 16), (u1 (f 5) (v 15) z_11), (u1 (f 6) (v 15) z_31), (u1 (f 7) (v 15) 10), (u1 (f 8) (v 15) 0), b0_31, rfl, rfl, rfl, rfl, (by first | omega | (split <;> omega)), (by first | omega | (split <;> omega)), (by first | omega | (split <;> omega)), (by first | (intro h; exfalso; omega) | exact fun _ => hrp | exact fun _ => hX (by omega))⟩
            · refine lv_aload_n hx hb dX11_readLaw_253 rfl (lv_at hl 0 rfl) ?_
              refine g_cv (As := []) (rest := []) (n := 0) C hml (m_X11_ends l D k A ad hD (va_up (va_up (va_up (va_up (va_up (va_up (va_up (va_up (va_up (va_up (va_up (va_up (va_up v 6 w6_31) 7 w7_31) 8 w8_31) 9 w9_31) 10 w10_31) 11 w11_31) 16 (v 16)) 20 (v 20)) 21 (v 21)) 27 (v 27)) 17 (v 17)) 15 ((v 15) + 1)) 19 (v 19)) (va_up (va_up (va_up (va_up (va_up (va_up (va_up (va_up (va_up f 11 (f 11)) 12 (f 12)) 17 (f 17)) 14 (f 14)) 16 (f 16)) 5 (u1 (f 5) (v 15) z_11)) 6 (u1 (f 6) (v 15) z_31)) 7 (u1 (f 7) (v 15) 10)) 8 (u1 (f 8) (v 15) 0)) (va_up g 0 b0_31) (show w9_31 ≤ w10_31 ∧ w10_31 ≤ (v 3) ∧ (w8_31 ≠ 0 → w9_31 < w10_31) from by omega)) mM_X11_246 mI_X11_ends mE_X11_ends mN_X11 mC_X11_ends (by decide +kernel) 0 (ci := 11) rfl rfl hP hS (fun _ h => h) ⟨Nat.le_of_ble_eq_true rfl, Nat.le_of_ble_eq_true rfl⟩ ⟨Nat.zero_le _, Nat.zero_le _⟩ hl.1 rfl rfl (Nat.le_of_ble_eq_true rfl) dX11_readLaw_254 (fun r_36 v_36 f_36 g_36 H locs hq_36 hP _ hS => ?_)
              obtain ⟨w6_36, w7_36, w8_36, w9_36, w10_36, w11_36, b0_36, rfl, rfl, rfl, rfl, p0_36, p1_36, p2_36, p3_36⟩ := hq_36
              show W p l e (gRm 4 92) s m args below meth c _ _ 0 0 Q (F0 m 257 ls [])
              have hP : gWd D (mdT k ad) (va_up (va_up (va_up (va_up (va_up (va_up (va_up (va_up (va_up (va_up (va_up (va_up (va_up v 6 w6_36) 7 w7_36) 8 w8_36) 9 w9_36) 10 w10_36) 11 w11_36) 16 (v 16)) 20 (v 20)) 21 (v 21)) 27 (v 27)) 17 (v 17)) 15 ((v 15) + 1)) 19 (v 19)) (va_up (va_up (va_up (va_up (va_up (va_up (va_up (va_up (va_up f 11 (f 11)) 12 (f 12)) 17 (f 17)) 14 (f 14)) 16 (f 16)) 5 (u1 (f 5) (v 15) z_11)) 6 (u1 (f 6) (v 15) z_31)) 7 (u1 (f 7) (v 15) 10)) 8 (u1 (f 8) (v 15) 0)) (va_up g 0 b0_36) H := ⟨hP.1, (gF_up (V := mdV) (F := mdF) (gF_up (V := mdV) (F := mdF) (gF_up (V := mdV) (F := mdF) (gF_up (V := mdV) (F := mdF) (gF_up (V := mdV) (F := mdF) (gF_up (V := mdV) (F := mdF) (gF_up (V := mdV) (F := mdF) (gF_up (V := mdV) (F := mdF) (gF_up (V := mdV) (F := mdF) (gR_up (V := mdV) (F := mdF) (gR_up (V := mdV) (F := mdF) (gR_up (V := mdV) (F := mdF) (gR_up (V := mdV) (F := mdF) (gR_up (V := mdV) (F := mdF) (gR_up (V := mdV) (F := mdF) (gR_up (V := mdV) (F := mdF) (gR_up (V := mdV) (F := mdF) (gR_up (V := mdV) (F := mdF) (gR_up (V := mdV) (F := mdF) (gR_up (V := mdV) (F := mdF) (gR_up (V := mdV) (F := mdF) (gR_up (V := mdV) (F := mdF) ⟨hok.1, hok.2⟩ 6 (hP.2.1 6)) 7 (hP.2.1 7)) 8 (hP.2.1 8)) 9 (hP.2.1 9)) 10 (hP.2.1 10)) 11 (hP.2.1 11)) 16 (hP.2.1 16)) 20 (hP.2.1 20)) 21 (hP.2.1 21)) 27 (hP.2.1 27)) 17 (hP.2.1 17)) 15 (hP.2.1 15)) 19 (hP.2.1 19)) 11 (hP.2.2 11)) 12 (hP.2.2 12)) 17 (hP.2.2 17)) 14 (hP.2.2 14)) 16 (hP.2.2 16)) 5 (hP.2.2 5)) 6 (hP.2.2 6)) 7 (hP.2.2 7)) 8 (hP.2.2 8))⟩
              replace p0_36 : w9_31 ≤ w9_36 ∧ w9_36 ≤ w10_36 ∧ w10_36 ≤ (v 3) := p0_36
              replace p1_36 : w8_36 ≠ 0 → w9_36 < w10_36 := p1_36
              replace p2_36 : 0 < w6_31 → 0 < w6_36 := p2_36
              replace p3_36 : w6_36 = 0 → w6_31 = 0 := p3_36
              have rw6_36 : 0 ≤ w6_36 ∧ w6_36 ≤ 5 := hP.2.1 6
              have rw7_36 : 0 ≤ w7_36 ∧ w7_36 ≤ 700 := hP.2.1 7
              have rw8_36 : 0 ≤ w8_36 ∧ w8_36 ≤ 4 := hP.2.1 8
              have rw9_36 : 0 ≤ w9_36 ∧ w9_36 ≤ 700 := hP.2.1 9
              have rw10_36 : 0 ≤ w10_36 ∧ w10_36 ≤ 700 := hP.2.1 10
              have rw11_36 : 0 ≤ w11_36 ∧ w11_36 ≤ 999999 := hP.2.1 11
              exact g_vret hQ C hr hlocks hP hS dX11_readLaw_257 ⟨w6_36, w7_36, w8_36, w9_36, w10_36, w11_36, (v 16), (v 20), (v 21), (v 27), (v 17), ((v 15) + 1), (v 19), (f 11), (f 12), (f 17), (f 14), (f 16), (u1 (f 5) (v 15) z_11), (u1 (f 6) (v 15) z_31), (u1 (f 7) (v 15) 10), (u1 (f 8) (v 15) 0), b0_36, rfl, rfl, rfl, rfl, (by first | omega | (split <;> omega)), (by first | omega | (split <;> omega)), (by first | omega | (split <;> omega)), (by first | (intro h; exfalso; omega) | exact fun _ => hrp | exact fun _ => hX (by omega))⟩
          · refine lv_aload_n hx hb dX11_readLaw_139 rfl (lv_at hl 0 rfl) ?_
            refine lv_iconst (v := iI 0) hx hb dX11_readLaw_140 rfl ?_
            refine lv_sipush (v := iI 999) hx hb dX11_readLaw_141 (by decide) ?_
            refine g_cv (As := [.int (iI 0), .int (iI 999)]) (rest := [.int (iI (v 15)), .ref (ad 9)]) (n := 2) C hml (m_X11_numberOf l D k A ad hD (va_up (va_up (va_up (va_up (va_up (va_up (va_up (va_up (va_up (va_up (va_up (va_up (va_up v 6 w6_31) 7 w7_31) 8 w8_31) 9 w9_31) 10 w10_31) 11 w11_31) 16 (v 16)) 20 (v 20)) 21 (v 21)) 27 (v 27)) 17 (v 17)) 15 (v 15)) 19 (v 19)) (va_up (va_up (va_up (va_up (va_up (va_up (va_up (va_up (va_up f 11 (f 11)) 12 (f 12)) 17 (f 17)) 14 (f 14)) 16 (f 16)) 5 (u1 (f 5) (v 15) z_11)) 6 (u1 (f 6) (v 15) z_31)) 7 (u1 (f 7) (v 15) 10)) 8 (f 8)) (va_up g 0 b0_31) 0 999 (by decide) (by decide) (show w9_31 ≤ w10_31 ∧ w10_31 ≤ (v 3) ∧ (w8_31 ≠ 0 → w9_31 < w10_31) from by omega) (show 0 ≤ (0 : Int) ∧ (0 : Int) ≤ (999 : Int) ∧ (999 : Int) ≤ 999 from by omega)) mM_X11_236 mI_X11_numberOf mE_X11_numberOf mN_X11 mC_X11_numberOf (by decide +kernel) 0 (ci := 11) rfl rfl hP hS (fun _ h => h) ⟨Nat.le_of_ble_eq_true rfl, Nat.le_of_ble_eq_true rfl⟩ ⟨Nat.zero_le _, Nat.zero_le _⟩ hl.1 rfl rfl (Nat.le_of_ble_eq_true rfl) dX11_readLaw_144 (fun r_37 v_37 f_37 g_37 H locs hq_37 hP _ hS => ?_)
            obtain ⟨z_37, w6_37, w7_37, w8_37, w9_37, w10_37, w11_37, b0_37, rfl, rfl, rfl, rfl, p0_37, p1_37, p2_37, p3_37⟩ := hq_37
            show W p l e (gRm 4 92) s m args below meth c _ _ 0 0 Q (F0 m 147 ls [.int (iI z_37), .int (iI (v 15)), .ref (ad 9)])
            have hP : gWd D (mdT k ad) (va_up (va_up (va_up (va_up (va_up (va_up (va_up (va_up (va_up (va_up (va_up (va_up (va_up v 6 w6_37) 7 w7_37) 8 w8_37) 9 w9_37) 10 w10_37) 11 w11_37) 16 (v 16)) 20 (v 20)) 21 (v 21)) 27 (v 27)) 17 (v 17)) 15 (v 15)) 19 (v 19)) (va_up (va_up (va_up (va_up (va_up (va_up (va_up (va_up (va_up f 11 (f 11)) 12 (f 12)) 17 (f 17)) 14 (f 14)) 16 (f 16)) 5 (u1 (f 5) (v 15) z_11)) 6 (u1 (f 6) (v 15) z_31)) 7 (u1 (f 7) (v 15) 10)) 8 (f 8)) (va_up g 0 b0_37) H := ⟨hP.1, (gF_up (V := mdV) (F := mdF) (gF_up (V := mdV) (F := mdF) (gF_up (V := mdV) (F := mdF) (gF_up (V := mdV) (F := mdF) (gF_up (V := mdV) (F := mdF) (gF_up (V := mdV) (F := mdF) (gF_up (V := mdV) (F := mdF) (gF_up (V := mdV) (F := mdF) (gF_up (V := mdV) (F := mdF) (gR_up (V := mdV) (F := mdF) (gR_up (V := mdV) (F := mdF) (gR_up (V := mdV) (F := mdF) (gR_up (V := mdV) (F := mdF) (gR_up (V := mdV) (F := mdF) (gR_up (V := mdV) (F := mdF) (gR_up (V := mdV) (F := mdF) (gR_up (V := mdV) (F := mdF) (gR_up (V := mdV) (F := mdF) (gR_up (V := mdV) (F := mdF) (gR_up (V := mdV) (F := mdF) (gR_up (V := mdV) (F := mdF) (gR_up (V := mdV) (F := mdF) ⟨hok.1, hok.2⟩ 6 (hP.2.1 6)) 7 (hP.2.1 7)) 8 (hP.2.1 8)) 9 (hP.2.1 9)) 10 (hP.2.1 10)) 11 (hP.2.1 11)) 16 (hP.2.1 16)) 20 (hP.2.1 20)) 21 (hP.2.1 21)) 27 (hP.2.1 27)) 17 (hP.2.1 17)) 15 (hP.2.1 15)) 19 (hP.2.1 19)) 11 (hP.2.2 11)) 12 (hP.2.2 12)) 17 (hP.2.2 17)) 14 (hP.2.2 14)) 16 (hP.2.2 16)) 5 (hP.2.2 5)) 6 (hP.2.2 6)) 7 (hP.2.2 7)) 8 (hP.2.2 8))⟩
            replace p0_37 : (0 : Int) ≤ z_37 ∧ z_37 ≤ (999 : Int) := p0_37
            replace p1_37 : w9_31 ≤ w9_37 ∧ w9_37 ≤ w10_37 ∧ w10_37 ≤ (v 3) := p1_37
            replace p2_37 : w8_37 ≠ 0 → w9_37 < w10_37 := p2_37
            replace p3_37 : 0 < w6_31 → 0 < w6_37 := p3_37
            have rw6_37 : 0 ≤ w6_37 ∧ w6_37 ≤ 5 := hP.2.1 6
            have rw7_37 : 0 ≤ w7_37 ∧ w7_37 ≤ 700 := hP.2.1 7
            have rw8_37 : 0 ≤ w8_37 ∧ w8_37 ≤ 4 := hP.2.1 8
            have rw9_37 : 0 ≤ w9_37 ∧ w9_37 ≤ 700 := hP.2.1 9
            have rw10_37 : 0 ≤ w10_37 ∧ w10_37 ≤ 700 := hP.2.1 10
            have rw11_37 : 0 ≤ w11_37 ∧ w11_37 ≤ 999999 := hP.2.1 11
            have hz_37 : inR z_37 := (by first | omega | (rw [p0_37]; split <;> omega))
            refine lv_goto (tgt := 151) hx hb dX11_readLaw_147 (by decide) ?_
            refine mdS_newRest (f1 := (va_up (va_up (va_up (va_up (va_up (va_up (va_up (va_up (va_up f 11 (f 11)) 12 (f 12)) 17 (f 17)) 14 (f 14)) 16 (f 16)) 5 (u1 (f 5) (v 15) z_11)) 6 (u1 (f 6) (v 15) z_31)) 7 (u1 (f 7) (v 15) 10)) 8 (u1 (f 8) (v 15) z_37))) C hP hD hS (by omega) (by omega) (by omega) rfl (Or.inr (gF_up (V := mdV) (F := mdF) (gF_up (V := mdV) (F := mdF) (gF_up (V := mdV) (F := mdF) (gF_up (V := mdV) (F := mdF) (gF_up (V := mdV) (F := mdF) (gF_up (V := mdV) (F := mdF) (gF_up (V := mdV) (F := mdF) (gF_up (V := mdV) (F := mdF) (gF_up (V := mdV) (F := mdF) (gR_up (V := mdV) (F := mdF) (gR_up (V := mdV) (F := mdF) (gR_up (V := mdV) (F := mdF) (gR_up (V := mdV) (F := mdF) (gR_up (V := mdV) (F := mdF) (gR_up (V := mdV) (F := mdF) (gR_up (V := mdV) (F := mdF) (gR_up (V := mdV) (F := mdF) (gR_up (V := mdV) (F := mdF) (gR_up (V := mdV) (F := mdF) (gR_up (V := mdV) (F := mdF) (gR_up (V := mdV) (F := mdF) (gR_up (V := mdV) (F := mdF) ⟨hok.1, hok.2⟩ 6 (hP.2.1 6)) 7 (hP.2.1 7)) 8 (hP.2.1 8)) 9 (hP.2.1 9)) 10 (hP.2.1 10)) 11 (hP.2.1 11)) 16 (hP.2.1 16)) 20 (hP.2.1 20)) 21 (hP.2.1 21)) 27 (hP.2.1 27)) 17 (hP.2.1 17)) 15 (hP.2.1 15)) 19 (hP.2.1 19)) 11 (hP.2.2 11)) 12 (hP.2.2 12)) 17 (hP.2.2 17)) 14 (hP.2.2 14)) 16 (hP.2.2 16)) 5 (hP.2.2 5)) 6 (hP.2.2 6)) 7 (hP.2.2 7)) 8 (u1_rng (hP.2.2 8) (show 0 ≤ z_37 ∧ z_37 ≤ 999 from (by omega))))) dX11_readLaw_151 (fun H locs hP hS => ?_)
            refine lv_aload_n hx hb dX11_readLaw_152 rfl (lv_at hl 0 rfl) ?_
            refine lv_dup hx hb dX11_readLaw_153 rfl ?_
            refine mdG_newRounds C hP mF_X11_207 dX11_readLaw_154 ?_
            show W p l e (gRm 4 92) s m args below meth c _ _ 0 0 Q (F0 m 157 ls [.int (iI (v 15)), .ref (ad 0)])
            refine lv_iconst (v := iI 1) hx hb dX11_readLaw_157 rfl ?_
            refine gi_add (z := ((v 15) + 1)) hx hb dX11_readLaw_158 rfl ?_
            refine mdP_newRounds (v1 := (va_up (va_up (va_up (va_up (va_up (va_up (va_up (va_up (va_up (va_up (va_up (va_up (va_up v 6 w6_37) 7 w7_37) 8 w8_37) 9 w9_37) 10 w10_37) 11 w11_37) 16 (v 16)) 20 (v 20)) 21 (v 21)) 27 (v 27)) 17 (v 17)) 15 ((v 15) + 1)) 19 (v 19))) C hP hD hS mF_X11_207 (by omega) rfl (Or.inr (gF_up (V := mdV) (F := mdF) (gF_up (V := mdV) (F := mdF) (gF_up (V := mdV) (F := mdF) (gF_up (V := mdV) (F := mdF) (gF_up (V := mdV) (F := mdF) (gF_up (V := mdV) (F := mdF) (gF_up (V := mdV) (F := mdF) (gF_up (V := mdV) (F := mdF) (gF_up (V := mdV) (F := mdF) (gR_up (V := mdV) (F := mdF) (gR_up (V := mdV) (F := mdF) (gR_up (V := mdV) (F := mdF) (gR_up (V := mdV) (F := mdF) (gR_up (V := mdV) (F := mdF) (gR_up (V := mdV) (F := mdF) (gR_up (V := mdV) (F := mdF) (gR_up (V := mdV) (F := mdF) (gR_up (V := mdV) (F := mdF) (gR_up (V := mdV) (F := mdF) (gR_up (V := mdV) (F := mdF) (gR_up (V := mdV) (F := mdF) (gR_up (V := mdV) (F := mdF) ⟨hok.1, hok.2⟩ 6 (hP.2.1 6)) 7 (hP.2.1 7)) 8 (hP.2.1 8)) 9 (hP.2.1 9)) 10 (hP.2.1 10)) 11 (hP.2.1 11)) 16 (hP.2.1 16)) 20 (hP.2.1 20)) 21 (hP.2.1 21)) 27 (hP.2.1 27)) 17 (hP.2.1 17)) 15 (show 0 ≤ ((v 15) + 1) ∧ ((v 15) + 1) ≤ 4 from by omega)) 19 (hP.2.1 19)) 11 (hP.2.2 11)) 12 (hP.2.2 12)) 17 (hP.2.2 17)) 14 (hP.2.2 14)) 16 (hP.2.2 16)) 5 (hP.2.2 5)) 6 (hP.2.2 6)) 7 (hP.2.2 7)) 8 (hP.2.2 8))) dX11_readLaw_159 (fun H locs hP hS => ?_)
            refine lv_goto (tgt := 246) hx hb dX11_readLaw_162 (by decide) ?_
            refine lv_aload_n hx hb dX11_readLaw_246 rfl (lv_at hl 0 rfl) ?_
            refine mdG_bad C hP mF_X11_188 dX11_readLaw_247 ?_
            show W p l e (gRm 4 92) s m args below meth c _ _ 0 0 Q (F0 m 250 ls [.int (iI w6_37)])
            have r_38 : 0 ≤ w6_37 ∧ w6_37 ≤ 5 := hP.2.1 6
            refine gi_zne (tgt := 257) hx hb dX11_readLaw_250 (by decide) (by omega) (fun c_39 => ?_) (fun c_39 => ?_)
            · exact g_vret hQ C hr hlocks hP hS dX11_readLaw_257 ⟨w6_37, w7_37, w8_37, w9_37, w10_37, w11_37, (v 16), (v 20), (v 21), (v 27), (v 17), ((v 15) + 1), (v 19), (f 11), (f 12), (f 17), (f 14), (f 16), (u1 (f 5) (v 15) z_11), (u1 (f 6) (v 15) z_31), (u1 (f 7) (v 15) 10), (u1 (f 8) (v 15) z_37), b0_37, rfl, rfl, rfl, rfl, (by first | omega | (split <;> omega)), (by first | omega | (split <;> omega)), (by first | omega | (split <;> omega)), (by first | (intro h; exfalso; omega) | exact fun _ => hrp | exact fun _ => hX (by omega))⟩
            · refine lv_aload_n hx hb dX11_readLaw_253 rfl (lv_at hl 0 rfl) ?_
              refine g_cv (As := []) (rest := []) (n := 0) C hml (m_X11_ends l D k A ad hD (va_up (va_up (va_up (va_up (va_up (va_up (va_up (va_up (va_up (va_up (va_up (va_up (va_up v 6 w6_37) 7 w7_37) 8 w8_37) 9 w9_37) 10 w10_37) 11 w11_37) 16 (v 16)) 20 (v 20)) 21 (v 21)) 27 (v 27)) 17 (v 17)) 15 ((v 15) + 1)) 19 (v 19)) (va_up (va_up (va_up (va_up (va_up (va_up (va_up (va_up (va_up f 11 (f 11)) 12 (f 12)) 17 (f 17)) 14 (f 14)) 16 (f 16)) 5 (u1 (f 5) (v 15) z_11)) 6 (u1 (f 6) (v 15) z_31)) 7 (u1 (f 7) (v 15) 10)) 8 (u1 (f 8) (v 15) z_37)) (va_up g 0 b0_37) (show w9_37 ≤ w10_37 ∧ w10_37 ≤ (v 3) ∧ (w8_37 ≠ 0 → w9_37 < w10_37) from by omega)) mM_X11_246 mI_X11_ends mE_X11_ends mN_X11 mC_X11_ends (by decide +kernel) 0 (ci := 11) rfl rfl hP hS (fun _ h => h) ⟨Nat.le_of_ble_eq_true rfl, Nat.le_of_ble_eq_true rfl⟩ ⟨Nat.zero_le _, Nat.zero_le _⟩ hl.1 rfl rfl (Nat.le_of_ble_eq_true rfl) dX11_readLaw_254 (fun r_40 v_40 f_40 g_40 H locs hq_40 hP _ hS => ?_)
              obtain ⟨w6_40, w7_40, w8_40, w9_40, w10_40, w11_40, b0_40, rfl, rfl, rfl, rfl, p0_40, p1_40, p2_40, p3_40⟩ := hq_40
              show W p l e (gRm 4 92) s m args below meth c _ _ 0 0 Q (F0 m 257 ls [])
              have hP : gWd D (mdT k ad) (va_up (va_up (va_up (va_up (va_up (va_up (va_up (va_up (va_up (va_up (va_up (va_up (va_up v 6 w6_40) 7 w7_40) 8 w8_40) 9 w9_40) 10 w10_40) 11 w11_40) 16 (v 16)) 20 (v 20)) 21 (v 21)) 27 (v 27)) 17 (v 17)) 15 ((v 15) + 1)) 19 (v 19)) (va_up (va_up (va_up (va_up (va_up (va_up (va_up (va_up (va_up f 11 (f 11)) 12 (f 12)) 17 (f 17)) 14 (f 14)) 16 (f 16)) 5 (u1 (f 5) (v 15) z_11)) 6 (u1 (f 6) (v 15) z_31)) 7 (u1 (f 7) (v 15) 10)) 8 (u1 (f 8) (v 15) z_37)) (va_up g 0 b0_40) H := ⟨hP.1, (gF_up (V := mdV) (F := mdF) (gF_up (V := mdV) (F := mdF) (gF_up (V := mdV) (F := mdF) (gF_up (V := mdV) (F := mdF) (gF_up (V := mdV) (F := mdF) (gF_up (V := mdV) (F := mdF) (gF_up (V := mdV) (F := mdF) (gF_up (V := mdV) (F := mdF) (gF_up (V := mdV) (F := mdF) (gR_up (V := mdV) (F := mdF) (gR_up (V := mdV) (F := mdF) (gR_up (V := mdV) (F := mdF) (gR_up (V := mdV) (F := mdF) (gR_up (V := mdV) (F := mdF) (gR_up (V := mdV) (F := mdF) (gR_up (V := mdV) (F := mdF) (gR_up (V := mdV) (F := mdF) (gR_up (V := mdV) (F := mdF) (gR_up (V := mdV) (F := mdF) (gR_up (V := mdV) (F := mdF) (gR_up (V := mdV) (F := mdF) (gR_up (V := mdV) (F := mdF) ⟨hok.1, hok.2⟩ 6 (hP.2.1 6)) 7 (hP.2.1 7)) 8 (hP.2.1 8)) 9 (hP.2.1 9)) 10 (hP.2.1 10)) 11 (hP.2.1 11)) 16 (hP.2.1 16)) 20 (hP.2.1 20)) 21 (hP.2.1 21)) 27 (hP.2.1 27)) 17 (hP.2.1 17)) 15 (hP.2.1 15)) 19 (hP.2.1 19)) 11 (hP.2.2 11)) 12 (hP.2.2 12)) 17 (hP.2.2 17)) 14 (hP.2.2 14)) 16 (hP.2.2 16)) 5 (hP.2.2 5)) 6 (hP.2.2 6)) 7 (hP.2.2 7)) 8 (hP.2.2 8))⟩
              replace p0_40 : w9_37 ≤ w9_40 ∧ w9_40 ≤ w10_40 ∧ w10_40 ≤ (v 3) := p0_40
              replace p1_40 : w8_40 ≠ 0 → w9_40 < w10_40 := p1_40
              replace p2_40 : 0 < w6_37 → 0 < w6_40 := p2_40
              replace p3_40 : w6_40 = 0 → w6_37 = 0 := p3_40
              have rw6_40 : 0 ≤ w6_40 ∧ w6_40 ≤ 5 := hP.2.1 6
              have rw7_40 : 0 ≤ w7_40 ∧ w7_40 ≤ 700 := hP.2.1 7
              have rw8_40 : 0 ≤ w8_40 ∧ w8_40 ≤ 4 := hP.2.1 8
              have rw9_40 : 0 ≤ w9_40 ∧ w9_40 ≤ 700 := hP.2.1 9
              have rw10_40 : 0 ≤ w10_40 ∧ w10_40 ≤ 700 := hP.2.1 10
              have rw11_40 : 0 ≤ w11_40 ∧ w11_40 ≤ 999999 := hP.2.1 11
              exact g_vret hQ C hr hlocks hP hS dX11_readLaw_257 ⟨w6_40, w7_40, w8_40, w9_40, w10_40, w11_40, (v 16), (v 20), (v 21), (v 27), (v 17), ((v 15) + 1), (v 19), (f 11), (f 12), (f 17), (f 14), (f 16), (u1 (f 5) (v 15) z_11), (u1 (f 6) (v 15) z_31), (u1 (f 7) (v 15) 10), (u1 (f 8) (v 15) z_37), b0_40, rfl, rfl, rfl, rfl, (by first | omega | (split <;> omega)), (by first | omega | (split <;> omega)), (by first | omega | (split <;> omega)), (by first | (intro h; exfalso; omega) | exact fun _ => hrp | exact fun _ => hX (by omega))⟩
        · refine lv_aload_n hx hb dX11_readLaw_109 rfl (lv_at hl 0 rfl) ?_
          refine lv_bipush (v := iI 10) hx hb dX11_readLaw_110 (by decide) ?_
          refine lv_sipush (v := iI 999) hx hb dX11_readLaw_112 (by decide) ?_
          refine g_cv (As := [.int (iI 10), .int (iI 999)]) (rest := [.int (iI (v 15)), .ref (ad 8)]) (n := 2) C hml (m_X11_numberOf l D k A ad hD (va_up (va_up (va_up (va_up (va_up (va_up (va_up (va_up (va_up (va_up (va_up (va_up (va_up v 6 w6_31) 7 w7_31) 8 w8_31) 9 w9_31) 10 w10_31) 11 w11_31) 16 (v 16)) 20 (v 20)) 21 (v 21)) 27 (v 27)) 17 (v 17)) 15 (v 15)) 19 (v 19)) (va_up (va_up (va_up (va_up (va_up (va_up (va_up (va_up (va_up f 11 (f 11)) 12 (f 12)) 17 (f 17)) 14 (f 14)) 16 (f 16)) 5 (u1 (f 5) (v 15) z_11)) 6 (u1 (f 6) (v 15) z_31)) 7 (f 7)) 8 (f 8)) (va_up g 0 b0_31) 10 999 (by decide) (by decide) (show w9_31 ≤ w10_31 ∧ w10_31 ≤ (v 3) ∧ (w8_31 ≠ 0 → w9_31 < w10_31) from by omega) (show 0 ≤ (10 : Int) ∧ (10 : Int) ≤ (999 : Int) ∧ (999 : Int) ≤ 999 from by omega)) mM_X11_236 mI_X11_numberOf mE_X11_numberOf mN_X11 mC_X11_numberOf (by decide +kernel) 0 (ci := 11) rfl rfl hP hS (fun _ h => h) ⟨Nat.le_of_ble_eq_true rfl, Nat.le_of_ble_eq_true rfl⟩ ⟨Nat.zero_le _, Nat.zero_le _⟩ hl.1 rfl rfl (Nat.le_of_ble_eq_true rfl) dX11_readLaw_115 (fun r_41 v_41 f_41 g_41 H locs hq_41 hP _ hS => ?_)
          obtain ⟨z_41, w6_41, w7_41, w8_41, w9_41, w10_41, w11_41, b0_41, rfl, rfl, rfl, rfl, p0_41, p1_41, p2_41, p3_41⟩ := hq_41
          show W p l e (gRm 4 92) s m args below meth c _ _ 0 0 Q (F0 m 118 ls [.int (iI z_41), .int (iI (v 15)), .ref (ad 8)])
          have hP : gWd D (mdT k ad) (va_up (va_up (va_up (va_up (va_up (va_up (va_up (va_up (va_up (va_up (va_up (va_up (va_up v 6 w6_41) 7 w7_41) 8 w8_41) 9 w9_41) 10 w10_41) 11 w11_41) 16 (v 16)) 20 (v 20)) 21 (v 21)) 27 (v 27)) 17 (v 17)) 15 (v 15)) 19 (v 19)) (va_up (va_up (va_up (va_up (va_up (va_up (va_up (va_up (va_up f 11 (f 11)) 12 (f 12)) 17 (f 17)) 14 (f 14)) 16 (f 16)) 5 (u1 (f 5) (v 15) z_11)) 6 (u1 (f 6) (v 15) z_31)) 7 (f 7)) 8 (f 8)) (va_up g 0 b0_41) H := ⟨hP.1, (gF_up (V := mdV) (F := mdF) (gF_up (V := mdV) (F := mdF) (gF_up (V := mdV) (F := mdF) (gF_up (V := mdV) (F := mdF) (gF_up (V := mdV) (F := mdF) (gF_up (V := mdV) (F := mdF) (gF_up (V := mdV) (F := mdF) (gF_up (V := mdV) (F := mdF) (gF_up (V := mdV) (F := mdF) (gR_up (V := mdV) (F := mdF) (gR_up (V := mdV) (F := mdF) (gR_up (V := mdV) (F := mdF) (gR_up (V := mdV) (F := mdF) (gR_up (V := mdV) (F := mdF) (gR_up (V := mdV) (F := mdF) (gR_up (V := mdV) (F := mdF) (gR_up (V := mdV) (F := mdF) (gR_up (V := mdV) (F := mdF) (gR_up (V := mdV) (F := mdF) (gR_up (V := mdV) (F := mdF) (gR_up (V := mdV) (F := mdF) (gR_up (V := mdV) (F := mdF) ⟨hok.1, hok.2⟩ 6 (hP.2.1 6)) 7 (hP.2.1 7)) 8 (hP.2.1 8)) 9 (hP.2.1 9)) 10 (hP.2.1 10)) 11 (hP.2.1 11)) 16 (hP.2.1 16)) 20 (hP.2.1 20)) 21 (hP.2.1 21)) 27 (hP.2.1 27)) 17 (hP.2.1 17)) 15 (hP.2.1 15)) 19 (hP.2.1 19)) 11 (hP.2.2 11)) 12 (hP.2.2 12)) 17 (hP.2.2 17)) 14 (hP.2.2 14)) 16 (hP.2.2 16)) 5 (hP.2.2 5)) 6 (hP.2.2 6)) 7 (hP.2.2 7)) 8 (hP.2.2 8))⟩
          replace p0_41 : (10 : Int) ≤ z_41 ∧ z_41 ≤ (999 : Int) := p0_41
          replace p1_41 : w9_31 ≤ w9_41 ∧ w9_41 ≤ w10_41 ∧ w10_41 ≤ (v 3) := p1_41
          replace p2_41 : w8_41 ≠ 0 → w9_41 < w10_41 := p2_41
          replace p3_41 : 0 < w6_31 → 0 < w6_41 := p3_41
          have rw6_41 : 0 ≤ w6_41 ∧ w6_41 ≤ 5 := hP.2.1 6
          have rw7_41 : 0 ≤ w7_41 ∧ w7_41 ≤ 700 := hP.2.1 7
          have rw8_41 : 0 ≤ w8_41 ∧ w8_41 ≤ 4 := hP.2.1 8
          have rw9_41 : 0 ≤ w9_41 ∧ w9_41 ≤ 700 := hP.2.1 9
          have rw10_41 : 0 ≤ w10_41 ∧ w10_41 ≤ 700 := hP.2.1 10
          have rw11_41 : 0 ≤ w11_41 ∧ w11_41 ≤ 999999 := hP.2.1 11
          have hz_41 : inR z_41 := (by first | omega | (rw [p0_41]; split <;> omega))
          refine lv_goto (tgt := 123) hx hb dX11_readLaw_118 (by decide) ?_
          refine mdS_newSeconds (f1 := (va_up (va_up (va_up (va_up (va_up (va_up (va_up (va_up (va_up f 11 (f 11)) 12 (f 12)) 17 (f 17)) 14 (f 14)) 16 (f 16)) 5 (u1 (f 5) (v 15) z_11)) 6 (u1 (f 6) (v 15) z_31)) 7 (u1 (f 7) (v 15) z_41)) 8 (f 8))) C hP hD hS (by omega) (by omega) (by omega) rfl (Or.inr (gF_up (V := mdV) (F := mdF) (gF_up (V := mdV) (F := mdF) (gF_up (V := mdV) (F := mdF) (gF_up (V := mdV) (F := mdF) (gF_up (V := mdV) (F := mdF) (gF_up (V := mdV) (F := mdF) (gF_up (V := mdV) (F := mdF) (gF_up (V := mdV) (F := mdF) (gF_up (V := mdV) (F := mdF) (gR_up (V := mdV) (F := mdF) (gR_up (V := mdV) (F := mdF) (gR_up (V := mdV) (F := mdF) (gR_up (V := mdV) (F := mdF) (gR_up (V := mdV) (F := mdF) (gR_up (V := mdV) (F := mdF) (gR_up (V := mdV) (F := mdF) (gR_up (V := mdV) (F := mdF) (gR_up (V := mdV) (F := mdF) (gR_up (V := mdV) (F := mdF) (gR_up (V := mdV) (F := mdF) (gR_up (V := mdV) (F := mdF) (gR_up (V := mdV) (F := mdF) ⟨hok.1, hok.2⟩ 6 (hP.2.1 6)) 7 (hP.2.1 7)) 8 (hP.2.1 8)) 9 (hP.2.1 9)) 10 (hP.2.1 10)) 11 (hP.2.1 11)) 16 (hP.2.1 16)) 20 (hP.2.1 20)) 21 (hP.2.1 21)) 27 (hP.2.1 27)) 17 (hP.2.1 17)) 15 (hP.2.1 15)) 19 (hP.2.1 19)) 11 (hP.2.2 11)) 12 (hP.2.2 12)) 17 (hP.2.2 17)) 14 (hP.2.2 14)) 16 (hP.2.2 16)) 5 (hP.2.2 5)) 6 (hP.2.2 6)) 7 (u1_rng (hP.2.2 7) (show 0 ≤ z_41 ∧ z_41 ≤ 999 from (by omega)))) 8 (hP.2.2 8))) dX11_readLaw_123 (fun H locs hP hS => ?_)
          refine lv_aload_n hx hb dX11_readLaw_124 rfl (lv_at hl 0 rfl) ?_
          refine mdG_newRest C hP mF_X11_42 dX11_readLaw_125 ?_
          refine lv_aload_n hx hb dX11_readLaw_128 rfl (lv_at hl 0 rfl) ?_
          refine mdG_newRounds C hP mF_X11_207 dX11_readLaw_129 ?_
          show W p l e (gRm 4 92) s m args below meth c _ _ 0 0 Q (F0 m 132 ls [.int (iI (v 15)), .ref (ad 9)])
          refine lv_aload_n hx hb dX11_readLaw_132 rfl (lv_at hl 0 rfl) ?_
          refine mdG_bad C hP mF_X11_188 dX11_readLaw_133 ?_
          show W p l e (gRm 4 92) s m args below meth c _ _ 0 0 Q (F0 m 136 ls [.int (iI w6_41), .int (iI (v 15)), .ref (ad 9)])
          have r_42 : 0 ≤ w6_41 ∧ w6_41 ≤ 5 := hP.2.1 6
          refine gi_zne (tgt := 150) hx hb dX11_readLaw_136 (by decide) (by omega) (fun c_43 => ?_) (fun c_43 => ?_)
          · refine lv_iconst (v := iI 0) hx hb dX11_readLaw_150 rfl ?_
            refine mdS_newRest (f1 := (va_up (va_up (va_up (va_up (va_up (va_up (va_up (va_up (va_up f 11 (f 11)) 12 (f 12)) 17 (f 17)) 14 (f 14)) 16 (f 16)) 5 (u1 (f 5) (v 15) z_11)) 6 (u1 (f 6) (v 15) z_31)) 7 (u1 (f 7) (v 15) z_41)) 8 (u1 (f 8) (v 15) 0))) C hP hD hS (by omega) (by omega) (by decide) rfl (Or.inr (gF_up (V := mdV) (F := mdF) (gF_up (V := mdV) (F := mdF) (gF_up (V := mdV) (F := mdF) (gF_up (V := mdV) (F := mdF) (gF_up (V := mdV) (F := mdF) (gF_up (V := mdV) (F := mdF) (gF_up (V := mdV) (F := mdF) (gF_up (V := mdV) (F := mdF) (gF_up (V := mdV) (F := mdF) (gR_up (V := mdV) (F := mdF) (gR_up (V := mdV) (F := mdF) (gR_up (V := mdV) (F := mdF) (gR_up (V := mdV) (F := mdF) (gR_up (V := mdV) (F := mdF) (gR_up (V := mdV) (F := mdF) (gR_up (V := mdV) (F := mdF) (gR_up (V := mdV) (F := mdF) (gR_up (V := mdV) (F := mdF) (gR_up (V := mdV) (F := mdF) (gR_up (V := mdV) (F := mdF) (gR_up (V := mdV) (F := mdF) (gR_up (V := mdV) (F := mdF) ⟨hok.1, hok.2⟩ 6 (hP.2.1 6)) 7 (hP.2.1 7)) 8 (hP.2.1 8)) 9 (hP.2.1 9)) 10 (hP.2.1 10)) 11 (hP.2.1 11)) 16 (hP.2.1 16)) 20 (hP.2.1 20)) 21 (hP.2.1 21)) 27 (hP.2.1 27)) 17 (hP.2.1 17)) 15 (hP.2.1 15)) 19 (hP.2.1 19)) 11 (hP.2.2 11)) 12 (hP.2.2 12)) 17 (hP.2.2 17)) 14 (hP.2.2 14)) 16 (hP.2.2 16)) 5 (hP.2.2 5)) 6 (hP.2.2 6)) 7 (hP.2.2 7)) 8 (u1_rng (hP.2.2 8) (show 0 ≤ 0 ∧ 0 ≤ 999 from (by decide))))) dX11_readLaw_151 (fun H locs hP hS => ?_)
            refine lv_aload_n hx hb dX11_readLaw_152 rfl (lv_at hl 0 rfl) ?_
            refine lv_dup hx hb dX11_readLaw_153 rfl ?_
            refine mdG_newRounds C hP mF_X11_207 dX11_readLaw_154 ?_
            show W p l e (gRm 4 92) s m args below meth c _ _ 0 0 Q (F0 m 157 ls [.int (iI (v 15)), .ref (ad 0)])
            refine lv_iconst (v := iI 1) hx hb dX11_readLaw_157 rfl ?_
            refine gi_add (z := ((v 15) + 1)) hx hb dX11_readLaw_158 rfl ?_
            refine mdP_newRounds (v1 := (va_up (va_up (va_up (va_up (va_up (va_up (va_up (va_up (va_up (va_up (va_up (va_up (va_up v 6 w6_41) 7 w7_41) 8 w8_41) 9 w9_41) 10 w10_41) 11 w11_41) 16 (v 16)) 20 (v 20)) 21 (v 21)) 27 (v 27)) 17 (v 17)) 15 ((v 15) + 1)) 19 (v 19))) C hP hD hS mF_X11_207 (by omega) rfl (Or.inr (gF_up (V := mdV) (F := mdF) (gF_up (V := mdV) (F := mdF) (gF_up (V := mdV) (F := mdF) (gF_up (V := mdV) (F := mdF) (gF_up (V := mdV) (F := mdF) (gF_up (V := mdV) (F := mdF) (gF_up (V := mdV) (F := mdF) (gF_up (V := mdV) (F := mdF) (gF_up (V := mdV) (F := mdF) (gR_up (V := mdV) (F := mdF) (gR_up (V := mdV) (F := mdF) (gR_up (V := mdV) (F := mdF) (gR_up (V := mdV) (F := mdF) (gR_up (V := mdV) (F := mdF) (gR_up (V := mdV) (F := mdF) (gR_up (V := mdV) (F := mdF) (gR_up (V := mdV) (F := mdF) (gR_up (V := mdV) (F := mdF) (gR_up (V := mdV) (F := mdF) (gR_up (V := mdV) (F := mdF) (gR_up (V := mdV) (F := mdF) (gR_up (V := mdV) (F := mdF) ⟨hok.1, hok.2⟩ 6 (hP.2.1 6)) 7 (hP.2.1 7)) 8 (hP.2.1 8)) 9 (hP.2.1 9)) 10 (hP.2.1 10)) 11 (hP.2.1 11)) 16 (hP.2.1 16)) 20 (hP.2.1 20)) 21 (hP.2.1 21)) 27 (hP.2.1 27)) 17 (hP.2.1 17)) 15 (show 0 ≤ ((v 15) + 1) ∧ ((v 15) + 1) ≤ 4 from by omega)) 19 (hP.2.1 19)) 11 (hP.2.2 11)) 12 (hP.2.2 12)) 17 (hP.2.2 17)) 14 (hP.2.2 14)) 16 (hP.2.2 16)) 5 (hP.2.2 5)) 6 (hP.2.2 6)) 7 (hP.2.2 7)) 8 (hP.2.2 8))) dX11_readLaw_159 (fun H locs hP hS => ?_)
            refine lv_goto (tgt := 246) hx hb dX11_readLaw_162 (by decide) ?_
            refine lv_aload_n hx hb dX11_readLaw_246 rfl (lv_at hl 0 rfl) ?_
            refine mdG_bad C hP mF_X11_188 dX11_readLaw_247 ?_
            show W p l e (gRm 4 92) s m args below meth c _ _ 0 0 Q (F0 m 250 ls [.int (iI w6_41)])
            refine gi_zne (tgt := 257) hx hb dX11_readLaw_250 (by decide) (by omega) (fun c_44 => ?_) (fun c_44 => ?_)
            · exact g_vret hQ C hr hlocks hP hS dX11_readLaw_257 ⟨w6_41, w7_41, w8_41, w9_41, w10_41, w11_41, (v 16), (v 20), (v 21), (v 27), (v 17), ((v 15) + 1), (v 19), (f 11), (f 12), (f 17), (f 14), (f 16), (u1 (f 5) (v 15) z_11), (u1 (f 6) (v 15) z_31), (u1 (f 7) (v 15) z_41), (u1 (f 8) (v 15) 0), b0_41, rfl, rfl, rfl, rfl, (by first | omega | (split <;> omega)), (by first | omega | (split <;> omega)), (by first | omega | (split <;> omega)), (by first | (intro h; exfalso; omega) | exact fun _ => hrp | exact fun _ => hX (by omega))⟩
            · refine lv_aload_n hx hb dX11_readLaw_253 rfl (lv_at hl 0 rfl) ?_
              refine g_cv (As := []) (rest := []) (n := 0) C hml (m_X11_ends l D k A ad hD (va_up (va_up (va_up (va_up (va_up (va_up (va_up (va_up (va_up (va_up (va_up (va_up (va_up v 6 w6_41) 7 w7_41) 8 w8_41) 9 w9_41) 10 w10_41) 11 w11_41) 16 (v 16)) 20 (v 20)) 21 (v 21)) 27 (v 27)) 17 (v 17)) 15 ((v 15) + 1)) 19 (v 19)) (va_up (va_up (va_up (va_up (va_up (va_up (va_up (va_up (va_up f 11 (f 11)) 12 (f 12)) 17 (f 17)) 14 (f 14)) 16 (f 16)) 5 (u1 (f 5) (v 15) z_11)) 6 (u1 (f 6) (v 15) z_31)) 7 (u1 (f 7) (v 15) z_41)) 8 (u1 (f 8) (v 15) 0)) (va_up g 0 b0_41) (show w9_41 ≤ w10_41 ∧ w10_41 ≤ (v 3) ∧ (w8_41 ≠ 0 → w9_41 < w10_41) from by omega)) mM_X11_246 mI_X11_ends mE_X11_ends mN_X11 mC_X11_ends (by decide +kernel) 0 (ci := 11) rfl rfl hP hS (fun _ h => h) ⟨Nat.le_of_ble_eq_true rfl, Nat.le_of_ble_eq_true rfl⟩ ⟨Nat.zero_le _, Nat.zero_le _⟩ hl.1 rfl rfl (Nat.le_of_ble_eq_true rfl) dX11_readLaw_254 (fun r_45 v_45 f_45 g_45 H locs hq_45 hP _ hS => ?_)
              obtain ⟨w6_45, w7_45, w8_45, w9_45, w10_45, w11_45, b0_45, rfl, rfl, rfl, rfl, p0_45, p1_45, p2_45, p3_45⟩ := hq_45
              show W p l e (gRm 4 92) s m args below meth c _ _ 0 0 Q (F0 m 257 ls [])
              have hP : gWd D (mdT k ad) (va_up (va_up (va_up (va_up (va_up (va_up (va_up (va_up (va_up (va_up (va_up (va_up (va_up v 6 w6_45) 7 w7_45) 8 w8_45) 9 w9_45) 10 w10_45) 11 w11_45) 16 (v 16)) 20 (v 20)) 21 (v 21)) 27 (v 27)) 17 (v 17)) 15 ((v 15) + 1)) 19 (v 19)) (va_up (va_up (va_up (va_up (va_up (va_up (va_up (va_up (va_up f 11 (f 11)) 12 (f 12)) 17 (f 17)) 14 (f 14)) 16 (f 16)) 5 (u1 (f 5) (v 15) z_11)) 6 (u1 (f 6) (v 15) z_31)) 7 (u1 (f 7) (v 15) z_41)) 8 (u1 (f 8) (v 15) 0)) (va_up g 0 b0_45) H := ⟨hP.1, (gF_up (V := mdV) (F := mdF) (gF_up (V := mdV) (F := mdF) (gF_up (V := mdV) (F := mdF) (gF_up (V := mdV) (F := mdF) (gF_up (V := mdV) (F := mdF) (gF_up (V := mdV) (F := mdF) (gF_up (V := mdV) (F := mdF) (gF_up (V := mdV) (F := mdF) (gF_up (V := mdV) (F := mdF) (gR_up (V := mdV) (F := mdF) (gR_up (V := mdV) (F := mdF) (gR_up (V := mdV) (F := mdF) (gR_up (V := mdV) (F := mdF) (gR_up (V := mdV) (F := mdF) (gR_up (V := mdV) (F := mdF) (gR_up (V := mdV) (F := mdF) (gR_up (V := mdV) (F := mdF) (gR_up (V := mdV) (F := mdF) (gR_up (V := mdV) (F := mdF) (gR_up (V := mdV) (F := mdF) (gR_up (V := mdV) (F := mdF) (gR_up (V := mdV) (F := mdF) ⟨hok.1, hok.2⟩ 6 (hP.2.1 6)) 7 (hP.2.1 7)) 8 (hP.2.1 8)) 9 (hP.2.1 9)) 10 (hP.2.1 10)) 11 (hP.2.1 11)) 16 (hP.2.1 16)) 20 (hP.2.1 20)) 21 (hP.2.1 21)) 27 (hP.2.1 27)) 17 (hP.2.1 17)) 15 (hP.2.1 15)) 19 (hP.2.1 19)) 11 (hP.2.2 11)) 12 (hP.2.2 12)) 17 (hP.2.2 17)) 14 (hP.2.2 14)) 16 (hP.2.2 16)) 5 (hP.2.2 5)) 6 (hP.2.2 6)) 7 (hP.2.2 7)) 8 (hP.2.2 8))⟩
              replace p0_45 : w9_41 ≤ w9_45 ∧ w9_45 ≤ w10_45 ∧ w10_45 ≤ (v 3) := p0_45
              replace p1_45 : w8_45 ≠ 0 → w9_45 < w10_45 := p1_45
              replace p2_45 : 0 < w6_41 → 0 < w6_45 := p2_45
              replace p3_45 : w6_45 = 0 → w6_41 = 0 := p3_45
              have rw6_45 : 0 ≤ w6_45 ∧ w6_45 ≤ 5 := hP.2.1 6
              have rw7_45 : 0 ≤ w7_45 ∧ w7_45 ≤ 700 := hP.2.1 7
              have rw8_45 : 0 ≤ w8_45 ∧ w8_45 ≤ 4 := hP.2.1 8
              have rw9_45 : 0 ≤ w9_45 ∧ w9_45 ≤ 700 := hP.2.1 9
              have rw10_45 : 0 ≤ w10_45 ∧ w10_45 ≤ 700 := hP.2.1 10
              have rw11_45 : 0 ≤ w11_45 ∧ w11_45 ≤ 999999 := hP.2.1 11
              exact g_vret hQ C hr hlocks hP hS dX11_readLaw_257 ⟨w6_45, w7_45, w8_45, w9_45, w10_45, w11_45, (v 16), (v 20), (v 21), (v 27), (v 17), ((v 15) + 1), (v 19), (f 11), (f 12), (f 17), (f 14), (f 16), (u1 (f 5) (v 15) z_11), (u1 (f 6) (v 15) z_31), (u1 (f 7) (v 15) z_41), (u1 (f 8) (v 15) 0), b0_45, rfl, rfl, rfl, rfl, (by first | omega | (split <;> omega)), (by first | omega | (split <;> omega)), (by first | omega | (split <;> omega)), (by first | (intro h; exfalso; omega) | exact fun _ => hrp | exact fun _ => hX (by omega))⟩
          · refine lv_aload_n hx hb dX11_readLaw_139 rfl (lv_at hl 0 rfl) ?_
            refine lv_iconst (v := iI 0) hx hb dX11_readLaw_140 rfl ?_
            refine lv_sipush (v := iI 999) hx hb dX11_readLaw_141 (by decide) ?_
            refine g_cv (As := [.int (iI 0), .int (iI 999)]) (rest := [.int (iI (v 15)), .ref (ad 9)]) (n := 2) C hml (m_X11_numberOf l D k A ad hD (va_up (va_up (va_up (va_up (va_up (va_up (va_up (va_up (va_up (va_up (va_up (va_up (va_up v 6 w6_41) 7 w7_41) 8 w8_41) 9 w9_41) 10 w10_41) 11 w11_41) 16 (v 16)) 20 (v 20)) 21 (v 21)) 27 (v 27)) 17 (v 17)) 15 (v 15)) 19 (v 19)) (va_up (va_up (va_up (va_up (va_up (va_up (va_up (va_up (va_up f 11 (f 11)) 12 (f 12)) 17 (f 17)) 14 (f 14)) 16 (f 16)) 5 (u1 (f 5) (v 15) z_11)) 6 (u1 (f 6) (v 15) z_31)) 7 (u1 (f 7) (v 15) z_41)) 8 (f 8)) (va_up g 0 b0_41) 0 999 (by decide) (by decide) (show w9_41 ≤ w10_41 ∧ w10_41 ≤ (v 3) ∧ (w8_41 ≠ 0 → w9_41 < w10_41) from by omega) (show 0 ≤ (0 : Int) ∧ (0 : Int) ≤ (999 : Int) ∧ (999 : Int) ≤ 999 from by omega)) mM_X11_236 mI_X11_numberOf mE_X11_numberOf mN_X11 mC_X11_numberOf (by decide +kernel) 0 (ci := 11) rfl rfl hP hS (fun _ h => h) ⟨Nat.le_of_ble_eq_true rfl, Nat.le_of_ble_eq_true rfl⟩ ⟨Nat.zero_le _, Nat.zero_le _⟩ hl.1 rfl rfl (Nat.le_of_ble_eq_true rfl) dX11_readLaw_144 (fun r_46 v_46 f_46 g_46 H locs hq_46 hP _ hS => ?_)
            obtain ⟨z_46, w6_46, w7_46, w8_46, w9_46, w10_46, w11_46, b0_46, rfl, rfl, rfl, rfl, p0_46, p1_46, p2_46, p3_46⟩ := hq_46
            show W p l e (gRm 4 92) s m args below meth c _ _ 0 0 Q (F0 m 147 ls [.int (iI z_46), .int (iI (v 15)), .ref (ad 9)])
            have hP : gWd D (mdT k ad) (va_up (va_up (va_up (va_up (va_up (va_up (va_up (va_up (va_up (va_up (va_up (va_up (va_up v 6 w6_46) 7 w7_46) 8 w8_46) 9 w9_46) 10 w10_46) 11 w11_46) 16 (v 16)) 20 (v 20)) 21 (v 21)) 27 (v 27)) 17 (v 17)) 15 (v 15)) 19 (v 19)) (va_up (va_up (va_up (va_up (va_up (va_up (va_up (va_up (va_up f 11 (f 11)) 12 (f 12)) 17 (f 17)) 14 (f 14)) 16 (f 16)) 5 (u1 (f 5) (v 15) z_11)) 6 (u1 (f 6) (v 15) z_31)) 7 (u1 (f 7) (v 15) z_41)) 8 (f 8)) (va_up g 0 b0_46) H := ⟨hP.1, (gF_up (V := mdV) (F := mdF) (gF_up (V := mdV) (F := mdF) (gF_up (V := mdV) (F := mdF) (gF_up (V := mdV) (F := mdF) (gF_up (V := mdV) (F := mdF) (gF_up (V := mdV) (F := mdF) (gF_up (V := mdV) (F := mdF) (gF_up (V := mdV) (F := mdF) (gF_up (V := mdV) (F := mdF) (gR_up (V := mdV) (F := mdF) (gR_up (V := mdV) (F := mdF) (gR_up (V := mdV) (F := mdF) (gR_up (V := mdV) (F := mdF) (gR_up (V := mdV) (F := mdF) (gR_up (V := mdV) (F := mdF) (gR_up (V := mdV) (F := mdF) (gR_up (V := mdV) (F := mdF) (gR_up (V := mdV) (F := mdF) (gR_up (V := mdV) (F := mdF) (gR_up (V := mdV) (F := mdF) (gR_up (V := mdV) (F := mdF) (gR_up (V := mdV) (F := mdF) ⟨hok.1, hok.2⟩ 6 (hP.2.1 6)) 7 (hP.2.1 7)) 8 (hP.2.1 8)) 9 (hP.2.1 9)) 10 (hP.2.1 10)) 11 (hP.2.1 11)) 16 (hP.2.1 16)) 20 (hP.2.1 20)) 21 (hP.2.1 21)) 27 (hP.2.1 27)) 17 (hP.2.1 17)) 15 (hP.2.1 15)) 19 (hP.2.1 19)) 11 (hP.2.2 11)) 12 (hP.2.2 12)) 17 (hP.2.2 17)) 14 (hP.2.2 14)) 16 (hP.2.2 16)) 5 (hP.2.2 5)) 6 (hP.2.2 6)) 7 (hP.2.2 7)) 8 (hP.2.2 8))⟩
            replace p0_46 : (0 : Int) ≤ z_46 ∧ z_46 ≤ (999 : Int) := p0_46
            replace p1_46 : w9_41 ≤ w9_46 ∧ w9_46 ≤ w10_46 ∧ w10_46 ≤ (v 3) := p1_46
            replace p2_46 : w8_46 ≠ 0 → w9_46 < w10_46 := p2_46
            replace p3_46 : 0 < w6_41 → 0 < w6_46 := p3_46
            have rw6_46 : 0 ≤ w6_46 ∧ w6_46 ≤ 5 := hP.2.1 6
            have rw7_46 : 0 ≤ w7_46 ∧ w7_46 ≤ 700 := hP.2.1 7
            have rw8_46 : 0 ≤ w8_46 ∧ w8_46 ≤ 4 := hP.2.1 8
            have rw9_46 : 0 ≤ w9_46 ∧ w9_46 ≤ 700 := hP.2.1 9
            have rw10_46 : 0 ≤ w10_46 ∧ w10_46 ≤ 700 := hP.2.1 10
            have rw11_46 : 0 ≤ w11_46 ∧ w11_46 ≤ 999999 := hP.2.1 11
            have hz_46 : inR z_46 := (by first | omega | (rw [p0_46]; split <;> omega))
            refine lv_goto (tgt := 151) hx hb dX11_readLaw_147 (by decide) ?_
            refine mdS_newRest (f1 := (va_up (va_up (va_up (va_up (va_up (va_up (va_up (va_up (va_up f 11 (f 11)) 12 (f 12)) 17 (f 17)) 14 (f 14)) 16 (f 16)) 5 (u1 (f 5) (v 15) z_11)) 6 (u1 (f 6) (v 15) z_31)) 7 (u1 (f 7) (v 15) z_41)) 8 (u1 (f 8) (v 15) z_46))) C hP hD hS (by omega) (by omega) (by omega) rfl (Or.inr (gF_up (V := mdV) (F := mdF) (gF_up (V := mdV) (F := mdF) (gF_up (V := mdV) (F := mdF) (gF_up (V := mdV) (F := mdF) (gF_up (V := mdV) (F := mdF) (gF_up (V := mdV) (F := mdF) (gF_up (V := mdV) (F := mdF) (gF_up (V := mdV) (F := mdF) (gF_up (V := mdV) (F := mdF) (gR_up (V := mdV) (F := mdF) (gR_up (V := mdV) (F := mdF) (gR_up (V := mdV) (F := mdF) (gR_up (V := mdV) (F := mdF) (gR_up (V := mdV) (F := mdF) (gR_up (V := mdV) (F := mdF) (gR_up (V := mdV) (F := mdF) (gR_up (V := mdV) (F := mdF) (gR_up (V := mdV) (F := mdF) (gR_up (V := mdV) (F := mdF) (gR_up (V := mdV) (F := mdF) (gR_up (V := mdV) (F := mdF) (gR_up (V := mdV) (F := mdF) ⟨hok.1, hok.2⟩ 6 (hP.2.1 6)) 7 (hP.2.1 7)) 8 (hP.2.1 8)) 9 (hP.2.1 9)) 10 (hP.2.1 10)) 11 (hP.2.1 11)) 16 (hP.2.1 16)) 20 (hP.2.1 20)) 21 (hP.2.1 21)) 27 (hP.2.1 27)) 17 (hP.2.1 17)) 15 (hP.2.1 15)) 19 (hP.2.1 19)) 11 (hP.2.2 11)) 12 (hP.2.2 12)) 17 (hP.2.2 17)) 14 (hP.2.2 14)) 16 (hP.2.2 16)) 5 (hP.2.2 5)) 6 (hP.2.2 6)) 7 (hP.2.2 7)) 8 (u1_rng (hP.2.2 8) (show 0 ≤ z_46 ∧ z_46 ≤ 999 from (by omega))))) dX11_readLaw_151 (fun H locs hP hS => ?_)
            refine lv_aload_n hx hb dX11_readLaw_152 rfl (lv_at hl 0 rfl) ?_
            refine lv_dup hx hb dX11_readLaw_153 rfl ?_
            refine mdG_newRounds C hP mF_X11_207 dX11_readLaw_154 ?_
            show W p l e (gRm 4 92) s m args below meth c _ _ 0 0 Q (F0 m 157 ls [.int (iI (v 15)), .ref (ad 0)])
            refine lv_iconst (v := iI 1) hx hb dX11_readLaw_157 rfl ?_
            refine gi_add (z := ((v 15) + 1)) hx hb dX11_readLaw_158 rfl ?_
            refine mdP_newRounds (v1 := (va_up (va_up (va_up (va_up (va_up (va_up (va_up (va_up (va_up (va_up (va_up (va_up (va_up v 6 w6_46) 7 w7_46) 8 w8_46) 9 w9_46) 10 w10_46) 11 w11_46) 16 (v 16)) 20 (v 20)) 21 (v 21)) 27 (v 27)) 17 (v 17)) 15 ((v 15) + 1)) 19 (v 19))) C hP hD hS mF_X11_207 (by omega) rfl (Or.inr (gF_up (V := mdV) (F := mdF) (gF_up (V := mdV) (F := mdF) (gF_up (V := mdV) (F := mdF) (gF_up (V := mdV) (F := mdF) (gF_up (V := mdV) (F := mdF) (gF_up (V := mdV) (F := mdF) (gF_up (V := mdV) (F := mdF) (gF_up (V := mdV) (F := mdF) (gF_up (V := mdV) (F := mdF) (gR_up (V := mdV) (F := mdF) (gR_up (V := mdV) (F := mdF) (gR_up (V := mdV) (F := mdF) (gR_up (V := mdV) (F := mdF) (gR_up (V := mdV) (F := mdF) (gR_up (V := mdV) (F := mdF) (gR_up (V := mdV) (F := mdF) (gR_up (V := mdV) (F := mdF) (gR_up (V := mdV) (F := mdF) (gR_up (V := mdV) (F := mdF) (gR_up (V := mdV) (F := mdF) (gR_up (V := mdV) (F := mdF) (gR_up (V := mdV) (F := mdF) ⟨hok.1, hok.2⟩ 6 (hP.2.1 6)) 7 (hP.2.1 7)) 8 (hP.2.1 8)) 9 (hP.2.1 9)) 10 (hP.2.1 10)) 11 (hP.2.1 11)) 16 (hP.2.1 16)) 20 (hP.2.1 20)) 21 (hP.2.1 21)) 27 (hP.2.1 27)) 17 (hP.2.1 17)) 15 (show 0 ≤ ((v 15) + 1) ∧ ((v 15) + 1) ≤ 4 from by omega)) 19 (hP.2.1 19)) 11 (hP.2.2 11)) 12 (hP.2.2 12)) 17 (hP.2.2 17)) 14 (hP.2.2 14)) 16 (hP.2.2 16)) 5 (hP.2.2 5)) 6 (hP.2.2 6)) 7 (hP.2.2 7)) 8 (hP.2.2 8))) dX11_readLaw_159 (fun H locs hP hS => ?_)
            refine lv_goto (tgt := 246) hx hb dX11_readLaw_162 (by decide) ?_
            refine lv_aload_n hx hb dX11_readLaw_246 rfl (lv_at hl 0 rfl) ?_
            refine mdG_bad C hP mF_X11_188 dX11_readLaw_247 ?_
            show W p l e (gRm 4 92) s m args below meth c _ _ 0 0 Q (F0 m 250 ls [.int (iI w6_46)])
            have r_47 : 0 ≤ w6_46 ∧ w6_46 ≤ 5 := hP.2.1 6
            refine gi_zne (tgt := 257) hx hb dX11_readLaw_250 (by decide) (by omega) (fun c_48 => ?_) (fun c_48 => ?_)
            · exact g_vret hQ C hr hlocks hP hS dX11_readLaw_257 ⟨w6_46, w7_46, w8_46, w9_46, w10_46, w11_46, (v 16), (v 20), (v 21), (v 27), (v 17), ((v 15) + 1), (v 19), (f 11), (f 12), (f 17), (f 14), (f 16), (u1 (f 5) (v 15) z_11), (u1 (f 6) (v 15) z_31), (u1 (f 7) (v 15) z_41), (u1 (f 8) (v 15) z_46), b0_46, rfl, rfl, rfl, rfl, (by first | omega | (split <;> omega)), (by first | omega | (split <;> omega)), (by first | omega | (split <;> omega)), (by first | (intro h; exfalso; omega) | exact fun _ => hrp | exact fun _ => hX (by omega))⟩
            · refine lv_aload_n hx hb dX11_readLaw_253 rfl (lv_at hl 0 rfl) ?_
              refine g_cv (As := []) (rest := []) (n := 0) C hml (m_X11_ends l D k A ad hD (va_up (va_up (va_up (va_up (va_up (va_up (va_up (va_up (va_up (va_up (va_up (va_up (va_up v 6 w6_46) 7 w7_46) 8 w8_46) 9 w9_46) 10 w10_46) 11 w11_46) 16 (v 16)) 20 (v 20)) 21 (v 21)) 27 (v 27)) 17 (v 17)) 15 ((v 15) + 1)) 19 (v 19)) (va_up (va_up (va_up (va_up (va_up (va_up (va_up (va_up (va_up f 11 (f 11)) 12 (f 12)) 17 (f 17)) 14 (f 14)) 16 (f 16)) 5 (u1 (f 5) (v 15) z_11)) 6 (u1 (f 6) (v 15) z_31)) 7 (u1 (f 7) (v 15) z_41)) 8 (u1 (f 8) (v 15) z_46)) (va_up g 0 b0_46) (show w9_46 ≤ w10_46 ∧ w10_46 ≤ (v 3) ∧ (w8_46 ≠ 0 → w9_46 < w10_46) from by omega)) mM_X11_246 mI_X11_ends mE_X11_ends mN_X11 mC_X11_ends (by decide +kernel) 0 (ci := 11) rfl rfl hP hS (fun _ h => h) ⟨Nat.le_of_ble_eq_true rfl, Nat.le_of_ble_eq_true rfl⟩ ⟨Nat.zero_le _, Nat.zero_le _⟩ hl.1 rfl rfl (Nat.le_of_ble_eq_true rfl) dX11_readLaw_254 (fun r_49 v_49 f_49 g_49 H locs hq_49 hP _ hS => ?_)
              obtain ⟨w6_49, w7_49, w8_49, w9_49, w10_49, w11_49, b0_49, rfl, rfl, rfl, rfl, p0_49, p1_49, p2_49, p3_49⟩ := hq_49
              show W p l e (gRm 4 92) s m args below meth c _ _ 0 0 Q (F0 m 257 ls [])
              have hP : gWd D (mdT k ad) (va_up (va_up (va_up (va_up (va_up (va_up (va_up (va_up (va_up (va_up (va_up (va_up (va_up v 6 w6_49) 7 w7_49) 8 w8_49) 9 w9_49) 10 w10_49) 11 w11_49) 16 (v 16)) 20 (v 20)) 21 (v 21)) 27 (v 27)) 17 (v 17)) 15 ((v 15) + 1)) 19 (v 19)) (va_up (va_up (va_up (va_up (va_up (va_up (va_up (va_up (va_up f 11 (f 11)) 12 (f 12)) 17 (f 17)) 14 (f 14)) 16 (f 16)) 5 (u1 (f 5) (v 15) z_11)) 6 (u1 (f 6) (v 15) z_31)) 7 (u1 (f 7) (v 15) z_41)) 8 (u1 (f 8) (v 15) z_46)) (va_up g 0 b0_49) H := ⟨hP.1, (gF_up (V := mdV) (F := mdF) (gF_up (V := mdV) (F := mdF) (gF_up (V := mdV) (F := mdF) (gF_up (V := mdV) (F := mdF) (gF_up (V := mdV) (F := mdF) (gF_up (V := mdV) (F := mdF) (gF_up (V := mdV) (F := mdF) (gF_up (V := mdV) (F := mdF) (gF_up (V := mdV) (F := mdF) (gR_up (V := mdV) (F := mdF) (gR_up (V := mdV) (F := mdF) (gR_up (V := mdV) (F := mdF) (gR_up (V := mdV) (F := mdF) (gR_up (V := mdV) (F := mdF) (gR_up (V := mdV) (F := mdF) (gR_up (V := mdV) (F := mdF) (gR_up (V := mdV) (F := mdF) (gR_up (V := mdV) (F := mdF) (gR_up (V := mdV) (F := mdF) (gR_up (V := mdV) (F := mdF) (gR_up (V := mdV) (F := mdF) (gR_up (V := mdV) (F := mdF) ⟨hok.1, hok.2⟩ 6 (hP.2.1 6)) 7 (hP.2.1 7)) 8 (hP.2.1 8)) 9 (hP.2.1 9)) 10 (hP.2.1 10)) 11 (hP.2.1 11)) 16 (hP.2.1 16)) 20 (hP.2.1 20)) 21 (hP.2.1 21)) 27 (hP.2.1 27)) 17 (hP.2.1 17)) 15 (hP.2.1 15)) 19 (hP.2.1 19)) 11 (hP.2.2 11)) 12 (hP.2.2 12)) 17 (hP.2.2 17)) 14 (hP.2.2 14)) 16 (hP.2.2 16)) 5 (hP.2.2 5)) 6 (hP.2.2 6)) 7 (hP.2.2 7)) 8 (hP.2.2 8))⟩
              replace p0_49 : w9_46 ≤ w9_49 ∧ w9_49 ≤ w10_49 ∧ w10_49 ≤ (v 3) := p0_49
              replace p1_49 : w8_49 ≠ 0 → w9_49 < w10_49 := p1_49
              replace p2_49 : 0 < w6_46 → 0 < w6_49 := p2_49
              replace p3_49 : w6_49 = 0 → w6_46 = 0 := p3_49
              have rw6_49 : 0 ≤ w6_49 ∧ w6_49 ≤ 5 := hP.2.1 6
              have rw7_49 : 0 ≤ w7_49 ∧ w7_49 ≤ 700 := hP.2.1 7
              have rw8_49 : 0 ≤ w8_49 ∧ w8_49 ≤ 4 := hP.2.1 8
              have rw9_49 : 0 ≤ w9_49 ∧ w9_49 ≤ 700 := hP.2.1 9
              have rw10_49 : 0 ≤ w10_49 ∧ w10_49 ≤ 700 := hP.2.1 10
              have rw11_49 : 0 ≤ w11_49 ∧ w11_49 ≤ 999999 := hP.2.1 11
              exact g_vret hQ C hr hlocks hP hS dX11_readLaw_257 ⟨w6_49, w7_49, w8_49, w9_49, w10_49, w11_49, (v 16), (v 20), (v 21), (v 27), (v 17), ((v 15) + 1), (v 19), (f 11), (f 12), (f 17), (f 14), (f 16), (u1 (f 5) (v 15) z_11), (u1 (f 6) (v 15) z_31), (u1 (f 7) (v 15) z_41), (u1 (f 8) (v 15) z_46), b0_49, rfl, rfl, rfl, rfl, (by first | omega | (split <;> omega)), (by first | omega | (split <;> omega)), (by first | omega | (split <;> omega)), (by first | (intro h; exfalso; omega) | exact fun _ => hrp | exact fun _ => hX (by omega))⟩
    by_cases c_10_1 : a1 = 1
    · refine lv_tableIn (off := 138) (tgt := 165) hx hb dX11_readLaw_27 (by rw [c_10_1]; decide) (by rw [c_10_1]; decide) (by rw [c_10_1]; rfl) (by decide) ?_
      refine lv_aload_n hx hb dX11_readLaw_165 rfl (lv_at hl 0 rfl) ?_
      refine g_cv (As := []) (rest := []) (n := 0) C hml (m_X11_readExpression l D k A ad hD (va_up (va_up (va_up (va_up (va_up (va_up (va_up (va_up (va_up (va_up (va_up (va_up (va_up v 6 (v 6)) 7 (v 7)) 8 w8_9) 9 w9_9) 10 w10_9) 11 w11_9) 16 (v 16)) 20 (v 20)) 21 (v 21)) 27 (v 27)) 17 (v 17)) 15 (v 15)) 19 (v 19)) (va_up (va_up (va_up (va_up (va_up (va_up (va_up (va_up (va_up f 11 (f 11)) 12 (f 12)) 17 (f 17)) 14 (f 14)) 16 (f 16)) 5 (f 5)) 6 (f 6)) 7 (f 7)) 8 (f 8)) (va_up g 0 b0_9) (show w9_9 ≤ w10_9 ∧ w10_9 ≤ (v 3) ∧ (w8_9 ≠ 0 → w9_9 < w10_9) from by omega) (show (v 6) = 0 from by omega)) mM_X11_240 mI_X11_readExpression mE_X11_readExpression mN_X11 mC_X11_readExpression (by decide +kernel) 0 (ci := 11) rfl rfl hP hS (fun _ h => h) ⟨Nat.le_of_ble_eq_true rfl, Nat.le_of_ble_eq_true rfl⟩ ⟨Nat.zero_le _, Nat.zero_le _⟩ hl.1 rfl rfl (Nat.le_of_ble_eq_true rfl) dX11_readLaw_166 (fun r_50 v_50 f_50 g_50 H locs hq_50 hP _ hS => ?_)
      obtain ⟨w6_50, w7_50, w8_50, w9_50, w10_50, w11_50, w16_50, w20_50, w21_50, w27_50, a11_50, a12_50, a17_50, b0_50, rfl, rfl, rfl, rfl, p0_50, p1_50, p2_50⟩ := hq_50
      show W p l e (gRm 4 92) s m args below meth c _ _ 0 0 Q (F0 m 169 ls [])
      have hP : gWd D (mdT k ad) (va_up (va_up (va_up (va_up (va_up (va_up (va_up (va_up (va_up (va_up (va_up (va_up (va_up v 6 w6_50) 7 w7_50) 8 w8_50) 9 w9_50) 10 w10_50) 11 w11_50) 16 w16_50) 20 w20_50) 21 w21_50) 27 w27_50) 17 (v 17)) 15 (v 15)) 19 (v 19)) (va_up (va_up (va_up (va_up (va_up (va_up (va_up (va_up (va_up f 11 a11_50) 12 a12_50) 17 a17_50) 14 (f 14)) 16 (f 16)) 5 (f 5)) 6 (f 6)) 7 (f 7)) 8 (f 8)) (va_up g 0 b0_50) H := ⟨hP.1, (gF_up (V := mdV) (F := mdF) (gF_up (V := mdV) (F := mdF) (gF_up (V := mdV) (F := mdF) (gF_up (V := mdV) (F := mdF) (gF_up (V := mdV) (F := mdF) (gF_up (V := mdV) (F := mdF) (gF_up (V := mdV) (F := mdF) (gF_up (V := mdV) (F := mdF) (gF_up (V := mdV) (F := mdF) (gR_up (V := mdV) (F := mdF) (gR_up (V := mdV) (F := mdF) (gR_up (V := mdV) (F := mdF) (gR_up (V := mdV) (F := mdF) (gR_up (V := mdV) (F := mdF) (gR_up (V := mdV) (F := mdF) (gR_up (V := mdV) (F := mdF) (gR_up (V := mdV) (F := mdF) (gR_up (V := mdV) (F := mdF) (gR_up (V := mdV) (F := mdF) (gR_up (V := mdV) (F := mdF) (gR_up (V := mdV) (F := mdF) (gR_up (V := mdV) (F := mdF) ⟨hok.1, hok.2⟩ 6 (hP.2.1 6)) 7 (hP.2.1 7)) 8 (hP.2.1 8)) 9 (hP.2.1 9)) 10 (hP.2.1 10)) 11 (hP.2.1 11)) 16 (hP.2.1 16)) 20 (hP.2.1 20)) 21 (hP.2.1 21)) 27 (hP.2.1 27)) 17 (hP.2.1 17)) 15 (hP.2.1 15)) 19 (hP.2.1 19)) 11 (hP.2.2 11)) 12 (hP.2.2 12)) 17 (hP.2.2 17)) 14 (hP.2.2 14)) 16 (hP.2.2 16)) 5 (hP.2.2 5)) 6 (hP.2.2 6)) 7 (hP.2.2 7)) 8 (hP.2.2 8))⟩
      replace p0_50 : w9_9 ≤ w9_50 ∧ w9_50 ≤ w10_50 ∧ w10_50 ≤ (v 3) := p0_50
      replace p1_50 : w8_50 ≠ 0 → w9_50 < w10_50 := p1_50
      replace p2_50 : w6_50 = 0 → rpOk w16_50 a11_50 ∧ w16_50 ≤ 40 := p2_50
      have rw6_50 : 0 ≤ w6_50 ∧ w6_50 ≤ 5 := hP.2.1 6
      have rw7_50 : 0 ≤ w7_50 ∧ w7_50 ≤ 700 := hP.2.1 7
      have rw8_50 : 0 ≤ w8_50 ∧ w8_50 ≤ 4 := hP.2.1 8
      have rw9_50 : 0 ≤ w9_50 ∧ w9_50 ≤ 700 := hP.2.1 9
      have rw10_50 : 0 ≤ w10_50 ∧ w10_50 ≤ 700 := hP.2.1 10
      have rw11_50 : 0 ≤ w11_50 ∧ w11_50 ≤ 999999 := hP.2.1 11
      have rw16_50 : 0 ≤ w16_50 ∧ w16_50 ≤ 41 := hP.2.1 16
      have rw20_50 : 0 ≤ w20_50 ∧ w20_50 ≤ 64 := hP.2.1 20
      have rw21_50 : 0 ≤ w21_50 ∧ w21_50 ≤ 9 := hP.2.1 21
      have rw27_50 : 0 ≤ w27_50 ∧ w27_50 ≤ 41 := hP.2.1 27
      have hX := p2_50
      refine lv_goto (tgt := 246) hx hb dX11_readLaw_169 (by decide) ?_
      refine lv_aload_n hx hb dX11_readLaw_246 rfl (lv_at hl 0 rfl) ?_
      refine mdG_bad C hP mF_X11_188 dX11_readLaw_247 ?_
      show W p l e (gRm 4 92) s m args below meth c _ _ 0 0 Q (F0 m 250 ls [.int (iI w6_50)])
      have r_51 : 0 ≤ w6_50 ∧ w6_50 ≤ 5 := hP.2.1 6
      refine gi_zne (tgt := 257) hx hb dX11_readLaw_250 (by decide) (by omega) (fun c_52 => ?_) (fun c_52 => ?_)
      · exact g_vret hQ C hr hlocks hP hS dX11_readLaw_257 ⟨w6_50, w7_50, w8_50, w9_50, w10_50, w11_50, w16_50, w20_50, w21_50, w27_50, (v 17), (v 15), (v 19), a11_50, a12_50, a17_50, (f 14), (f 16), (f 5), (f 6), (f 7), (f 8), b0_50, rfl, rfl, rfl, rfl, (by first | omega | (split <;> omega)), (by first | omega | (split <;> omega)), (by first | omega | (split <;> omega)), (by first | (intro h; exfalso; omega) | exact fun _ => hrp | exact fun _ => hX (by omega))⟩
      · refine lv_aload_n hx hb dX11_readLaw_253 rfl (lv_at hl 0 rfl) ?_
        refine g_cv (As := []) (rest := []) (n := 0) C hml (m_X11_ends l D k A ad hD (va_up (va_up (va_up (va_up (va_up (va_up (va_up (va_up (va_up (va_up (va_up (va_up (va_up v 6 w6_50) 7 w7_50) 8 w8_50) 9 w9_50) 10 w10_50) 11 w11_50) 16 w16_50) 20 w20_50) 21 w21_50) 27 w27_50) 17 (v 17)) 15 (v 15)) 19 (v 19)) (va_up (va_up (va_up (va_up (va_up (va_up (va_up (va_up (va_up f 11 a11_50) 12 a12_50) 17 a17_50) 14 (f 14)) 16 (f 16)) 5 (f 5)) 6 (f 6)) 7 (f 7)) 8 (f 8)) (va_up g 0 b0_50) (show w9_50 ≤ w10_50 ∧ w10_50 ≤ (v 3) ∧ (w8_50 ≠ 0 → w9_50 < w10_50) from by omega)) mM_X11_246 mI_X11_ends mE_X11_ends mN_X11 mC_X11_ends (by decide +kernel) 0 (ci := 11) rfl rfl hP hS (fun _ h => h) ⟨Nat.le_of_ble_eq_true rfl, Nat.le_of_ble_eq_true rfl⟩ ⟨Nat.zero_le _, Nat.zero_le _⟩ hl.1 rfl rfl (Nat.le_of_ble_eq_true rfl) dX11_readLaw_254 (fun r_53 v_53 f_53 g_53 H locs hq_53 hP _ hS => ?_)
        obtain ⟨w6_53, w7_53, w8_53, w9_53, w10_53, w11_53, b0_53, rfl, rfl, rfl, rfl, p0_53, p1_53, p2_53, p3_53⟩ := hq_53
        show W p l e (gRm 4 92) s m args below meth c _ _ 0 0 Q (F0 m 257 ls [])
        have hP : gWd D (mdT k ad) (va_up (va_up (va_up (va_up (va_up (va_up (va_up (va_up (va_up (va_up (va_up (va_up (va_up v 6 w6_53) 7 w7_53) 8 w8_53) 9 w9_53) 10 w10_53) 11 w11_53) 16 w16_50) 20 w20_50) 21 w21_50) 27 w27_50) 17 (v 17)) 15 (v 15)) 19 (v 19)) (va_up (va_up (va_up (va_up (va_up (va_up (va_up (va_up (va_up f 11 a11_50) 12 a12_50) 17 a17_50) 14 (f 14)) 16 (f 16)) 5 (f 5)) 6 (f 6)) 7 (f 7)) 8 (f 8)) (va_up g 0 b0_53) H := ⟨hP.1, (gF_up (V := mdV) (F := mdF) (gF_up (V := mdV) (F := mdF) (gF_up (V := mdV) (F := mdF) (gF_up (V := mdV) (F := mdF) (gF_up (V := mdV) (F := mdF) (gF_up (V := mdV) (F := mdF) (gF_up (V := mdV) (F := mdF) (gF_up (V := mdV) (F := mdF) (gF_up (V := mdV) (F := mdF) (gR_up (V := mdV) (F := mdF) (gR_up (V := mdV) (F := mdF) (gR_up (V := mdV) (F := mdF) (gR_up (V := mdV) (F := mdF) (gR_up (V := mdV) (F := mdF) (gR_up (V := mdV) (F := mdF) (gR_up (V := mdV) (F := mdF) (gR_up (V := mdV) (F := mdF) (gR_up (V := mdV) (F := mdF) (gR_up (V := mdV) (F := mdF) (gR_up (V := mdV) (F := mdF) (gR_up (V := mdV) (F := mdF) (gR_up (V := mdV) (F := mdF) ⟨hok.1, hok.2⟩ 6 (hP.2.1 6)) 7 (hP.2.1 7)) 8 (hP.2.1 8)) 9 (hP.2.1 9)) 10 (hP.2.1 10)) 11 (hP.2.1 11)) 16 (hP.2.1 16)) 20 (hP.2.1 20)) 21 (hP.2.1 21)) 27 (hP.2.1 27)) 17 (hP.2.1 17)) 15 (hP.2.1 15)) 19 (hP.2.1 19)) 11 (hP.2.2 11)) 12 (hP.2.2 12)) 17 (hP.2.2 17)) 14 (hP.2.2 14)) 16 (hP.2.2 16)) 5 (hP.2.2 5)) 6 (hP.2.2 6)) 7 (hP.2.2 7)) 8 (hP.2.2 8))⟩
        replace p0_53 : w9_50 ≤ w9_53 ∧ w9_53 ≤ w10_53 ∧ w10_53 ≤ (v 3) := p0_53
        replace p1_53 : w8_53 ≠ 0 → w9_53 < w10_53 := p1_53
        replace p2_53 : 0 < w6_50 → 0 < w6_53 := p2_53
        replace p3_53 : w6_53 = 0 → w6_50 = 0 := p3_53
        have rw6_53 : 0 ≤ w6_53 ∧ w6_53 ≤ 5 := hP.2.1 6
        have rw7_53 : 0 ≤ w7_53 ∧ w7_53 ≤ 700 := hP.2.1 7
        have rw8_53 : 0 ≤ w8_53 ∧ w8_53 ≤ 4 := hP.2.1 8
        have rw9_53 : 0 ≤ w9_53 ∧ w9_53 ≤ 700 := hP.2.1 9
        have rw10_53 : 0 ≤ w10_53 ∧ w10_53 ≤ 700 := hP.2.1 10
        have rw11_53 : 0 ≤ w11_53 ∧ w11_53 ≤ 999999 := hP.2.1 11
        exact g_vret hQ C hr hlocks hP hS dX11_readLaw_257 ⟨w6_53, w7_53, w8_53, w9_53, w10_53, w11_53, w16_50, w20_50, w21_50, w27_50, (v 17), (v 15), (v 19), a11_50, a12_50, a17_50, (f 14), (f 16), (f 5), (f 6), (f 7), (f 8), b0_53, rfl, rfl, rfl, rfl, (by first | omega | (split <;> omega)), (by first | omega | (split <;> omega)), (by first | omega | (split <;> omega)), (by first | (intro h; exfalso; omega) | exact fun _ => hrp | exact fun _ => hX (by omega))⟩
    by_cases c_10_2 : a1 = 2
    · refine lv_tableIn (off := 145) (tgt := 172) hx hb dX11_readLaw_27 (by rw [c_10_2]; decide) (by rw [c_10_2]; decide) (by rw [c_10_2]; rfl) (by decide) ?_
      refine lv_aload_n hx hb dX11_readLaw_172 rfl (lv_at hl 0 rfl) ?_
      refine g_cv (As := []) (rest := []) (n := 0) C hml (m_X11_readKeys l D k A ad hD (va_up (va_up (va_up (va_up (va_up (va_up (va_up (va_up (va_up (va_up (va_up (va_up (va_up v 6 (v 6)) 7 (v 7)) 8 w8_9) 9 w9_9) 10 w10_9) 11 w11_9) 16 (v 16)) 20 (v 20)) 21 (v 21)) 27 (v 27)) 17 (v 17)) 15 (v 15)) 19 (v 19)) (va_up (va_up (va_up (va_up (va_up (va_up (va_up (va_up (va_up f 11 (f 11)) 12 (f 12)) 17 (f 17)) 14 (f 14)) 16 (f 16)) 5 (f 5)) 6 (f 6)) 7 (f 7)) 8 (f 8)) (va_up g 0 b0_9) (show w9_9 ≤ w10_9 ∧ w10_9 ≤ (v 3) ∧ (w8_9 ≠ 0 → w9_9 < w10_9) from by omega) (show (v 6) = 0 from by omega)) mM_X11_243 mI_X11_readKeys mE_X11_readKeys mN_X11 mC_X11_readKeys (by decide +kernel) 0 (ci := 11) rfl rfl hP hS (fun _ h => h) ⟨Nat.le_of_ble_eq_true rfl, Nat.le_of_ble_eq_true rfl⟩ ⟨Nat.zero_le _, Nat.zero_le _⟩ hl.1 rfl rfl (Nat.le_of_ble_eq_true rfl) dX11_readLaw_173 (fun r_54 v_54 f_54 g_54 H locs hq_54 hP _ hS => ?_)
      obtain ⟨w6_54, w7_54, w8_54, w9_54, w10_54, w11_54, w17_54, a14_54, a16_54, b0_54, rfl, rfl, rfl, rfl, p0_54, p1_54⟩ := hq_54
      show W p l e (gRm 4 92) s m args below meth c _ _ 0 0 Q (F0 m 176 ls [])
      have hP : gWd D (mdT k ad) (va_up (va_up (va_up (va_up (va_up (va_up (va_up (va_up (va_up (va_up (va_up (va_up (va_up v 6 w6_54) 7 w7_54) 8 w8_54) 9 w9_54) 10 w10_54) 11 w11_54) 16 (v 16)) 20 (v 20)) 21 (v 21)) 27 (v 27)) 17 w17_54) 15 (v 15)) 19 (v 19)) (va_up (va_up (va_up (va_up (va_up (va_up (va_up (va_up (va_up f 11 (f 11)) 12 (f 12)) 17 (f 17)) 14 a14_54) 16 a16_54) 5 (f 5)) 6 (f 6)) 7 (f 7)) 8 (f 8)) (va_up g 0 b0_54) H := ⟨hP.1, (gF_up (V := mdV) (F := mdF) (gF_up (V := mdV) (F := mdF) (gF_up (V := mdV) (F := mdF) (gF_up (V := mdV) (F := mdF) (gF_up (V := mdV) (F := mdF) (gF_up (V := mdV) (F := mdF) (gF_up (V := mdV) (F := mdF) (gF_up (V := mdV) (F := mdF) (gF_up (V := mdV) (F := mdF) (gR_up (V := mdV) (F := mdF) (gR_up (V := mdV) (F := mdF) (gR_up (V := mdV) (F := mdF) (gR_up (V := mdV) (F := mdF) (gR_up (V := mdV) (F := mdF) (gR_up (V := mdV) (F := mdF) (gR_up (V := mdV) (F := mdF) (gR_up (V := mdV) (F := mdF) (gR_up (V := mdV) (F := mdF) (gR_up (V := mdV) (F := mdF) (gR_up (V := mdV) (F := mdF) (gR_up (V := mdV) (F := mdF) (gR_up (V := mdV) (F := mdF) ⟨hok.1, hok.2⟩ 6 (hP.2.1 6)) 7 (hP.2.1 7)) 8 (hP.2.1 8)) 9 (hP.2.1 9)) 10 (hP.2.1 10)) 11 (hP.2.1 11)) 16 (hP.2.1 16)) 20 (hP.2.1 20)) 21 (hP.2.1 21)) 27 (hP.2.1 27)) 17 (hP.2.1 17)) 15 (hP.2.1 15)) 19 (hP.2.1 19)) 11 (hP.2.2 11)) 12 (hP.2.2 12)) 17 (hP.2.2 17)) 14 (hP.2.2 14)) 16 (hP.2.2 16)) 5 (hP.2.2 5)) 6 (hP.2.2 6)) 7 (hP.2.2 7)) 8 (hP.2.2 8))⟩
      replace p0_54 : w9_9 ≤ w9_54 ∧ w9_54 ≤ w10_54 ∧ w10_54 ≤ (v 3) := p0_54
      replace p1_54 : w8_54 ≠ 0 → w9_54 < w10_54 := p1_54
      have rw6_54 : 0 ≤ w6_54 ∧ w6_54 ≤ 5 := hP.2.1 6
      have rw7_54 : 0 ≤ w7_54 ∧ w7_54 ≤ 700 := hP.2.1 7
      have rw8_54 : 0 ≤ w8_54 ∧ w8_54 ≤ 4 := hP.2.1 8
      have rw9_54 : 0 ≤ w9_54 ∧ w9_54 ≤ 700 := hP.2.1 9
      have rw10_54 : 0 ≤ w10_54 ∧ w10_54 ≤ 700 := hP.2.1 10
      have rw11_54 : 0 ≤ w11_54 ∧ w11_54 ≤ 999999 := hP.2.1 11
      have rw17_54 : 0 ≤ w17_54 ∧ w17_54 ≤ 4 := hP.2.1 17
      refine lv_goto (tgt := 246) hx hb dX11_readLaw_176 (by decide) ?_
      refine lv_aload_n hx hb dX11_readLaw_246 rfl (lv_at hl 0 rfl) ?_
      refine mdG_bad C hP mF_X11_188 dX11_readLaw_247 ?_
      show W p l e (gRm 4 92) s m args below meth c _ _ 0 0 Q (F0 m 250 ls [.int (iI w6_54)])
      have r_55 : 0 ≤ w6_54 ∧ w6_54 ≤ 5 := hP.2.1 6
      refine gi_zne (tgt := 257) hx hb dX11_readLaw_250 (by decide) (by omega) (fun c_56 => ?_) (fun c_56 => ?_)
      · exact g_vret hQ C hr hlocks hP hS dX11_readLaw_257 ⟨w6_54, w7_54, w8_54, w9_54, w10_54, w11_54, (v 16), (v 20), (v 21), (v 27), w17_54, (v 15), (v 19), (f 11), (f 12), (f 17), a14_54, a16_54, (f 5), (f 6), (f 7), (f 8), b0_54, rfl, rfl, rfl, rfl, (by first | omega | (split <;> omega)), (by first | omega | (split <;> omega)), (by first | omega | (split <;> omega)), (by first | (intro h; exfalso; omega) | exact fun _ => hrp | exact fun _ => hX (by omega))⟩
      · refine lv_aload_n hx hb dX11_readLaw_253 rfl (lv_at hl 0 rfl) ?_
        refine g_cv (As := []) (rest := []) (n := 0) C hml (m_X11_ends l D k A ad hD (va_up (va_up (va_up (va_up (va_up (va_up (va_up (va_up (va_up (va_up (va_up (va_up (va_up v 6 w6_54) 7 w7_54) 8 w8_54) 9 w9_54) 10 w10_54) 11 w11_54) 16 (v 16)) 20 (v 20)) 21 (v 21)) 27 (v 27)) 17 w17_54) 15 (v 15)) 19 (v 19)) (va_up (va_up (va_up (va_up (va_up (va_up (va_up (va_up (va_up f 11 (f 11)) 12 (f 12)) 17 (f 17)) 14 a14_54) 16 a16_54) 5 (f 5)) 6 (f 6)) 7 (f 7)) 8 (f 8)) (va_up g 0 b0_54) (show w9_54 ≤ w10_54 ∧ w10_54 ≤ (v 3) ∧ (w8_54 ≠ 0 → w9_54 < w10_54) from by omega)) mM_X11_246 mI_X11_ends mE_X11_ends mN_X11 mC_X11_ends (by decide +kernel) 0 (ci := 11) rfl rfl hP hS (fun _ h => h) ⟨Nat.le_of_ble_eq_true rfl, Nat.le_of_ble_eq_true rfl⟩ ⟨Nat.zero_le _, Nat.zero_le _⟩ hl.1 rfl rfl (Nat.le_of_ble_eq_true rfl) dX11_readLaw_254 (fun r_57 v_57 f_57 g_57 H locs hq_57 hP _ hS => ?_)
        obtain ⟨w6_57, w7_57, w8_57, w9_57, w10_57, w11_57, b0_57, rfl, rfl, rfl, rfl, p0_57, p1_57, p2_57, p3_57⟩ := hq_57
        show W p l e (gRm 4 92) s m args below meth c _ _ 0 0 Q (F0 m 257 ls [])
        have hP : gWd D (mdT k ad) (va_up (va_up (va_up (va_up (va_up (va_up (va_up (va_up (va_up (va_up (va_up (va_up (va_up v 6 w6_57) 7 w7_57) 8 w8_57) 9 w9_57) 10 w10_57) 11 w11_57) 16 (v 16)) 20 (v 20)) 21 (v 21)) 27 (v 27)) 17 w17_54) 15 (v 15)) 19 (v 19)) (va_up (va_up (va_up (va_up (va_up (va_up (va_up (va_up (va_up f 11 (f 11)) 12 (f 12)) 17 (f 17)) 14 a14_54) 16 a16_54) 5 (f 5)) 6 (f 6)) 7 (f 7)) 8 (f 8)) (va_up g 0 b0_57) H := ⟨hP.1, (gF_up (V := mdV) (F := mdF) (gF_up (V := mdV) (F := mdF) (gF_up (V := mdV) (F := mdF) (gF_up (V := mdV) (F := mdF) (gF_up (V := mdV) (F := mdF) (gF_up (V := mdV) (F := mdF) (gF_up (V := mdV) (F := mdF) (gF_up (V := mdV) (F := mdF) (gF_up (V := mdV) (F := mdF) (gR_up (V := mdV) (F := mdF) (gR_up (V := mdV) (F := mdF) (gR_up (V := mdV) (F := mdF) (gR_up (V := mdV) (F := mdF) (gR_up (V := mdV) (F := mdF) (gR_up (V := mdV) (F := mdF) (gR_up (V := mdV) (F := mdF) (gR_up (V := mdV) (F := mdF) (gR_up (V := mdV) (F := mdF) (gR_up (V := mdV) (F := mdF) (gR_up (V := mdV) (F := mdF) (gR_up (V := mdV) (F := mdF) (gR_up (V := mdV) (F := mdF) ⟨hok.1, hok.2⟩ 6 (hP.2.1 6)) 7 (hP.2.1 7)) 8 (hP.2.1 8)) 9 (hP.2.1 9)) 10 (hP.2.1 10)) 11 (hP.2.1 11)) 16 (hP.2.1 16)) 20 (hP.2.1 20)) 21 (hP.2.1 21)) 27 (hP.2.1 27)) 17 (hP.2.1 17)) 15 (hP.2.1 15)) 19 (hP.2.1 19)) 11 (hP.2.2 11)) 12 (hP.2.2 12)) 17 (hP.2.2 17)) 14 (hP.2.2 14)) 16 (hP.2.2 16)) 5 (hP.2.2 5)) 6 (hP.2.2 6)) 7 (hP.2.2 7)) 8 (hP.2.2 8))⟩
        replace p0_57 : w9_54 ≤ w9_57 ∧ w9_57 ≤ w10_57 ∧ w10_57 ≤ (v 3) := p0_57
        replace p1_57 : w8_57 ≠ 0 → w9_57 < w10_57 := p1_57
        replace p2_57 : 0 < w6_54 → 0 < w6_57 := p2_57
        replace p3_57 : w6_57 = 0 → w6_54 = 0 := p3_57
        have rw6_57 : 0 ≤ w6_57 ∧ w6_57 ≤ 5 := hP.2.1 6
        have rw7_57 : 0 ≤ w7_57 ∧ w7_57 ≤ 700 := hP.2.1 7
        have rw8_57 : 0 ≤ w8_57 ∧ w8_57 ≤ 4 := hP.2.1 8
        have rw9_57 : 0 ≤ w9_57 ∧ w9_57 ≤ 700 := hP.2.1 9
        have rw10_57 : 0 ≤ w10_57 ∧ w10_57 ≤ 700 := hP.2.1 10
        have rw11_57 : 0 ≤ w11_57 ∧ w11_57 ≤ 999999 := hP.2.1 11
        exact g_vret hQ C hr hlocks hP hS dX11_readLaw_257 ⟨w6_57, w7_57, w8_57, w9_57, w10_57, w11_57, (v 16), (v 20), (v 21), (v 27), w17_54, (v 15), (v 19), (f 11), (f 12), (f 17), a14_54, a16_54, (f 5), (f 6), (f 7), (f 8), b0_57, rfl, rfl, rfl, rfl, (by first | omega | (split <;> omega)), (by first | omega | (split <;> omega)), (by first | omega | (split <;> omega)), (by first | (intro h; exfalso; omega) | exact fun _ => hrp | exact fun _ => hX (by omega))⟩
    refine lv_tableOut (tgt := 179) hx hb dX11_readLaw_27 (by rw [iI_toInt (by omega)]; omega) (by decide) ?_
    refine lv_aload_n hx hb dX11_readLaw_179 rfl (lv_at hl 0 rfl) ?_
    refine lv_aload_n hx hb dX11_readLaw_180 rfl (lv_at hl 0 rfl) ?_
    refine lv_bipush (v := iI 98) hx hb dX11_readLaw_181 (by decide) ?_
    refine lv_bipush (v := iI 97) hx hb dX11_readLaw_183 (by decide) ?_
    refine lv_bipush (v := iI 99) hx hb dX11_readLaw_185 (by decide) ?_
    refine lv_bipush (v := iI 107) hx hb dX11_readLaw_187 (by decide) ?_
    refine lv_iconst (v := iI 0) hx hb dX11_readLaw_189 rfl ?_
    refine lv_iconst (v := iI 0) hx hb dX11_readLaw_190 rfl ?_
    refine lv_iconst (v := iI 0) hx hb dX11_readLaw_191 rfl ?_
    refine g_cs (As := [.int (iI 98), .int (iI 97), .int (iI 99), .int (iI 107), .int (iI 0), .int (iI 0), .int (iI 0)]) (rest := [.ref (ad 0), .ref (ad 0)]) (n := 7) C hml (m_X11_spelled l D k A ad hD (va_up (va_up (va_up (va_up (va_up (va_up (va_up (va_up (va_up (va_up (va_up (va_up (va_up v 6 (v 6)) 7 (v 7)) 8 w8_9) 9 w9_9) 10 w10_9) 11 w11_9) 16 (v 16)) 20 (v 20)) 21 (v 21)) 27 (v 27)) 17 (v 17)) 15 (v 15)) 19 (v 19)) (va_up (va_up (va_up (va_up (va_up (va_up (va_up (va_up (va_up f 11 (f 11)) 12 (f 12)) 17 (f 17)) 14 (f 14)) 16 (f 16)) 5 (f 5)) 6 (f 6)) 7 (f 7)) 8 (f 8)) (va_up g 0 b0_9) 98 97 99 107 0 0 0 (by decide) (by decide) (by decide) (by decide) (by decide) (by decide) (by decide)) mM_X11_228 mS_X11_spelled mN_X11 mC_X11_spelled (by decide +kernel) hP hS (fun _ h => h) ⟨Nat.le_of_ble_eq_true rfl, Nat.le_of_ble_eq_true rfl⟩ ⟨Nat.zero_le _, Nat.zero_le _⟩ hl.1 rfl rfl (Nat.le_of_ble_eq_true rfl) dX11_readLaw_192 (fun r_58 v_58 f_58 g_58 H locs hq_58 hP _ hS => ?_)
    obtain ⟨z_58, rfl, rfl, rfl, rfl⟩ := hq_58
    show W p l e (gRm 4 92) s m args below meth c _ _ 0 0 Q (F0 m 195 ls [.long (iL z_58), .ref (ad 0), .ref (ad 0)])
    refine g_cv (As := [.long (iL z_58)]) (rest := [.ref (ad 0)]) (n := 1) C hml (m_X11_isWord l D k A ad hD (va_up (va_up (va_up (va_up (va_up (va_up (va_up (va_up (va_up (va_up (va_up (va_up (va_up v 6 (v 6)) 7 (v 7)) 8 w8_9) 9 w9_9) 10 w10_9) 11 w11_9) 16 (v 16)) 20 (v 20)) 21 (v 21)) 27 (v 27)) 17 (v 17)) 15 (v 15)) 19 (v 19)) (va_up (va_up (va_up (va_up (va_up (va_up (va_up (va_up (va_up f 11 (f 11)) 12 (f 12)) 17 (f 17)) 14 (f 14)) 16 (f 16)) 5 (f 5)) 6 (f 6)) 7 (f 7)) 8 (f 8)) (va_up g 0 b0_9) z_58) mM_X11_232 mI_X11_isWord mE_X11_isWord mN_X11 mC_X11_isWord (by decide +kernel) 0 (ci := 11) rfl rfl hP hS (fun _ h => h) ⟨Nat.le_of_ble_eq_true rfl, Nat.le_of_ble_eq_true rfl⟩ ⟨Nat.zero_le _, Nat.zero_le _⟩ hl.1 rfl rfl (Nat.le_of_ble_eq_true rfl) dX11_readLaw_195 (fun r_59 v_59 f_59 g_59 H locs hq_59 hP _ hS => ?_)
    obtain ⟨z_59, rfl, rfl, rfl, rfl, p0_59, p1_59⟩ := hq_59
    show W p l e (gRm 4 92) s m args below meth c _ _ 0 0 Q (F0 m 198 ls [.int (iI z_59), .ref (ad 0)])
    replace p0_59 : 0 ≤ z_59 ∧ z_59 ≤ 1 := p0_59
    replace p1_59 : z_59 = 1 → w8_9 = 1 := p1_59
    refine mdP_newBack (v1 := (va_up (va_up (va_up (va_up (va_up (va_up (va_up (va_up (va_up (va_up (va_up (va_up (va_up v 6 (v 6)) 7 (v 7)) 8 w8_9) 9 w9_9) 10 w10_9) 11 w11_9) 16 (v 16)) 20 (v 20)) 21 (v 21)) 27 (v 27)) 17 (v 17)) 15 (v 15)) 19 z_59)) C hP hD hS mF_X11_210 (by omega) (by omega) rfl (Or.inr (gF_up (V := mdV) (F := mdF) (gF_up (V := mdV) (F := mdF) (gF_up (V := mdV) (F := mdF) (gF_up (V := mdV) (F := mdF) (gF_up (V := mdV) (F := mdF) (gF_up (V := mdV) (F := mdF) (gF_up (V := mdV) (F := mdF) (gF_up (V := mdV) (F := mdF) (gF_up (V := mdV) (F := mdF) (gR_up (V := mdV) (F := mdF) (gR_up (V := mdV) (F := mdF) (gR_up (V := mdV) (F := mdF) (gR_up (V := mdV) (F := mdF) (gR_up (V := mdV) (F := mdF) (gR_up (V := mdV) (F := mdF) (gR_up (V := mdV) (F := mdF) (gR_up (V := mdV) (F := mdF) (gR_up (V := mdV) (F := mdF) (gR_up (V := mdV) (F := mdF) (gR_up (V := mdV) (F := mdF) (gR_up (V := mdV) (F := mdF) (gR_up (V := mdV) (F := mdF) ⟨hok.1, hok.2⟩ 6 (hP.2.1 6)) 7 (hP.2.1 7)) 8 (hP.2.1 8)) 9 (hP.2.1 9)) 10 (hP.2.1 10)) 11 (hP.2.1 11)) 16 (hP.2.1 16)) 20 (hP.2.1 20)) 21 (hP.2.1 21)) 27 (hP.2.1 27)) 17 (hP.2.1 17)) 15 (hP.2.1 15)) 19 (show 0 ≤ z_59 ∧ z_59 ≤ 1 from by omega)) 11 (hP.2.2 11)) 12 (hP.2.2 12)) 17 (hP.2.2 17)) 14 (hP.2.2 14)) 16 (hP.2.2 16)) 5 (hP.2.2 5)) 6 (hP.2.2 6)) 7 (hP.2.2 7)) 8 (hP.2.2 8))) dX11_readLaw_198 (fun H locs hP hS => ?_)
    refine lv_aload_n hx hb dX11_readLaw_201 rfl (lv_at hl 0 rfl) ?_
    refine mdG_newBack C hP mF_X11_210 dX11_readLaw_202 ?_
    show W p l e (gRm 4 92) s m args below meth c _ _ 0 0 Q (F0 m 205 ls [.int (iI z_59)])
    have r_60 : 0 ≤ z_59 ∧ z_59 ≤ 1 := hP.2.1 19
    refine gi_zne (tgt := 235) hx hb dX11_readLaw_205 (by decide) (by omega) (fun c_61 => ?_) (fun c_61 => ?_)
    · refine lv_aload_n hx hb dX11_readLaw_235 rfl (lv_at hl 0 rfl) ?_
      refine mdG_bad C hP mF_X11_188 dX11_readLaw_236 ?_
      show W p l e (gRm 4 92) s m args below meth c _ _ 0 0 Q (F0 m 239 ls [.int (iI (v 6))])
      refine gi_zne (tgt := 246) hx hb dX11_readLaw_239 (by decide) (by omega) (fun c_62 => ?_) (fun c_62 => ?_)
      · refine lv_aload_n hx hb dX11_readLaw_246 rfl (lv_at hl 0 rfl) ?_
        refine mdG_bad C hP mF_X11_188 dX11_readLaw_247 ?_
        show W p l e (gRm 4 92) s m args below meth c _ _ 0 0 Q (F0 m 250 ls [.int (iI (v 6))])
        refine gi_zne (tgt := 257) hx hb dX11_readLaw_250 (by decide) (by omega) (fun c_63 => ?_) (fun c_63 => ?_)
        · exact g_vret hQ C hr hlocks hP hS dX11_readLaw_257 ⟨(v 6), (v 7), w8_9, w9_9, w10_9, w11_9, (v 16), (v 20), (v 21), (v 27), (v 17), (v 15), z_59, (f 11), (f 12), (f 17), (f 14), (f 16), (f 5), (f 6), (f 7), (f 8), b0_9, rfl, rfl, rfl, rfl, (by first | omega | (split <;> omega)), (by first | omega | (split <;> omega)), (by first | omega | (split <;> omega)), (by first | (intro h; exfalso; omega) | exact fun _ => hrp | exact fun _ => hX (by omega))⟩
        · refine lv_aload_n hx hb dX11_readLaw_253 rfl (lv_at hl 0 rfl) ?_
          refine g_cv (As := []) (rest := []) (n := 0) C hml (m_X11_ends l D k A ad hD (va_up (va_up (va_up (va_up (va_up (va_up (va_up (va_up (va_up (va_up (va_up (va_up (va_up v 6 (v 6)) 7 (v 7)) 8 w8_9) 9 w9_9) 10 w10_9) 11 w11_9) 16 (v 16)) 20 (v 20)) 21 (v 21)) 27 (v 27)) 17 (v 17)) 15 (v 15)) 19 z_59) (va_up (va_up (va_up (va_up (va_up (va_up (va_up (va_up (va_up f 11 (f 11)) 12 (f 12)) 17 (f 17)) 14 (f 14)) 16 (f 16)) 5 (f 5)) 6 (f 6)) 7 (f 7)) 8 (f 8)) (va_up g 0 b0_9) (show w9_9 ≤ w10_9 ∧ w10_9 ≤ (v 3) ∧ (w8_9 ≠ 0 → w9_9 < w10_9) from by omega)) mM_X11_246 mI_X11_ends mE_X11_ends mN_X11 mC_X11_ends (by decide +kernel) 0 (ci := 11) rfl rfl hP hS (fun _ h => h) ⟨Nat.le_of_ble_eq_true rfl, Nat.le_of_ble_eq_true rfl⟩ ⟨Nat.zero_le _, Nat.zero_le _⟩ hl.1 rfl rfl (Nat.le_of_ble_eq_true rfl) dX11_readLaw_254 (fun r_64 v_64 f_64 g_64 H locs hq_64 hP _ hS => ?_)
          obtain ⟨w6_64, w7_64, w8_64, w9_64, w10_64, w11_64, b0_64, rfl, rfl, rfl, rfl, p0_64, p1_64, p2_64, p3_64⟩ := hq_64
          show W p l e (gRm 4 92) s m args below meth c _ _ 0 0 Q (F0 m 257 ls [])
          have hP : gWd D (mdT k ad) (va_up (va_up (va_up (va_up (va_up (va_up (va_up (va_up (va_up (va_up (va_up (va_up (va_up v 6 w6_64) 7 w7_64) 8 w8_64) 9 w9_64) 10 w10_64) 11 w11_64) 16 (v 16)) 20 (v 20)) 21 (v 21)) 27 (v 27)) 17 (v 17)) 15 (v 15)) 19 z_59) (va_up (va_up (va_up (va_up (va_up (va_up (va_up (va_up (va_up f 11 (f 11)) 12 (f 12)) 17 (f 17)) 14 (f 14)) 16 (f 16)) 5 (f 5)) 6 (f 6)) 7 (f 7)) 8 (f 8)) (va_up g 0 b0_64) H := ⟨hP.1, (gF_up (V := mdV) (F := mdF) (gF_up (V := mdV) (F := mdF) (gF_up (V := mdV) (F := mdF) (gF_up (V := mdV) (F := mdF) (gF_up (V := mdV) (F := mdF) (gF_up (V := mdV) (F := mdF) (gF_up (V := mdV) (F := mdF) (gF_up (V := mdV) (F := mdF) (gF_up (V := mdV) (F := mdF) (gR_up (V := mdV) (F := mdF) (gR_up (V := mdV) (F := mdF) (gR_up (V := mdV) (F := mdF) (gR_up (V := mdV) (F := mdF) (gR_up (V := mdV) (F := mdF) (gR_up (V := mdV) (F := mdF) (gR_up (V := mdV) (F := mdF) (gR_up (V := mdV) (F := mdF) (gR_up (V := mdV) (F := mdF) (gR_up (V := mdV) (F := mdF) (gR_up (V := mdV) (F := mdF) (gR_up (V := mdV) (F := mdF) (gR_up (V := mdV) (F := mdF) ⟨hok.1, hok.2⟩ 6 (hP.2.1 6)) 7 (hP.2.1 7)) 8 (hP.2.1 8)) 9 (hP.2.1 9)) 10 (hP.2.1 10)) 11 (hP.2.1 11)) 16 (hP.2.1 16)) 20 (hP.2.1 20)) 21 (hP.2.1 21)) 27 (hP.2.1 27)) 17 (hP.2.1 17)) 15 (hP.2.1 15)) 19 (hP.2.1 19)) 11 (hP.2.2 11)) 12 (hP.2.2 12)) 17 (hP.2.2 17)) 14 (hP.2.2 14)) 16 (hP.2.2 16)) 5 (hP.2.2 5)) 6 (hP.2.2 6)) 7 (hP.2.2 7)) 8 (hP.2.2 8))⟩
          replace p0_64 : w9_9 ≤ w9_64 ∧ w9_64 ≤ w10_64 ∧ w10_64 ≤ (v 3) := p0_64
          replace p1_64 : w8_64 ≠ 0 → w9_64 < w10_64 := p1_64
          replace p2_64 : 0 < (v 6) → 0 < w6_64 := p2_64
          replace p3_64 : w6_64 = 0 → (v 6) = 0 := p3_64
          have rw6_64 : 0 ≤ w6_64 ∧ w6_64 ≤ 5 := hP.2.1 6
          have rw7_64 : 0 ≤ w7_64 ∧ w7_64 ≤ 700 := hP.2.1 7
          have rw8_64 : 0 ≤ w8_64 ∧ w8_64 ≤ 4 := hP.2.1 8
          have rw9_64 : 0 ≤ w9_64 ∧ w9_64 ≤ 700 := hP.2.1 9
          have rw10_64 : 0 ≤ w10_64 ∧ w10_64 ≤ 700 := hP.2.1 10
          have rw11_64 : 0 ≤ w11_64 ∧ w11_64 ≤ 999999 := hP.2.1 11
          exact g_vret hQ C hr hlocks hP hS dX11_readLaw_257 ⟨w6_64, w7_64, w8_64, w9_64, w10_64, w11_64, (v 16), (v 20), (v 21), (v 27), (v 17), (v 15), z_59, (f 11), (f 12), (f 17), (f 14), (f 16), (f 5), (f 6), (f 7), (f 8), b0_64, rfl, rfl, rfl, rfl, (by first | omega | (split <;> omega)), (by first | omega | (split <;> omega)), (by first | omega | (split <;> omega)), (by first | (intro h; exfalso; omega) | exact fun _ => hrp | exact fun _ => hX (by omega))⟩
      · refine lv_aload_n hx hb dX11_readLaw_242 rfl (lv_at hl 0 rfl) ?_
        refine g_cv (As := []) (rest := []) (n := 0) C hml (m_X11_next l D k A ad hD (va_up (va_up (va_up (va_up (va_up (va_up (va_up (va_up (va_up (va_up (va_up (va_up (va_up v 6 (v 6)) 7 (v 7)) 8 w8_9) 9 w9_9) 10 w10_9) 11 w11_9) 16 (v 16)) 20 (v 20)) 21 (v 21)) 27 (v 27)) 17 (v 17)) 15 (v 15)) 19 z_59) (va_up (va_up (va_up (va_up (va_up (va_up (va_up (va_up (va_up f 11 (f 11)) 12 (f 12)) 17 (f 17)) 14 (f 14)) 16 (f 16)) 5 (f 5)) 6 (f 6)) 7 (f 7)) 8 (f 8)) (va_up g 0 b0_9) (show w10_9 ≤ (v 3) from by omega)) mM_X11_201 mI_X11_next mE_X11_next mN_X11 mC_X11_next (by decide +kernel) 0 (ci := 11) rfl rfl hP hS (fun _ h => h) ⟨Nat.le_of_ble_eq_true rfl, Nat.le_of_ble_eq_true rfl⟩ ⟨Nat.zero_le _, Nat.zero_le _⟩ hl.1 rfl rfl (Nat.le_of_ble_eq_true rfl) dX11_readLaw_243 (fun r_65 v_65 f_65 g_65 H locs hq_65 hP _ hS => ?_)
        obtain ⟨w8_65, w9_65, w10_65, w11_65, b0_65, rfl, rfl, rfl, rfl, p0_65, p1_65⟩ := hq_65
        show W p l e (gRm 4 92) s m args below meth c _ _ 0 0 Q (F0 m 246 ls [])
        have hP : gWd D (mdT k ad) (va_up (va_up (va_up (va_up (va_up (va_up (va_up (va_up (va_up (va_up (va_up (va_up (va_up v 6 (v 6)) 7 (v 7)) 8 w8_65) 9 w9_65) 10 w10_65) 11 w11_65) 16 (v 16)) 20 (v 20)) 21 (v 21)) 27 (v 27)) 17 (v 17)) 15 (v 15)) 19 z_59) (va_up (va_up (va_up (va_up (va_up (va_up (va_up (va_up (va_up f 11 (f 11)) 12 (f 12)) 17 (f 17)) 14 (f 14)) 16 (f 16)) 5 (f 5)) 6 (f 6)) 7 (f 7)) 8 (f 8)) (va_up g 0 b0_65) H := ⟨hP.1, (gF_up (V := mdV) (F := mdF) (gF_up (V := mdV) (F := mdF) (gF_up (V := mdV) (F := mdF) (gF_up (V := mdV) (F := mdF) (gF_up (V := mdV) (F := mdF) (gF_up (V := mdV) (F := mdF) (gF_up (V := mdV) (F := mdF) (gF_up (V := mdV) (F := mdF) (gF_up (V := mdV) (F := mdF) (gR_up (V := mdV) (F := mdF) (gR_up (V := mdV) (F := mdF) (gR_up (V := mdV) (F := mdF) (gR_up (V := mdV) (F := mdF) (gR_up (V := mdV) (F := mdF) (gR_up (V := mdV) (F := mdF) (gR_up (V := mdV) (F := mdF) (gR_up (V := mdV) (F := mdF) (gR_up (V := mdV) (F := mdF) (gR_up (V := mdV) (F := mdF) (gR_up (V := mdV) (F := mdF) (gR_up (V := mdV) (F := mdF) (gR_up (V := mdV) (F := mdF) ⟨hok.1, hok.2⟩ 6 (hP.2.1 6)) 7 (hP.2.1 7)) 8 (hP.2.1 8)) 9 (hP.2.1 9)) 10 (hP.2.1 10)) 11 (hP.2.1 11)) 16 (hP.2.1 16)) 20 (hP.2.1 20)) 21 (hP.2.1 21)) 27 (hP.2.1 27)) 17 (hP.2.1 17)) 15 (hP.2.1 15)) 19 (hP.2.1 19)) 11 (hP.2.2 11)) 12 (hP.2.2 12)) 17 (hP.2.2 17)) 14 (hP.2.2 14)) 16 (hP.2.2 16)) 5 (hP.2.2 5)) 6 (hP.2.2 6)) 7 (hP.2.2 7)) 8 (hP.2.2 8))⟩
        replace p0_65 : w10_9 ≤ w9_65 ∧ w9_65 ≤ w10_65 ∧ w10_65 ≤ (v 3) := p0_65
        replace p1_65 : w8_65 ≠ 0 → w9_65 < w10_65 := p1_65
        have rw8_65 : 0 ≤ w8_65 ∧ w8_65 ≤ 4 := hP.2.1 8
        have rw9_65 : 0 ≤ w9_65 ∧ w9_65 ≤ 700 := hP.2.1 9
        have rw10_65 : 0 ≤ w10_65 ∧ w10_65 ≤ 700 := hP.2.1 10
        have rw11_65 : 0 ≤ w11_65 ∧ w11_65 ≤ 999999 := hP.2.1 11
        refine lv_aload_n hx hb dX11_readLaw_246 rfl (lv_at hl 0 rfl) ?_
        refine mdG_bad C hP mF_X11_188 dX11_readLaw_247 ?_
        show W p l e (gRm 4 92) s m args below meth c _ _ 0 0 Q (F0 m 250 ls [.int (iI (v 6))])
        refine gi_zne (tgt := 257) hx hb dX11_readLaw_250 (by decide) (by omega) (fun c_66 => ?_) (fun c_66 => ?_)
        · exact g_vret hQ C hr hlocks hP hS dX11_readLaw_257 ⟨(v 6), (v 7), w8_65, w9_65, w10_65, w11_65, (v 16), (v 20), (v 21), (v 27), (v 17), (v 15), z_59, (f 11), (f 12), (f 17), (f 14), (f 16), (f 5), (f 6), (f 7), (f 8), b0_65, rfl, rfl, rfl, rfl, (by first | omega | (split <;> omega)), (by first | omega | (split <;> omega)), (by first | omega | (split <;> omega)), (by first | (intro h; exfalso; omega) | exact fun _ => hrp | exact fun _ => hX (by omega))⟩
        · refine lv_aload_n hx hb dX11_readLaw_253 rfl (lv_at hl 0 rfl) ?_
          refine g_cv (As := []) (rest := []) (n := 0) C hml (m_X11_ends l D k A ad hD (va_up (va_up (va_up (va_up (va_up (va_up (va_up (va_up (va_up (va_up (va_up (va_up (va_up v 6 (v 6)) 7 (v 7)) 8 w8_65) 9 w9_65) 10 w10_65) 11 w11_65) 16 (v 16)) 20 (v 20)) 21 (v 21)) 27 (v 27)) 17 (v 17)) 15 (v 15)) 19 z_59) (va_up (va_up (va_up (va_up (va_up (va_up (va_up (va_up (va_up f 11 (f 11)) 12 (f 12)) 17 (f 17)) 14 (f 14)) 16 (f 16)) 5 (f 5)) 6 (f 6)) 7 (f 7)) 8 (f 8)) (va_up g 0 b0_65) (show w9_65 ≤ w10_65 ∧ w10_65 ≤ (v 3) ∧ (w8_65 ≠ 0 → w9_65 < w10_65) from by omega)) mM_X11_246 mI_X11_ends mE_X11_ends mN_X11 mC_X11_ends (by decide +kernel) 0 (ci := 11) rfl rfl hP hS (fun _ h => h) ⟨Nat.le_of_ble_eq_true rfl, Nat.le_of_ble_eq_true rfl⟩ ⟨Nat.zero_le _, Nat.zero_le _⟩ hl.1 rfl rfl (Nat.le_of_ble_eq_true rfl) dX11_readLaw_254 (fun r_67 v_67 f_67 g_67 H locs hq_67 hP _ hS => ?_)
          obtain ⟨w6_67, w7_67, w8_67, w9_67, w10_67, w11_67, b0_67, rfl, rfl, rfl, rfl, p0_67, p1_67, p2_67, p3_67⟩ := hq_67
          show W p l e (gRm 4 92) s m args below meth c _ _ 0 0 Q (F0 m 257 ls [])
          have hP : gWd D (mdT k ad) (va_up (va_up (va_up (va_up (va_up (va_up (va_up (va_up (va_up (va_up (va_up (va_up (va_up v 6 w6_67) 7 w7_67) 8 w8_67) 9 w9_67) 10 w10_67) 11 w11_67) 16 (v 16)) 20 (v 20)) 21 (v 21)) 27 (v 27)) 17 (v 17)) 15 (v 15)) 19 z_59) (va_up (va_up (va_up (va_up (va_up (va_up (va_up (va_up (va_up f 11 (f 11)) 12 (f 12)) 17 (f 17)) 14 (f 14)) 16 (f 16)) 5 (f 5)) 6 (f 6)) 7 (f 7)) 8 (f 8)) (va_up g 0 b0_67) H := ⟨hP.1, (gF_up (V := mdV) (F := mdF) (gF_up (V := mdV) (F := mdF) (gF_up (V := mdV) (F := mdF) (gF_up (V := mdV) (F := mdF) (gF_up (V := mdV) (F := mdF) (gF_up (V := mdV) (F := mdF) (gF_up (V := mdV) (F := mdF) (gF_up (V := mdV) (F := mdF) (gF_up (V := mdV) (F := mdF) (gR_up (V := mdV) (F := mdF) (gR_up (V := mdV) (F := mdF) (gR_up (V := mdV) (F := mdF) (gR_up (V := mdV) (F := mdF) (gR_up (V := mdV) (F := mdF) (gR_up (V := mdV) (F := mdF) (gR_up (V := mdV) (F := mdF) (gR_up (V := mdV) (F := mdF) (gR_up (V := mdV) (F := mdF) (gR_up (V := mdV) (F := mdF) (gR_up (V := mdV) (F := mdF) (gR_up (V := mdV) (F := mdF) (gR_up (V := mdV) (F := mdF) ⟨hok.1, hok.2⟩ 6 (hP.2.1 6)) 7 (hP.2.1 7)) 8 (hP.2.1 8)) 9 (hP.2.1 9)) 10 (hP.2.1 10)) 11 (hP.2.1 11)) 16 (hP.2.1 16)) 20 (hP.2.1 20)) 21 (hP.2.1 21)) 27 (hP.2.1 27)) 17 (hP.2.1 17)) 15 (hP.2.1 15)) 19 (hP.2.1 19)) 11 (hP.2.2 11)) 12 (hP.2.2 12)) 17 (hP.2.2 17)) 14 (hP.2.2 14)) 16 (hP.2.2 16)) 5 (hP.2.2 5)) 6 (hP.2.2 6)) 7 (hP.2.2 7)) 8 (hP.2.2 8))⟩
          replace p0_67 : w9_65 ≤ w9_67 ∧ w9_67 ≤ w10_67 ∧ w10_67 ≤ (v 3) := p0_67
          replace p1_67 : w8_67 ≠ 0 → w9_67 < w10_67 := p1_67
          replace p2_67 : 0 < (v 6) → 0 < w6_67 := p2_67
          replace p3_67 : w6_67 = 0 → (v 6) = 0 := p3_67
          have rw6_67 : 0 ≤ w6_67 ∧ w6_67 ≤ 5 := hP.2.1 6
          have rw7_67 : 0 ≤ w7_67 ∧ w7_67 ≤ 700 := hP.2.1 7
          have rw8_67 : 0 ≤ w8_67 ∧ w8_67 ≤ 4 := hP.2.1 8
          have rw9_67 : 0 ≤ w9_67 ∧ w9_67 ≤ 700 := hP.2.1 9
          have rw10_67 : 0 ≤ w10_67 ∧ w10_67 ≤ 700 := hP.2.1 10
          have rw11_67 : 0 ≤ w11_67 ∧ w11_67 ≤ 999999 := hP.2.1 11
          exact g_vret hQ C hr hlocks hP hS dX11_readLaw_257 ⟨w6_67, w7_67, w8_67, w9_67, w10_67, w11_67, (v 16), (v 20), (v 21), (v 27), (v 17), (v 15), z_59, (f 11), (f 12), (f 17), (f 14), (f 16), (f 5), (f 6), (f 7), (f 8), b0_67, rfl, rfl, rfl, rfl, (by first | omega | (split <;> omega)), (by first | omega | (split <;> omega)), (by first | omega | (split <;> omega)), (by first | (intro h; exfalso; omega) | exact fun _ => hrp | exact fun _ => hX (by omega))⟩
    · refine lv_aload_n hx hb dX11_readLaw_208 rfl (lv_at hl 0 rfl) ?_
      refine lv_bipush (v := iI 115) hx hb dX11_readLaw_209 (by decide) ?_
      refine lv_bipush (v := iI 104) hx hb dX11_readLaw_211 (by decide) ?_
      refine lv_bipush (v := iI 97) hx hb dX11_readLaw_213 (by decide) ?_
      refine lv_bipush (v := iI 114) hx hb dX11_readLaw_215 (by decide) ?_
      refine lv_bipush (v := iI 101) hx hb dX11_readLaw_217 (by decide) ?_
      refine lv_bipush (v := iI 100) hx hb dX11_readLaw_219 (by decide) ?_
      refine lv_iconst (v := iI 0) hx hb dX11_readLaw_221 rfl ?_
      refine g_cs (As := [.int (iI 115), .int (iI 104), .int (iI 97), .int (iI 114), .int (iI 101), .int (iI 100), .int (iI 0)]) (rest := [.ref (ad 0)]) (n := 7) C hml (m_X11_spelled l D k A ad hD (va_up (va_up (va_up (va_up (va_up (va_up (va_up (va_up (va_up (va_up (va_up (va_up (va_up v 6 (v 6)) 7 (v 7)) 8 w8_9) 9 w9_9) 10 w10_9) 11 w11_9) 16 (v 16)) 20 (v 20)) 21 (v 21)) 27 (v 27)) 17 (v 17)) 15 (v 15)) 19 z_59) (va_up (va_up (va_up (va_up (va_up (va_up (va_up (va_up (va_up f 11 (f 11)) 12 (f 12)) 17 (f 17)) 14 (f 14)) 16 (f 16)) 5 (f 5)) 6 (f 6)) 7 (f 7)) 8 (f 8)) (va_up g 0 b0_9) 115 104 97 114 101 100 0 (by decide) (by decide) (by decide) (by decide) (by decide) (by decide) (by decide)) mM_X11_228 mS_X11_spelled mN_X11 mC_X11_spelled (by decide +kernel) hP hS (fun _ h => h) ⟨Nat.le_of_ble_eq_true rfl, Nat.le_of_ble_eq_true rfl⟩ ⟨Nat.zero_le _, Nat.zero_le _⟩ hl.1 rfl rfl (Nat.le_of_ble_eq_true rfl) dX11_readLaw_222 (fun r_68 v_68 f_68 g_68 H locs hq_68 hP _ hS => ?_)
      obtain ⟨z_68, rfl, rfl, rfl, rfl⟩ := hq_68
      show W p l e (gRm 4 92) s m args below meth c _ _ 0 0 Q (F0 m 225 ls [.long (iL z_68), .ref (ad 0)])
      refine g_cv (As := [.long (iL z_68)]) (rest := []) (n := 1) C hml (m_X11_isWord l D k A ad hD (va_up (va_up (va_up (va_up (va_up (va_up (va_up (va_up (va_up (va_up (va_up (va_up (va_up v 6 (v 6)) 7 (v 7)) 8 w8_9) 9 w9_9) 10 w10_9) 11 w11_9) 16 (v 16)) 20 (v 20)) 21 (v 21)) 27 (v 27)) 17 (v 17)) 15 (v 15)) 19 z_59) (va_up (va_up (va_up (va_up (va_up (va_up (va_up (va_up (va_up f 11 (f 11)) 12 (f 12)) 17 (f 17)) 14 (f 14)) 16 (f 16)) 5 (f 5)) 6 (f 6)) 7 (f 7)) 8 (f 8)) (va_up g 0 b0_9) z_68) mM_X11_232 mI_X11_isWord mE_X11_isWord mN_X11 mC_X11_isWord (by decide +kernel) 0 (ci := 11) rfl rfl hP hS (fun _ h => h) ⟨Nat.le_of_ble_eq_true rfl, Nat.le_of_ble_eq_true rfl⟩ ⟨Nat.zero_le _, Nat.zero_le _⟩ hl.1 rfl rfl (Nat.le_of_ble_eq_true rfl) dX11_readLaw_225 (fun r_69 v_69 f_69 g_69 H locs hq_69 hP _ hS => ?_)
      obtain ⟨z_69, rfl, rfl, rfl, rfl, p0_69, p1_69⟩ := hq_69
      show W p l e (gRm 4 92) s m args below meth c _ _ 0 0 Q (F0 m 228 ls [.int (iI z_69)])
      replace p0_69 : 0 ≤ z_69 ∧ z_69 ≤ 1 := p0_69
      replace p1_69 : z_69 = 1 → w8_9 = 1 := p1_69
      refine gi_zne (tgt := 235) hx hb dX11_readLaw_228 (by decide) (by omega) (fun c_70 => ?_) (fun c_70 => ?_)
      · refine lv_aload_n hx hb dX11_readLaw_235 rfl (lv_at hl 0 rfl) ?_
        refine mdG_bad C hP mF_X11_188 dX11_readLaw_236 ?_
        show W p l e (gRm 4 92) s m args below meth c _ _ 0 0 Q (F0 m 239 ls [.int (iI (v 6))])
        refine gi_zne (tgt := 246) hx hb dX11_readLaw_239 (by decide) (by omega) (fun c_71 => ?_) (fun c_71 => ?_)
        · refine lv_aload_n hx hb dX11_readLaw_246 rfl (lv_at hl 0 rfl) ?_
          refine mdG_bad C hP mF_X11_188 dX11_readLaw_247 ?_
          show W p l e (gRm 4 92) s m args below meth c _ _ 0 0 Q (F0 m 250 ls [.int (iI (v 6))])
          refine gi_zne (tgt := 257) hx hb dX11_readLaw_250 (by decide) (by omega) (fun c_72 => ?_) (fun c_72 => ?_)
          · exact g_vret hQ C hr hlocks hP hS dX11_readLaw_257 ⟨(v 6), (v 7), w8_9, w9_9, w10_9, w11_9, (v 16), (v 20), (v 21), (v 27), (v 17), (v 15), z_59, (f 11), (f 12), (f 17), (f 14), (f 16), (f 5), (f 6), (f 7), (f 8), b0_9, rfl, rfl, rfl, rfl, (by first | omega | (split <;> omega)), (by first | omega | (split <;> omega)), (by first | omega | (split <;> omega)), (by first | (intro h; exfalso; omega) | exact fun _ => hrp | exact fun _ => hX (by omega))⟩
          · refine lv_aload_n hx hb dX11_readLaw_253 rfl (lv_at hl 0 rfl) ?_
            refine g_cv (As := []) (rest := []) (n := 0) C hml (m_X11_ends l D k A ad hD (va_up (va_up (va_up (va_up (va_up (va_up (va_up (va_up (va_up (va_up (va_up (va_up (va_up v 6 (v 6)) 7 (v 7)) 8 w8_9) 9 w9_9) 10 w10_9) 11 w11_9) 16 (v 16)) 20 (v 20)) 21 (v 21)) 27 (v 27)) 17 (v 17)) 15 (v 15)) 19 z_59) (va_up (va_up (va_up (va_up (va_up (va_up (va_up (va_up (va_up f 11 (f 11)) 12 (f 12)) 17 (f 17)) 14 (f 14)) 16 (f 16)) 5 (f 5)) 6 (f 6)) 7 (f 7)) 8 (f 8)) (va_up g 0 b0_9) (show w9_9 ≤ w10_9 ∧ w10_9 ≤ (v 3) ∧ (w8_9 ≠ 0 → w9_9 < w10_9) from by omega)) mM_X11_246 mI_X11_ends mE_X11_ends mN_X11 mC_X11_ends (by decide +kernel) 0 (ci := 11) rfl rfl hP hS (fun _ h => h) ⟨Nat.le_of_ble_eq_true rfl, Nat.le_of_ble_eq_true rfl⟩ ⟨Nat.zero_le _, Nat.zero_le _⟩ hl.1 rfl rfl (Nat.le_of_ble_eq_true rfl) dX11_readLaw_254 (fun r_73 v_73 f_73 g_73 H locs hq_73 hP _ hS => ?_)
            obtain ⟨w6_73, w7_73, w8_73, w9_73, w10_73, w11_73, b0_73, rfl, rfl, rfl, rfl, p0_73, p1_73, p2_73, p3_73⟩ := hq_73
            show W p l e (gRm 4 92) s m args below meth c _ _ 0 0 Q (F0 m 257 ls [])
            have hP : gWd D (mdT k ad) (va_up (va_up (va_up (va_up (va_up (va_up (va_up (va_up (va_up (va_up (va_up (va_up (va_up v 6 w6_73) 7 w7_73) 8 w8_73) 9 w9_73) 10 w10_73) 11 w11_73) 16 (v 16)) 20 (v 20)) 21 (v 21)) 27 (v 27)) 17 (v 17)) 15 (v 15)) 19 z_59) (va_up (va_up (va_up (va_up (va_up (va_up (va_up (va_up (va_up f 11 (f 11)) 12 (f 12)) 17 (f 17)) 14 (f 14)) 16 (f 16)) 5 (f 5)) 6 (f 6)) 7 (f 7)) 8 (f 8)) (va_up g 0 b0_73) H := ⟨hP.1, (gF_up (V := mdV) (F := mdF) (gF_up (V := mdV) (F := mdF) (gF_up (V := mdV) (F := mdF) (gF_up (V := mdV) (F := mdF) (gF_up (V := mdV) (F := mdF) (gF_up (V := mdV) (F := mdF) (gF_up (V := mdV) (F := mdF) (gF_up (V := mdV) (F := mdF) (gF_up (V := mdV) (F := mdF) (gR_up (V := mdV) (F := mdF) (gR_up (V := mdV) (F := mdF) (gR_up (V := mdV) (F := mdF) (gR_up (V := mdV) (F := mdF) (gR_up (V := mdV) (F := mdF) (gR_up (V := mdV) (F := mdF) (gR_up (V := mdV) (F := mdF) (gR_up (V := mdV) (F := mdF) (gR_up (V := mdV) (F := mdF) (gR_up (V := mdV) (F := mdF) (gR_up (V := mdV) (F := mdF) (gR_up (V := mdV) (F := mdF) (gR_up (V := mdV) (F := mdF) ⟨hok.1, hok.2⟩ 6 (hP.2.1 6)) 7 (hP.2.1 7)) 8 (hP.2.1 8)) 9 (hP.2.1 9)) 10 (hP.2.1 10)) 11 (hP.2.1 11)) 16 (hP.2.1 16)) 20 (hP.2.1 20)) 21 (hP.2.1 21)) 27 (hP.2.1 27)) 17 (hP.2.1 17)) 15 (hP.2.1 15)) 19 (hP.2.1 19)) 11 (hP.2.2 11)) 12 (hP.2.2 12)) 17 (hP.2.2 17)) 14 (hP.2.2 14)) 16 (hP.2.2 16)) 5 (hP.2.2 5)) 6 (hP.2.2 6)) 7 (hP.2.2 7)) 8 (hP.2.2 8))⟩
            replace p0_73 : w9_9 ≤ w9_73 ∧ w9_73 ≤ w10_73 ∧ w10_73 ≤ (v 3) := p0_73
            replace p1_73 : w8_73 ≠ 0 → w9_73 < w10_73 := p1_73
            replace p2_73 : 0 < (v 6) → 0 < w6_73 := p2_73
            replace p3_73 : w6_73 = 0 → (v 6) = 0 := p3_73
            have rw6_73 : 0 ≤ w6_73 ∧ w6_73 ≤ 5 := hP.2.1 6
            have rw7_73 : 0 ≤ w7_73 ∧ w7_73 ≤ 700 := hP.2.1 7
            have rw8_73 : 0 ≤ w8_73 ∧ w8_73 ≤ 4 := hP.2.1 8
            have rw9_73 : 0 ≤ w9_73 ∧ w9_73 ≤ 700 := hP.2.1 9
            have rw10_73 : 0 ≤ w10_73 ∧ w10_73 ≤ 700 := hP.2.1 10
            have rw11_73 : 0 ≤ w11_73 ∧ w11_73 ≤ 999999 := hP.2.1 11
            exact g_vret hQ C hr hlocks hP hS dX11_readLaw_257 ⟨w6_73, w7_73, w8_73, w9_73, w10_73, w11_73, (v 16), (v 20), (v 21), (v 27), (v 17), (v 15), z_59, (f 11), (f 12), (f 17), (f 14), (f 16), (f 5), (f 6), (f 7), (f 8), b0_73, rfl, rfl, rfl, rfl, (by first | omega | (split <;> omega)), (by first | omega | (split <;> omega)), (by first | omega | (split <;> omega)), (by first | (intro h; exfalso; omega) | exact fun _ => hrp | exact fun _ => hX (by omega))⟩
        · refine lv_aload_n hx hb dX11_readLaw_242 rfl (lv_at hl 0 rfl) ?_
          refine g_cv (As := []) (rest := []) (n := 0) C hml (m_X11_next l D k A ad hD (va_up (va_up (va_up (va_up (va_up (va_up (va_up (va_up (va_up (va_up (va_up (va_up (va_up v 6 (v 6)) 7 (v 7)) 8 w8_9) 9 w9_9) 10 w10_9) 11 w11_9) 16 (v 16)) 20 (v 20)) 21 (v 21)) 27 (v 27)) 17 (v 17)) 15 (v 15)) 19 z_59) (va_up (va_up (va_up (va_up (va_up (va_up (va_up (va_up (va_up f 11 (f 11)) 12 (f 12)) 17 (f 17)) 14 (f 14)) 16 (f 16)) 5 (f 5)) 6 (f 6)) 7 (f 7)) 8 (f 8)) (va_up g 0 b0_9) (show w10_9 ≤ (v 3) from by omega)) mM_X11_201 mI_X11_next mE_X11_next mN_X11 mC_X11_next (by decide +kernel) 0 (ci := 11) rfl rfl hP hS (fun _ h => h) ⟨Nat.le_of_ble_eq_true rfl, Nat.le_of_ble_eq_true rfl⟩ ⟨Nat.zero_le _, Nat.zero_le _⟩ hl.1 rfl rfl (Nat.le_of_ble_eq_true rfl) dX11_readLaw_243 (fun r_74 v_74 f_74 g_74 H locs hq_74 hP _ hS => ?_)
          obtain ⟨w8_74, w9_74, w10_74, w11_74, b0_74, rfl, rfl, rfl, rfl, p0_74, p1_74⟩ := hq_74
          show W p l e (gRm 4 92) s m args below meth c _ _ 0 0 Q (F0 m 246 ls [])
          have hP : gWd D (mdT k ad) (va_up (va_up (va_up (va_up (va_up (va_up (va_up (va_up (va_up (va_up (va_up (va_up (va_up v 6 (v 6)) 7 (v 7)) 8 w8_74) 9 w9_74) 10 w10_74) 11 w11_74) 16 (v 16)) 20 (v 20)) 21 (v 21)) 27 (v 27)) 17 (v 17)) 15 (v 15)) 19 z_59) (va_up (va_up (va_up (va_up (va_up (va_up (va_up (va_up (va_up f 11 (f 11)) 12 (f 12)) 17 (f 17)) 14 (f 14)) 16 (f 16)) 5 (f 5)) 6 (f 6)) 7 (f 7)) 8 (f 8)) (va_up g 0 b0_74) H := ⟨hP.1, (gF_up (V := mdV) (F := mdF) (gF_up (V := mdV) (F := mdF) (gF_up (V := mdV) (F := mdF) (gF_up (V := mdV) (F := mdF) (gF_up (V := mdV) (F := mdF) (gF_up (V := mdV) (F := mdF) (gF_up (V := mdV) (F := mdF) (gF_up (V := mdV) (F := mdF) (gF_up (V := mdV) (F := mdF) (gR_up (V := mdV) (F := mdF) (gR_up (V := mdV) (F := mdF) (gR_up (V := mdV) (F := mdF) (gR_up (V := mdV) (F := mdF) (gR_up (V := mdV) (F := mdF) (gR_up (V := mdV) (F := mdF) (gR_up (V := mdV) (F := mdF) (gR_up (V := mdV) (F := mdF) (gR_up (V := mdV) (F := mdF) (gR_up (V := mdV) (F := mdF) (gR_up (V := mdV) (F := mdF) (gR_up (V := mdV) (F := mdF) (gR_up (V := mdV) (F := mdF) ⟨hok.1, hok.2⟩ 6 (hP.2.1 6)) 7 (hP.2.1 7)) 8 (hP.2.1 8)) 9 (hP.2.1 9)) 10 (hP.2.1 10)) 11 (hP.2.1 11)) 16 (hP.2.1 16)) 20 (hP.2.1 20)) 21 (hP.2.1 21)) 27 (hP.2.1 27)) 17 (hP.2.1 17)) 15 (hP.2.1 15)) 19 (hP.2.1 19)) 11 (hP.2.2 11)) 12 (hP.2.2 12)) 17 (hP.2.2 17)) 14 (hP.2.2 14)) 16 (hP.2.2 16)) 5 (hP.2.2 5)) 6 (hP.2.2 6)) 7 (hP.2.2 7)) 8 (hP.2.2 8))⟩
          replace p0_74 : w10_9 ≤ w9_74 ∧ w9_74 ≤ w10_74 ∧ w10_74 ≤ (v 3) := p0_74
          replace p1_74 : w8_74 ≠ 0 → w9_74 < w10_74 := p1_74
          have rw8_74 : 0 ≤ w8_74 ∧ w8_74 ≤ 4 := hP.2.1 8
          have rw9_74 : 0 ≤ w9_74 ∧ w9_74 ≤ 700 := hP.2.1 9
          have rw10_74 : 0 ≤ w10_74 ∧ w10_74 ≤ 700 := hP.2.1 10
          have rw11_74 : 0 ≤ w11_74 ∧ w11_74 ≤ 999999 := hP.2.1 11
          refine lv_aload_n hx hb dX11_readLaw_246 rfl (lv_at hl 0 rfl) ?_
          refine mdG_bad C hP mF_X11_188 dX11_readLaw_247 ?_
          show W p l e (gRm 4 92) s m args below meth c _ _ 0 0 Q (F0 m 250 ls [.int (iI (v 6))])
          refine gi_zne (tgt := 257) hx hb dX11_readLaw_250 (by decide) (by omega) (fun c_75 => ?_) (fun c_75 => ?_)
          · exact g_vret hQ C hr hlocks hP hS dX11_readLaw_257 ⟨(v 6), (v 7), w8_74, w9_74, w10_74, w11_74, (v 16), (v 20), (v 21), (v 27), (v 17), (v 15), z_59, (f 11), (f 12), (f 17), (f 14), (f 16), (f 5), (f 6), (f 7), (f 8), b0_74, rfl, rfl, rfl, rfl, (by first | omega | (split <;> omega)), (by first | omega | (split <;> omega)), (by first | omega | (split <;> omega)), (by first | (intro h; exfalso; omega) | exact fun _ => hrp | exact fun _ => hX (by omega))⟩
          · refine lv_aload_n hx hb dX11_readLaw_253 rfl (lv_at hl 0 rfl) ?_
            refine g_cv (As := []) (rest := []) (n := 0) C hml (m_X11_ends l D k A ad hD (va_up (va_up (va_up (va_up (va_up (va_up (va_up (va_up (va_up (va_up (va_up (va_up (va_up v 6 (v 6)) 7 (v 7)) 8 w8_74) 9 w9_74) 10 w10_74) 11 w11_74) 16 (v 16)) 20 (v 20)) 21 (v 21)) 27 (v 27)) 17 (v 17)) 15 (v 15)) 19 z_59) (va_up (va_up (va_up (va_up (va_up (va_up (va_up (va_up (va_up f 11 (f 11)) 12 (f 12)) 17 (f 17)) 14 (f 14)) 16 (f 16)) 5 (f 5)) 6 (f 6)) 7 (f 7)) 8 (f 8)) (va_up g 0 b0_74) (show w9_74 ≤ w10_74 ∧ w10_74 ≤ (v 3) ∧ (w8_74 ≠ 0 → w9_74 < w10_74) from by omega)) mM_X11_246 mI_X11_ends mE_X11_ends mN_X11 mC_X11_ends (by decide +kernel) 0 (ci := 11) rfl rfl hP hS (fun _ h => h) ⟨Nat.le_of_ble_eq_true rfl, Nat.le_of_ble_eq_true rfl⟩ ⟨Nat.zero_le _, Nat.zero_le _⟩ hl.1 rfl rfl (Nat.le_of_ble_eq_true rfl) dX11_readLaw_254 (fun r_76 v_76 f_76 g_76 H locs hq_76 hP _ hS => ?_)
            obtain ⟨w6_76, w7_76, w8_76, w9_76, w10_76, w11_76, b0_76, rfl, rfl, rfl, rfl, p0_76, p1_76, p2_76, p3_76⟩ := hq_76
            show W p l e (gRm 4 92) s m args below meth c _ _ 0 0 Q (F0 m 257 ls [])
            have hP : gWd D (mdT k ad) (va_up (va_up (va_up (va_up (va_up (va_up (va_up (va_up (va_up (va_up (va_up (va_up (va_up v 6 w6_76) 7 w7_76) 8 w8_76) 9 w9_76) 10 w10_76) 11 w11_76) 16 (v 16)) 20 (v 20)) 21 (v 21)) 27 (v 27)) 17 (v 17)) 15 (v 15)) 19 z_59) (va_up (va_up (va_up (va_up (va_up (va_up (va_up (va_up (va_up f 11 (f 11)) 12 (f 12)) 17 (f 17)) 14 (f 14)) 16 (f 16)) 5 (f 5)) 6 (f 6)) 7 (f 7)) 8 (f 8)) (va_up g 0 b0_76) H := ⟨hP.1, (gF_up (V := mdV) (F := mdF) (gF_up (V := mdV) (F := mdF) (gF_up (V := mdV) (F := mdF) (gF_up (V := mdV) (F := mdF) (gF_up (V := mdV) (F := mdF) (gF_up (V := mdV) (F := mdF) (gF_up (V := mdV) (F := mdF) (gF_up (V := mdV) (F := mdF) (gF_up (V := mdV) (F := mdF) (gR_up (V := mdV) (F := mdF) (gR_up (V := mdV) (F := mdF) (gR_up (V := mdV) (F := mdF) (gR_up (V := mdV) (F := mdF) (gR_up (V := mdV) (F := mdF) (gR_up (V := mdV) (F := mdF) (gR_up (V := mdV) (F := mdF) (gR_up (V := mdV) (F := mdF) (gR_up (V := mdV) (F := mdF) (gR_up (V := mdV) (F := mdF) (gR_up (V := mdV) (F := mdF) (gR_up (V := mdV) (F := mdF) (gR_up (V := mdV) (F := mdF) ⟨hok.1, hok.2⟩ 6 (hP.2.1 6)) 7 (hP.2.1 7)) 8 (hP.2.1 8)) 9 (hP.2.1 9)) 10 (hP.2.1 10)) 11 (hP.2.1 11)) 16 (hP.2.1 16)) 20 (hP.2.1 20)) 21 (hP.2.1 21)) 27 (hP.2.1 27)) 17 (hP.2.1 17)) 15 (hP.2.1 15)) 19 (hP.2.1 19)) 11 (hP.2.2 11)) 12 (hP.2.2 12)) 17 (hP.2.2 17)) 14 (hP.2.2 14)) 16 (hP.2.2 16)) 5 (hP.2.2 5)) 6 (hP.2.2 6)) 7 (hP.2.2 7)) 8 (hP.2.2 8))⟩
            replace p0_76 : w9_74 ≤ w9_76 ∧ w9_76 ≤ w10_76 ∧ w10_76 ≤ (v 3) := p0_76
            replace p1_76 : w8_76 ≠ 0 → w9_76 < w10_76 := p1_76
            replace p2_76 : 0 < (v 6) → 0 < w6_76 := p2_76
            replace p3_76 : w6_76 = 0 → (v 6) = 0 := p3_76
            have rw6_76 : 0 ≤ w6_76 ∧ w6_76 ≤ 5 := hP.2.1 6
            have rw7_76 : 0 ≤ w7_76 ∧ w7_76 ≤ 700 := hP.2.1 7
            have rw8_76 : 0 ≤ w8_76 ∧ w8_76 ≤ 4 := hP.2.1 8
            have rw9_76 : 0 ≤ w9_76 ∧ w9_76 ≤ 700 := hP.2.1 9
            have rw10_76 : 0 ≤ w10_76 ∧ w10_76 ≤ 700 := hP.2.1 10
            have rw11_76 : 0 ≤ w11_76 ∧ w11_76 ≤ 999999 := hP.2.1 11
            exact g_vret hQ C hr hlocks hP hS dX11_readLaw_257 ⟨w6_76, w7_76, w8_76, w9_76, w10_76, w11_76, (v 16), (v 20), (v 21), (v 27), (v 17), (v 15), z_59, (f 11), (f 12), (f 17), (f 14), (f 16), (f 5), (f 6), (f 7), (f 8), b0_76, rfl, rfl, rfl, rfl, (by first | omega | (split <;> omega)), (by first | omega | (split <;> omega)), (by first | omega | (split <;> omega)), (by first | (intro h; exfalso; omega) | exact fun _ => hrp | exact fun _ => hX (by omega))⟩
      · refine lv_aload_n hx hb dX11_readLaw_231 rfl (lv_at hl 0 rfl) ?_
        refine g_cv (As := []) (rest := []) (n := 0) C hml (m_X11_wrong l D k A ad hD (va_up (va_up (va_up (va_up (va_up (va_up (va_up (va_up (va_up (va_up (va_up (va_up (va_up v 6 (v 6)) 7 (v 7)) 8 w8_9) 9 w9_9) 10 w10_9) 11 w11_9) 16 (v 16)) 20 (v 20)) 21 (v 21)) 27 (v 27)) 17 (v 17)) 15 (v 15)) 19 z_59) (va_up (va_up (va_up (va_up (va_up (va_up (va_up (va_up (va_up f 11 (f 11)) 12 (f 12)) 17 (f 17)) 14 (f 14)) 16 (f 16)) 5 (f 5)) 6 (f 6)) 7 (f 7)) 8 (f 8)) (va_up g 0 b0_9)) mM_X11_198 mI_X11_wrong mE_X11_wrong mN_X11 mC_X11_wrong (by decide +kernel) 0 (ci := 11) rfl rfl hP hS (fun _ h => h) ⟨Nat.le_of_ble_eq_true rfl, Nat.le_of_ble_eq_true rfl⟩ ⟨Nat.zero_le _, Nat.zero_le _⟩ hl.1 rfl rfl (Nat.le_of_ble_eq_true rfl) dX11_readLaw_232 (fun r_77 v_77 f_77 g_77 H locs hq_77 hP _ hS => ?_)
        obtain ⟨w6_77, w7_77, rfl, rfl, rfl, rfl, p0_77⟩ := hq_77
        show W p l e (gRm 4 92) s m args below meth c _ _ 0 0 Q (F0 m 235 ls [])
        have hP : gWd D (mdT k ad) (va_up (va_up (va_up (va_up (va_up (va_up (va_up (va_up (va_up (va_up (va_up (va_up (va_up v 6 w6_77) 7 w7_77) 8 w8_9) 9 w9_9) 10 w10_9) 11 w11_9) 16 (v 16)) 20 (v 20)) 21 (v 21)) 27 (v 27)) 17 (v 17)) 15 (v 15)) 19 z_59) (va_up (va_up (va_up (va_up (va_up (va_up (va_up (va_up (va_up f 11 (f 11)) 12 (f 12)) 17 (f 17)) 14 (f 14)) 16 (f 16)) 5 (f 5)) 6 (f 6)) 7 (f 7)) 8 (f 8)) (va_up g 0 b0_9) H := ⟨hP.1, (gF_up (V := mdV) (F := mdF) (gF_up (V := mdV) (F := mdF) (gF_up (V := mdV) (F := mdF) (gF_up (V := mdV) (F := mdF) (gF_up (V := mdV) (F := mdF) (gF_up (V := mdV) (F := mdF) (gF_up (V := mdV) (F := mdF) (gF_up (V := mdV) (F := mdF) (gF_up (V := mdV) (F := mdF) (gR_up (V := mdV) (F := mdF) (gR_up (V := mdV) (F := mdF) (gR_up (V := mdV) (F := mdF) (gR_up (V := mdV) (F := mdF) (gR_up (V := mdV) (F := mdF) (gR_up (V := mdV) (F := mdF) (gR_up (V := mdV) (F := mdF) (gR_up (V := mdV) (F := mdF) (gR_up (V := mdV) (F := mdF) (gR_up (V := mdV) (F := mdF) (gR_up (V := mdV) (F := mdF) (gR_up (V := mdV) (F := mdF) (gR_up (V := mdV) (F := mdF) ⟨hok.1, hok.2⟩ 6 (hP.2.1 6)) 7 (hP.2.1 7)) 8 (hP.2.1 8)) 9 (hP.2.1 9)) 10 (hP.2.1 10)) 11 (hP.2.1 11)) 16 (hP.2.1 16)) 20 (hP.2.1 20)) 21 (hP.2.1 21)) 27 (hP.2.1 27)) 17 (hP.2.1 17)) 15 (hP.2.1 15)) 19 (hP.2.1 19)) 11 (hP.2.2 11)) 12 (hP.2.2 12)) 17 (hP.2.2 17)) 14 (hP.2.2 14)) 16 (hP.2.2 16)) 5 (hP.2.2 5)) 6 (hP.2.2 6)) 7 (hP.2.2 7)) 8 (hP.2.2 8))⟩
        replace p0_77 : 0 < w6_77 := p0_77
        have rw6_77 : 0 ≤ w6_77 ∧ w6_77 ≤ 5 := hP.2.1 6
        have rw7_77 : 0 ≤ w7_77 ∧ w7_77 ≤ 700 := hP.2.1 7
        refine lv_aload_n hx hb dX11_readLaw_235 rfl (lv_at hl 0 rfl) ?_
        refine mdG_bad C hP mF_X11_188 dX11_readLaw_236 ?_
        show W p l e (gRm 4 92) s m args below meth c _ _ 0 0 Q (F0 m 239 ls [.int (iI w6_77)])
        have r_78 : 0 ≤ w6_77 ∧ w6_77 ≤ 5 := hP.2.1 6
        refine gi_zne (tgt := 246) hx hb dX11_readLaw_239 (by decide) (by omega) (fun c_79 => ?_) (fun c_79 => ?_)
        · refine lv_aload_n hx hb dX11_readLaw_246 rfl (lv_at hl 0 rfl) ?_
          refine mdG_bad C hP mF_X11_188 dX11_readLaw_247 ?_
          show W p l e (gRm 4 92) s m args below meth c _ _ 0 0 Q (F0 m 250 ls [.int (iI w6_77)])
          refine gi_zne (tgt := 257) hx hb dX11_readLaw_250 (by decide) (by omega) (fun c_80 => ?_) (fun c_80 => ?_)
          · exact g_vret hQ C hr hlocks hP hS dX11_readLaw_257 ⟨w6_77, w7_77, w8_9, w9_9, w10_9, w11_9, (v 16), (v 20), (v 21), (v 27), (v 17), (v 15), z_59, (f 11), (f 12), (f 17), (f 14), (f 16), (f 5), (f 6), (f 7), (f 8), b0_9, rfl, rfl, rfl, rfl, (by first | omega | (split <;> omega)), (by first | omega | (split <;> omega)), (by first | omega | (split <;> omega)), (by first | (intro h; exfalso; omega) | exact fun _ => hrp | exact fun _ => hX (by omega))⟩
          · refine lv_aload_n hx hb dX11_readLaw_253 rfl (lv_at hl 0 rfl) ?_
            refine g_cv (As := []) (rest := []) (n := 0) C hml (m_X11_ends l D k A ad hD (va_up (va_up (va_up (va_up (va_up (va_up (va_up (va_up (va_up (va_up (va_up (va_up (va_up v 6 w6_77) 7 w7_77) 8 w8_9) 9 w9_9) 10 w10_9) 11 w11_9) 16 (v 16)) 20 (v 20)) 21 (v 21)) 27 (v 27)) 17 (v 17)) 15 (v 15)) 19 z_59) (va_up (va_up (va_up (va_up (va_up (va_up (va_up (va_up (va_up f 11 (f 11)) 12 (f 12)) 17 (f 17)) 14 (f 14)) 16 (f 16)) 5 (f 5)) 6 (f 6)) 7 (f 7)) 8 (f 8)) (va_up g 0 b0_9) (show w9_9 ≤ w10_9 ∧ w10_9 ≤ (v 3) ∧ (w8_9 ≠ 0 → w9_9 < w10_9) from by omega)) mM_X11_246 mI_X11_ends mE_X11_ends mN_X11 mC_X11_ends (by decide +kernel) 0 (ci := 11) rfl rfl hP hS (fun _ h => h) ⟨Nat.le_of_ble_eq_true rfl, Nat.le_of_ble_eq_true rfl⟩ ⟨Nat.zero_le _, Nat.zero_le _⟩ hl.1 rfl rfl (Nat.le_of_ble_eq_true rfl) dX11_readLaw_254 (fun r_81 v_81 f_81 g_81 H locs hq_81 hP _ hS => ?_)
            obtain ⟨w6_81, w7_81, w8_81, w9_81, w10_81, w11_81, b0_81, rfl, rfl, rfl, rfl, p0_81, p1_81, p2_81, p3_81⟩ := hq_81
            show W p l e (gRm 4 92) s m args below meth c _ _ 0 0 Q (F0 m 257 ls [])
            have hP : gWd D (mdT k ad) (va_up (va_up (va_up (va_up (va_up (va_up (va_up (va_up (va_up (va_up (va_up (va_up (va_up v 6 w6_81) 7 w7_81) 8 w8_81) 9 w9_81) 10 w10_81) 11 w11_81) 16 (v 16)) 20 (v 20)) 21 (v 21)) 27 (v 27)) 17 (v 17)) 15 (v 15)) 19 z_59) (va_up (va_up (va_up (va_up (va_up (va_up (va_up (va_up (va_up f 11 (f 11)) 12 (f 12)) 17 (f 17)) 14 (f 14)) 16 (f 16)) 5 (f 5)) 6 (f 6)) 7 (f 7)) 8 (f 8)) (va_up g 0 b0_81) H := ⟨hP.1, (gF_up (V := mdV) (F := mdF) (gF_up (V := mdV) (F := mdF) (gF_up (V := mdV) (F := mdF) (gF_up (V := mdV) (F := mdF) (gF_up (V := mdV) (F := mdF) (gF_up (V := mdV) (F := mdF) (gF_up (V := mdV) (F := mdF) (gF_up (V := mdV) (F := mdF) (gF_up (V := mdV) (F := mdF) (gR_up (V := mdV) (F := mdF) (gR_up (V := mdV) (F := mdF) (gR_up (V := mdV) (F := mdF) (gR_up (V := mdV) (F := mdF) (gR_up (V := mdV) (F := mdF) (gR_up (V := mdV) (F := mdF) (gR_up (V := mdV) (F := mdF) (gR_up (V := mdV) (F := mdF) (gR_up (V := mdV) (F := mdF) (gR_up (V := mdV) (F := mdF) (gR_up (V := mdV) (F := mdF) (gR_up (V := mdV) (F := mdF) (gR_up (V := mdV) (F := mdF) ⟨hok.1, hok.2⟩ 6 (hP.2.1 6)) 7 (hP.2.1 7)) 8 (hP.2.1 8)) 9 (hP.2.1 9)) 10 (hP.2.1 10)) 11 (hP.2.1 11)) 16 (hP.2.1 16)) 20 (hP.2.1 20)) 21 (hP.2.1 21)) 27 (hP.2.1 27)) 17 (hP.2.1 17)) 15 (hP.2.1 15)) 19 (hP.2.1 19)) 11 (hP.2.2 11)) 12 (hP.2.2 12)) 17 (hP.2.2 17)) 14 (hP.2.2 14)) 16 (hP.2.2 16)) 5 (hP.2.2 5)) 6 (hP.2.2 6)) 7 (hP.2.2 7)) 8 (hP.2.2 8))⟩
            replace p0_81 : w9_9 ≤ w9_81 ∧ w9_81 ≤ w10_81 ∧ w10_81 ≤ (v 3) := p0_81
            replace p1_81 : w8_81 ≠ 0 → w9_81 < w10_81 := p1_81
            replace p2_81 : 0 < w6_77 → 0 < w6_81 := p2_81
            replace p3_81 : w6_81 = 0 → w6_77 = 0 := p3_81
            have rw6_81 : 0 ≤ w6_81 ∧ w6_81 ≤ 5 := hP.2.1 6
            have rw7_81 : 0 ≤ w7_81 ∧ w7_81 ≤ 700 := hP.2.1 7
            have rw8_81 : 0 ≤ w8_81 ∧ w8_81 ≤ 4 := hP.2.1 8
            have rw9_81 : 0 ≤ w9_81 ∧ w9_81 ≤ 700 := hP.2.1 9
            have rw10_81 : 0 ≤ w10_81 ∧ w10_81 ≤ 700 := hP.2.1 10
            have rw11_81 : 0 ≤ w11_81 ∧ w11_81 ≤ 999999 := hP.2.1 11
            exact g_vret hQ C hr hlocks hP hS dX11_readLaw_257 ⟨w6_81, w7_81, w8_81, w9_81, w10_81, w11_81, (v 16), (v 20), (v 21), (v 27), (v 17), (v 15), z_59, (f 11), (f 12), (f 17), (f 14), (f 16), (f 5), (f 6), (f 7), (f 8), b0_81, rfl, rfl, rfl, rfl, (by first | omega | (split <;> omega)), (by first | omega | (split <;> omega)), (by first | omega | (split <;> omega)), (by first | (intro h; exfalso; omega) | exact fun _ => hrp | exact fun _ => hX (by omega))⟩
        · refine lv_aload_n hx hb dX11_readLaw_242 rfl (lv_at hl 0 rfl) ?_
          refine g_cv (As := []) (rest := []) (n := 0) C hml (m_X11_next l D k A ad hD (va_up (va_up (va_up (va_up (va_up (va_up (va_up (va_up (va_up (va_up (va_up (va_up (va_up v 6 w6_77) 7 w7_77) 8 w8_9) 9 w9_9) 10 w10_9) 11 w11_9) 16 (v 16)) 20 (v 20)) 21 (v 21)) 27 (v 27)) 17 (v 17)) 15 (v 15)) 19 z_59) (va_up (va_up (va_up (va_up (va_up (va_up (va_up (va_up (va_up f 11 (f 11)) 12 (f 12)) 17 (f 17)) 14 (f 14)) 16 (f 16)) 5 (f 5)) 6 (f 6)) 7 (f 7)) 8 (f 8)) (va_up g 0 b0_9) (show w10_9 ≤ (v 3) from by omega)) mM_X11_201 mI_X11_next mE_X11_next mN_X11 mC_X11_next (by decide +kernel) 0 (ci := 11) rfl rfl hP hS (fun _ h => h) ⟨Nat.le_of_ble_eq_true rfl, Nat.le_of_ble_eq_true rfl⟩ ⟨Nat.zero_le _, Nat.zero_le _⟩ hl.1 rfl rfl (Nat.le_of_ble_eq_true rfl) dX11_readLaw_243 (fun r_82 v_82 f_82 g_82 H locs hq_82 hP _ hS => ?_)
          obtain ⟨w8_82, w9_82, w10_82, w11_82, b0_82, rfl, rfl, rfl, rfl, p0_82, p1_82⟩ := hq_82
          show W p l e (gRm 4 92) s m args below meth c _ _ 0 0 Q (F0 m 246 ls [])
          have hP : gWd D (mdT k ad) (va_up (va_up (va_up (va_up (va_up (va_up (va_up (va_up (va_up (va_up (va_up (va_up (va_up v 6 w6_77) 7 w7_77) 8 w8_82) 9 w9_82) 10 w10_82) 11 w11_82) 16 (v 16)) 20 (v 20)) 21 (v 21)) 27 (v 27)) 17 (v 17)) 15 (v 15)) 19 z_59) (va_up (va_up (va_up (va_up (va_up (va_up (va_up (va_up (va_up f 11 (f 11)) 12 (f 12)) 17 (f 17)) 14 (f 14)) 16 (f 16)) 5 (f 5)) 6 (f 6)) 7 (f 7)) 8 (f 8)) (va_up g 0 b0_82) H := ⟨hP.1, (gF_up (V := mdV) (F := mdF) (gF_up (V := mdV) (F := mdF) (gF_up (V := mdV) (F := mdF) (gF_up (V := mdV) (F := mdF) (gF_up (V := mdV) (F := mdF) (gF_up (V := mdV) (F := mdF) (gF_up (V := mdV) (F := mdF) (gF_up (V := mdV) (F := mdF) (gF_up (V := mdV) (F := mdF) (gR_up (V := mdV) (F := mdF) (gR_up (V := mdV) (F := mdF) (gR_up (V := mdV) (F := mdF) (gR_up (V := mdV) (F := mdF) (gR_up (V := mdV) (F := mdF) (gR_up (V := mdV) (F := mdF) (gR_up (V := mdV) (F := mdF) (gR_up (V := mdV) (F := mdF) (gR_up (V := mdV) (F := mdF) (gR_up (V := mdV) (F := mdF) (gR_up (V := mdV) (F := mdF) (gR_up (V := mdV) (F := mdF) (gR_up (V := mdV) (F := mdF) ⟨hok.1, hok.2⟩ 6 (hP.2.1 6)) 7 (hP.2.1 7)) 8 (hP.2.1 8)) 9 (hP.2.1 9)) 10 (hP.2.1 10)) 11 (hP.2.1 11)) 16 (hP.2.1 16)) 20 (hP.2.1 20)) 21 (hP.2.1 21)) 27 (hP.2.1 27)) 17 (hP.2.1 17)) 15 (hP.2.1 15)) 19 (hP.2.1 19)) 11 (hP.2.2 11)) 12 (hP.2.2 12)) 17 (hP.2.2 17)) 14 (hP.2.2 14)) 16 (hP.2.2 16)) 5 (hP.2.2 5)) 6 (hP.2.2 6)) 7 (hP.2.2 7)) 8 (hP.2.2 8))⟩
          replace p0_82 : w10_9 ≤ w9_82 ∧ w9_82 ≤ w10_82 ∧ w10_82 ≤ (v 3) := p0_82
          replace p1_82 : w8_82 ≠ 0 → w9_82 < w10_82 := p1_82
          have rw8_82 : 0 ≤ w8_82 ∧ w8_82 ≤ 4 := hP.2.1 8
          have rw9_82 : 0 ≤ w9_82 ∧ w9_82 ≤ 700 := hP.2.1 9
          have rw10_82 : 0 ≤ w10_82 ∧ w10_82 ≤ 700 := hP.2.1 10
          have rw11_82 : 0 ≤ w11_82 ∧ w11_82 ≤ 999999 := hP.2.1 11
          refine lv_aload_n hx hb dX11_readLaw_246 rfl (lv_at hl 0 rfl) ?_
          refine mdG_bad C hP mF_X11_188 dX11_readLaw_247 ?_
          show W p l e (gRm 4 92) s m args below meth c _ _ 0 0 Q (F0 m 250 ls [.int (iI w6_77)])
          refine gi_zne (tgt := 257) hx hb dX11_readLaw_250 (by decide) (by omega) (fun c_83 => ?_) (fun c_83 => ?_)
          · exact g_vret hQ C hr hlocks hP hS dX11_readLaw_257 ⟨w6_77, w7_77, w8_82, w9_82, w10_82, w11_82, (v 16), (v 20), (v 21), (v 27), (v 17), (v 15), z_59, (f 11), (f 12), (f 17), (f 14), (f 16), (f 5), (f 6), (f 7), (f 8), b0_82, rfl, rfl, rfl, rfl, (by first | omega | (split <;> omega)), (by first | omega | (split <;> omega)), (by first | omega | (split <;> omega)), (by first | (intro h; exfalso; omega) | exact fun _ => hrp | exact fun _ => hX (by omega))⟩
          · refine lv_aload_n hx hb dX11_readLaw_253 rfl (lv_at hl 0 rfl) ?_
            refine g_cv (As := []) (rest := []) (n := 0) C hml (m_X11_ends l D k A ad hD (va_up (va_up (va_up (va_up (va_up (va_up (va_up (va_up (va_up (va_up (va_up (va_up (va_up v 6 w6_77) 7 w7_77) 8 w8_82) 9 w9_82) 10 w10_82) 11 w11_82) 16 (v 16)) 20 (v 20)) 21 (v 21)) 27 (v 27)) 17 (v 17)) 15 (v 15)) 19 z_59) (va_up (va_up (va_up (va_up (va_up (va_up (va_up (va_up (va_up f 11 (f 11)) 12 (f 12)) 17 (f 17)) 14 (f 14)) 16 (f 16)) 5 (f 5)) 6 (f 6)) 7 (f 7)) 8 (f 8)) (va_up g 0 b0_82) (show w9_82 ≤ w10_82 ∧ w10_82 ≤ (v 3) ∧ (w8_82 ≠ 0 → w9_82 < w10_82) from by omega)) mM_X11_246 mI_X11_ends mE_X11_ends mN_X11 mC_X11_ends (by decide +kernel) 0 (ci := 11) rfl rfl hP hS (fun _ h => h) ⟨Nat.le_of_ble_eq_true rfl, Nat.le_of_ble_eq_true rfl⟩ ⟨Nat.zero_le _, Nat.zero_le _⟩ hl.1 rfl rfl (Nat.le_of_ble_eq_true rfl) dX11_readLaw_254 (fun r_84 v_84 f_84 g_84 H locs hq_84 hP _ hS => ?_)
            obtain ⟨w6_84, w7_84, w8_84, w9_84, w10_84, w11_84, b0_84, rfl, rfl, rfl, rfl, p0_84, p1_84, p2_84, p3_84⟩ := hq_84
            show W p l e (gRm 4 92) s m args below meth c _ _ 0 0 Q (F0 m 257 ls [])
            have hP : gWd D (mdT k ad) (va_up (va_up (va_up (va_up (va_up (va_up (va_up (va_up (va_up (va_up (va_up (va_up (va_up v 6 w6_84) 7 w7_84) 8 w8_84) 9 w9_84) 10 w10_84) 11 w11_84) 16 (v 16)) 20 (v 20)) 21 (v 21)) 27 (v 27)) 17 (v 17)) 15 (v 15)) 19 z_59) (va_up (va_up (va_up (va_up (va_up (va_up (va_up (va_up (va_up f 11 (f 11)) 12 (f 12)) 17 (f 17)) 14 (f 14)) 16 (f 16)) 5 (f 5)) 6 (f 6)) 7 (f 7)) 8 (f 8)) (va_up g 0 b0_84) H := ⟨hP.1, (gF_up (V := mdV) (F := mdF) (gF_up (V := mdV) (F := mdF) (gF_up (V := mdV) (F := mdF) (gF_up (V := mdV) (F := mdF) (gF_up (V := mdV) (F := mdF) (gF_up (V := mdV) (F := mdF) (gF_up (V := mdV) (F := mdF) (gF_up (V := mdV) (F := mdF) (gF_up (V := mdV) (F := mdF) (gR_up (V := mdV) (F := mdF) (gR_up (V := mdV) (F := mdF) (gR_up (V := mdV) (F := mdF) (gR_up (V := mdV) (F := mdF) (gR_up (V := mdV) (F := mdF) (gR_up (V := mdV) (F := mdF) (gR_up (V := mdV) (F := mdF) (gR_up (V := mdV) (F := mdF) (gR_up (V := mdV) (F := mdF) (gR_up (V := mdV) (F := mdF) (gR_up (V := mdV) (F := mdF) (gR_up (V := mdV) (F := mdF) (gR_up (V := mdV) (F := mdF) ⟨hok.1, hok.2⟩ 6 (hP.2.1 6)) 7 (hP.2.1 7)) 8 (hP.2.1 8)) 9 (hP.2.1 9)) 10 (hP.2.1 10)) 11 (hP.2.1 11)) 16 (hP.2.1 16)) 20 (hP.2.1 20)) 21 (hP.2.1 21)) 27 (hP.2.1 27)) 17 (hP.2.1 17)) 15 (hP.2.1 15)) 19 (hP.2.1 19)) 11 (hP.2.2 11)) 12 (hP.2.2 12)) 17 (hP.2.2 17)) 14 (hP.2.2 14)) 16 (hP.2.2 16)) 5 (hP.2.2 5)) 6 (hP.2.2 6)) 7 (hP.2.2 7)) 8 (hP.2.2 8))⟩
            replace p0_84 : w9_82 ≤ w9_84 ∧ w9_84 ≤ w10_84 ∧ w10_84 ≤ (v 3) := p0_84
            replace p1_84 : w8_84 ≠ 0 → w9_84 < w10_84 := p1_84
            replace p2_84 : 0 < w6_77 → 0 < w6_84 := p2_84
            replace p3_84 : w6_84 = 0 → w6_77 = 0 := p3_84
            have rw6_84 : 0 ≤ w6_84 ∧ w6_84 ≤ 5 := hP.2.1 6
            have rw7_84 : 0 ≤ w7_84 ∧ w7_84 ≤ 700 := hP.2.1 7
            have rw8_84 : 0 ≤ w8_84 ∧ w8_84 ≤ 4 := hP.2.1 8
            have rw9_84 : 0 ≤ w9_84 ∧ w9_84 ≤ 700 := hP.2.1 9
            have rw10_84 : 0 ≤ w10_84 ∧ w10_84 ≤ 700 := hP.2.1 10
            have rw11_84 : 0 ≤ w11_84 ∧ w11_84 ≤ 999999 := hP.2.1 11
            exact g_vret hQ C hr hlocks hP hS dX11_readLaw_257 ⟨w6_84, w7_84, w8_84, w9_84, w10_84, w11_84, (v 16), (v 20), (v 21), (v 27), (v 17), (v 15), z_59, (f 11), (f 12), (f 17), (f 14), (f 16), (f 5), (f 6), (f 7), (f 8), b0_84, rfl, rfl, rfl, rfl, (by first | omega | (split <;> omega)), (by first | omega | (split <;> omega)), (by first | omega | (split <;> omega)), (by first | (intro h; exfalso; omega) | exact fun _ => hrp | exact fun _ => hX (by omega))⟩
  · refine lv_aload_n hx hb dX11_readLaw_4 rfl (lv_at hl 0 rfl) ?_
    refine mdG_newRounds C hP mF_X11_207 dX11_readLaw_5 ?_
    show W p l e (gRm 4 92) s m args below meth c _ _ 0 0 Q (F0 m 8 ls [.int (iI (v 15))])
    refine lv_iconst (v := iI 4) hx hb dX11_readLaw_8 rfl ?_
    refine gi_cne (tgt := 22) hx hb dX11_readLaw_9 (by decide) (by omega) (by decide) (fun c_85 => ?_) (fun c_85 => ?_)
    · refine lv_aload_n hx hb dX11_readLaw_22 rfl (lv_at hl 0 rfl) ?_
      refine g_cv (As := []) (rest := []) (n := 0) C hml (m_X11_next l D k A ad hD (va_up (va_up (va_up (va_up (va_up (va_up (va_up (va_up (va_up (va_up (va_up (va_up (va_up v 6 (v 6)) 7 (v 7)) 8 (v 8)) 9 (v 9)) 10 (v 10)) 11 (v 11)) 16 (v 16)) 20 (v 20)) 21 (v 21)) 27 (v 27)) 17 (v 17)) 15 (v 15)) 19 (v 19)) (va_up (va_up (va_up (va_up (va_up (va_up (va_up (va_up (va_up f 11 (f 11)) 12 (f 12)) 17 (f 17)) 14 (f 14)) 16 (f 16)) 5 (f 5)) 6 (f 6)) 7 (f 7)) 8 (f 8)) (va_up g 0 (g 0)) (show (v 10) ≤ (v 3) from by omega)) mM_X11_201 mI_X11_next mE_X11_next mN_X11 mC_X11_next (by decide +kernel) 0 (ci := 11) rfl rfl hP hS (fun _ h => h) ⟨Nat.le_of_ble_eq_true rfl, Nat.le_of_ble_eq_true rfl⟩ ⟨Nat.zero_le _, Nat.zero_le _⟩ hl.1 rfl rfl (Nat.le_of_ble_eq_true rfl) dX11_readLaw_23 (fun r_86 v_86 f_86 g_86 H locs hq_86 hP _ hS => ?_)
      obtain ⟨w8_86, w9_86, w10_86, w11_86, b0_86, rfl, rfl, rfl, rfl, p0_86, p1_86⟩ := hq_86
      show W p l e (gRm 4 92) s m args below meth c _ _ 0 0 Q (F0 m 26 ls [])
      have hP : gWd D (mdT k ad) (va_up (va_up (va_up (va_up (va_up (va_up (va_up (va_up (va_up (va_up (va_up (va_up (va_up v 6 (v 6)) 7 (v 7)) 8 w8_86) 9 w9_86) 10 w10_86) 11 w11_86) 16 (v 16)) 20 (v 20)) 21 (v 21)) 27 (v 27)) 17 (v 17)) 15 (v 15)) 19 (v 19)) (va_up (va_up (va_up (va_up (va_up (va_up (va_up (va_up (va_up f 11 (f 11)) 12 (f 12)) 17 (f 17)) 14 (f 14)) 16 (f 16)) 5 (f 5)) 6 (f 6)) 7 (f 7)) 8 (f 8)) (va_up g 0 b0_86) H := ⟨hP.1, (gF_up (V := mdV) (F := mdF) (gF_up (V := mdV) (F := mdF) (gF_up (V := mdV) (F := mdF) (gF_up (V := mdV) (F := mdF) (gF_up (V := mdV) (F := mdF) (gF_up (V := mdV) (F := mdF) (gF_up (V := mdV) (F := mdF) (gF_up (V := mdV) (F := mdF) (gF_up (V := mdV) (F := mdF) (gR_up (V := mdV) (F := mdF) (gR_up (V := mdV) (F := mdF) (gR_up (V := mdV) (F := mdF) (gR_up (V := mdV) (F := mdF) (gR_up (V := mdV) (F := mdF) (gR_up (V := mdV) (F := mdF) (gR_up (V := mdV) (F := mdF) (gR_up (V := mdV) (F := mdF) (gR_up (V := mdV) (F := mdF) (gR_up (V := mdV) (F := mdF) (gR_up (V := mdV) (F := mdF) (gR_up (V := mdV) (F := mdF) (gR_up (V := mdV) (F := mdF) ⟨hok.1, hok.2⟩ 6 (hP.2.1 6)) 7 (hP.2.1 7)) 8 (hP.2.1 8)) 9 (hP.2.1 9)) 10 (hP.2.1 10)) 11 (hP.2.1 11)) 16 (hP.2.1 16)) 20 (hP.2.1 20)) 21 (hP.2.1 21)) 27 (hP.2.1 27)) 17 (hP.2.1 17)) 15 (hP.2.1 15)) 19 (hP.2.1 19)) 11 (hP.2.2 11)) 12 (hP.2.2 12)) 17 (hP.2.2 17)) 14 (hP.2.2 14)) 16 (hP.2.2 16)) 5 (hP.2.2 5)) 6 (hP.2.2 6)) 7 (hP.2.2 7)) 8 (hP.2.2 8))⟩
      replace p0_86 : (v 10) ≤ w9_86 ∧ w9_86 ≤ w10_86 ∧ w10_86 ≤ (v 3) := p0_86
      replace p1_86 : w8_86 ≠ 0 → w9_86 < w10_86 := p1_86
      have rw8_86 : 0 ≤ w8_86 ∧ w8_86 ≤ 4 := hP.2.1 8
      have rw9_86 : 0 ≤ w9_86 ∧ w9_86 ≤ 700 := hP.2.1 9
      have rw10_86 : 0 ≤ w10_86 ∧ w10_86 ≤ 700 := hP.2.1 10
      have rw11_86 : 0 ≤ w11_86 ∧ w11_86 ≤ 999999 := hP.2.1 11
      refine lv_iload_n hx hb dX11_readLaw_26 rfl (lv_at hl 1 rfl) ?_
      by_cases c_87_0 : a1 = 0
      · refine lv_tableIn (off := 25) (tgt := 52) hx hb dX11_readLaw_27 (by rw [c_87_0]; decide) (by rw [c_87_0]; decide) (by rw [c_87_0]; rfl) (by decide) ?_
        refine lv_aload_n hx hb dX11_readLaw_52 rfl (lv_at hl 0 rfl) ?_
        refine mdG_newRoutes C hP mF_X11_33 dX11_readLaw_53 ?_
        refine lv_aload_n hx hb dX11_readLaw_56 rfl (lv_at hl 0 rfl) ?_
        refine mdG_newRounds C hP mF_X11_207 dX11_readLaw_57 ?_
        show W p l e (gRm 4 92) s m args below meth c _ _ 0 0 Q (F0 m 60 ls [.int (iI (v 15)), .ref (ad 6)])
        refine lv_aload_n hx hb dX11_readLaw_60 rfl (lv_at hl 0 rfl) ?_
        refine lv_iconst (v := iI 1) hx hb dX11_readLaw_61 rfl ?_
        refine lv_iconst (v := iI 5) hx hb dX11_readLaw_62 rfl ?_
        refine g_cv (As := [.int (iI 1), .int (iI 5)]) (rest := [.int (iI (v 15)), .ref (ad 6)]) (n := 2) C hml (m_X11_numberOf l D k A ad hD (va_up (va_up (va_up (va_up (va_up (va_up (va_up (va_up (va_up (va_up (va_up (va_up (va_up v 6 (v 6)) 7 (v 7)) 8 w8_86) 9 w9_86) 10 w10_86) 11 w11_86) 16 (v 16)) 20 (v 20)) 21 (v 21)) 27 (v 27)) 17 (v 17)) 15 (v 15)) 19 (v 19)) (va_up (va_up (va_up (va_up (va_up (va_up (va_up (va_up (va_up f 11 (f 11)) 12 (f 12)) 17 (f 17)) 14 (f 14)) 16 (f 16)) 5 (f 5)) 6 (f 6)) 7 (f 7)) 8 (f 8)) (va_up g 0 b0_86) 1 5 (by decide) (by decide) (show w9_86 ≤ w10_86 ∧ w10_86 ≤ (v 3) ∧ (w8_86 ≠ 0 → w9_86 < w10_86) from by omega) (show 0 ≤ (1 : Int) ∧ (1 : Int) ≤ (5 : Int) ∧ (5 : Int) ≤ 999 from by omega)) mM_X11_236 mI_X11_numberOf mE_X11_numberOf mN_X11 mC_X11_numberOf (by decide +kernel) 0 (ci := 11) rfl rfl hP hS (fun _ h => h) ⟨Nat.le_of_ble_eq_true rfl, Nat.le_of_ble_eq_true rfl⟩ ⟨Nat.zero_le _, Nat.zero_le _⟩ hl.1 rfl rfl (Nat.le_of_ble_eq_true rfl) dX11_readLaw_63 (fun r_88 v_88 f_88 g_88 H locs hq_88 hP _ hS => ?_)
        obtain ⟨z_88, w6_88, w7_88, w8_88, w9_88, w10_88, w11_88, b0_88, rfl, rfl, rfl, rfl, p0_88, p1_88, p2_88, p3_88⟩ := hq_88
        show W p l e (gRm 4 92) s m args below meth c _ _ 0 0 Q (F0 m 66 ls [.int (iI z_88), .int (iI (v 15)), .ref (ad 6)])
        have hP : gWd D (mdT k ad) (va_up (va_up (va_up (va_up (va_up (va_up (va_up (va_up (va_up (va_up (va_up (va_up (va_up v 6 w6_88) 7 w7_88) 8 w8_88) 9 w9_88) 10 w10_88) 11 w11_88) 16 (v 16)) 20 (v 20)) 21 (v 21)) 27 (v 27)) 17 (v 17)) 15 (v 15)) 19 (v 19)) (va_up (va_up (va_up (va_up (va_up (va_up (va_up (va_up (va_up f 11 (f 11)) 12 (f 12)) 17 (f 17)) 14 (f 14)) 16 (f 16)) 5 (f 5)) 6 (f 6)) 7 (f 7)) 8 (f 8)) (va_up g 0 b0_88) H := ⟨hP.1, (gF_up (V := mdV) (F := mdF) (gF_up (V := mdV) (F := mdF) (gF_up (V := mdV) (F := mdF) (gF_up (V := mdV) (F := mdF) (gF_up (V := mdV) (F := mdF) (gF_up (V := mdV) (F := mdF) (gF_up (V := mdV) (F := mdF) (gF_up (V := mdV) (F := mdF) (gF_up (V := mdV) (F := mdF) (gR_up (V := mdV) (F := mdF) (gR_up (V := mdV) (F := mdF) (gR_up (V := mdV) (F := mdF) (gR_up (V := mdV) (F := mdF) (gR_up (V := mdV) (F := mdF) (gR_up (V := mdV) (F := mdF) (gR_up (V := mdV) (F := mdF) (gR_up (V := mdV) (F := mdF) (gR_up (V := mdV) (F := mdF) (gR_up (V := mdV) (F := mdF) (gR_up (V := mdV) (F := mdF) (gR_up (V := mdV) (F := mdF) (gR_up (V := mdV) (F := mdF) ⟨hok.1, hok.2⟩ 6 (hP.2.1 6)) 7 (hP.2.1 7)) 8 (hP.2.1 8)) 9 (hP.2.1 9)) 10 (hP.2.1 10)) 11 (hP.2.1 11)) 16 (hP.2.1 16)) 20 (hP.2.1 20)) 21 (hP.2.1 21)) 27 (hP.2.1 27)) 17 (hP.2.1 17)) 15 (hP.2.1 15)) 19 (hP.2.1 19)) 11 (hP.2.2 11)) 12 (hP.2.2 12)) 17 (hP.2.2 17)) 14 (hP.2.2 14)) 16 (hP.2.2 16)) 5 (hP.2.2 5)) 6 (hP.2.2 6)) 7 (hP.2.2 7)) 8 (hP.2.2 8))⟩
        replace p0_88 : (1 : Int) ≤ z_88 ∧ z_88 ≤ (5 : Int) := p0_88
        replace p1_88 : w9_86 ≤ w9_88 ∧ w9_88 ≤ w10_88 ∧ w10_88 ≤ (v 3) := p1_88
        replace p2_88 : w8_88 ≠ 0 → w9_88 < w10_88 := p2_88
        replace p3_88 : 0 < (v 6) → 0 < w6_88 := p3_88
        have rw6_88 : 0 ≤ w6_88 ∧ w6_88 ≤ 5 := hP.2.1 6
        have rw7_88 : 0 ≤ w7_88 ∧ w7_88 ≤ 700 := hP.2.1 7
        have rw8_88 : 0 ≤ w8_88 ∧ w8_88 ≤ 4 := hP.2.1 8
        have rw9_88 : 0 ≤ w9_88 ∧ w9_88 ≤ 700 := hP.2.1 9
        have rw10_88 : 0 ≤ w10_88 ∧ w10_88 ≤ 700 := hP.2.1 10
        have rw11_88 : 0 ≤ w11_88 ∧ w11_88 ≤ 999999 := hP.2.1 11
        have hz_88 : inR z_88 := (by first | omega | (rw [p0_88]; split <;> omega))
        refine mdS_newRoutes (f1 := (va_up (va_up (va_up (va_up (va_up (va_up (va_up (va_up (va_up f 11 (f 11)) 12 (f 12)) 17 (f 17)) 14 (f 14)) 16 (f 16)) 5 (u1 (f 5) (v 15) z_88)) 6 (f 6)) 7 (f 7)) 8 (f 8))) C hP hD hS (by omega) (by omega) (by omega) rfl (Or.inr (gF_up (V := mdV) (F := mdF) (gF_up (V := mdV) (F := mdF) (gF_up (V := mdV) (F := mdF) (gF_up (V := mdV) (F := mdF) (gF_up (V := mdV) (F := mdF) (gF_up (V := mdV) (F := mdF) (gF_up (V := mdV) (F := mdF) (gF_up (V := mdV) (F := mdF) (gF_up (V := mdV) (F := mdF) (gR_up (V := mdV) (F := mdF) (gR_up (V := mdV) (F := mdF) (gR_up (V := mdV) (F := mdF) (gR_up (V := mdV) (F := mdF) (gR_up (V := mdV) (F := mdF) (gR_up (V := mdV) (F := mdF) (gR_up (V := mdV) (F := mdF) (gR_up (V := mdV) (F := mdF) (gR_up (V := mdV) (F := mdF) (gR_up (V := mdV) (F := mdF) (gR_up (V := mdV) (F := mdF) (gR_up (V := mdV) (F := mdF) (gR_up (V := mdV) (F := mdF) ⟨hok.1, hok.2⟩ 6 (hP.2.1 6)) 7 (hP.2.1 7)) 8 (hP.2.1 8)) 9 (hP.2.1 9)) 10 (hP.2.1 10)) 11 (hP.2.1 11)) 16 (hP.2.1 16)) 20 (hP.2.1 20)) 21 (hP.2.1 21)) 27 (hP.2.1 27)) 17 (hP.2.1 17)) 15 (hP.2.1 15)) 19 (hP.2.1 19)) 11 (hP.2.2 11)) 12 (hP.2.2 12)) 17 (hP.2.2 17)) 14 (hP.2.2 14)) 16 (hP.2.2 16)) 5 (u1_rng (hP.2.2 5) (show 0 ≤ z_88 ∧ z_88 ≤ 5 from (by omega)))) 6 (hP.2.2 6)) 7 (hP.2.2 7)) 8 (hP.2.2 8))) dX11_readLaw_66 (fun H locs hP hS => ?_)
        refine lv_aload_n hx hb dX11_readLaw_67 rfl (lv_at hl 0 rfl) ?_
        refine mdG_newTries C hP mF_X11_36 dX11_readLaw_68 ?_
        refine lv_aload_n hx hb dX11_readLaw_71 rfl (lv_at hl 0 rfl) ?_
        refine mdG_newRounds C hP mF_X11_207 dX11_readLaw_72 ?_
        show W p l e (gRm 4 92) s m args below meth c _ _ 0 0 Q (F0 m 75 ls [.int (iI (v 15)), .ref (ad 7)])
        refine lv_aload_n hx hb dX11_readLaw_75 rfl (lv_at hl 0 rfl) ?_
        refine mdG_bad C hP mF_X11_188 dX11_readLaw_76 ?_
        show W p l e (gRm 4 92) s m args below meth c _ _ 0 0 Q (F0 m 79 ls [.int (iI w6_88), .int (iI (v 15)), .ref (ad 7)])
        have r_89 : 0 ≤ w6_88 ∧ w6_88 ≤ 5 := hP.2.1 6
        refine gi_zne (tgt := 92) hx hb dX11_readLaw_79 (by decide) (by omega) (fun c_90 => ?_) (fun c_90 => ?_)
        · refine lv_iconst (v := iI 1) hx hb dX11_readLaw_92 rfl ?_
          refine mdS_newTries (f1 := (va_up (va_up (va_up (va_up (va_up (va_up (va_up (va_up (va_up f 11 (f 11)) 12 (f 12)) 17 (f 17)) 14 (f 14)) 16 (f 16)) 5 (u1 (f 5) (v 15) z_88)) 6 (u1 (f 6) (v 15) 1)) 7 (f 7)) 8 (f 8))) C hP hD hS (by omega) (by omega) (by decide) rfl (Or.inr (gF_up (V := mdV) (F := mdF) (gF_up (V := mdV) (F := mdF) (gF_up (V := mdV) (F := mdF) (gF_up (V := mdV) (F := mdF) (gF_up (V := mdV) (F := mdF) (gF_up (V := mdV) (F := mdF) (gF_up (V := mdV) (F := mdF) (gF_up (V := mdV) (F := mdF) (gF_up (V := mdV) (F := mdF) (gR_up (V := mdV) (F := mdF) (gR_up (V := mdV) (F := mdF) (gR_up (V := mdV) (F := mdF) (gR_up (V := mdV) (F := mdF) (gR_up (V := mdV) (F := mdF) (gR_up (V := mdV) (F := mdF) (gR_up (V := mdV) (F := mdF) (gR_up (V := mdV) (F := mdF) (gR_up (V := mdV) (F := mdF) (gR_up (V := mdV) (F := mdF) (gR_up (V := mdV) (F := mdF) (gR_up (V := mdV) (F := mdF) (gR_up (V := mdV) (F := mdF) ⟨hok.1, hok.2⟩ 6 (hP.2.1 6)) 7 (hP.2.1 7)) 8 (hP.2.1 8)) 9 (hP.2.1 9)) 10 (hP.2.1 10)) 11 (hP.2.1 11)) 16 (hP.2.1 16)) 20 (hP.2.1 20)) 21 (hP.2.1 21)) 27 (hP.2.1 27)) 17 (hP.2.1 17)) 15 (hP.2.1 15)) 19 (hP.2.1 19)) 11 (hP.2.2 11)) 12 (hP.2.2 12)) 17 (hP.2.2 17)) 14 (hP.2.2 14)) 16 (hP.2.2 16)) 5 (hP.2.2 5)) 6 (u1_rng (hP.2.2 6) (show 0 ≤ 1 ∧ 1 ≤ 9 from (by decide)))) 7 (hP.2.2 7)) 8 (hP.2.2 8))) dX11_readLaw_93 (fun H locs hP hS => ?_)
          refine lv_aload_n hx hb dX11_readLaw_94 rfl (lv_at hl 0 rfl) ?_
          refine mdG_newSeconds C hP mF_X11_39 dX11_readLaw_95 ?_
          refine lv_aload_n hx hb dX11_readLaw_98 rfl (lv_at hl 0 rfl) ?_
          refine mdG_newRounds C hP mF_X11_207 dX11_readLaw_99 ?_
          show W p l e (gRm 4 92) s m args below meth c _ _ 0 0 Q (F0 m 102 ls [.int (iI (v 15)), .ref (ad 8)])
          refine lv_aload_n hx hb dX11_readLaw_102 rfl (lv_at hl 0 rfl) ?_
          refine mdG_bad C hP mF_X11_188 dX11_readLaw_103 ?_
          show W p l e (gRm 4 92) s m args below meth c _ _ 0 0 Q (F0 m 106 ls [.int (iI w6_88), .int (iI (v 15)), .ref (ad 8)])
          refine gi_zne (tgt := 121) hx hb dX11_readLaw_106 (by decide) (by omega) (fun c_91 => ?_) (fun c_91 => ?_)
          · refine lv_bipush (v := iI 10) hx hb dX11_readLaw_121 (by decide) ?_
            refine mdS_newSeconds (f1 := (va_up (va_up (va_up (va_up (va_up (va_up (va_up (va_up (va_up f 11 (f 11)) 12 (f 12)) 17 (f 17)) 14 (f 14)) 16 (f 16)) 5 (u1 (f 5) (v 15) z_88)) 6 (u1 (f 6) (v 15) 1)) 7 (u1 (f 7) (v 15) 10)) 8 (f 8))) C hP hD hS (by omega) (by omega) (by decide) rfl (Or.inr (gF_up (V := mdV) (F := mdF) (gF_up (V := mdV) (F := mdF) (gF_up (V := mdV) (F := mdF) (gF_up (V := mdV) (F := mdF) (gF_up (V := mdV) (F := mdF) (gF_up (V := mdV) (F := mdF) (gF_up (V := mdV) (F := mdF) (gF_up (V := mdV) (F := mdF) (gF_up (V := mdV) (F := mdF) (gR_up (V := mdV) (F := mdF) (gR_up (V := mdV) (F := mdF) (gR_up (V := mdV) (F := mdF) (gR_up (V := mdV) (F := mdF) (gR_up (V := mdV) (F := mdF) (gR_up (V := mdV) (F := mdF) (gR_up (V := mdV) (F := mdF) (gR_up (V := mdV) (F := mdF) (gR_up (V := mdV) (F := mdF) (gR_up (V := mdV) (F := mdF) (gR_up (V := mdV) (F := mdF) (gR_up (V := mdV) (F := mdF) (gR_up (V := mdV) (F := mdF) ⟨hok.1, hok.2⟩ 6 (hP.2.1 6)) 7 (hP.2.1 7)) 8 (hP.2.1 8)) 9 (hP.2.1 9)) 10 (hP.2.1 10)) 11 (hP.2.1 11)) 16 (hP.2.1 16)) 20 (hP.2.1 20)) 21 (hP.2.1 21)) 27 (hP.2.1 27)) 17 (hP.2.1 17)) 15 (hP.2.1 15)) 19 (hP.2.1 19)) 11 (hP.2.2 11)) 12 (hP.2.2 12)) 17 (hP.2.2 17)) 14 (hP.2.2 14)) 16 (hP.2.2 16)) 5 (hP.2.2 5)) 6 (hP.2.2 6)) 7 (u1_rng (hP.2.2 7) (show 0 ≤ 10 ∧ 10 ≤ 999 from (by decide)))) 8 (hP.2.2 8))) dX11_readLaw_123 (fun H locs hP hS => ?_)
            refine lv_aload_n hx hb dX11_readLaw_124 rfl (lv_at hl 0 rfl) ?_
            refine mdG_newRest C hP mF_X11_42 dX11_readLaw_125 ?_
            refine lv_aload_n hx hb dX11_readLaw_128 rfl (lv_at hl 0 rfl) ?_
            refine mdG_newRounds C hP mF_X11_207 dX11_readLaw_129 ?_
            show W p l e (gRm 4 92) s m args below meth c _ _ 0 0 Q (F0 m 132 ls [.int (iI (v 15)), .ref (ad 9)])
            refine lv_aload_n hx hb dX11_readLaw_132 rfl (lv_at hl 0 rfl) ?_
            refine mdG_bad C hP mF_X11_188 dX11_readLaw_133 ?_
            show W p l e (gRm 4 92) s m args below meth c _ _ 0 0 Q (F0 m 136 ls [.int (iI w6_88), .int (iI (v 15)), .ref (ad 9)])
            refine gi_zne (tgt := 150) hx hb dX11_readLaw_136 (by decide) (by omega) (fun c_92 => ?_) (fun c_92 => ?_)
            · refine lv_iconst (v := iI 0) hx hb dX11_readLaw_150 rfl ?_
              refine mdS_newRest (f1 := (va_up (va_up (va_up (va_up (va_up (va_up (va_up (va_up (va_up f 11 (f 11)) 12 (f 12)) 17 (f 17)) 14 (f 14)) 16 (f 16)) 5 (u1 (f 5) (v 15) z_88)) 6 (u1 (f 6) (v 15) 1)) 7 (u1 (f 7) (v 15) 10)) 8 (u1 (f 8) (v 15) 0))) C hP hD hS (by omega) (by omega) (by decide) rfl (Or.inr (gF_up (V := mdV) (F := mdF) (gF_up (V := mdV) (F := mdF) (gF_up (V := mdV) (F := mdF) (gF_up (V := mdV) (F := mdF) (gF_up (V := mdV) (F := mdF) (gF_up (V := mdV) (F := mdF) (gF_up (V := mdV) (F := mdF) (gF_up (V := mdV) (F := mdF) (gF_up (V := mdV) (F := mdF) (gR_up (V := mdV) (F := mdF) (gR_up (V := mdV) (F := mdF) (gR_up (V := mdV) (F := mdF) (gR_up (V := mdV) (F := mdF) (gR_up (V := mdV) (F := mdF) (gR_up (V := mdV) (F := mdF) (gR_up (V := mdV) (F := mdF) (gR_up (V := mdV) (F := mdF) (gR_up (V := mdV) (F := mdF) (gR_up (V := mdV) (F := mdF) (gR_up (V := mdV) (F := mdF) (gR_up (V := mdV) (F := mdF) (gR_up (V := mdV) (F := mdF) ⟨hok.1, hok.2⟩ 6 (hP.2.1 6)) 7 (hP.2.1 7)) 8 (hP.2.1 8)) 9 (hP.2.1 9)) 10 (hP.2.1 10)) 11 (hP.2.1 11)) 16 (hP.2.1 16)) 20 (hP.2.1 20)) 21 (hP.2.1 21)) 27 (hP.2.1 27)) 17 (hP.2.1 17)) 15 (hP.2.1 15)) 19 (hP.2.1 19)) 11 (hP.2.2 11)) 12 (hP.2.2 12)) 17 (hP.2.2 17)) 14 (hP.2.2 14)) 16 (hP.2.2 16)) 5 (hP.2.2 5)) 6 (hP.2.2 6)) 7 (hP.2.2 7)) 8 (u1_rng (hP.2.2 8) (show 0 ≤ 0 ∧ 0 ≤ 999 from (by decide))))) dX11_readLaw_151 (fun H locs hP hS => ?_)
              refine lv_aload_n hx hb dX11_readLaw_152 rfl (lv_at hl 0 rfl) ?_
              refine lv_dup hx hb dX11_readLaw_153 rfl ?_
              refine mdG_newRounds C hP mF_X11_207 dX11_readLaw_154 ?_
              show W p l e (gRm 4 92) s m args below meth c _ _ 0 0 Q (F0 m 157 ls [.int (iI (v 15)), .ref (ad 0)])
              refine lv_iconst (v := iI 1) hx hb dX11_readLaw_157 rfl ?_
              refine gi_add (z := ((v 15) + 1)) hx hb dX11_readLaw_158 rfl ?_
              refine mdP_newRounds (v1 := (va_up (va_up (va_up (va_up (va_up (va_up (va_up (va_up (va_up (va_up (va_up (va_up (va_up v 6 w6_88) 7 w7_88) 8 w8_88) 9 w9_88) 10 w10_88) 11 w11_88) 16 (v 16)) 20 (v 20)) 21 (v 21)) 27 (v 27)) 17 (v 17)) 15 ((v 15) + 1)) 19 (v 19))) C hP hD hS mF_X11_207 (by omega) rfl (Or.inr (gF_up (V := mdV) (F := mdF) (gF_up (V := mdV) (F := mdF) (gF_up (V := mdV) (F := mdF) (gF_up (V := mdV) (F := mdF) (gF_up (V := mdV) (F := mdF) (gF_up (V := mdV) (F := mdF) (gF_up (V := mdV) (F := mdF) (gF_up (V := mdV) (F := mdF) (gF_up (V := mdV) (F := mdF) (gR_up (V := mdV) (F := mdF) (gR_up (V := mdV) (F := mdF) (gR_up (V := mdV) (F := mdF) (gR_up (V := mdV) (F := mdF) (gR_up (V := mdV) (F := mdF) (gR_up (V := mdV) (F := mdF) (gR_up (V := mdV) (F := mdF) (gR_up (V := mdV) (F := mdF) (gR_up (V := mdV) (F := mdF) (gR_up (V := mdV) (F := mdF) (gR_up (V := mdV) (F := mdF) (gR_up (V := mdV) (F := mdF) (gR_up (V := mdV) (F := mdF) ⟨hok.1, hok.2⟩ 6 (hP.2.1 6)) 7 (hP.2.1 7)) 8 (hP.2.1 8)) 9 (hP.2.1 9)) 10 (hP.2.1 10)) 11 (hP.2.1 11)) 16 (hP.2.1 16)) 20 (hP.2.1 20)) 21 (hP.2.1 21)) 27 (hP.2.1 27)) 17 (hP.2.1 17)) 15 (show 0 ≤ ((v 15) + 1) ∧ ((v 15) + 1) ≤ 4 from by omega)) 19 (hP.2.1 19)) 11 (hP.2.2 11)) 12 (hP.2.2 12)) 17 (hP.2.2 17)) 14 (hP.2.2 14)) 16 (hP.2.2 16)) 5 (hP.2.2 5)) 6 (hP.2.2 6)) 7 (hP.2.2 7)) 8 (hP.2.2 8))) dX11_readLaw_159 (fun H locs hP hS => ?_)
              refine lv_goto (tgt := 246) hx hb dX11_readLaw_162 (by decide) ?_
              refine lv_aload_n hx hb dX11_readLaw_246 rfl (lv_at hl 0 rfl) ?_
              refine mdG_bad C hP mF_X11_188 dX11_readLaw_247 ?_
              show W p l e (gRm 4 92) s m args below meth c _ _ 0 0 Q (F0 m 250 ls [.int (iI w6_88)])
              refine gi_zne (tgt := 257) hx hb dX11_readLaw_250 (by decide) (by omega) (fun c_93 => ?_) (fun c_93 => ?_)
              · exact g_vret hQ C hr hlocks hP hS dX11_readLaw_257 ⟨w6_88, w7_88, w8_88, w9_88, w10_88, w11_88, (v 16), (v 20), (v 21), (v 27), (v 17), ((v 15) + 1), (v 19), (f 11), (f 12), (f 17), (f 14), (f 16), (u1 (f 5) (v 15) z_88), (u1 (f 6) (v 15) 1), (u1 (f 7) (v 15) 10), (u1 (f 8) (v 15) 0), b0_88, rfl, rfl, rfl, rfl, (by first | omega | (split <;> omega)), (by first | omega | (split <;> omega)), (by first | omega | (split <;> omega)), (by first | (intro h; exfalso; omega) | exact fun _ => hrp | exact fun _ => hX (by omega))⟩
              · refine lv_aload_n hx hb dX11_readLaw_253 rfl (lv_at hl 0 rfl) ?_
                refine g_cv (As := []) (rest := []) (n := 0) C hml (m_X11_ends l D k A ad hD (va_up (va_up (va_up (va_up (va_up (va_up (va_up (va_up (va_up (va_up (va_up (va_up (va_up v 6 w6_88) 7 w7_88) 8 w8_88) 9 w9_88) 10 w10_88) 11 w11_88) 16 (v 16)) 20 (v 20)) 21 (v 21)) 27 (v 27)) 17 (v 17)) 15 ((v 15) + 1)) 19 (v 19)) (va_up (va_up (va_up (va_up (va_up (va_up (va_up (va_up (va_up f 11 (f 11)) 12 (f 12)) 17 (f 17)) 14 (f 14)) 16 (f 16)) 5 (u1 (f 5) (v 15) z_88)) 6 (u1 (f 6) (v 15) 1)) 7 (u1 (f 7) (v 15) 10)) 8 (u1 (f 8) (v 15) 0)) (va_up g 0 b0_88) (show w9_88 ≤ w10_88 ∧ w10_88 ≤ (v 3) ∧ (w8_88 ≠ 0 → w9_88 < w10_88) from by omega)) mM_X11_246 mI_X11_ends mE_X11_ends mN_X11 mC_X11_ends (by decide +kernel) 0 (ci := 11) rfl rfl hP hS (fun _ h => h) ⟨Nat.le_of_ble_eq_true rfl, Nat.le_of_ble_eq_true rfl⟩ ⟨Nat.zero_le _, Nat.zero_le _⟩ hl.1 rfl rfl (Nat.le_of_ble_eq_true rfl) dX11_readLaw_254 (fun r_94 v_94 f_94 g_94 H locs hq_94 hP _ hS => ?_)
                obtain ⟨w6_94, w7_94, w8_94, w9_94, w10_94, w11_94, b0_94, rfl, rfl, rfl, rfl, p0_94, p1_94, p2_94, p3_94⟩ := hq_94
                show W p l e (gRm 4 92) s m args below meth c _ _ 0 0 Q (F0 m 257 ls [])
                have hP : gWd D (mdT k ad) (va_up (va_up (va_up (va_up (va_up (va_up (va_up (va_up (va_up (va_up (va_up (va_up (va_up v 6 w6_94) 7 w7_94) 8 w8_94) 9 w9_94) 10 w10_94) 11 w11_94) 16 (v 16)) 20 (v 20)) 21 (v 21)) 27 (v 27)) 17 (v 17)) 15 ((v 15) + 1)) 19 (v 19)) (va_up (va_up (va_up (va_up (va_up (va_up (va_up (va_up (va_up f 11 (f 11)) 12 (f 12)) 17 (f 17)) 14 (f 14)) 16 (f 16)) 5 (u1 (f 5) (v 15) z_88)) 6 (u1 (f 6) (v 15) 1)) 7 (u1 (f 7) (v 15) 10)) 8 (u1 (f 8) (v 15) 0)) (va_up g 0 b0_94) H := ⟨hP.1, (gF_up (V := mdV) (F := mdF) (gF_up (V := mdV) (F := mdF) (gF_up (V := mdV) (F := mdF) (gF_up (V := mdV) (F := mdF) (gF_up (V := mdV) (F := mdF) (gF_up (V := mdV) (F := mdF) (gF_up (V := mdV) (F := mdF) (gF_up (V := mdV) (F := mdF) (gF_up (V := mdV) (F := mdF) (gR_up (V := mdV) (F := mdF) (gR_up (V := mdV) (F := mdF) (gR_up (V := mdV) (F := mdF) (gR_up (V := mdV) (F := mdF) (gR_up (V := mdV) (F := mdF) (gR_up (V := mdV) (F := mdF) (gR_up (V := mdV) (F := mdF) (gR_up (V := mdV) (F := mdF) (gR_up (V := mdV) (F := mdF) (gR_up (V := mdV) (F := mdF) (gR_up (V := mdV) (F := mdF) (gR_up (V := mdV) (F := mdF) (gR_up (V := mdV) (F := mdF) ⟨hok.1, hok.2⟩ 6 (hP.2.1 6)) 7 (hP.2.1 7)) 8 (hP.2.1 8)) 9 (hP.2.1 9)) 10 (hP.2.1 10)) 11 (hP.2.1 11)) 16 (hP.2.1 16)) 20 (hP.2.1 20)) 21 (hP.2.1 21)) 27 (hP.2.1 27)) 17 (hP.2.1 17)) 15 (hP.2.1 15)) 19 (hP.2.1 19)) 11 (hP.2.2 11)) 12 (hP.2.2 12)) 17 (hP.2.2 17)) 14 (hP.2.2 14)) 16 (hP.2.2 16)) 5 (hP.2.2 5)) 6 (hP.2.2 6)) 7 (hP.2.2 7)) 8 (hP.2.2 8))⟩
                replace p0_94 : w9_88 ≤ w9_94 ∧ w9_94 ≤ w10_94 ∧ w10_94 ≤ (v 3) := p0_94
                replace p1_94 : w8_94 ≠ 0 → w9_94 < w10_94 := p1_94
                replace p2_94 : 0 < w6_88 → 0 < w6_94 := p2_94
                replace p3_94 : w6_94 = 0 → w6_88 = 0 := p3_94
                have rw6_94 : 0 ≤ w6_94 ∧ w6_94 ≤ 5 := hP.2.1 6
                have rw7_94 : 0 ≤ w7_94 ∧ w7_94 ≤ 700 := hP.2.1 7
                have rw8_94 : 0 ≤ w8_94 ∧ w8_94 ≤ 4 := hP.2.1 8
                have rw9_94 : 0 ≤ w9_94 ∧ w9_94 ≤ 700 := hP.2.1 9
                have rw10_94 : 0 ≤ w10_94 ∧ w10_94 ≤ 700 := hP.2.1 10
                have rw11_94 : 0 ≤ w11_94 ∧ w11_94 ≤ 999999 := hP.2.1 11
                exact g_vret hQ C hr hlocks hP hS dX11_readLaw_257 ⟨w6_94, w7_94, w8_94, w9_94, w10_94, w11_94, (v 16), (v 20), (v 21), (v 27), (v 17), ((v 15) + 1), (v 19), (f 11), (f 12), (f 17), (f 14), (f 16), (u1 (f 5) (v 15) z_88), (u1 (f 6) (v 15) 1), (u1 (f 7) (v 15) 10), (u1 (f 8) (v 15) 0), b0_94, rfl, rfl, rfl, rfl, (by first | omega | (split <;> omega)), (by first | omega | (split <;> omega)), (by first | omega | (split <;> omega)), (by first | (intro h; exfalso; omega) | exact fun _ => hrp | exact fun _ => hX (by omega))⟩
            · refine lv_aload_n hx hb dX11_readLaw_139 rfl (lv_at hl 0 rfl) ?_
              refine lv_iconst (v := iI 0) hx hb dX11_readLaw_140 rfl ?_
              refine lv_sipush (v := iI 999) hx hb dX11_readLaw_141 (by decide) ?_
              refine g_cv (As := [.int (iI 0), .int (iI 999)]) (rest := [.int (iI (v 15)), .ref (ad 9)]) (n := 2) C hml (m_X11_numberOf l D k A ad hD (va_up (va_up (va_up (va_up (va_up (va_up (va_up (va_up (va_up (va_up (va_up (va_up (va_up v 6 w6_88) 7 w7_88) 8 w8_88) 9 w9_88) 10 w10_88) 11 w11_88) 16 (v 16)) 20 (v 20)) 21 (v 21)) 27 (v 27)) 17 (v 17)) 15 (v 15)) 19 (v 19)) (va_up (va_up (va_up (va_up (va_up (va_up (va_up (va_up (va_up f 11 (f 11)) 12 (f 12)) 17 (f 17)) 14 (f 14)) 16 (f 16)) 5 (u1 (f 5) (v 15) z_88)) 6 (u1 (f 6) (v 15) 1)) 7 (u1 (f 7) (v 15) 10)) 8 (f 8)) (va_up g 0 b0_88) 0 999 (by decide) (by decide) (show w9_88 ≤ w10_88 ∧ w10_88 ≤ (v 3) ∧ (w8_88 ≠ 0 → w9_88 < w10_88) from by omega) (show 0 ≤ (0 : Int) ∧ (0 : Int) ≤ (999 : Int) ∧ (999 : Int) ≤ 999 from by omega)) mM_X11_236 mI_X11_numberOf mE_X11_numberOf mN_X11 mC_X11_numberOf (by decide +kernel) 0 (ci := 11) rfl rfl hP hS (fun _ h => h) ⟨Nat.le_of_ble_eq_true rfl, Nat.le_of_ble_eq_true rfl⟩ ⟨Nat.zero_le _, Nat.zero_le _⟩ hl.1 rfl rfl (Nat.le_of_ble_eq_true rfl) dX11_readLaw_144 (fun r_95 v_95 f_95 g_95 H locs hq_95 hP _ hS => ?_)
              obtain ⟨z_95, w6_95, w7_95, w8_95, w9_95, w10_95, w11_95, b0_95, rfl, rfl, rfl, rfl, p0_95, p1_95, p2_95, p3_95⟩ := hq_95
              show W p l e (gRm 4 92) s m args below meth c _ _ 0 0 Q (F0 m 147 ls [.int (iI z_95), .int (iI (v 15)), .ref (ad 9)])
              have hP : gWd D (mdT k ad) (va_up (va_up (va_up (va_up (va_up (va_up (va_up (va_up (va_up (va_up (va_up (va_up (va_up v 6 w6_95) 7 w7_95) 8 w8_95) 9 w9_95) 10 w10_95) 11 w11_95) 16 (v 16)) 20 (v 20)) 21 (v 21)) 27 (v 27)) 17 (v 17)) 15 (v 15)) 19 (v 19)) (va_up (va_up (va_up (va_up (va_up (va_up (va_up (va_up (va_up f 11 (f 11)) 12 (f 12)) 17 (f 17)) 14 (f 14)) 16 (f 16)) 5 (u1 (f 5) (v 15) z_88)) 6 (u1 (f 6) (v 15) 1)) 7 (u1 (f 7) (v 15) 10)) 8 (f 8)) (va_up g 0 b0_95) H := ⟨hP.1, (gF_up (V := mdV) (F := mdF) (gF_up (V := mdV) (F := mdF) (gF_up (V := mdV) (F := mdF) (gF_up (V := mdV) (F := mdF) (gF_up (V := mdV) (F := mdF) (gF_up (V := mdV) (F := mdF) (gF_up (V := mdV) (F := mdF) (gF_up (V := mdV) (F := mdF) (gF_up (V := mdV) (F := mdF) (gR_up (V := mdV) (F := mdF) (gR_up (V := mdV) (F := mdF) (gR_up (V := mdV) (F := mdF) (gR_up (V := mdV) (F := mdF) (gR_up (V := mdV) (F := mdF) (gR_up (V := mdV) (F := mdF) (gR_up (V := mdV) (F := mdF) (gR_up (V := mdV) (F := mdF) (gR_up (V := mdV) (F := mdF) (gR_up (V := mdV) (F := mdF) (gR_up (V := mdV) (F := mdF) (gR_up (V := mdV) (F := mdF) (gR_up (V := mdV) (F := mdF) ⟨hok.1, hok.2⟩ 6 (hP.2.1 6)) 7 (hP.2.1 7)) 8 (hP.2.1 8)) 9 (hP.2.1 9)) 10 (hP.2.1 10)) 11 (hP.2.1 11)) 16 (hP.2.1 16)) 20 (hP.2.1 20)) 21 (hP.2.1 21)) 27 (hP.2.1 27)) 17 (hP.2.1 17)) 15 (hP.2.1 15)) 19 (hP.2.1 19)) 11 (hP.2.2 11)) 12 (hP.2.2 12)) 17 (hP.2.2 17)) 14 (hP.2.2 14)) 16 (hP.2.2 16)) 5 (hP.2.2 5)) 6 (hP.2.2 6)) 7 (hP.2.2 7)) 8 (hP.2.2 8))⟩
              replace p0_95 : (0 : Int) ≤ z_95 ∧ z_95 ≤ (999 : Int) := p0_95
              replace p1_95 : w9_88 ≤ w9_95 ∧ w9_95 ≤ w10_95 ∧ w10_95 ≤ (v 3) := p1_95
              replace p2_95 : w8_95 ≠ 0 → w9_95 < w10_95 := p2_95
              replace p3_95 : 0 < w6_88 → 0 < w6_95 := p3_95
              have rw6_95 : 0 ≤ w6_95 ∧ w6_95 ≤ 5 := hP.2.1 6
              have rw7_95 : 0 ≤ w7_95 ∧ w7_95 ≤ 700 := hP.2.1 7
              have rw8_95 : 0 ≤ w8_95 ∧ w8_95 ≤ 4 := hP.2.1 8
              have rw9_95 : 0 ≤ w9_95 ∧ w9_95 ≤ 700 := hP.2.1 9
              have rw10_95 : 0 ≤ w10_95 ∧ w10_95 ≤ 700 := hP.2.1 10
              have rw11_95 : 0 ≤ w11_95 ∧ w11_95 ≤ 999999 := hP.2.1 11
              have hz_95 : inR z_95 := (by first | omega | (rw [p0_95]; split <;> omega))
              refine lv_goto (tgt := 151) hx hb dX11_readLaw_147 (by decide) ?_
              refine mdS_newRest (f1 := (va_up (va_up (va_up (va_up (va_up (va_up (va_up (va_up (va_up f 11 (f 11)) 12 (f 12)) 17 (f 17)) 14 (f 14)) 16 (f 16)) 5 (u1 (f 5) (v 15) z_88)) 6 (u1 (f 6) (v 15) 1)) 7 (u1 (f 7) (v 15) 10)) 8 (u1 (f 8) (v 15) z_95))) C hP hD hS (by omega) (by omega) (by omega) rfl (Or.inr (gF_up (V := mdV) (F := mdF) (gF_up (V := mdV) (F := mdF) (gF_up (V := mdV) (F := mdF) (gF_up (V := mdV) (F := mdF) (gF_up (V := mdV) (F := mdF) (gF_up (V := mdV) (F := mdF) (gF_up (V := mdV) (F := mdF) (gF_up (V := mdV) (F := mdF) (gF_up (V := mdV) (F := mdF) (gR_up (V := mdV) (F := mdF) (gR_up (V := mdV) (F := mdF) (gR_up (V := mdV) (F := mdF) (gR_up (V := mdV) (F := mdF) (gR_up (V := mdV) (F := mdF) (gR_up (V := mdV) (F := mdF) (gR_up (V := mdV) (F := mdF) (gR_up (V := mdV) (F := mdF) (gR_up (V := mdV) (F := mdF) (gR_up (V := mdV) (F := mdF) (gR_up (V := mdV) (F := mdF) (gR_up (V := mdV) (F := mdF) (gR_up (V := mdV) (F := mdF) ⟨hok.1, hok.2⟩ 6 (hP.2.1 6)) 7 (hP.2.1 7)) 8 (hP.2.1 8)) 9 (hP.2.1 9)) 10 (hP.2.1 10)) 11 (hP.2.1 11)) 16 (hP.2.1 16)) 20 (hP.2.1 20)) 21 (hP.2.1 21)) 27 (hP.2.1 27)) 17 (hP.2.1 17)) 15 (hP.2.1 15)) 19 (hP.2.1 19)) 11 (hP.2.2 11)) 12 (hP.2.2 12)) 17 (hP.2.2 17)) 14 (hP.2.2 14)) 16 (hP.2.2 16)) 5 (hP.2.2 5)) 6 (hP.2.2 6)) 7 (hP.2.2 7)) 8 (u1_rng (hP.2.2 8) (show 0 ≤ z_95 ∧ z_95 ≤ 999 from (by omega))))) dX11_readLaw_151 (fun H locs hP hS => ?_)
              refine lv_aload_n hx hb dX11_readLaw_152 rfl (lv_at hl 0 rfl) ?_
              refine lv_dup hx hb dX11_readLaw_153 rfl ?_
              refine mdG_newRounds C hP mF_X11_207 dX11_readLaw_154 ?_
              show W p l e (gRm 4 92) s m args below meth c _ _ 0 0 Q (F0 m 157 ls [.int (iI (v 15)), .ref (ad 0)])
              refine lv_iconst (v := iI 1) hx hb dX11_readLaw_157 rfl ?_
              refine gi_add (z := ((v 15) + 1)) hx hb dX11_readLaw_158 rfl ?_
              refine mdP_newRounds (v1 := (va_up (va_up (va_up (va_up (va_up (va_up (va_up (va_up (va_up (va_up (va_up (va_up (va_up v 6 w6_95) 7 w7_95) 8 w8_95) 9 w9_95) 10 w10_95) 11 w11_95) 16 (v 16)) 20 (v 20)) 21 (v 21)) 27 (v 27)) 17 (v 17)) 15 ((v 15) + 1)) 19 (v 19))) C hP hD hS mF_X11_207 (by omega) rfl (Or.inr (gF_up (V := mdV) (F := mdF) (gF_up (V := mdV) (F := mdF) (gF_up (V := mdV) (F := mdF) (gF_up (V := mdV) (F := mdF) (gF_up (V := mdV) (F := mdF) (gF_up (V := mdV) (F := mdF) (gF_up (V := mdV) (F := mdF) (gF_up (V := mdV) (F := mdF) (gF_up (V := mdV) (F := mdF) (gR_up (V := mdV) (F := mdF) (gR_up (V := mdV) (F := mdF) (gR_up (V := mdV) (F := mdF) (gR_up (V := mdV) (F := mdF) (gR_up (V := mdV) (F := mdF) (gR_up (V := mdV) (F := mdF) (gR_up (V := mdV) (F := mdF) (gR_up (V := mdV) (F := mdF) (gR_up (V := mdV) (F := mdF) (gR_up (V := mdV) (F := mdF) (gR_up (V := mdV) (F := mdF) (gR_up (V := mdV) (F := mdF) (gR_up (V := mdV) (F := mdF) ⟨hok.1, hok.2⟩ 6 (hP.2.1 6)) 7 (hP.2.1 7)) 8 (hP.2.1 8)) 9 (hP.2.1 9)) 10 (hP.2.1 10)) 11 (hP.2.1 11)) 16 (hP.2.1 16)) 20 (hP.2.1 20)) 21 (hP.2.1 21)) 27 (hP.2.1 27)) 17 (hP.2.1 17)) 15 (show 0 ≤ ((v 15) + 1) ∧ ((v 15) + 1) ≤ 4 from by omega)) 19 (hP.2.1 19)) 11 (hP.2.2 11)) 12 (hP.2.2 12)) 17 (hP.2.2 17)) 14 (hP.2.2 14)) 16 (hP.2.2 16)) 5 (hP.2.2 5)) 6 (hP.2.2 6)) 7 (hP.2.2 7)) 8 (hP.2.2 8))) dX11_readLaw_159 (fun H locs hP hS => ?_)
              refine lv_goto (tgt := 246) hx hb dX11_readLaw_162 (by decide) ?_
              refine lv_aload_n hx hb dX11_readLaw_246 rfl (lv_at hl 0 rfl) ?_
              refine mdG_bad C hP mF_X11_188 dX11_readLaw_247 ?_
              show W p l e (gRm 4 92) s m args below meth c _ _ 0 0 Q (F0 m 250 ls [.int (iI w6_95)])
              have r_96 : 0 ≤ w6_95 ∧ w6_95 ≤ 5 := hP.2.1 6
              refine gi_zne (tgt := 257) hx hb dX11_readLaw_250 (by decide) (by omega) (fun c_97 => ?_) (fun c_97 => ?_)
              · exact g_vret hQ C hr hlocks hP hS dX11_readLaw_257 ⟨w6_95, w7_95, w8_95, w9_95, w10_95, w11_95, (v 16), (v 20), (v 21), (v 27), (v 17), ((v 15) + 1), (v 19), (f 11), (f 12), (f 17), (f 14), (f 16), (u1 (f 5) (v 15) z_88), (u1 (f 6) (v 15) 1), (u1 (f 7) (v 15) 10), (u1 (f 8) (v 15) z_95), b0_95, rfl, rfl, rfl, rfl, (by first | omega | (split <;> omega)), (by first | omega | (split <;> omega)), (by first | omega | (split <;> omega)), (by first | (intro h; exfalso; omega) | exact fun _ => hrp | exact fun _ => hX (by omega))⟩
              · refine lv_aload_n hx hb dX11_readLaw_253 rfl (lv_at hl 0 rfl) ?_
                refine g_cv (As := []) (rest := []) (n := 0) C hml (m_X11_ends l D k A ad hD (va_up (va_up (va_up (va_up (va_up (va_up (va_up (va_up (va_up (va_up (va_up (va_up (va_up v 6 w6_95) 7 w7_95) 8 w8_95) 9 w9_95) 10 w10_95) 11 w11_95) 16 (v 16)) 20 (v 20)) 21 (v 21)) 27 (v 27)) 17 (v 17)) 15 ((v 15) + 1)) 19 (v 19)) (va_up (va_up (va_up (va_up (va_up (va_up (va_up (va_up (va_up f 11 (f 11)) 12 (f 12)) 17 (f 17)) 14 (f 14)) 16 (f 16)) 5 (u1 (f 5) (v 15) z_88)) 6 (u1 (f 6) (v 15) 1)) 7 (u1 (f 7) (v 15) 10)) 8 (u1 (f 8) (v 15) z_95)) (va_up g 0 b0_95) (show w9_95 ≤ w10_95 ∧ w10_95 ≤ (v 3) ∧ (w8_95 ≠ 0 → w9_95 < w10_95) from by omega)) mM_X11_246 mI_X11_ends mE_X11_ends mN_X11 mC_X11_ends (by decide +kernel) 0 (ci := 11) rfl rfl hP hS (fun _ h => h) ⟨Nat.le_of_ble_eq_true rfl, Nat.le_of_ble_eq_true rfl⟩ ⟨Nat.zero_le _, Nat.zero_le _⟩ hl.1 rfl rfl (Nat.le_of_ble_eq_true rfl) dX11_readLaw_254 (fun r_98 v_98 f_98 g_98 H locs hq_98 hP _ hS => ?_)
                obtain ⟨w6_98, w7_98, w8_98, w9_98, w10_98, w11_98, b0_98, rfl, rfl, rfl, rfl, p0_98, p1_98, p2_98, p3_98⟩ := hq_98
                show W p l e (gRm 4 92) s m args below meth c _ _ 0 0 Q (F0 m 257 ls [])
                have hP : gWd D (mdT k ad) (va_up (va_up (va_up (va_up (va_up (va_up (va_up (va_up (va_up (va_up (va_up (va_up (va_up v 6 w6_98) 7 w7_98) 8 w8_98) 9 w9_98) 10 w10_98) 11 w11_98) 16 (v 16)) 20 (v 20)) 21 (v 21)) 27 (v 27)) 17 (v 17)) 15 ((v 15) + 1)) 19 (v 19)) (va_up (va_up (va_up (va_up (va_up (va_up (va_up (va_up (va_up f 11 (f 11)) 12 (f 12)) 17 (f 17)) 14 (f 14)) 16 (f 16)) 5 (u1 (f 5) (v 15) z_88)) 6 (u1 (f 6) (v 15) 1)) 7 (u1 (f 7) (v 15) 10)) 8 (u1 (f 8) (v 15) z_95)) (va_up g 0 b0_98) H := ⟨hP.1, (gF_up (V := mdV) (F := mdF) (gF_up (V := mdV) (F := mdF) (gF_up (V := mdV) (F := mdF) (gF_up (V := mdV) (F := mdF) (gF_up (V := mdV) (F := mdF) (gF_up (V := mdV) (F := mdF) (gF_up (V := mdV) (F := mdF) (gF_up (V := mdV) (F := mdF) (gF_up (V := mdV) (F := mdF) (gR_up (V := mdV) (F := mdF) (gR_up (V := mdV) (F := mdF) (gR_up (V := mdV) (F := mdF) (gR_up (V := mdV) (F := mdF) (gR_up (V := mdV) (F := mdF) (gR_up (V := mdV) (F := mdF) (gR_up (V := mdV) (F := mdF) (gR_up (V := mdV) (F := mdF) (gR_up (V := mdV) (F := mdF) (gR_up (V := mdV) (F := mdF) (gR_up (V := mdV) (F := mdF) (gR_up (V := mdV) (F := mdF) (gR_up (V := mdV) (F := mdF) ⟨hok.1, hok.2⟩ 6 (hP.2.1 6)) 7 (hP.2.1 7)) 8 (hP.2.1 8)) 9 (hP.2.1 9)) 10 (hP.2.1 10)) 11 (hP.2.1 11)) 16 (hP.2.1 16)) 20 (hP.2.1 20)) 21 (hP.2.1 21)) 27 (hP.2.1 27)) 17 (hP.2.1 17)) 15 (hP.2.1 15)) 19 (hP.2.1 19)) 11 (hP.2.2 11)) 12 (hP.2.2 12)) 17 (hP.2.2 17)) 14 (hP.2.2 14)) 16 (hP.2.2 16)) 5 (hP.2.2 5)) 6 (hP.2.2 6)) 7 (hP.2.2 7)) 8 (hP.2.2 8))⟩
                replace p0_98 : w9_95 ≤ w9_98 ∧ w9_98 ≤ w10_98 ∧ w10_98 ≤ (v 3) := p0_98
                replace p1_98 : w8_98 ≠ 0 → w9_98 < w10_98 := p1_98
                replace p2_98 : 0 < w6_95 → 0 < w6_98 := p2_98
                replace p3_98 : w6_98 = 0 → w6_95 = 0 := p3_98
                have rw6_98 : 0 ≤ w6_98 ∧ w6_98 ≤ 5 := hP.2.1 6
                have rw7_98 : 0 ≤ w7_98 ∧ w7_98 ≤ 700 := hP.2.1 7
                have rw8_98 : 0 ≤ w8_98 ∧ w8_98 ≤ 4 := hP.2.1 8
                have rw9_98 : 0 ≤ w9_98 ∧ w9_98 ≤ 700 := hP.2.1 9
                have rw10_98 : 0 ≤ w10_98 ∧ w10_98 ≤ 700 := hP.2.1 10
                have rw11_98 : 0 ≤ w11_98 ∧ w11_98 ≤ 999999 := hP.2.1 11
                exact g_vret hQ C hr hlocks hP hS dX11_readLaw_257 ⟨w6_98, w7_98, w8_98, w9_98, w10_98, w11_98, (v 16), (v 20), (v 21), (v 27), (v 17), ((v 15) + 1), (v 19), (f 11), (f 12), (f 17), (f 14), (f 16), (u1 (f 5) (v 15) z_88), (u1 (f 6) (v 15) 1), (u1 (f 7) (v 15) 10), (u1 (f 8) (v 15) z_95), b0_98, rfl, rfl, rfl, rfl, (by first | omega | (split <;> omega)), (by first | omega | (split <;> omega)), (by first | omega | (split <;> omega)), (by first | (intro h; exfalso; omega) | exact fun _ => hrp | exact fun _ => hX (by omega))⟩
          · refine lv_aload_n hx hb dX11_readLaw_109 rfl (lv_at hl 0 rfl) ?_
            refine lv_bipush (v := iI 10) hx hb dX11_readLaw_110 (by decide) ?_
            refine lv_sipush (v := iI 999) hx hb dX11_readLaw_112 (by decide) ?_
            refine g_cv (As := [.int (iI 10), .int (iI 999)]) (rest := [.int (iI (v 15)), .ref (ad 8)]) (n := 2) C hml (m_X11_numberOf l D k A ad hD (va_up (va_up (va_up (va_up (va_up (va_up (va_up (va_up (va_up (va_up (va_up (va_up (va_up v 6 w6_88) 7 w7_88) 8 w8_88) 9 w9_88) 10 w10_88) 11 w11_88) 16 (v 16)) 20 (v 20)) 21 (v 21)) 27 (v 27)) 17 (v 17)) 15 (v 15)) 19 (v 19)) (va_up (va_up (va_up (va_up (va_up (va_up (va_up (va_up (va_up f 11 (f 11)) 12 (f 12)) 17 (f 17)) 14 (f 14)) 16 (f 16)) 5 (u1 (f 5) (v 15) z_88)) 6 (u1 (f 6) (v 15) 1)) 7 (f 7)) 8 (f 8)) (va_up g 0 b0_88) 10 999 (by decide) (by decide) (show w9_88 ≤ w10_88 ∧ w10_88 ≤ (v 3) ∧ (w8_88 ≠ 0 → w9_88 < w10_88) from by omega) (show 0 ≤ (10 : Int) ∧ (10 : Int) ≤ (999 : Int) ∧ (999 : Int) ≤ 999 from by omega)) mM_X11_236 mI_X11_numberOf mE_X11_numberOf mN_X11 mC_X11_numberOf (by decide +kernel) 0 (ci := 11) rfl rfl hP hS (fun _ h => h) ⟨Nat.le_of_ble_eq_true rfl, Nat.le_of_ble_eq_true rfl⟩ ⟨Nat.zero_le _, Nat.zero_le _⟩ hl.1 rfl rfl (Nat.le_of_ble_eq_true rfl) dX11_readLaw_115 (fun r_99 v_99 f_99 g_99 H locs hq_99 hP _ hS => ?_)
            obtain ⟨z_99, w6_99, w7_99, w8_99, w9_99, w10_99, w11_99, b0_99, rfl, rfl, rfl, rfl, p0_99, p1_99, p2_99, p3_99⟩ := hq_99
            show W p l e (gRm 4 92) s m args below meth c _ _ 0 0 Q (F0 m 118 ls [.int (iI z_99), .int (iI (v 15)), .ref (ad 8)])
            have hP : gWd D (mdT k ad) (va_up (va_up (va_up (va_up (va_up (va_up (va_up (va_up (va_up (va_up (va_up (va_up (va_up v 6 w6_99) 7 w7_99) 8 w8_99) 9 w9_99) 10 w10_99) 11 w11_99) 16 (v 16)) 20 (v 20)) 21 (v 21)) 27 (v 27)) 17 (v 17)) 15 (v 15)) 19 (v 19)) (va_up (va_up (va_up (va_up (va_up (va_up (va_up (va_up (va_up f 11 (f 11)) 12 (f 12)) 17 (f 17)) 14 (f 14)) 16 (f 16)) 5 (u1 (f 5) (v 15) z_88)) 6 (u1 (f 6) (v 15) 1)) 7 (f 7)) 8 (f 8)) (va_up g 0 b0_99) H := ⟨hP.1, (gF_up (V := mdV) (F := mdF) (gF_up (V := mdV) (F := mdF) (gF_up (V := mdV) (F := mdF) (gF_up (V := mdV) (F := mdF) (gF_up (V := mdV) (F := mdF) (gF_up (V := mdV) (F := mdF) (gF_up (V := mdV) (F := mdF) (gF_up (V := mdV) (F := mdF) (gF_up (V := mdV) (F := mdF) (gR_up (V := mdV) (F := mdF) (gR_up (V := mdV) (F := mdF) (gR_up (V := mdV) (F := mdF) (gR_up (V := mdV) (F := mdF) (gR_up (V := mdV) (F := mdF) (gR_up (V := mdV) (F := mdF) (gR_up (V := mdV) (F := mdF) (gR_up (V := mdV) (F := mdF) (gR_up (V := mdV) (F := mdF) (gR_up (V := mdV) (F := mdF) (gR_up (V := mdV) (F := mdF) (gR_up (V := mdV) (F := mdF) (gR_up (V := mdV) (F := mdF) ⟨hok.1, hok.2⟩ 6 (hP.2.1 6)) 7 (hP.2.1 7)) 8 (hP.2.1 8)) 9 (hP.2.1 9)) 10 (hP.2.1 10)) 11 (hP.2.1 11)) 16 (hP.2.1 16)) 20 (hP.2.1 20)) 21 (hP.2.1 21)) 27 (hP.2.1 27)) 17 (hP.2.1 17)) 15 (hP.2.1 15)) 19 (hP.2.1 19)) 11 (hP.2.2 11)) 12 (hP.2.2 12)) 17 (hP.2.2 17)) 14 (hP.2.2 14)) 16 (hP.2.2 16)) 5 (hP.2.2 5)) 6 (hP.2.2 6)) 7 (hP.2.2 7)) 8 (hP.2.2 8))⟩
            replace p0_99 : (10 : Int) ≤ z_99 ∧ z_99 ≤ (999 : Int) := p0_99
            replace p1_99 : w9_88 ≤ w9_99 ∧ w9_99 ≤ w10_99 ∧ w10_99 ≤ (v 3) := p1_99
            replace p2_99 : w8_99 ≠ 0 → w9_99 < w10_99 := p2_99
            replace p3_99 : 0 < w6_88 → 0 < w6_99 := p3_99
            have rw6_99 : 0 ≤ w6_99 ∧ w6_99 ≤ 5 := hP.2.1 6
            have rw7_99 : 0 ≤ w7_99 ∧ w7_99 ≤ 700 := hP.2.1 7
            have rw8_99 : 0 ≤ w8_99 ∧ w8_99 ≤ 4 := hP.2.1 8
            have rw9_99 : 0 ≤ w9_99 ∧ w9_99 ≤ 700 := hP.2.1 9
            have rw10_99 : 0 ≤ w10_99 ∧ w10_99 ≤ 700 := hP.2.1 10
            have rw11_99 : 0 ≤ w11_99 ∧ w11_99 ≤ 999999 := hP.2.1 11
            have hz_99 : inR z_99 := (by first | omega | (rw [p0_99]; split <;> omega))
            refine lv_goto (tgt := 123) hx hb dX11_readLaw_118 (by decide) ?_
            refine mdS_newSeconds (f1 := (va_up (va_up (va_up (va_up (va_up (va_up (va_up (va_up (va_up f 11 (f 11)) 12 (f 12)) 17 (f 17)) 14 (f 14)) 16 (f 16)) 5 (u1 (f 5) (v 15) z_88)) 6 (u1 (f 6) (v 15) 1)) 7 (u1 (f 7) (v 15) z_99)) 8 (f 8))) C hP hD hS (by omega) (by omega) (by omega) rfl (Or.inr (gF_up (V := mdV) (F := mdF) (gF_up (V := mdV) (F := mdF) (gF_up (V := mdV) (F := mdF) (gF_up (V := mdV) (F := mdF) (gF_up (V := mdV) (F := mdF) (gF_up (V := mdV) (F := mdF) (gF_up (V := mdV) (F := mdF) (gF_up (V := mdV) (F := mdF) (gF_up (V := mdV) (F := mdF) (gR_up (V := mdV) (F := mdF) (gR_up (V := mdV) (F := mdF) (gR_up (V := mdV) (F := mdF) (gR_up (V := mdV) (F := mdF) (gR_up (V := mdV) (F := mdF) (gR_up (V := mdV) (F := mdF) (gR_up (V := mdV) (F := mdF) (gR_up (V := mdV) (F := mdF) (gR_up (V := mdV) (F := mdF) (gR_up (V := mdV) (F := mdF) (gR_up (V := mdV) (F := mdF) (gR_up (V := mdV) (F := mdF) (gR_up (V := mdV) (F := mdF) ⟨hok.1, hok.2⟩ 6 (hP.2.1 6)) 7 (hP.2.1 7)) 8 (hP.2.1 8)) 9 (hP.2.1 9)) 10 (hP.2.1 10)) 11 (hP.2.1 11)) 16 (hP.2.1 16)) 20 (hP.2.1 20)) 21 (hP.2.1 21)) 27 (hP.2.1 27)) 17 (hP.2.1 17)) 15 (hP.2.1 15)) 19 (hP.2.1 19)) 11 (hP.2.2 11)) 12 (hP.2.2 12)) 17 (hP.2.2 17)) 14 (hP.2.2 14)) 16 (hP.2.2 16)) 5 (hP.2.2 5)) 6 (hP.2.2 6)) 7 (u1_rng (hP.2.2 7) (show 0 ≤ z_99 ∧ z_99 ≤ 999 from (by omega)))) 8 (hP.2.2 8))) dX11_readLaw_123 (fun H locs hP hS => ?_)
            refine lv_aload_n hx hb dX11_readLaw_124 rfl (lv_at hl 0 rfl) ?_
            refine mdG_newRest C hP mF_X11_42 dX11_readLaw_125 ?_
            refine lv_aload_n hx hb dX11_readLaw_128 rfl (lv_at hl 0 rfl) ?_
            refine mdG_newRounds C hP mF_X11_207 dX11_readLaw_129 ?_
            show W p l e (gRm 4 92) s m args below meth c _ _ 0 0 Q (F0 m 132 ls [.int (iI (v 15)), .ref (ad 9)])
            refine lv_aload_n hx hb dX11_readLaw_132 rfl (lv_at hl 0 rfl) ?_
            refine mdG_bad C hP mF_X11_188 dX11_readLaw_133 ?_
            show W p l e (gRm 4 92) s m args below meth c _ _ 0 0 Q (F0 m 136 ls [.int (iI w6_99), .int (iI (v 15)), .ref (ad 9)])
            have r_100 : 0 ≤ w6_99 ∧ w6_99 ≤ 5 := hP.2.1 6
            refine gi_zne (tgt := 150) hx hb dX11_readLaw_136 (by decide) (by omega) (fun c_101 => ?_) (fun c_101 => ?_)
            · refine lv_iconst (v := iI 0) hx hb dX11_readLaw_150 rfl ?_
              refine mdS_newRest (f1 := (va_up (va_up (va_up (va_up (va_up (va_up (va_up (va_up (va_up f 11 (f 11)) 12 (f 12)) 17 (f 17)) 14 (f 14)) 16 (f 16)) 5 (u1 (f 5) (v 15) z_88)) 6 (u1 (f 6) (v 15) 1)) 7 (u1 (f 7) (v 15) z_99)) 8 (u1 (f 8) (v 15) 0))) C hP hD hS (by omega) (by omega) (by decide) rfl (Or.inr (gF_up (V := mdV) (F := mdF) (gF_up (V := mdV) (F := mdF) (gF_up (V := mdV) (F := mdF) (gF_up (V := mdV) (F := mdF) (gF_up (V := mdV) (F := mdF) (gF_up (V := mdV) (F := mdF) (gF_up (V := mdV) (F := mdF) (gF_up (V := mdV) (F := mdF) (gF_up (V := mdV) (F := mdF) (gR_up (V := mdV) (F := mdF) (gR_up (V := mdV) (F := mdF) (gR_up (V := mdV) (F := mdF) (gR_up (V := mdV) (F := mdF) (gR_up (V := mdV) (F := mdF) (gR_up (V := mdV) (F := mdF) (gR_up (V := mdV) (F := mdF) (gR_up (V := mdV) (F := mdF) (gR_up (V := mdV) (F := mdF) (gR_up (V := mdV) (F := mdF) (gR_up (V := mdV) (F := mdF) (gR_up (V := mdV) (F := mdF) (gR_up (V := mdV) (F := mdF) ⟨hok.1, hok.2⟩ 6 (hP.2.1 6)) 7 (hP.2.1 7)) 8 (hP.2.1 8)) 9 (hP.2.1 9)) 10 (hP.2.1 10)) 11 (hP.2.1 11)) 16 (hP.2.1 16)) 20 (hP.2.1 20)) 21 (hP.2.1 21)) 27 (hP.2.1 27)) 17 (hP.2.1 17)) 15 (hP.2.1 15)) 19 (hP.2.1 19)) 11 (hP.2.2 11)) 12 (hP.2.2 12)) 17 (hP.2.2 17)) 14 (hP.2.2 14)) 16 (hP.2.2 16)) 5 (hP.2.2 5)) 6 (hP.2.2 6)) 7 (hP.2.2 7)) 8 (u1_rng (hP.2.2 8) (show 0 ≤ 0 ∧ 0 ≤ 999 from (by decide))))) dX11_readLaw_151 (fun H locs hP hS => ?_)
              refine lv_aload_n hx hb dX11_readLaw_152 rfl (lv_at hl 0 rfl) ?_
              refine lv_dup hx hb dX11_readLaw_153 rfl ?_
              refine mdG_newRounds C hP mF_X11_207 dX11_readLaw_154 ?_
              show W p l e (gRm 4 92) s m args below meth c _ _ 0 0 Q (F0 m 157 ls [.int (iI (v 15)), .ref (ad 0)])
              refine lv_iconst (v := iI 1) hx hb dX11_readLaw_157 rfl ?_
              refine gi_add (z := ((v 15) + 1)) hx hb dX11_readLaw_158 rfl ?_
              refine mdP_newRounds (v1 := (va_up (va_up (va_up (va_up (va_up (va_up (va_up (va_up (va_up (va_up (va_up (va_up (va_up v 6 w6_99) 7 w7_99) 8 w8_99) 9 w9_99) 10 w10_99) 11 w11_99) 16 (v 16)) 20 (v 20)) 21 (v 21)) 27 (v 27)) 17 (v 17)) 15 ((v 15) + 1)) 19 (v 19))) C hP hD hS mF_X11_207 (by omega) rfl (Or.inr (gF_up (V := mdV) (F := mdF) (gF_up (V := mdV) (F := mdF) (gF_up (V := mdV) (F := mdF) (gF_up (V := mdV) (F := mdF) (gF_up (V := mdV) (F := mdF) (gF_up (V := mdV) (F := mdF) (gF_up (V := mdV) (F := mdF) (gF_up (V := mdV) (F := mdF) (gF_up (V := mdV) (F := mdF) (gR_up (V := mdV) (F := mdF) (gR_up (V := mdV) (F := mdF) (gR_up (V := mdV) (F := mdF) (gR_up (V := mdV) (F := mdF) (gR_up (V := mdV) (F := mdF) (gR_up (V := mdV) (F := mdF) (gR_up (V := mdV) (F := mdF) (gR_up (V := mdV) (F := mdF) (gR_up (V := mdV) (F := mdF) (gR_up (V := mdV) (F := mdF) (gR_up (V := mdV) (F := mdF) (gR_up (V := mdV) (F := mdF) (gR_up (V := mdV) (F := mdF) ⟨hok.1, hok.2⟩ 6 (hP.2.1 6)) 7 (hP.2.1 7)) 8 (hP.2.1 8)) 9 (hP.2.1 9)) 10 (hP.2.1 10)) 11 (hP.2.1 11)) 16 (hP.2.1 16)) 20 (hP.2.1 20)) 21 (hP.2.1 21)) 27 (hP.2.1 27)) 17 (hP.2.1 17)) 15 (show 0 ≤ ((v 15) + 1) ∧ ((v 15) + 1) ≤ 4 from by omega)) 19 (hP.2.1 19)) 11 (hP.2.2 11)) 12 (hP.2.2 12)) 17 (hP.2.2 17)) 14 (hP.2.2 14)) 16 (hP.2.2 16)) 5 (hP.2.2 5)) 6 (hP.2.2 6)) 7 (hP.2.2 7)) 8 (hP.2.2 8))) dX11_readLaw_159 (fun H locs hP hS => ?_)
              refine lv_goto (tgt := 246) hx hb dX11_readLaw_162 (by decide) ?_
              refine lv_aload_n hx hb dX11_readLaw_246 rfl (lv_at hl 0 rfl) ?_
              refine mdG_bad C hP mF_X11_188 dX11_readLaw_247 ?_
              show W p l e (gRm 4 92) s m args below meth c _ _ 0 0 Q (F0 m 250 ls [.int (iI w6_99)])
              refine gi_zne (tgt := 257) hx hb dX11_readLaw_250 (by decide) (by omega) (fun c_102 => ?_) (fun c_102 => ?_)
              · exact g_vret hQ C hr hlocks hP hS dX11_readLaw_257 ⟨w6_99, w7_99, w8_99, w9_99, w10_99, w11_99, (v 16), (v 20), (v 21), (v 27), (v 17), ((v 15) + 1), (v 19), (f 11), (f 12), (f 17), (f 14), (f 16), (u1 (f 5) (v 15) z_88), (u1 (f 6) (v 15) 1), (u1 (f 7) (v 15) z_99), (u1 (f 8) (v 15) 0), b0_99, rfl, rfl, rfl, rfl, (by first | omega | (split <;> omega)), (by first | omega | (split <;> omega)), (by first | omega | (split <;> omega)), (by first | (intro h; exfalso; omega) | exact fun _ => hrp | exact fun _ => hX (by omega))⟩
              · refine lv_aload_n hx hb dX11_readLaw_253 rfl (lv_at hl 0 rfl) ?_
                refine g_cv (As := []) (rest := []) (n := 0) C hml (m_X11_ends l D k A ad hD (va_up (va_up (va_up (va_up (va_up (va_up (va_up (va_up (va_up (va_up (va_up (va_up (va_up v 6 w6_99) 7 w7_99) 8 w8_99) 9 w9_99) 10 w10_99) 11 w11_99) 16 (v 16)) 20 (v 20)) 21 (v 21)) 27 (v 27)) 17 (v 17)) 15 ((v 15) + 1)) 19 (v 19)) (va_up (va_up (va_up (va_up (va_up (va_up (va_up (va_up (va_up f 11 (f 11)) 12 (f 12)) 17 (f 17)) 14 (f 14)) 16 (f 16)) 5 (u1 (f 5) (v 15) z_88)) 6 (u1 (f 6) (v 15) 1)) 7 (u1 (f 7) (v 15) z_99)) 8 (u1 (f 8) (v 15) 0)) (va_up g 0 b0_99) (show w9_99 ≤ w10_99 ∧ w10_99 ≤ (v 3) ∧ (w8_99 ≠ 0 → w9_99 < w10_99) from by omega)) mM_X11_246 mI_X11_ends mE_X11_ends mN_X11 mC_X11_ends (by decide +kernel) 0 (ci := 11) rfl rfl hP hS (fun _ h => h) ⟨Nat.le_of_ble_eq_true rfl, Nat.le_of_ble_eq_true rfl⟩ ⟨Nat.zero_le _, Nat.zero_le _⟩ hl.1 rfl rfl (Nat.le_of_ble_eq_true rfl) dX11_readLaw_254 (fun r_103 v_103 f_103 g_103 H locs hq_103 hP _ hS => ?_)
                obtain ⟨w6_103, w7_103, w8_103, w9_103, w10_103, w11_103, b0_103, rfl, rfl, rfl, rfl, p0_103, p1_103, p2_103, p3_103⟩ := hq_103
                show W p l e (gRm 4 92) s m args below meth c _ _ 0 0 Q (F0 m 257 ls [])
                have hP : gWd D (mdT k ad) (va_up (va_up (va_up (va_up (va_up (va_up (va_up (va_up (va_up (va_up (va_up (va_up (va_up v 6 w6_103) 7 w7_103) 8 w8_103) 9 w9_103) 10 w10_103) 11 w11_103) 16 (v 16)) 20 (v 20)) 21 (v 21)) 27 (v 27)) 17 (v 17)) 15 ((v 15) + 1)) 19 (v 19)) (va_up (va_up (va_up (va_up (va_up (va_up (va_up (va_up (va_up f 11 (f 11)) 12 (f 12)) 17 (f 17)) 14 (f 14)) 16 (f 16)) 5 (u1 (f 5) (v 15) z_88)) 6 (u1 (f 6) (v 15) 1)) 7 (u1 (f 7) (v 15) z_99)) 8 (u1 (f 8) (v 15) 0)) (va_up g 0 b0_103) H := ⟨hP.1, (gF_up (V := mdV) (F := mdF) (gF_up (V := mdV) (F := mdF) (gF_up (V := mdV) (F := mdF) (gF_up (V := mdV) (F := mdF) (gF_up (V := mdV) (F := mdF) (gF_up (V := mdV) (F := mdF) (gF_up (V := mdV) (F := mdF) (gF_up (V := mdV) (F := mdF) (gF_up (V := mdV) (F := mdF) (gR_up (V := mdV) (F := mdF) (gR_up (V := mdV) (F := mdF) (gR_up (V := mdV) (F := mdF) (gR_up (V := mdV) (F := mdF) (gR_up (V := mdV) (F := mdF) (gR_up (V := mdV) (F := mdF) (gR_up (V := mdV) (F := mdF) (gR_up (V := mdV) (F := mdF) (gR_up (V := mdV) (F := mdF) (gR_up (V := mdV) (F := mdF) (gR_up (V := mdV) (F := mdF) (gR_up (V := mdV) (F := mdF) (gR_up (V := mdV) (F := mdF) ⟨hok.1, hok.2⟩ 6 (hP.2.1 6)) 7 (hP.2.1 7)) 8 (hP.2.1 8)) 9 (hP.2.1 9)) 10 (hP.2.1 10)) 11 (hP.2.1 11)) 16 (hP.2.1 16)) 20 (hP.2.1 20)) 21 (hP.2.1 21)) 27 (hP.2.1 27)) 17 (hP.2.1 17)) 15 (hP.2.1 15)) 19 (hP.2.1 19)) 11 (hP.2.2 11)) 12 (hP.2.2 12)) 17 (hP.2.2 17)) 14 (hP.2.2 14)) 16 (hP.2.2 16)) 5 (hP.2.2 5)) 6 (hP.2.2 6)) 7 (hP.2.2 7)) 8 (hP.2.2 8))⟩
                replace p0_103 : w9_99 ≤ w9_103 ∧ w9_103 ≤ w10_103 ∧ w10_103 ≤ (v 3) := p0_103
                replace p1_103 : w8_103 ≠ 0 → w9_103 < w10_103 := p1_103
                replace p2_103 : 0 < w6_99 → 0 < w6_103 := p2_103
                replace p3_103 : w6_103 = 0 → w6_99 = 0 := p3_103
                have rw6_103 : 0 ≤ w6_103 ∧ w6_103 ≤ 5 := hP.2.1 6
                have rw7_103 : 0 ≤ w7_103 ∧ w7_103 ≤ 700 := hP.2.1 7
                have rw8_103 : 0 ≤ w8_103 ∧ w8_103 ≤ 4 := hP.2.1 8
                have rw9_103 : 0 ≤ w9_103 ∧ w9_103 ≤ 700 := hP.2.1 9
                have rw10_103 : 0 ≤ w10_103 ∧ w10_103 ≤ 700 := hP.2.1 10
                have rw11_103 : 0 ≤ w11_103 ∧ w11_103 ≤ 999999 := hP.2.1 11
                exact g_vret hQ C hr hlocks hP hS dX11_readLaw_257 ⟨w6_103, w7_103, w8_103, w9_103, w10_103, w11_103, (v 16), (v 20), (v 21), (v 27), (v 17), ((v 15) + 1), (v 19), (f 11), (f 12), (f 17), (f 14), (f 16), (u1 (f 5) (v 15) z_88), (u1 (f 6) (v 15) 1), (u1 (f 7) (v 15) z_99), (u1 (f 8) (v 15) 0), b0_103, rfl, rfl, rfl, rfl, (by first | omega | (split <;> omega)), (by first | omega | (split <;> omega)), (by first | omega | (split <;> omega)), (by first | (intro h; exfalso; omega) | exact fun _ => hrp | exact fun _ => hX (by omega))⟩
            · refine lv_aload_n hx hb dX11_readLaw_139 rfl (lv_at hl 0 rfl) ?_
              refine lv_iconst (v := iI 0) hx hb dX11_readLaw_140 rfl ?_
              refine lv_sipush (v := iI 999) hx hb dX11_readLaw_141 (by decide) ?_
              refine g_cv (As := [.int (iI 0), .int (iI 999)]) (rest := [.int (iI (v 15)), .ref (ad 9)]) (n := 2) C hml (m_X11_numberOf l D k A ad hD (va_up (va_up (va_up (va_up (va_up (va_up (va_up (va_up (va_up (va_up (va_up (va_up (va_up v 6 w6_99) 7 w7_99) 8 w8_99) 9 w9_99) 10 w10_99) 11 w11_99) 16 (v 16)) 20 (v 20)) 21 (v 21)) 27 (v 27)) 17 (v 17)) 15 (v 15)) 19 (v 19)) (va_up (va_up (va_up (va_up (va_up (va_up (va_up (va_up (va_up f 11 (f 11)) 12 (f 12)) 17 (f 17)) 14 (f 14)) 16 (f 16)) 5 (u1 (f 5) (v 15) z_88)) 6 (u1 (f 6) (v 15) 1)) 7 (u1 (f 7) (v 15) z_99)) 8 (f 8)) (va_up g 0 b0_99) 0 999 (by decide) (by decide) (show w9_99 ≤ w10_99 ∧ w10_99 ≤ (v 3) ∧ (w8_99 ≠ 0 → w9_99 < w10_99) from by omega) (show 0 ≤ (0 : Int) ∧ (0 : Int) ≤ (999 : Int) ∧ (999 : Int) ≤ 999 from by omega)) mM_X11_236 mI_X11_numberOf mE_X11_numberOf mN_X11 mC_X11_numberOf (by decide +kernel) 0 (ci := 11) rfl rfl hP hS (fun _ h => h) ⟨Nat.le_of_ble_eq_true rfl, Nat.le_of_ble_eq_true rfl⟩ ⟨Nat.zero_le _, Nat.zero_le _⟩ hl.1 rfl rfl (Nat.le_of_ble_eq_true rfl) dX11_readLaw_144 (fun r_104 v_104 f_104 g_104 H locs hq_104 hP _ hS => ?_)
              obtain ⟨z_104, w6_104, w7_104, w8_104, w9_104, w10_104, w11_104, b0_104, rfl, rfl, rfl, rfl, p0_104, p1_104, p2_104, p3_104⟩ := hq_104
              show W p l e (gRm 4 92) s m args below meth c _ _ 0 0 Q (F0 m 147 ls [.int (iI z_104), .int (iI (v 15)), .ref (ad 9)])
              have hP : gWd D (mdT k ad) (va_up (va_up (va_up (va_up (va_up (va_up (va_up (va_up (va_up (va_up (va_up (va_up (va_up v 6 w6_104) 7 w7_104) 8 w8_104) 9 w9_104) 10 w10_104) 11 w11_104) 16 (v 16)) 20 (v 20)) 21 (v 21)) 27 (v 27)) 17 (v 17)) 15 (v 15)) 19 (v 19)) (va_up (va_up (va_up (va_up (va_up (va_up (va_up (va_up (va_up f 11 (f 11)) 12 (f 12)) 17 (f 17)) 14 (f 14)) 16 (f 16)) 5 (u1 (f 5) (v 15) z_88)) 6 (u1 (f 6) (v 15) 1)) 7 (u1 (f 7) (v 15) z_99)) 8 (f 8)) (va_up g 0 b0_104) H := ⟨hP.1, (gF_up (V := mdV) (F := mdF) (gF_up (V := mdV) (F := mdF) (gF_up (V := mdV) (F := mdF) (gF_up (V := mdV) (F := mdF) (gF_up (V := mdV) (F := mdF) (gF_up (V := mdV) (F := mdF) (gF_up (V := mdV) (F := mdF) (gF_up (V := mdV) (F := mdF) (gF_up (V := mdV) (F := mdF) (gR_up (V := mdV) (F := mdF) (gR_up (V := mdV) (F := mdF) (gR_up (V := mdV) (F := mdF) (gR_up (V := mdV) (F := mdF) (gR_up (V := mdV) (F := mdF) (gR_up (V := mdV) (F := mdF) (gR_up (V := mdV) (F := mdF) (gR_up (V := mdV) (F := mdF) (gR_up (V := mdV) (F := mdF) (gR_up (V := mdV) (F := mdF) (gR_up (V := mdV) (F := mdF) (gR_up (V := mdV) (F := mdF) (gR_up (V := mdV) (F := mdF) ⟨hok.1, hok.2⟩ 6 (hP.2.1 6)) 7 (hP.2.1 7)) 8 (hP.2.1 8)) 9 (hP.2.1 9)) 10 (hP.2.1 10)) 11 (hP.2.1 11)) 16 (hP.2.1 16)) 20 (hP.2.1 20)) 21 (hP.2.1 21)) 27 (hP.2.1 27)) 17 (hP.2.1 17)) 15 (hP.2.1 15)) 19 (hP.2.1 19)) 11 (hP.2.2 11)) 12 (hP.2.2 12)) 17 (hP.2.2 17)) 14 (hP.2.2 14)) 16 (hP.2.2 16)) 5 (hP.2.2 5)) 6 (hP.2.2 6)) 7 (hP.2.2 7)) 8 (hP.2.2 8))⟩
              replace p0_104 : (0 : Int) ≤ z_104 ∧ z_104 ≤ (999 : Int) := p0_104
              replace p1_104 : w9_99 ≤ w9_104 ∧ w9_104 ≤ w10_104 ∧ w10_104 ≤ (v 3) := p1_104
              replace p2_104 : w8_104 ≠ 0 → w9_104 < w10_104 := p2_104
              replace p3_104 : 0 < w6_99 → 0 < w6_104 := p3_104
              have rw6_104 : 0 ≤ w6_104 ∧ w6_104 ≤ 5 := hP.2.1 6
              have rw7_104 : 0 ≤ w7_104 ∧ w7_104 ≤ 700 := hP.2.1 7
              have rw8_104 : 0 ≤ w8_104 ∧ w8_104 ≤ 4 := hP.2.1 8
              have rw9_104 : 0 ≤ w9_104 ∧ w9_104 ≤ 700 := hP.2.1 9
              have rw10_104 : 0 ≤ w10_104 ∧ w10_104 ≤ 700 := hP.2.1 10
              have rw11_104 : 0 ≤ w11_104 ∧ w11_104 ≤ 999999 := hP.2.1 11
              have hz_104 : inR z_104 := (by first | omega | (rw [p0_104]; split <;> omega))
              refine lv_goto (tgt := 151) hx hb dX11_readLaw_147 (by decide) ?_
              refine mdS_newRest (f1 := (va_up (va_up (va_up (va_up (va_up (va_up (va_up (va_up (va_up f 11 (f 11)) 12 (f 12)) 17 (f 17)) 14 (f 14)) 16 (f 16)) 5 (u1 (f 5) (v 15) z_88)) 6 (u1 (f 6) (v 15) 1)) 7 (u1 (f 7) (v 15) z_99)) 8 (u1 (f 8) (v 15) z_104))) C hP hD hS (by omega) (by omega) (by omega) rfl (Or.inr (gF_up (V := mdV) (F := mdF) (gF_up (V := mdV) (F := mdF) (gF_up (V := mdV) (F := mdF) (gF_up (V := mdV) (F := mdF) (gF_up (V := mdV) (F := mdF) (gF_up (V := mdV) (F := mdF) (gF_up (V := mdV) (F := mdF) (gF_up (V := mdV) (F := mdF) (gF_up (V := mdV) (F := mdF) (gR_up (V := mdV) (F := mdF) (gR_up (V := mdV) (F := mdF) (gR_up (V := mdV) (F := mdF) (gR_up (V := mdV) (F := mdF) (gR_up (V := mdV) (F := mdF) (gR_up (V := mdV) (F := mdF) (gR_up (V := mdV) (F := mdF) (gR_up (V := mdV) (F := mdF) (gR_up (V := mdV) (F := mdF) (gR_up (V := mdV) (F := mdF) (gR_up (V := mdV) (F := mdF) (gR_up (V := mdV) (F := mdF) (gR_up (V := mdV) (F := mdF) ⟨hok.1, hok.2⟩ 6 (hP.2.1 6)) 7 (hP.2.1 7)) 8 (hP.2.1 8)) 9 (hP.2.1 9)) 10 (hP.2.1 10)) 11 (hP.2.1 11)) 16 (hP.2.1 16)) 20 (hP.2.1 20)) 21 (hP.2.1 21)) 27 (hP.2.1 27)) 17 (hP.2.1 17)) 15 (hP.2.1 15)) 19 (hP.2.1 19)) 11 (hP.2.2 11)) 12 (hP.2.2 12)) 17 (hP.2.2 17)) 14 (hP.2.2 14)) 16 (hP.2.2 16)) 5 (hP.2.2 5)) 6 (hP.2.2 6)) 7 (hP.2.2 7)) 8 (u1_rng (hP.2.2 8) (show 0 ≤ z_104 ∧ z_104 ≤ 999 from (by omega))))) dX11_readLaw_151 (fun H locs hP hS => ?_)
              refine lv_aload_n hx hb dX11_readLaw_152 rfl (lv_at hl 0 rfl) ?_
              refine lv_dup hx hb dX11_readLaw_153 rfl ?_
              refine mdG_newRounds C hP mF_X11_207 dX11_readLaw_154 ?_
              show W p l e (gRm 4 92) s m args below meth c _ _ 0 0 Q (F0 m 157 ls [.int (iI (v 15)), .ref (ad 0)])
              refine lv_iconst (v := iI 1) hx hb dX11_readLaw_157 rfl ?_
              refine gi_add (z := ((v 15) + 1)) hx hb dX11_readLaw_158 rfl ?_
              refine mdP_newRounds (v1 := (va_up (va_up (va_up (va_up (va_up (va_up (va_up (va_up (va_up (va_up (va_up (va_up (va_up v 6 w6_104) 7 w7_104) 8 w8_104) 9 w9_104) 10 w10_104) 11 w11_104) 16 (v 16)) 20 (v 20)) 21 (v 21)) 27 (v 27)) 17 (v 17)) 15 ((v 15) + 1)) 19 (v 19))) C hP hD hS mF_X11_207 (by omega) rfl (Or.inr (gF_up (V := mdV) (F := mdF) (gF_up (V := mdV) (F := mdF) (gF_up (V := mdV) (F := mdF) (gF_up (V := mdV) (F := mdF) (gF_up (V := mdV) (F := mdF) (gF_up (V := mdV) (F := mdF) (gF_up (V := mdV) (F := mdF) (gF_up (V := mdV) (F := mdF) (gF_up (V := mdV) (F := mdF) (gR_up (V := mdV) (F := mdF) (gR_up (V := mdV) (F := mdF) (gR_up (V := mdV) (F := mdF) (gR_up (V := mdV) (F := mdF) (gR_up (V := mdV) (F := mdF) (gR_up (V := mdV) (F := mdF) (gR_up (V := mdV) (F := mdF) (gR_up (V := mdV) (F := mdF) (gR_up (V := mdV) (F := mdF) (gR_up (V := mdV) (F := mdF) (gR_up (V := mdV) (F := mdF) (gR_up (V := mdV) (F := mdF) (gR_up (V := mdV) (F := mdF) ⟨hok.1, hok.2⟩ 6 (hP.2.1 6)) 7 (hP.2.1 7)) 8 (hP.2.1 8)) 9 (hP.2.1 9)) 10 (hP.2.1 10)) 11 (hP.2.1 11)) 16 (hP.2.1 16)) 20 (hP.2.1 20)) 21 (hP.2.1 21)) 27 (hP.2.1 27)) 17 (hP.2.1 17)) 15 (show 0 ≤ ((v 15) + 1) ∧ ((v 15) + 1) ≤ 4 from by omega)) 19 (hP.2.1 19)) 11 (hP.2.2 11)) 12 (hP.2.2 12)) 17 (hP.2.2 17)) 14 (hP.2.2 14)) 16 (hP.2.2 16)) 5 (hP.2.2 5)) 6 (hP.2.2 6)) 7 (hP.2.2 7)) 8 (hP.2.2 8))) dX11_readLaw_159 (fun H locs hP hS => ?_)
              refine lv_goto (tgt := 246) hx hb dX11_readLaw_162 (by decide) ?_
              refine lv_aload_n hx hb dX11_readLaw_246 rfl (lv_at hl 0 rfl) ?_
              refine mdG_bad C hP mF_X11_188 dX11_readLaw_247 ?_
              show W p l e (gRm 4 92) s m args below meth c _ _ 0 0 Q (F0 m 250 ls [.int (iI w6_104)])
              have r_105 : 0 ≤ w6_104 ∧ w6_104 ≤ 5 := hP.2.1 6
              refine gi_zne (tgt := 257) hx hb dX11_readLaw_250 (by decide) (by omega) (fun c_106 => ?_) (fun c_106 => ?_)
              · exact g_vret hQ C hr hlocks hP hS dX11_readLaw_257 ⟨w6_104, w7_104, w8_104, w9_104, w10_104, w11_104, (v 16), (v 20), (v 21), (v 27), (v 17), ((v 15) + 1), (v 19), (f 11), (f 12), (f 17), (f 14), (f 16), (u1 (f 5) (v 15) z_88), (u1 (f 6) (v 15) 1), (u1 (f 7) (v 15) z_99), (u1 (f 8) (v 15) z_104), b0_104, rfl, rfl, rfl, rfl, (by first | omega | (split <;> omega)), (by first | omega | (split <;> omega)), (by first | omega | (split <;> omega)), (by first | (intro h; exfalso; omega) | exact fun _ => hrp | exact fun _ => hX (by omega))⟩
              · refine lv_aload_n hx hb dX11_readLaw_253 rfl (lv_at hl 0 rfl) ?_
                refine g_cv (As := []) (rest := []) (n := 0) C hml (m_X11_ends l D k A ad hD (va_up (va_up (va_up (va_up (va_up (va_up (va_up (va_up (va_up (va_up (va_up (va_up (va_up v 6 w6_104) 7 w7_104) 8 w8_104) 9 w9_104) 10 w10_104) 11 w11_104) 16 (v 16)) 20 (v 20)) 21 (v 21)) 27 (v 27)) 17 (v 17)) 15 ((v 15) + 1)) 19 (v 19)) (va_up (va_up (va_up (va_up (va_up (va_up (va_up (va_up (va_up f 11 (f 11)) 12 (f 12)) 17 (f 17)) 14 (f 14)) 16 (f 16)) 5 (u1 (f 5) (v 15) z_88)) 6 (u1 (f 6) (v 15) 1)) 7 (u1 (f 7) (v 15) z_99)) 8 (u1 (f 8) (v 15) z_104)) (va_up g 0 b0_104) (show w9_104 ≤ w10_104 ∧ w10_104 ≤ (v 3) ∧ (w8_104 ≠ 0 → w9_104 < w10_104) from by omega)) mM_X11_246 mI_X11_ends mE_X11_ends mN_X11 mC_X11_ends (by decide +kernel) 0 (ci := 11) rfl rfl hP hS (fun _ h => h) ⟨Nat.le_of_ble_eq_true rfl, Nat.le_of_ble_eq_true rfl⟩ ⟨Nat.zero_le _, Nat.zero_le _⟩ hl.1 rfl rfl (Nat.le_of_ble_eq_true rfl) dX11_readLaw_254 (fun r_107 v_107 f_107 g_107 H locs hq_107 hP _ hS => ?_)
                obtain ⟨w6_107, w7_107, w8_107, w9_107, w10_107, w11_107, b0_107, rfl, rfl, rfl, rfl, p0_107, p1_107, p2_107, p3_107⟩ := hq_107
                show W p l e (gRm 4 92) s m args below meth c _ _ 0 0 Q (F0 m 257 ls [])
                have hP : gWd D (mdT k ad) (va_up (va_up (va_up (va_up (va_up (va_up (va_up (va_up (va_up (va_up (va_up (va_up (va_up v 6 w6_107) 7 w7_107) 8 w8_107) 9 w9_107) 10 w10_107) 11 w11_107) 16 (v 16)) 20 (v 20)) 21 (v 21)) 27 (v 27)) 17 (v 17)) 15 ((v 15) + 1)) 19 (v 19)) (va_up (va_up (va_up (va_up (va_up (va_up (va_up (va_up (va_up f 11 (f 11)) 12 (f 12)) 17 (f 17)) 14 (f 14)) 16 (f 16)) 5 (u1 (f 5) (v 15) z_88)) 6 (u1 (f 6) (v 15) 1)) 7 (u1 (f 7) (v 15) z_99)) 8 (u1 (f 8) (v 15) z_104)) (va_up g 0 b0_107) H := ⟨hP.1, (gF_up (V := mdV) (F := mdF) (gF_up (V := mdV) (F := mdF) (gF_up (V := mdV) (F := mdF) (gF_up (V := mdV) (F := mdF) (gF_up (V := mdV) (F := mdF) (gF_up (V := mdV) (F := mdF) (gF_up (V := mdV) (F := mdF) (gF_up (V := mdV) (F := mdF) (gF_up (V := mdV) (F := mdF) (gR_up (V := mdV) (F := mdF) (gR_up (V := mdV) (F := mdF) (gR_up (V := mdV) (F := mdF) (gR_up (V := mdV) (F := mdF) (gR_up (V := mdV) (F := mdF) (gR_up (V := mdV) (F := mdF) (gR_up (V := mdV) (F := mdF) (gR_up (V := mdV) (F := mdF) (gR_up (V := mdV) (F := mdF) (gR_up (V := mdV) (F := mdF) (gR_up (V := mdV) (F := mdF) (gR_up (V := mdV) (F := mdF) (gR_up (V := mdV) (F := mdF) ⟨hok.1, hok.2⟩ 6 (hP.2.1 6)) 7 (hP.2.1 7)) 8 (hP.2.1 8)) 9 (hP.2.1 9)) 10 (hP.2.1 10)) 11 (hP.2.1 11)) 16 (hP.2.1 16)) 20 (hP.2.1 20)) 21 (hP.2.1 21)) 27 (hP.2.1 27)) 17 (hP.2.1 17)) 15 (hP.2.1 15)) 19 (hP.2.1 19)) 11 (hP.2.2 11)) 12 (hP.2.2 12)) 17 (hP.2.2 17)) 14 (hP.2.2 14)) 16 (hP.2.2 16)) 5 (hP.2.2 5)) 6 (hP.2.2 6)) 7 (hP.2.2 7)) 8 (hP.2.2 8))⟩
                replace p0_107 : w9_104 ≤ w9_107 ∧ w9_107 ≤ w10_107 ∧ w10_107 ≤ (v 3) := p0_107
                replace p1_107 : w8_107 ≠ 0 → w9_107 < w10_107 := p1_107
                replace p2_107 : 0 < w6_104 → 0 < w6_107 := p2_107
                replace p3_107 : w6_107 = 0 → w6_104 = 0 := p3_107
                have rw6_107 : 0 ≤ w6_107 ∧ w6_107 ≤ 5 := hP.2.1 6
                have rw7_107 : 0 ≤ w7_107 ∧ w7_107 ≤ 700 := hP.2.1 7
                have rw8_107 : 0 ≤ w8_107 ∧ w8_107 ≤ 4 := hP.2.1 8
                have rw9_107 : 0 ≤ w9_107 ∧ w9_107 ≤ 700 := hP.2.1 9
                have rw10_107 : 0 ≤ w10_107 ∧ w10_107 ≤ 700 := hP.2.1 10
                have rw11_107 : 0 ≤ w11_107 ∧ w11_107 ≤ 999999 := hP.2.1 11
                exact g_vret hQ C hr hlocks hP hS dX11_readLaw_257 ⟨w6_107, w7_107, w8_107, w9_107, w10_107, w11_107, (v 16), (v 20), (v 21), (v 27), (v 17), ((v 15) + 1), (v 19), (f 11), (f 12), (f 17), (f 14), (f 16), (u1 (f 5) (v 15) z_88), (u1 (f 6) (v 15) 1), (u1 (f 7) (v 15) z_99), (u1 (f 8) (v 15) z_104), b0_107, rfl, rfl, rfl, rfl, (by first | omega | (split <;> omega)), (by first | omega | (split <;> omega)), (by first | omega | (split <;> omega)), (by first | (intro h; exfalso; omega) | exact fun _ => hrp | exact fun _ => hX (by omega))⟩
        · refine lv_aload_n hx hb dX11_readLaw_82 rfl (lv_at hl 0 rfl) ?_
          refine lv_iconst (v := iI 1) hx hb dX11_readLaw_83 rfl ?_
          refine lv_bipush (v := iI 9) hx hb dX11_readLaw_84 (by decide) ?_
          refine g_cv (As := [.int (iI 1), .int (iI 9)]) (rest := [.int (iI (v 15)), .ref (ad 7)]) (n := 2) C hml (m_X11_numberOf l D k A ad hD (va_up (va_up (va_up (va_up (va_up (va_up (va_up (va_up (va_up (va_up (va_up (va_up (va_up v 6 w6_88) 7 w7_88) 8 w8_88) 9 w9_88) 10 w10_88) 11 w11_88) 16 (v 16)) 20 (v 20)) 21 (v 21)) 27 (v 27)) 17 (v 17)) 15 (v 15)) 19 (v 19)) (va_up (va_up (va_up (va_up (va_up (va_up (va_up (va_up (va_up f 11 (f 11)) 12 (f 12)) 17 (f 17)) 14 (f 14)) 16 (f 16)) 5 (u1 (f 5) (v 15) z_88)) 6 (f 6)) 7 (f 7)) 8 (f 8)) (va_up g 0 b0_88) 1 9 (by decide) (by decide) (show w9_88 ≤ w10_88 ∧ w10_88 ≤ (v 3) ∧ (w8_88 ≠ 0 → w9_88 < w10_88) from by omega) (show 0 ≤ (1 : Int) ∧ (1 : Int) ≤ (9 : Int) ∧ (9 : Int) ≤ 999 from by omega)) mM_X11_236 mI_X11_numberOf mE_X11_numberOf mN_X11 mC_X11_numberOf (by decide +kernel) 0 (ci := 11) rfl rfl hP hS (fun _ h => h) ⟨Nat.le_of_ble_eq_true rfl, Nat.le_of_ble_eq_true rfl⟩ ⟨Nat.zero_le _, Nat.zero_le _⟩ hl.1 rfl rfl (Nat.le_of_ble_eq_true rfl) dX11_readLaw_86 (fun r_108 v_108 f_108 g_108 H locs hq_108 hP _ hS => ?_)
          obtain ⟨z_108, w6_108, w7_108, w8_108, w9_108, w10_108, w11_108, b0_108, rfl, rfl, rfl, rfl, p0_108, p1_108, p2_108, p3_108⟩ := hq_108
          show W p l e (gRm 4 92) s m args below meth c _ _ 0 0 Q (F0 m 89 ls [.int (iI z_108), .int (iI (v 15)), .ref (ad 7)])
          have hP : gWd D (mdT k ad) (va_up (va_up (va_up (va_up (va_up (va_up (va_up (va_up (va_up (va_up (va_up (va_up (va_up v 6 w6_108) 7 w7_108) 8 w8_108) 9 w9_108) 10 w10_108) 11 w11_108) 16 (v 16)) 20 (v 20)) 21 (v 21)) 27 (v 27)) 17 (v 17)) 15 (v 15)) 19 (v 19)) (va_up (va_up (va_up (va_up (va_up (va_up (va_up (va_up (va_up f 11 (f 11)) 12 (f 12)) 17 (f 17)) 14 (f 14)) 16 (f 16)) 5 (u1 (f 5) (v 15) z_88)) 6 (f 6)) 7 (f 7)) 8 (f 8)) (va_up g 0 b0_108) H := ⟨hP.1, (gF_up (V := mdV) (F := mdF) (gF_up (V := mdV) (F := mdF) (gF_up (V := mdV) (F := mdF) (gF_up (V := mdV) (F := mdF) (gF_up (V := mdV) (F := mdF) (gF_up (V := mdV) (F := mdF) (gF_up (V := mdV) (F := mdF) (gF_up (V := mdV) (F := mdF) (gF_up (V := mdV) (F := mdF) (gR_up (V := mdV) (F := mdF) (gR_up (V := mdV) (F := mdF) (gR_up (V := mdV) (F := mdF) (gR_up (V := mdV) (F := mdF) (gR_up (V := mdV) (F := mdF) (gR_up (V := mdV) (F := mdF) (gR_up (V := mdV) (F := mdF) (gR_up (V := mdV) (F := mdF) (gR_up (V := mdV) (F := mdF) (gR_up (V := mdV) (F := mdF) (gR_up (V := mdV) (F := mdF) (gR_up (V := mdV) (F := mdF) (gR_up (V := mdV) (F := mdF) ⟨hok.1, hok.2⟩ 6 (hP.2.1 6)) 7 (hP.2.1 7)) 8 (hP.2.1 8)) 9 (hP.2.1 9)) 10 (hP.2.1 10)) 11 (hP.2.1 11)) 16 (hP.2.1 16)) 20 (hP.2.1 20)) 21 (hP.2.1 21)) 27 (hP.2.1 27)) 17 (hP.2.1 17)) 15 (hP.2.1 15)) 19 (hP.2.1 19)) 11 (hP.2.2 11)) 12 (hP.2.2 12)) 17 (hP.2.2 17)) 14 (hP.2.2 14)) 16 (hP.2.2 16)) 5 (hP.2.2 5)) 6 (hP.2.2 6)) 7 (hP.2.2 7)) 8 (hP.2.2 8))⟩
          replace p0_108 : (1 : Int) ≤ z_108 ∧ z_108 ≤ (9 : Int) := p0_108
          replace p1_108 : w9_88 ≤ w9_108 ∧ w9_108 ≤ w10_108 ∧ w10_108 ≤ (v 3) := p1_108
          replace p2_108 : w8_108 ≠ 0 → w9_108 < w10_108 := p2_108
          replace p3_108 : 0 < w6_88 → 0 < w6_108 := p3_108
          have rw6_108 : 0 ≤ w6_108 ∧ w6_108 ≤ 5 := hP.2.1 6
          have rw7_108 : 0 ≤ w7_108 ∧ w7_108 ≤ 700 := hP.2.1 7
          have rw8_108 : 0 ≤ w8_108 ∧ w8_108 ≤ 4 := hP.2.1 8
          have rw9_108 : 0 ≤ w9_108 ∧ w9_108 ≤ 700 := hP.2.1 9
          have rw10_108 : 0 ≤ w10_108 ∧ w10_108 ≤ 700 := hP.2.1 10
          have rw11_108 : 0 ≤ w11_108 ∧ w11_108 ≤ 999999 := hP.2.1 11
          have hz_108 : inR z_108 := (by first | omega | (rw [p0_108]; split <;> omega))
          refine lv_goto (tgt := 93) hx hb dX11_readLaw_89 (by decide) ?_
          refine mdS_newTries (f1 := (va_up (va_up (va_up (va_up (va_up (va_up (va_up (va_up (va_up f 11 (f 11)) 12 (f 12)) 17 (f 17)) 14 (f 14)) 16 (f 16)) 5 (u1 (f 5) (v 15) z_88)) 6 (u1 (f 6) (v 15) z_108)) 7 (f 7)) 8 (f 8))) C hP hD hS (by omega) (by omega) (by omega) rfl (Or.inr (gF_up (V := mdV) (F := mdF) (gF_up (V := mdV) (F := mdF) (gF_up (V := mdV) (F := mdF) (gF_up (V := mdV) (F := mdF) (gF_up (V := mdV) (F := mdF) (gF_up (V := mdV) (F := mdF) (gF_up (V := mdV) (F := mdF) (gF_up (V := mdV) (F := mdF) (gF_up (V := mdV) (F := mdF) (gR_up (V := mdV) (F := mdF) (gR_up (V := mdV) (F := mdF) (gR_up (V := mdV) (F := mdF) (gR_up (V := mdV) (F := mdF) (gR_up (V := mdV) (F := mdF) (gR_up (V := mdV) (F := mdF) (gR_up (V := mdV) (F := mdF) (gR_up (V := mdV) (F := mdF) (gR_up (V := mdV) (F := mdF) (gR_up (V := mdV) (F := mdF) (gR_up (V := mdV) (F := mdF) (gR_up (V := mdV) (F := mdF) (gR_up (V := mdV) (F := mdF) ⟨hok.1, hok.2⟩ 6 (hP.2.1 6)) 7 (hP.2.1 7)) 8 (hP.2.1 8)) 9 (hP.2.1 9)) 10 (hP.2.1 10)) 11 (hP.2.1 11)) 16 (hP.2.1 16)) 20 (hP.2.1 20)) 21 (hP.2.1 21)) 27 (hP.2.1 27)) 17 (hP.2.1 17)) 15 (hP.2.1 15)) 19 (hP.2.1 19)) 11 (hP.2.2 11)) 12 (hP.2.2 12)) 17 (hP.2.2 17)) 14 (hP.2.2 14)) 16 (hP.2.2 16)) 5 (hP.2.2 5)) 6 (u1_rng (hP.2.2 6) (show 0 ≤ z_108 ∧ z_108 ≤ 9 from (by omega)))) 7 (hP.2.2 7)) 8 (hP.2.2 8))) dX11_readLaw_93 (fun H locs hP hS => ?_)
          refine lv_aload_n hx hb dX11_readLaw_94 rfl (lv_at hl 0 rfl) ?_
          refine mdG_newSeconds C hP mF_X11_39 dX11_readLaw_95 ?_
          refine lv_aload_n hx hb dX11_readLaw_98 rfl (lv_at hl 0 rfl) ?_
          refine mdG_newRounds C hP mF_X11_207 dX11_readLaw_99 ?_
          show W p l e (gRm 4 92) s m args below meth c _ _ 0 0 Q (F0 m 102 ls [.int (iI (v 15)), .ref (ad 8)])
          refine lv_aload_n hx hb dX11_readLaw_102 rfl (lv_at hl 0 rfl) ?_
          refine mdG_bad C hP mF_X11_188 dX11_readLaw_103 ?_
          show W p l e (gRm 4 92) s m args below meth c _ _ 0 0 Q (F0 m 106 ls [.int (iI w6_108), .int (iI (v 15)), .ref (ad 8)])
          have r_109 : 0 ≤ w6_108 ∧ w6_108 ≤ 5 := hP.2.1 6
          refine gi_zne (tgt := 121) hx hb dX11_readLaw_106 (by decide) (by omega) (fun c_110 => ?_) (fun c_110 => ?_)
          · refine lv_bipush (v := iI 10) hx hb dX11_readLaw_121 (by decide) ?_
            refine mdS_newSeconds (f1 := (va_up (va_up (va_up (va_up (va_up (va_up (va_up (va_up (va_up f 11 (f 11)) 12 (f 12)) 17 (f 17)) 14 (f 14)) 16 (f 16)) 5 (u1 (f 5) (v 15) z_88)) 6 (u1 (f 6) (v 15) z_108)) 7 (u1 (f 7) (v 15) 10)) 8 (f 8))) C hP hD hS (by omega) (by omega) (by decide) rfl (Or.inr (gF_up (V := mdV) (F := mdF) (gF_up (V := mdV) (F := mdF) (gF_up (V := mdV) (F := mdF) (gF_up (V := mdV) (F := mdF) (gF_up (V := mdV) (F := mdF) (gF_up (V := mdV) (F := mdF) (gF_up (V := mdV) (F := mdF) (gF_up (V := mdV) (F := mdF) (gF_up (V := mdV) (F := mdF) (gR_up (V := mdV) (F := mdF) (gR_up (V := mdV) (F := mdF) (gR_up (V := mdV) (F := mdF) (gR_up (V := mdV) (F := mdF) (gR_up (V := mdV) (F := mdF) (gR_up (V := mdV) (F := mdF) (gR_up (V := mdV) (F := mdF) (gR_up (V := mdV) (F := mdF) (gR_up (V := mdV) (F := mdF) (gR_up (V := mdV) (F := mdF) (gR_up (V := mdV) (F := mdF) (gR_up (V := mdV) (F := mdF) (gR_up (V := mdV) (F := mdF) ⟨hok.1, hok.2⟩ 6 (hP.2.1 6)) 7 (hP.2.1 7)) 8 (hP.2.1 8)) 9 (hP.2.1 9)) 10 (hP.2.1 10)) 11 (hP.2.1 11)) 16 (hP.2.1 16)) 20 (hP.2.1 20)) 21 (hP.2.1 21)) 27 (hP.2.1 27)) 17 (hP.2.1 17)) 15 (hP.2.1 15)) 19 (hP.2.1 19)) 11 (hP.2.2 11)) 12 (hP.2.2 12)) 17 (hP.2.2 17)) 14 (hP.2.2 14)) 16 (hP.2.2 16)) 5 (hP.2.2 5)) 6 (hP.2.2 6)) 7 (u1_rng (hP.2.2 7) (show 0 ≤ 10 ∧ 10 ≤ 999 from (by decide)))) 8 (hP.2.2 8))) dX11_readLaw_123 (fun H locs hP hS => ?_)
            refine lv_aload_n hx hb dX11_readLaw_124 rfl (lv_at hl 0 rfl) ?_
            refine mdG_newRest C hP mF_X11_42 dX11_readLaw_125 ?_
            refine lv_aload_n hx hb dX11_readLaw_128 rfl (lv_at hl 0 rfl) ?_
            refine mdG_newRounds C hP mF_X11_207 dX11_readLaw_129 ?_
            show W p l e (gRm 4 92) s m args below meth c _ _ 0 0 Q (F0 m 132 ls [.int (iI (v 15)), .ref (ad 9)])
            refine lv_aload_n hx hb dX11_readLaw_132 rfl (lv_at hl 0 rfl) ?_
            refine mdG_bad C hP mF_X11_188 dX11_readLaw_133 ?_
            show W p l e (gRm 4 92) s m args below meth c _ _ 0 0 Q (F0 m 136 ls [.int (iI w6_108), .int (iI (v 15)), .ref (ad 9)])
            refine gi_zne (tgt := 150) hx hb dX11_readLaw_136 (by decide) (by omega) (fun c_111 => ?_) (fun c_111 => ?_)
            · refine lv_iconst (v := iI 0) hx hb dX11_readLaw_150 rfl ?_
              refine mdS_newRest (f1 := (va_up (va_up (va_up (va_up (va_up (va_up (va_up (va_up (va_up f 11 (f 11)) 12 (f 12)) 17 (f 17)) 14 (f 14)) 16 (f 16)) 5 (u1 (f 5) (v 15) z_88)) 6 (u1 (f 6) (v 15) z_108)) 7 (u1 (f 7) (v 15) 10)) 8 (u1 (f 8) (v 15) 0))) C hP hD hS (by omega) (by omega) (by decide) rfl (Or.inr (gF_up (V := mdV) (F := mdF) (gF_up (V := mdV) (F := mdF) (gF_up (V := mdV) (F := mdF) (gF_up (V := mdV) (F := mdF) (gF_up (V := mdV) (F := mdF) (gF_up (V := mdV) (F := mdF) (gF_up (V := mdV) (F := mdF) (gF_up (V := mdV) (F := mdF) (gF_up (V := mdV) (F := mdF) (gR_up (V := mdV) (F := mdF) (gR_up (V := mdV) (F := mdF) (gR_up (V := mdV) (F := mdF) (gR_up (V := mdV) (F := mdF) (gR_up (V := mdV) (F := mdF) (gR_up (V := mdV) (F := mdF) (gR_up (V := mdV) (F := mdF) (gR_up (V := mdV) (F := mdF) (gR_up (V := mdV) (F := mdF) (gR_up (V := mdV) (F := mdF) (gR_up (V := mdV) (F := mdF) (gR_up (V := mdV) (F := mdF) (gR_up (V := mdV) (F := mdF) ⟨hok.1, hok.2⟩ 6 (hP.2.1 6)) 7 (hP.2.1 7)) 8 (hP.2.1 8)) 9 (hP.2.1 9)) 10 (hP.2.1 10)) 11 (hP.2.1 11)) 16 (hP.2.1 16)) 20 (hP.2.1 20)) 21 (hP.2.1 21)) 27 (hP.2.1 27)) 17 (hP.2.1 17)) 15 (hP.2.1 15)) 19 (hP.2.1 19)) 11 (hP.2.2 11)) 12 (hP.2.2 12)) 17 (hP.2.2 17)) 14 (hP.2.2 14)) 16 (hP.2.2 16)) 5 (hP.2.2 5)) 6 (hP.2.2 6)) 7 (hP.2.2 7)) 8 (u1_rng (hP.2.2 8) (show 0 ≤ 0 ∧ 0 ≤ 999 from (by decide))))) dX11_readLaw_151 (fun H locs hP hS => ?_)
              refine lv_aload_n hx hb dX11_readLaw_152 rfl (lv_at hl 0 rfl) ?_
              refine lv_dup hx hb dX11_readLaw_153 rfl ?_
              refine mdG_newRounds C hP mF_X11_207 dX11_readLaw_154 ?_
              show W p l e (gRm 4 92) s m args below meth c _ _ 0 0 Q (F0 m 157 ls [.int (iI (v 15)), .ref (ad 0)])
              refine lv_iconst (v := iI 1) hx hb dX11_readLaw_157 rfl ?_
              refine gi_add (z := ((v 15) + 1)) hx hb dX11_readLaw_158 rfl ?_
              refine mdP_newRounds (v1 := (va_up (va_up (va_up (va_up (va_up (va_up (va_up (va_up (va_up (va_up (va_up (va_up (va_up v 6 w6_108) 7 w7_108) 8 w8_108) 9 w9_108) 10 w10_108) 11 w11_108) 16 (v 16)) 20 (v 20)) 21 (v 21)) 27 (v 27)) 17 (v 17)) 15 ((v 15) + 1)) 19 (v 19))) C hP hD hS mF_X11_207 (by omega) rfl (Or.inr (gF_up (V := mdV) (F := mdF) (gF_up (V := mdV) (F := mdF) (gF_up (V := mdV) (F := mdF) (gF_up (V := mdV) (F := mdF) (gF_up (V := mdV) (F := mdF) (gF_up (V := mdV) (F := mdF) (gF_up (V := mdV) (F := mdF) (gF_up (V := mdV) (F := mdF) (gF_up (V := mdV) (F := mdF) (gR_up (V := mdV) (F := mdF) (gR_up (V := mdV) (F := mdF) (gR_up (V := mdV) (F := mdF) (gR_up (V := mdV) (F := mdF) (gR_up (V := mdV) (F := mdF) (gR_up (V := mdV) (F := mdF) (gR_up (V := mdV) (F := mdF) (gR_up (V := mdV) (F := mdF) (gR_up (V := mdV) (F := mdF) (gR_up (V := mdV) (F := mdF) (gR_up (V := mdV) (F := mdF) (gR_up (V := mdV) (F := mdF) (gR_up (V := mdV) (F := mdF) ⟨hok.1, hok.2⟩ 6 (hP.2.1 6)) 7 (hP.2.1 7)) 8 (hP.2.1 8)) 9 (hP.2.1 9)) 10 (hP.2.1 10)) 11 (hP.2.1 11)) 16 (hP.2.1 16)) 20 (hP.2.1 20)) 21 (hP.2.1 21)) 27 (hP.2.1 27)) 17 (hP.2.1 17)) 15 (show 0 ≤ ((v 15) + 1) ∧ ((v 15) + 1) ≤ 4 from by omega)) 19 (hP.2.1 19)) 11 (hP.2.2 11)) 12 (hP.2.2 12)) 17 (hP.2.2 17)) 14 (hP.2.2 14)) 16 (hP.2.2 16)) 5 (hP.2.2 5)) 6 (hP.2.2 6)) 7 (hP.2.2 7)) 8 (hP.2.2 8))) dX11_readLaw_159 (fun H locs hP hS => ?_)
              refine lv_goto (tgt := 246) hx hb dX11_readLaw_162 (by decide) ?_
              refine lv_aload_n hx hb dX11_readLaw_246 rfl (lv_at hl 0 rfl) ?_
              refine mdG_bad C hP mF_X11_188 dX11_readLaw_247 ?_
              show W p l e (gRm 4 92) s m args below meth c _ _ 0 0 Q (F0 m 250 ls [.int (iI w6_108)])
              refine gi_zne (tgt := 257) hx hb dX11_readLaw_250 (by decide) (by omega) (fun c_112 => ?_) (fun c_112 => ?_)
              · exact g_vret hQ C hr hlocks hP hS dX11_readLaw_257 ⟨w6_108, w7_108, w8_108, w9_108, w10_108, w11_108, (v 16), (v 20), (v 21), (v 27), (v 17), ((v 15) + 1), (v 19), (f 11), (f 12), (f 17), (f 14), (f 16), (u1 (f 5) (v 15) z_88), (u1 (f 6) (v 15) z_108), (u1 (f 7) (v 15) 10), (u1 (f 8) (v 15) 0), b0_108, rfl, rfl, rfl, rfl, (by first | omega | (split <;> omega)), (by first | omega | (split <;> omega)), (by first | omega | (split <;> omega)), (by first | (intro h; exfalso; omega) | exact fun _ => hrp | exact fun _ => hX (by omega))⟩
              · refine lv_aload_n hx hb dX11_readLaw_253 rfl (lv_at hl 0 rfl) ?_
                refine g_cv (As := []) (rest := []) (n := 0) C hml (m_X11_ends l D k A ad hD (va_up (va_up (va_up (va_up (va_up (va_up (va_up (va_up (va_up (va_up (va_up (va_up (va_up v 6 w6_108) 7 w7_108) 8 w8_108) 9 w9_108) 10 w10_108) 11 w11_108) 16 (v 16)) 20 (v 20)) 21 (v 21)) 27 (v 27)) 17 (v 17)) 15 ((v 15) + 1)) 19 (v 19)) (va_up (va_up (va_up (va_up (va_up (va_up (va_up (va_up (va_up f 11 (f 11)) 12 (f 12)) 17 (f 17)) 14 (f 14)) 16 (f 16)) 5 (u1 (f 5) (v 15) z_88)) 6 (u1 (f 6) (v 15) z_108)) 7 (u1 (f 7) (v 15) 10)) 8 (u1 (f 8) (v 15) 0)) (va_up g 0 b0_108) (show w9_108 ≤ w10_108 ∧ w10_108 ≤ (v 3) ∧ (w8_108 ≠ 0 → w9_108 < w10_108) from by omega)) mM_X11_246 mI_X11_ends mE_X11_ends mN_X11 mC_X11_ends (by decide +kernel) 0 (ci := 11) rfl rfl hP hS (fun _ h => h) ⟨Nat.le_of_ble_eq_true rfl, Nat.le_of_ble_eq_true rfl⟩ ⟨Nat.zero_le _, Nat.zero_le _⟩ hl.1 rfl rfl (Nat.le_of_ble_eq_true rfl) dX11_readLaw_254 (fun r_113 v_113 f_113 g_113 H locs hq_113 hP _ hS => ?_)
                obtain ⟨w6_113, w7_113, w8_113, w9_113, w10_113, w11_113, b0_113, rfl, rfl, rfl, rfl, p0_113, p1_113, p2_113, p3_113⟩ := hq_113
                show W p l e (gRm 4 92) s m args below meth c _ _ 0 0 Q (F0 m 257 ls [])
                have hP : gWd D (mdT k ad) (va_up (va_up (va_up (va_up (va_up (va_up (va_up (va_up (va_up (va_up (va_up (va_up (va_up v 6 w6_113) 7 w7_113) 8 w8_113) 9 w9_113) 10 w10_113) 11 w11_113) 16 (v 16)) 20 (v 20)) 21 (v 21)) 27 (v 27)) 17 (v 17)) 15 ((v 15) + 1)) 19 (v 19)) (va_up (va_up (va_up (va_up (va_up (va_up (va_up (va_up (va_up f 11 (f 11)) 12 (f 12)) 17 (f 17)) 14 (f 14)) 16 (f 16)) 5 (u1 (f 5) (v 15) z_88)) 6 (u1 (f 6) (v 15) z_108)) 7 (u1 (f 7) (v 15) 10)) 8 (u1 (f 8) (v 15) 0)) (va_up g 0 b0_113) H := ⟨hP.1, (gF_up (V := mdV) (F := mdF) (gF_up (V := mdV) (F := mdF) (gF_up (V := mdV) (F := mdF) (gF_up (V := mdV) (F := mdF) (gF_up (V := mdV) (F := mdF) (gF_up (V := mdV) (F := mdF) (gF_up (V := mdV) (F := mdF) (gF_up (V := mdV) (F := mdF) (gF_up (V := mdV) (F := mdF) (gR_up (V := mdV) (F := mdF) (gR_up (V := mdV) (F := mdF) (gR_up (V := mdV) (F := mdF) (gR_up (V := mdV) (F := mdF) (gR_up (V := mdV) (F := mdF) (gR_up (V := mdV) (F := mdF) (gR_up (V := mdV) (F := mdF) (gR_up (V := mdV) (F := mdF) (gR_up (V := mdV) (F := mdF) (gR_up (V := mdV) (F := mdF) (gR_up (V := mdV) (F := mdF) (gR_up (V := mdV) (F := mdF) (gR_up (V := mdV) (F := mdF) ⟨hok.1, hok.2⟩ 6 (hP.2.1 6)) 7 (hP.2.1 7)) 8 (hP.2.1 8)) 9 (hP.2.1 9)) 10 (hP.2.1 10)) 11 (hP.2.1 11)) 16 (hP.2.1 16)) 20 (hP.2.1 20)) 21 (hP.2.1 21)) 27 (hP.2.1 27)) 17 (hP.2.1 17)) 15 (hP.2.1 15)) 19 (hP.2.1 19)) 11 (hP.2.2 11)) 12 (hP.2.2 12)) 17 (hP.2.2 17)) 14 (hP.2.2 14)) 16 (hP.2.2 16)) 5 (hP.2.2 5)) 6 (hP.2.2 6)) 7 (hP.2.2 7)) 8 (hP.2.2 8))⟩
                replace p0_113 : w9_108 ≤ w9_113 ∧ w9_113 ≤ w10_113 ∧ w10_113 ≤ (v 3) := p0_113
                replace p1_113 : w8_113 ≠ 0 → w9_113 < w10_113 := p1_113
                replace p2_113 : 0 < w6_108 → 0 < w6_113 := p2_113
                replace p3_113 : w6_113 = 0 → w6_108 = 0 := p3_113
                have rw6_113 : 0 ≤ w6_113 ∧ w6_113 ≤ 5 := hP.2.1 6
                have rw7_113 : 0 ≤ w7_113 ∧ w7_113 ≤ 700 := hP.2.1 7
                have rw8_113 : 0 ≤ w8_113 ∧ w8_113 ≤ 4 := hP.2.1 8
                have rw9_113 : 0 ≤ w9_113 ∧ w9_113 ≤ 700 := hP.2.1 9
                have rw10_113 : 0 ≤ w10_113 ∧ w10_113 ≤ 700 := hP.2.1 10
                have rw11_113 : 0 ≤ w11_113 ∧ w11_113 ≤ 999999 := hP.2.1 11
                exact g_vret hQ C hr hlocks hP hS dX11_readLaw_257 ⟨w6_113, w7_113, w8_113, w9_113, w10_113, w11_113, (v 16), (v 20), (v 21), (v 27), (v 17), ((v 15) + 1), (v 19), (f 11), (f 12), (f 17), (f 14), (f 16), (u1 (f 5) (v 15) z_88), (u1 (f 6) (v 15) z_108), (u1 (f 7) (v 15) 10), (u1 (f 8) (v 15) 0), b0_113, rfl, rfl, rfl, rfl, (by first | omega | (split <;> omega)), (by first | omega | (split <;> omega)), (by first | omega | (split <;> omega)), (by first | (intro h; exfalso; omega) | exact fun _ => hrp | exact fun _ => hX (by omega))⟩
            · refine lv_aload_n hx hb dX11_readLaw_139 rfl (lv_at hl 0 rfl) ?_
              refine lv_iconst (v := iI 0) hx hb dX11_readLaw_140 rfl ?_
              refine lv_sipush (v := iI 999) hx hb dX11_readLaw_141 (by decide) ?_
              refine g_cv (As := [.int (iI 0), .int (iI 999)]) (rest := [.int (iI (v 15)), .ref (ad 9)]) (n := 2) C hml (m_X11_numberOf l D k A ad hD (va_up (va_up (va_up (va_up (va_up (va_up (va_up (va_up (va_up (va_up (va_up (va_up (va_up v 6 w6_108) 7 w7_108) 8 w8_108) 9 w9_108) 10 w10_108) 11 w11_108) 16 (v 16)) 20 (v 20)) 21 (v 21)) 27 (v 27)) 17 (v 17)) 15 (v 15)) 19 (v 19)) (va_up (va_up (va_up (va_up (va_up (va_up (va_up (va_up (va_up f 11 (f 11)) 12 (f 12)) 17 (f 17)) 14 (f 14)) 16 (f 16)) 5 (u1 (f 5) (v 15) z_88)) 6 (u1 (f 6) (v 15) z_108)) 7 (u1 (f 7) (v 15) 10)) 8 (f 8)) (va_up g 0 b0_108) 0 999 (by decide) (by decide) (show w9_108 ≤ w10_108 ∧ w10_108 ≤ (v 3) ∧ (w8_108 ≠ 0 → w9_108 < w10_108) from by omega) (show 0 ≤ (0 : Int) ∧ (0 : Int) ≤ (999 : Int) ∧ (999 : Int) ≤ 999 from by omega)) mM_X11_236 mI_X11_numberOf mE_X11_numberOf mN_X11 mC_X11_numberOf (by decide +kernel) 0 (ci := 11) rfl rfl hP hS (fun _ h => h) ⟨Nat.le_of_ble_eq_true rfl, Nat.le_of_ble_eq_true rfl⟩ ⟨Nat.zero_le _, Nat.zero_le _⟩ hl.1 rfl rfl (Nat.le_of_ble_eq_true rfl) dX11_readLaw_144 (fun r_114 v_114 f_114 g_114 H locs hq_114 hP _ hS => ?_)
              obtain ⟨z_114, w6_114, w7_114, w8_114, w9_114, w10_114, w11_114, b0_114, rfl, rfl, rfl, rfl, p0_114, p1_114, p2_114, p3_114⟩ := hq_114
              show W p l e (gRm 4 92) s m args below meth c _ _ 0 0 Q (F0 m 147 ls [.int (iI z_114), .int (iI (v 15)), .ref (ad 9)])
              have hP : gWd D (mdT k ad) (va_up (va_up (va_up (va_up (va_up (va_up (va_up (va_up (va_up (va_up (va_up (va_up (va_up v 6 w6_114) 7 w7_114) 8 w8_114) 9 w9_114) 10 w10_114) 11 w11_114) 16 (v 16)) 20 (v 20)) 21 (v 21)) 27 (v 27)) 17 (v 17)) 15 (v 15)) 19 (v 19)) (va_up (va_up (va_up (va_up (va_up (va_up (va_up (va_up (va_up f 11 (f 11)) 12 (f 12)) 17 (f 17)) 14 (f 14)) 16 (f 16)) 5 (u1 (f 5) (v 15) z_88)) 6 (u1 (f 6) (v 15) z_108)) 7 (u1 (f 7) (v 15) 10)) 8 (f 8)) (va_up g 0 b0_114) H := ⟨hP.1, (gF_up (V := mdV) (F := mdF) (gF_up (V := mdV) (F := mdF) (gF_up (V := mdV) (F := mdF) (gF_up (V := mdV) (F := mdF) (gF_up (V := mdV) (F := mdF) (gF_up (V := mdV) (F := mdF) (gF_up (V := mdV) (F := mdF) (gF_up (V := mdV) (F := mdF) (gF_up (V := mdV) (F := mdF) (gR_up (V := mdV) (F := mdF) (gR_up (V := mdV) (F := mdF) (gR_up (V := mdV) (F := mdF) (gR_up (V := mdV) (F := mdF) (gR_up (V := mdV) (F := mdF) (gR_up (V := mdV) (F := mdF) (gR_up (V := mdV) (F := mdF) (gR_up (V := mdV) (F := mdF) (gR_up (V := mdV) (F := mdF) (gR_up (V := mdV) (F := mdF) (gR_up (V := mdV) (F := mdF) (gR_up (V := mdV) (F := mdF) (gR_up (V := mdV) (F := mdF) ⟨hok.1, hok.2⟩ 6 (hP.2.1 6)) 7 (hP.2.1 7)) 8 (hP.2.1 8)) 9 (hP.2.1 9)) 10 (hP.2.1 10)) 11 (hP.2.1 11)) 16 (hP.2.1 16)) 20 (hP.2.1 20)) 21 (hP.2.1 21)) 27 (hP.2.1 27)) 17 (hP.2.1 17)) 15 (hP.2.1 15)) 19 (hP.2.1 19)) 11 (hP.2.2 11)) 12 (hP.2.2 12)) 17 (hP.2.2 17)) 14 (hP.2.2 14)) 16 (hP.2.2 16)) 5 (hP.2.2 5)) 6 (hP.2.2 6)) 7 (hP.2.2 7)) 8 (hP.2.2 8))⟩
              replace p0_114 : (0 : Int) ≤ z_114 ∧ z_114 ≤ (999 : Int) := p0_114
              replace p1_114 : w9_108 ≤ w9_114 ∧ w9_114 ≤ w10_114 ∧ w10_114 ≤ (v 3) := p1_114
              replace p2_114 : w8_114 ≠ 0 → w9_114 < w10_114 := p2_114
              replace p3_114 : 0 < w6_108 → 0 < w6_114 := p3_114
              have rw6_114 : 0 ≤ w6_114 ∧ w6_114 ≤ 5 := hP.2.1 6
              have rw7_114 : 0 ≤ w7_114 ∧ w7_114 ≤ 700 := hP.2.1 7
              have rw8_114 : 0 ≤ w8_114 ∧ w8_114 ≤ 4 := hP.2.1 8
              have rw9_114 : 0 ≤ w9_114 ∧ w9_114 ≤ 700 := hP.2.1 9
              have rw10_114 : 0 ≤ w10_114 ∧ w10_114 ≤ 700 := hP.2.1 10
              have rw11_114 : 0 ≤ w11_114 ∧ w11_114 ≤ 999999 := hP.2.1 11
              have hz_114 : inR z_114 := (by first | omega | (rw [p0_114]; split <;> omega))
              refine lv_goto (tgt := 151) hx hb dX11_readLaw_147 (by decide) ?_
              refine mdS_newRest (f1 := (va_up (va_up (va_up (va_up (va_up (va_up (va_up (va_up (va_up f 11 (f 11)) 12 (f 12)) 17 (f 17)) 14 (f 14)) 16 (f 16)) 5 (u1 (f 5) (v 15) z_88)) 6 (u1 (f 6) (v 15) z_108)) 7 (u1 (f 7) (v 15) 10)) 8 (u1 (f 8) (v 15) z_114))) C hP hD hS (by omega) (by omega) (by omega) rfl (Or.inr (gF_up (V := mdV) (F := mdF) (gF_up (V := mdV) (F := mdF) (gF_up (V := mdV) (F := mdF) (gF_up (V := mdV) (F := mdF) (gF_up (V := mdV) (F := mdF) (gF_up (V := mdV) (F := mdF) (gF_up (V := mdV) (F := mdF) (gF_up (V := mdV) (F := mdF) (gF_up (V := mdV) (F := mdF) (gR_up (V := mdV) (F := mdF) (gR_up (V := mdV) (F := mdF) (gR_up (V := mdV) (F := mdF) (gR_up (V := mdV) (F := mdF) (gR_up (V := mdV) (F := mdF) (gR_up (V := mdV) (F := mdF) (gR_up (V := mdV) (F := mdF) (gR_up (V := mdV) (F := mdF) (gR_up (V := mdV) (F := mdF) (gR_up (V := mdV) (F := mdF) (gR_up (V := mdV) (F := mdF) (gR_up (V := mdV) (F := mdF) (gR_up (V := mdV) (F := mdF) ⟨hok.1, hok.2⟩ 6 (hP.2.1 6)) 7 (hP.2.1 7)) 8 (hP.2.1 8)) 9 (hP.2.1 9)) 10 (hP.2.1 10)) 11 (hP.2.1 11)) 16 (hP.2.1 16)) 20 (hP.2.1 20)) 21 (hP.2.1 21)) 27 (hP.2.1 27)) 17 (hP.2.1 17)) 15 (hP.2.1 15)) 19 (hP.2.1 19)) 11 (hP.2.2 11)) 12 (hP.2.2 12)) 17 (hP.2.2 17)) 14 (hP.2.2 14)) 16 (hP.2.2 16)) 5 (hP.2.2 5)) 6 (hP.2.2 6)) 7 (hP.2.2 7)) 8 (u1_rng (hP.2.2 8) (show 0 ≤ z_114 ∧ z_114 ≤ 999 from (by omega))))) dX11_readLaw_151 (fun H locs hP hS => ?_)
              refine lv_aload_n hx hb dX11_readLaw_152 rfl (lv_at hl 0 rfl) ?_
              refine lv_dup hx hb dX11_readLaw_153 rfl ?_
              refine mdG_newRounds C hP mF_X11_207 dX11_readLaw_154 ?_
              show W p l e (gRm 4 92) s m args below meth c _ _ 0 0 Q (F0 m 157 ls [.int (iI (v 15)), .ref (ad 0)])
              refine lv_iconst (v := iI 1) hx hb dX11_readLaw_157 rfl ?_
              refine gi_add (z := ((v 15) + 1)) hx hb dX11_readLaw_158 rfl ?_
              refine mdP_newRounds (v1 := (va_up (va_up (va_up (va_up (va_up (va_up (va_up (va_up (va_up (va_up (va_up (va_up (va_up v 6 w6_114) 7 w7_114) 8 w8_114) 9 w9_114) 10 w10_114) 11 w11_114) 16 (v 16)) 20 (v 20)) 21 (v 21)) 27 (v 27)) 17 (v 17)) 15 ((v 15) + 1)) 19 (v 19))) C hP hD hS mF_X11_207 (by omega) rfl (Or.inr (gF_up (V := mdV) (F := mdF) (gF_up (V := mdV) (F := mdF) (gF_up (V := mdV) (F := mdF) (gF_up (V := mdV) (F := mdF) (gF_up (V := mdV) (F := mdF) (gF_up (V := mdV) (F := mdF) (gF_up (V := mdV) (F := mdF) (gF_up (V := mdV) (F := mdF) (gF_up (V := mdV) (F := mdF) (gR_up (V := mdV) (F := mdF) (gR_up (V := mdV) (F := mdF) (gR_up (V := mdV) (F := mdF) (gR_up (V := mdV) (F := mdF) (gR_up (V := mdV) (F := mdF) (gR_up (V := mdV) (F := mdF) (gR_up (V := mdV) (F := mdF) (gR_up (V := mdV) (F := mdF) (gR_up (V := mdV) (F := mdF) (gR_up (V := mdV) (F := mdF) (gR_up (V := mdV) (F := mdF) (gR_up (V := mdV) (F := mdF) (gR_up (V := mdV) (F := mdF) ⟨hok.1, hok.2⟩ 6 (hP.2.1 6)) 7 (hP.2.1 7)) 8 (hP.2.1 8)) 9 (hP.2.1 9)) 10 (hP.2.1 10)) 11 (hP.2.1 11)) 16 (hP.2.1 16)) 20 (hP.2.1 20)) 21 (hP.2.1 21)) 27 (hP.2.1 27)) 17 (hP.2.1 17)) 15 (show 0 ≤ ((v 15) + 1) ∧ ((v 15) + 1) ≤ 4 from by omega)) 19 (hP.2.1 19)) 11 (hP.2.2 11)) 12 (hP.2.2 12)) 17 (hP.2.2 17)) 14 (hP.2.2 14)) 16 (hP.2.2 16)) 5 (hP.2.2 5)) 6 (hP.2.2 6)) 7 (hP.2.2 7)) 8 (hP.2.2 8))) dX11_readLaw_159 (fun H locs hP hS => ?_)
              refine lv_goto (tgt := 246) hx hb dX11_readLaw_162 (by decide) ?_
              refine lv_aload_n hx hb dX11_readLaw_246 rfl (lv_at hl 0 rfl) ?_
              refine mdG_bad C hP mF_X11_188 dX11_readLaw_247 ?_
              show W p l e (gRm 4 92) s m args below meth c _ _ 0 0 Q (F0 m 250 ls [.int (iI w6_114)])
              have r_115 : 0 ≤ w6_114 ∧ w6_114 ≤ 5 := hP.2.1 6
              refine gi_zne (tgt := 257) hx hb dX11_readLaw_250 (by decide) (by omega) (fun c_116 => ?_) (fun c_116 => ?_)
              · exact g_vret hQ C hr hlocks hP hS dX11_readLaw_257 ⟨w6_114, w7_114, w8_114, w9_114, w10_114, w11_114, (v 16), (v 20), (v 21), (v 27), (v 17), ((v 15) + 1), (v 19), (f 11), (f 12), (f 17), (f 14), (f 16), (u1 (f 5) (v 15) z_88), (u1 (f 6) (v 15) z_108), (u1 (f 7) (v 15) 10), (u1 (f 8) (v 15) z_114), b0_114, rfl, rfl, rfl, rfl, (by first | omega | (split <;> omega)), (by first | omega | (split <;> omega)), (by first | omega | (split <;> omega)), (by first | (intro h; exfalso; omega) | exact fun _ => hrp | exact fun _ => hX (by omega))⟩
              · refine lv_aload_n hx hb dX11_readLaw_253 rfl (lv_at hl 0 rfl) ?_
                refine g_cv (As := []) (rest := []) (n := 0) C hml (m_X11_ends l D k A ad hD (va_up (va_up (va_up (va_up (va_up (va_up (va_up (va_up (va_up (va_up (va_up (va_up (va_up v 6 w6_114) 7 w7_114) 8 w8_114) 9 w9_114) 10 w10_114) 11 w11_114) 16 (v 16)) 20 (v 20)) 21 (v 21)) 27 (v 27)) 17 (v 17)) 15 ((v 15) + 1)) 19 (v 19)) (va_up (va_up (va_up (va_up (va_up (va_up (va_up (va_up (va_up f 11 (f 11)) 12 (f 12)) 17 (f 17)) 14 (f 14)) 16 (f 16)) 5 (u1 (f 5) (v 15) z_88)) 6 (u1 (f 6) (v 15) z_108)) 7 (u1 (f 7) (v 15) 10)) 8 (u1 (f 8) (v 15) z_114)) (va_up g 0 b0_114) (show w9_114 ≤ w10_114 ∧ w10_114 ≤ (v 3) ∧ (w8_114 ≠ 0 → w9_114 < w10_114) from by omega)) mM_X11_246 mI_X11_ends mE_X11_ends mN_X11 mC_X11_ends (by decide +kernel) 0 (ci := 11) rfl rfl hP hS (fun _ h => h) ⟨Nat.le_of_ble_eq_true rfl, Nat.le_of_ble_eq_true rfl⟩ ⟨Nat.zero_le _, Nat.zero_le _⟩ hl.1 rfl rfl (Nat.le_of_ble_eq_true rfl) dX11_readLaw_254 (fun r_117 v_117 f_117 g_117 H locs hq_117 hP _ hS => ?_)
                obtain ⟨w6_117, w7_117, w8_117, w9_117, w10_117, w11_117, b0_117, rfl, rfl, rfl, rfl, p0_117, p1_117, p2_117, p3_117⟩ := hq_117
                show W p l e (gRm 4 92) s m args below meth c _ _ 0 0 Q (F0 m 257 ls [])
                have hP : gWd D (mdT k ad) (va_up (va_up (va_up (va_up (va_up (va_up (va_up (va_up (va_up (va_up (va_up (va_up (va_up v 6 w6_117) 7 w7_117) 8 w8_117) 9 w9_117) 10 w10_117) 11 w11_117) 16 (v 16)) 20 (v 20)) 21 (v 21)) 27 (v 27)) 17 (v 17)) 15 ((v 15) + 1)) 19 (v 19)) (va_up (va_up (va_up (va_up (va_up (va_up (va_up (va_up (va_up f 11 (f 11)) 12 (f 12)) 17 (f 17)) 14 (f 14)) 16 (f 16)) 5 (u1 (f 5) (v 15) z_88)) 6 (u1 (f 6) (v 15) z_108)) 7 (u1 (f 7) (v 15) 10)) 8 (u1 (f 8) (v 15) z_114)) (va_up g 0 b0_117) H := ⟨hP.1, (gF_up (V := mdV) (F := mdF) (gF_up (V := mdV) (F := mdF) (gF_up (V := mdV) (F := mdF) (gF_up (V := mdV) (F := mdF) (gF_up (V := mdV) (F := mdF) (gF_up (V := mdV) (F := mdF) (gF_up (V := mdV) (F := mdF) (gF_up (V := mdV) (F := mdF) (gF_up (V := mdV) (F := mdF) (gR_up (V := mdV) (F := mdF) (gR_up (V := mdV) (F := mdF) (gR_up (V := mdV) (F := mdF) (gR_up (V := mdV) (F := mdF) (gR_up (V := mdV) (F := mdF) (gR_up (V := mdV) (F := mdF) (gR_up (V := mdV) (F := mdF) (gR_up (V := mdV) (F := mdF) (gR_up (V := mdV) (F := mdF) (gR_up (V := mdV) (F := mdF) (gR_up (V := mdV) (F := mdF) (gR_up (V := mdV) (F := mdF) (gR_up (V := mdV) (F := mdF) ⟨hok.1, hok.2⟩ 6 (hP.2.1 6)) 7 (hP.2.1 7)) 8 (hP.2.1 8)) 9 (hP.2.1 9)) 10 (hP.2.1 10)) 11 (hP.2.1 11)) 16 (hP.2.1 16)) 20 (hP.2.1 20)) 21 (hP.2.1 21)) 27 (hP.2.1 27)) 17 (hP.2.1 17)) 15 (hP.2.1 15)) 19 (hP.2.1 19)) 11 (hP.2.2 11)) 12 (hP.2.2 12)) 17 (hP.2.2 17)) 14 (hP.2.2 14)) 16 (hP.2.2 16)) 5 (hP.2.2 5)) 6 (hP.2.2 6)) 7 (hP.2.2 7)) 8 (hP.2.2 8))⟩
                replace p0_117 : w9_114 ≤ w9_117 ∧ w9_117 ≤ w10_117 ∧ w10_117 ≤ (v 3) := p0_117
                replace p1_117 : w8_117 ≠ 0 → w9_117 < w10_117 := p1_117
                replace p2_117 : 0 < w6_114 → 0 < w6_117 := p2_117
                replace p3_117 : w6_117 = 0 → w6_114 = 0 := p3_117
                have rw6_117 : 0 ≤ w6_117 ∧ w6_117 ≤ 5 := hP.2.1 6
                have rw7_117 : 0 ≤ w7_117 ∧ w7_117 ≤ 700 := hP.2.1 7
                have rw8_117 : 0 ≤ w8_117 ∧ w8_117 ≤ 4 := hP.2.1 8
                have rw9_117 : 0 ≤ w9_117 ∧ w9_117 ≤ 700 := hP.2.1 9
                have rw10_117 : 0 ≤ w10_117 ∧ w10_117 ≤ 700 := hP.2.1 10
                have rw11_117 : 0 ≤ w11_117 ∧ w11_117 ≤ 999999 := hP.2.1 11
                exact g_vret hQ C hr hlocks hP hS dX11_readLaw_257 ⟨w6_117, w7_117, w8_117, w9_117, w10_117, w11_117, (v 16), (v 20), (v 21), (v 27), (v 17), ((v 15) + 1), (v 19), (f 11), (f 12), (f 17), (f 14), (f 16), (u1 (f 5) (v 15) z_88), (u1 (f 6) (v 15) z_108), (u1 (f 7) (v 15) 10), (u1 (f 8) (v 15) z_114), b0_117, rfl, rfl, rfl, rfl, (by first | omega | (split <;> omega)), (by first | omega | (split <;> omega)), (by first | omega | (split <;> omega)), (by first | (intro h; exfalso; omega) | exact fun _ => hrp | exact fun _ => hX (by omega))⟩
          · refine lv_aload_n hx hb dX11_readLaw_109 rfl (lv_at hl 0 rfl) ?_
            refine lv_bipush (v := iI 10) hx hb dX11_readLaw_110 (by decide) ?_
            refine lv_sipush (v := iI 999) hx hb dX11_readLaw_112 (by decide) ?_
            refine g_cv (As := [.int (iI 10), .int (iI 999)]) (rest := [.int (iI (v 15)), .ref (ad 8)]) (n := 2) C hml (m_X11_numberOf l D k A ad hD (va_up (va_up (va_up (va_up (va_up (va_up (va_up (va_up (va_up (va_up (va_up (va_up (va_up v 6 w6_108) 7 w7_108) 8 w8_108) 9 w9_108) 10 w10_108) 11 w11_108) 16 (v 16)) 20 (v 20)) 21 (v 21)) 27 (v 27)) 17 (v 17)) 15 (v 15)) 19 (v 19)) (va_up (va_up (va_up (va_up (va_up (va_up (va_up (va_up (va_up f 11 (f 11)) 12 (f 12)) 17 (f 17)) 14 (f 14)) 16 (f 16)) 5 (u1 (f 5) (v 15) z_88)) 6 (u1 (f 6) (v 15) z_108)) 7 (f 7)) 8 (f 8)) (va_up g 0 b0_108) 10 999 (by decide) (by decide) (show w9_108 ≤ w10_108 ∧ w10_108 ≤ (v 3) ∧ (w8_108 ≠ 0 → w9_108 < w10_108) from by omega) (show 0 ≤ (10 : Int) ∧ (10 : Int) ≤ (999 : Int) ∧ (999 : Int) ≤ 999 from by omega)) mM_X11_236 mI_X11_numberOf mE_X11_numberOf mN_X11 mC_X11_numberOf (by decide +kernel) 0 (ci := 11) rfl rfl hP hS (fun _ h => h) ⟨Nat.le_of_ble_eq_true rfl, Nat.le_of_ble_eq_true rfl⟩ ⟨Nat.zero_le _, Nat.zero_le _⟩ hl.1 rfl rfl (Nat.le_of_ble_eq_true rfl) dX11_readLaw_115 (fun r_118 v_118 f_118 g_118 H locs hq_118 hP _ hS => ?_)
            obtain ⟨z_118, w6_118, w7_118, w8_118, w9_118, w10_118, w11_118, b0_118, rfl, rfl, rfl, rfl, p0_118, p1_118, p2_118, p3_118⟩ := hq_118
            show W p l e (gRm 4 92) s m args below meth c _ _ 0 0 Q (F0 m 118 ls [.int (iI z_118), .int (iI (v 15)), .ref (ad 8)])
            have hP : gWd D (mdT k ad) (va_up (va_up (va_up (va_up (va_up (va_up (va_up (va_up (va_up (va_up (va_up (va_up (va_up v 6 w6_118) 7 w7_118) 8 w8_118) 9 w9_118) 10 w10_118) 11 w11_118) 16 (v 16)) 20 (v 20)) 21 (v 21)) 27 (v 27)) 17 (v 17)) 15 (v 15)) 19 (v 19)) (va_up (va_up (va_up (va_up (va_up (va_up (va_up (va_up (va_up f 11 (f 11)) 12 (f 12)) 17 (f 17)) 14 (f 14)) 16 (f 16)) 5 (u1 (f 5) (v 15) z_88)) 6 (u1 (f 6) (v 15) z_108)) 7 (f 7)) 8 (f 8)) (va_up g 0 b0_118) H := ⟨hP.1, (gF_up (V := mdV) (F := mdF) (gF_up (V := mdV) (F := mdF) (gF_up (V := mdV) (F := mdF) (gF_up (V := mdV) (F := mdF) (gF_up (V := mdV) (F := mdF) (gF_up (V := mdV) (F := mdF) (gF_up (V := mdV) (F := mdF) (gF_up (V := mdV) (F := mdF) (gF_up (V := mdV) (F := mdF) (gR_up (V := mdV) (F := mdF) (gR_up (V := mdV) (F := mdF) (gR_up (V := mdV) (F := mdF) (gR_up (V := mdV) (F := mdF) (gR_up (V := mdV) (F := mdF) (gR_up (V := mdV) (F := mdF) (gR_up (V := mdV) (F := mdF) (gR_up (V := mdV) (F := mdF) (gR_up (V := mdV) (F := mdF) (gR_up (V := mdV) (F := mdF) (gR_up (V := mdV) (F := mdF) (gR_up (V := mdV) (F := mdF) (gR_up (V := mdV) (F := mdF) ⟨hok.1, hok.2⟩ 6 (hP.2.1 6)) 7 (hP.2.1 7)) 8 (hP.2.1 8)) 9 (hP.2.1 9)) 10 (hP.2.1 10)) 11 (hP.2.1 11)) 16 (hP.2.1 16)) 20 (hP.2.1 20)) 21 (hP.2.1 21)) 27 (hP.2.1 27)) 17 (hP.2.1 17)) 15 (hP.2.1 15)) 19 (hP.2.1 19)) 11 (hP.2.2 11)) 12 (hP.2.2 12)) 17 (hP.2.2 17)) 14 (hP.2.2 14)) 16 (hP.2.2 16)) 5 (hP.2.2 5)) 6 (hP.2.2 6)) 7 (hP.2.2 7)) 8 (hP.2.2 8))⟩
            replace p0_118 : (10 : Int) ≤ z_118 ∧ z_118 ≤ (999 : Int) := p0_118
            replace p1_118 : w9_108 ≤ w9_118 ∧ w9_118 ≤ w10_118 ∧ w10_118 ≤ (v 3) := p1_118
            replace p2_118 : w8_118 ≠ 0 → w9_118 < w10_118 := p2_118
            replace p3_118 : 0 < w6_108 → 0 < w6_118 := p3_118
            have rw6_118 : 0 ≤ w6_118 ∧ w6_118 ≤ 5 := hP.2.1 6
            have rw7_118 : 0 ≤ w7_118 ∧ w7_118 ≤ 700 := hP.2.1 7
            have rw8_118 : 0 ≤ w8_118 ∧ w8_118 ≤ 4 := hP.2.1 8
            have rw9_118 : 0 ≤ w9_118 ∧ w9_118 ≤ 700 := hP.2.1 9
            have rw10_118 : 0 ≤ w10_118 ∧ w10_118 ≤ 700 := hP.2.1 10
            have rw11_118 : 0 ≤ w11_118 ∧ w11_118 ≤ 999999 := hP.2.1 11
            have hz_118 : inR z_118 := (by first | omega | (rw [p0_118]; split <;> omega))
            refine lv_goto (tgt := 123) hx hb dX11_readLaw_118 (by decide) ?_
            refine mdS_newSeconds (f1 := (va_up (va_up (va_up (va_up (va_up (va_up (va_up (va_up (va_up f 11 (f 11)) 12 (f 12)) 17 (f 17)) 14 (f 14)) 16 (f 16)) 5 (u1 (f 5) (v 15) z_88)) 6 (u1 (f 6) (v 15) z_108)) 7 (u1 (f 7) (v 15) z_118)) 8 (f 8))) C hP hD hS (by omega) (by omega) (by omega) rfl (Or.inr (gF_up (V := mdV) (F := mdF) (gF_up (V := mdV) (F := mdF) (gF_up (V := mdV) (F := mdF) (gF_up (V := mdV) (F := mdF) (gF_up (V := mdV) (F := mdF) (gF_up (V := mdV) (F := mdF) (gF_up (V := mdV) (F := mdF) (gF_up (V := mdV) (F := mdF) (gF_up (V := mdV) (F := mdF) (gR_up (V := mdV) (F := mdF) (gR_up (V := mdV) (F := mdF) (gR_up (V := mdV) (F := mdF) (gR_up (V := mdV) (F := mdF) (gR_up (V := mdV) (F := mdF) (gR_up (V := mdV) (F := mdF) (gR_up (V := mdV) (F := mdF) (gR_up (V := mdV) (F := mdF) (gR_up (V := mdV) (F := mdF) (gR_up (V := mdV) (F := mdF) (gR_up (V := mdV) (F := mdF) (gR_up (V := mdV) (F := mdF) (gR_up (V := mdV) (F := mdF) ⟨hok.1, hok.2⟩ 6 (hP.2.1 6)) 7 (hP.2.1 7)) 8 (hP.2.1 8)) 9 (hP.2.1 9)) 10 (hP.2.1 10)) 11 (hP.2.1 11)) 16 (hP.2.1 16)) 20 (hP.2.1 20)) 21 (hP.2.1 21)) 27 (hP.2.1 27)) 17 (hP.2.1 17)) 15 (hP.2.1 15)) 19 (hP.2.1 19)) 11 (hP.2.2 11)) 12 (hP.2.2 12)) 17 (hP.2.2 17)) 14 (hP.2.2 14)) 16 (hP.2.2 16)) 5 (hP.2.2 5)) 6 (hP.2.2 6)) 7 (u1_rng (hP.2.2 7) (show 0 ≤ z_118 ∧ z_118 ≤ 999 from (by omega)))) 8 (hP.2.2 8))) dX11_readLaw_123 (fun H locs hP hS => ?_)
            refine lv_aload_n hx hb dX11_readLaw_124 rfl (lv_at hl 0 rfl) ?_
            refine mdG_newRest C hP mF_X11_42 dX11_readLaw_125 ?_
            refine lv_aload_n hx hb dX11_readLaw_128 rfl (lv_at hl 0 rfl) ?_
            refine mdG_newRounds C hP mF_X11_207 dX11_readLaw_129 ?_
            show W p l e (gRm 4 92) s m args below meth c _ _ 0 0 Q (F0 m 132 ls [.int (iI (v 15)), .ref (ad 9)])
            refine lv_aload_n hx hb dX11_readLaw_132 rfl (lv_at hl 0 rfl) ?_
            refine mdG_bad C hP mF_X11_188 dX11_readLaw_133 ?_
            show W p l e (gRm 4 92) s m args below meth c _ _ 0 0 Q (F0 m 136 ls [.int (iI w6_118), .int (iI (v 15)), .ref (ad 9)])
            have r_119 : 0 ≤ w6_118 ∧ w6_118 ≤ 5 := hP.2.1 6
            refine gi_zne (tgt := 150) hx hb dX11_readLaw_136 (by decide) (by omega) (fun c_120 => ?_) (fun c_120 => ?_)
            · refine lv_iconst (v := iI 0) hx hb dX11_readLaw_150 rfl ?_
              refine mdS_newRest (f1 := (va_up (va_up (va_up (va_up (va_up (va_up (va_up (va_up (va_up f 11 (f 11)) 12 (f 12)) 17 (f 17)) 14 (f 14)) 16 (f 16)) 5 (u1 (f 5) (v 15) z_88)) 6 (u1 (f 6) (v 15) z_108)) 7 (u1 (f 7) (v 15) z_118)) 8 (u1 (f 8) (v 15) 0))) C hP hD hS (by omega) (by omega) (by decide) rfl (Or.inr (gF_up (V := mdV) (F := mdF) (gF_up (V := mdV) (F := mdF) (gF_up (V := mdV) (F := mdF) (gF_up (V := mdV) (F := mdF) (gF_up (V := mdV) (F := mdF) (gF_up (V := mdV) (F := mdF) (gF_up (V := mdV) (F := mdF) (gF_up (V := mdV) (F := mdF) (gF_up (V := mdV) (F := mdF) (gR_up (V := mdV) (F := mdF) (gR_up (V := mdV) (F := mdF) (gR_up (V := mdV) (F := mdF) (gR_up (V := mdV) (F := mdF) (gR_up (V := mdV) (F := mdF) (gR_up (V := mdV) (F := mdF) (gR_up (V := mdV) (F := mdF) (gR_up (V := mdV) (F := mdF) (gR_up (V := mdV) (F := mdF) (gR_up (V := mdV) (F := mdF) (gR_up (V := mdV) (F := mdF) (gR_up (V := mdV) (F := mdF) (gR_up (V := mdV) (F := mdF) ⟨hok.1, hok.2⟩ 6 (hP.2.1 6)) 7 (hP.2.1 7)) 8 (hP.2.1 8)) 9 (hP.2.1 9)) 10 (hP.2.1 10)) 11 (hP.2.1 11)) 16 (hP.2.1 16)) 20 (hP.2.1 20)) 21 (hP.2.1 21)) 27 (hP.2.1 27)) 17 (hP.2.1 17)) 15 (hP.2.1 15)) 19 (hP.2.1 19)) 11 (hP.2.2 11)) 12 (hP.2.2 12)) 17 (hP.2.2 17)) 14 (hP.2.2 14)) 16 (hP.2.2 16)) 5 (hP.2.2 5)) 6 (hP.2.2 6)) 7 (hP.2.2 7)) 8 (u1_rng (hP.2.2 8) (show 0 ≤ 0 ∧ 0 ≤ 999 from (by decide))))) dX11_readLaw_151 (fun H locs hP hS => ?_)
              refine lv_aload_n hx hb dX11_readLaw_152 rfl (lv_at hl 0 rfl) ?_
              refine lv_dup hx hb dX11_readLaw_153 rfl ?_
              refine mdG_newRounds C hP mF_X11_207 dX11_readLaw_154 ?_
              show W p l e (gRm 4 92) s m args below meth c _ _ 0 0 Q (F0 m 157 ls [.int (iI (v 15)), .ref (ad 0)])
              refine lv_iconst (v := iI 1) hx hb dX11_readLaw_157 rfl ?_
              refine gi_add (z := ((v 15) + 1)) hx hb dX11_readLaw_158 rfl ?_
              refine mdP_newRounds (v1 := (va_up (va_up (va_up (va_up (va_up (va_up (va_up (va_up (va_up (va_up (va_up (va_up (va_up v 6 w6_118) 7 w7_118) 8 w8_118) 9 w9_118) 10 w10_118) 11 w11_118) 16 (v 16)) 20 (v 20)) 21 (v 21)) 27 (v 27)) 17 (v 17)) 15 ((v 15) + 1)) 19 (v 19))) C hP hD hS mF_X11_207 (by omega) rfl (Or.inr (gF_up (V := mdV) (F := mdF) (gF_up (V := mdV) (F := mdF) (gF_up (V := mdV) (F := mdF) (gF_up (V := mdV) (F := mdF) (gF_up (V := mdV) (F := mdF) (gF_up (V := mdV) (F := mdF) (gF_up (V := mdV) (F := mdF) (gF_up (V := mdV) (F := mdF) (gF_up (V := mdV) (F := mdF) (gR_up (V := mdV) (F := mdF) (gR_up (V := mdV) (F := mdF) (gR_up (V := mdV) (F := mdF) (gR_up (V := mdV) (F := mdF) (gR_up (V := mdV) (F := mdF) (gR_up (V := mdV) (F := mdF) (gR_up (V := mdV) (F := mdF) (gR_up (V := mdV) (F := mdF) (gR_up (V := mdV) (F := mdF) (gR_up (V := mdV) (F := mdF) (gR_up (V := mdV) (F := mdF) (gR_up (V := mdV) (F := mdF) (gR_up (V := mdV) (F := mdF) ⟨hok.1, hok.2⟩ 6 (hP.2.1 6)) 7 (hP.2.1 7)) 8 (hP.2.1 8)) 9 (hP.2.1 9)) 10 (hP.2.1 10)) 11 (hP.2.1 11)) 16 (hP.2.1 16)) 20 (hP.2.1 20)) 21 (hP.2.1 21)) 27 (hP.2.1 27)) 17 (hP.2.1 17)) 15 (show 0 ≤ ((v 15) + 1) ∧ ((v 15) + 1) ≤ 4 from by omega)) 19 (hP.2.1 19)) 11 (hP.2.2 11)) 12 (hP.2.2 12)) 17 (hP.2.2 17)) 14 (hP.2.2 14)) 16 (hP.2.2 16)) 5 (hP.2.2 5)) 6 (hP.2.2 6)) 7 (hP.2.2 7)) 8 (hP.2.2 8))) dX11_readLaw_159 (fun H locs hP hS => ?_)
              refine lv_goto (tgt := 246) hx hb dX11_readLaw_162 (by decide) ?_
              refine lv_aload_n hx hb dX11_readLaw_246 rfl (lv_at hl 0 rfl) ?_
              refine mdG_bad C hP mF_X11_188 dX11_readLaw_247 ?_
              show W p l e (gRm 4 92) s m args below meth c _ _ 0 0 Q (F0 m 250 ls [.int (iI w6_118)])
              refine gi_zne (tgt := 257) hx hb dX11_readLaw_250 (by decide) (by omega) (fun c_121 => ?_) (fun c_121 => ?_)
              · exact g_vret hQ C hr hlocks hP hS dX11_readLaw_257 ⟨w6_118, w7_118, w8_118, w9_118, w10_118, w11_118, (v 16), (v 20), (v 21), (v 27), (v 17), ((v 15) + 1), (v 19), (f 11), (f 12), (f 17), (f 14), (f 16), (u1 (f 5) (v 15) z_88), (u1 (f 6) (v 15) z_108), (u1 (f 7) (v 15) z_118), (u1 (f 8) (v 15) 0), b0_118, rfl, rfl, rfl, rfl, (by first | omega | (split <;> omega)), (by first | omega | (split <;> omega)), (by first | omega | (split <;> omega)), (by first | (intro h; exfalso; omega) | exact fun _ => hrp | exact fun _ => hX (by omega))⟩
              · refine lv_aload_n hx hb dX11_readLaw_253 rfl (lv_at hl 0 rfl) ?_
                refine g_cv (As := []) (rest := []) (n := 0) C hml (m_X11_ends l D k A ad hD (va_up (va_up (va_up (va_up (va_up (va_up (va_up (va_up (va_up (va_up (va_up (va_up (va_up v 6 w6_118) 7 w7_118) 8 w8_118) 9 w9_118) 10 w10_118) 11 w11_118) 16 (v 16)) 20 (v 20)) 21 (v 21)) 27 (v 27)) 17 (v 17)) 15 ((v 15) + 1)) 19 (v 19)) (va_up (va_up (va_up (va_up (va_up (va_up (va_up (va_up (va_up f 11 (f 11)) 12 (f 12)) 17 (f 17)) 14 (f 14)) 16 (f 16)) 5 (u1 (f 5) (v 15) z_88)) 6 (u1 (f 6) (v 15) z_108)) 7 (u1 (f 7) (v 15) z_118)) 8 (u1 (f 8) (v 15) 0)) (va_up g 0 b0_118) (show w9_118 ≤ w10_118 ∧ w10_118 ≤ (v 3) ∧ (w8_118 ≠ 0 → w9_118 < w10_118) from by omega)) mM_X11_246 mI_X11_ends mE_X11_ends mN_X11 mC_X11_ends (by decide +kernel) 0 (ci := 11) rfl rfl hP hS (fun _ h => h) ⟨Nat.le_of_ble_eq_true rfl, Nat.le_of_ble_eq_true rfl⟩ ⟨Nat.zero_le _, Nat.zero_le _⟩ hl.1 rfl rfl (Nat.le_of_ble_eq_true rfl) dX11_readLaw_254 (fun r_122 v_122 f_122 g_122 H locs hq_122 hP _ hS => ?_)
                obtain ⟨w6_122, w7_122, w8_122, w9_122, w10_122, w11_122, b0_122, rfl, rfl, rfl, rfl, p0_122, p1_122, p2_122, p3_122⟩ := hq_122
                show W p l e (gRm 4 92) s m args below meth c _ _ 0 0 Q (F0 m 257 ls [])
                have hP : gWd D (mdT k ad) (va_up (va_up (va_up (va_up (va_up (va_up (va_up (va_up (va_up (va_up (va_up (va_up (va_up v 6 w6_122) 7 w7_122) 8 w8_122) 9 w9_122) 10 w10_122) 11 w11_122) 16 (v 16)) 20 (v 20)) 21 (v 21)) 27 (v 27)) 17 (v 17)) 15 ((v 15) + 1)) 19 (v 19)) (va_up (va_up (va_up (va_up (va_up (va_up (va_up (va_up (va_up f 11 (f 11)) 12 (f 12)) 17 (f 17)) 14 (f 14)) 16 (f 16)) 5 (u1 (f 5) (v 15) z_88)) 6 (u1 (f 6) (v 15) z_108)) 7 (u1 (f 7) (v 15) z_118)) 8 (u1 (f 8) (v 15) 0)) (va_up g 0 b0_122) H := ⟨hP.1, (gF_up (V := mdV) (F := mdF) (gF_up (V := mdV) (F := mdF) (gF_up (V := mdV) (F := mdF) (gF_up (V := mdV) (F := mdF) (gF_up (V := mdV) (F := mdF) (gF_up (V := mdV) (F := mdF) (gF_up (V := mdV) (F := mdF) (gF_up (V := mdV) (F := mdF) (gF_up (V := mdV) (F := mdF) (gR_up (V := mdV) (F := mdF) (gR_up (V := mdV) (F := mdF) (gR_up (V := mdV) (F := mdF) (gR_up (V := mdV) (F := mdF) (gR_up (V := mdV) (F := mdF) (gR_up (V := mdV) (F := mdF) (gR_up (V := mdV) (F := mdF) (gR_up (V := mdV) (F := mdF) (gR_up (V := mdV) (F := mdF) (gR_up (V := mdV) (F := mdF) (gR_up (V := mdV) (F := mdF) (gR_up (V := mdV) (F := mdF) (gR_up (V := mdV) (F := mdF) ⟨hok.1, hok.2⟩ 6 (hP.2.1 6)) 7 (hP.2.1 7)) 8 (hP.2.1 8)) 9 (hP.2.1 9)) 10 (hP.2.1 10)) 11 (hP.2.1 11)) 16 (hP.2.1 16)) 20 (hP.2.1 20)) 21 (hP.2.1 21)) 27 (hP.2.1 27)) 17 (hP.2.1 17)) 15 (hP.2.1 15)) 19 (hP.2.1 19)) 11 (hP.2.2 11)) 12 (hP.2.2 12)) 17 (hP.2.2 17)) 14 (hP.2.2 14)) 16 (hP.2.2 16)) 5 (hP.2.2 5)) 6 (hP.2.2 6)) 7 (hP.2.2 7)) 8 (hP.2.2 8))⟩
                replace p0_122 : w9_118 ≤ w9_122 ∧ w9_122 ≤ w10_122 ∧ w10_122 ≤ (v 3) := p0_122
                replace p1_122 : w8_122 ≠ 0 → w9_122 < w10_122 := p1_122
                replace p2_122 : 0 < w6_118 → 0 < w6_122 := p2_122
                replace p3_122 : w6_122 = 0 → w6_118 = 0 := p3_122
                have rw6_122 : 0 ≤ w6_122 ∧ w6_122 ≤ 5 := hP.2.1 6
                have rw7_122 : 0 ≤ w7_122 ∧ w7_122 ≤ 700 := hP.2.1 7
                have rw8_122 : 0 ≤ w8_122 ∧ w8_122 ≤ 4 := hP.2.1 8
                have rw9_122 : 0 ≤ w9_122 ∧ w9_122 ≤ 700 := hP.2.1 9
                have rw10_122 : 0 ≤ w10_122 ∧ w10_122 ≤ 700 := hP.2.1 10
                have rw11_122 : 0 ≤ w11_122 ∧ w11_122 ≤ 999999 := hP.2.1 11
                exact g_vret hQ C hr hlocks hP hS dX11_readLaw_257 ⟨w6_122, w7_122, w8_122, w9_122, w10_122, w11_122, (v 16), (v 20), (v 21), (v 27), (v 17), ((v 15) + 1), (v 19), (f 11), (f 12), (f 17), (f 14), (f 16), (u1 (f 5) (v 15) z_88), (u1 (f 6) (v 15) z_108), (u1 (f 7) (v 15) z_118), (u1 (f 8) (v 15) 0), b0_122, rfl, rfl, rfl, rfl, (by first | omega | (split <;> omega)), (by first | omega | (split <;> omega)), (by first | omega | (split <;> omega)), (by first | (intro h; exfalso; omega) | exact fun _ => hrp | exact fun _ => hX (by omega))⟩
            · refine lv_aload_n hx hb dX11_readLaw_139 rfl (lv_at hl 0 rfl) ?_
              refine lv_iconst (v := iI 0) hx hb dX11_readLaw_140 rfl ?_
              refine lv_sipush (v := iI 999) hx hb dX11_readLaw_141 (by decide) ?_
              refine g_cv (As := [.int (iI 0), .int (iI 999)]) (rest := [.int (iI (v 15)), .ref (ad 9)]) (n := 2) C hml (m_X11_numberOf l D k A ad hD (va_up (va_up (va_up (va_up (va_up (va_up (va_up (va_up (va_up (va_up (va_up (va_up (va_up v 6 w6_118) 7 w7_118) 8 w8_118) 9 w9_118) 10 w10_118) 11 w11_118) 16 (v 16)) 20 (v 20)) 21 (v 21)) 27 (v 27)) 17 (v 17)) 15 (v 15)) 19 (v 19)) (va_up (va_up (va_up (va_up (va_up (va_up (va_up (va_up (va_up f 11 (f 11)) 12 (f 12)) 17 (f 17)) 14 (f 14)) 16 (f 16)) 5 (u1 (f 5) (v 15) z_88)) 6 (u1 (f 6) (v 15) z_108)) 7 (u1 (f 7) (v 15) z_118)) 8 (f 8)) (va_up g 0 b0_118) 0 999 (by decide) (by decide) (show w9_118 ≤ w10_118 ∧ w10_118 ≤ (v 3) ∧ (w8_118 ≠ 0 → w9_118 < w10_118) from by omega) (show 0 ≤ (0 : Int) ∧ (0 : Int) ≤ (999 : Int) ∧ (999 : Int) ≤ 999 from by omega)) mM_X11_236 mI_X11_numberOf mE_X11_numberOf mN_X11 mC_X11_numberOf (by decide +kernel) 0 (ci := 11) rfl rfl hP hS (fun _ h => h) ⟨Nat.le_of_ble_eq_true rfl, Nat.le_of_ble_eq_true rfl⟩ ⟨Nat.zero_le _, Nat.zero_le _⟩ hl.1 rfl rfl (Nat.le_of_ble_eq_true rfl) dX11_readLaw_144 (fun r_123 v_123 f_123 g_123 H locs hq_123 hP _ hS => ?_)
              obtain ⟨z_123, w6_123, w7_123, w8_123, w9_123, w10_123, w11_123, b0_123, rfl, rfl, rfl, rfl, p0_123, p1_123, p2_123, p3_123⟩ := hq_123
              show W p l e (gRm 4 92) s m args below meth c _ _ 0 0 Q (F0 m 147 ls [.int (iI z_123), .int (iI (v 15)), .ref (ad 9)])
              have hP : gWd D (mdT k ad) (va_up (va_up (va_up (va_up (va_up (va_up (va_up (va_up (va_up (va_up (va_up (va_up (va_up v 6 w6_123) 7 w7_123) 8 w8_123) 9 w9_123) 10 w10_123) 11 w11_123) 16 (v 16)) 20 (v 20)) 21 (v 21)) 27 (v 27)) 17 (v 17)) 15 (v 15)) 19 (v 19)) (va_up (va_up (va_up (va_up (va_up (va_up (va_up (va_up (va_up f 11 (f 11)) 12 (f 12)) 17 (f 17)) 14 (f 14)) 16 (f 16)) 5 (u1 (f 5) (v 15) z_88)) 6 (u1 (f 6) (v 15) z_108)) 7 (u1 (f 7) (v 15) z_118)) 8 (f 8)) (va_up g 0 b0_123) H := ⟨hP.1, (gF_up (V := mdV) (F := mdF) (gF_up (V := mdV) (F := mdF) (gF_up (V := mdV) (F := mdF) (gF_up (V := mdV) (F := mdF) (gF_up (V := mdV) (F := mdF) (gF_up (V := mdV) (F := mdF) (gF_up (V := mdV) (F := mdF) (gF_up (V := mdV) (F := mdF) (gF_up (V := mdV) (F := mdF) (gR_up (V := mdV) (F := mdF) (gR_up (V := mdV) (F := mdF) (gR_up (V := mdV) (F := mdF) (gR_up (V := mdV) (F := mdF) (gR_up (V := mdV) (F := mdF) (gR_up (V := mdV) (F := mdF) (gR_up (V := mdV) (F := mdF) (gR_up (V := mdV) (F := mdF) (gR_up (V := mdV) (F := mdF) (gR_up (V := mdV) (F := mdF) (gR_up (V := mdV) (F := mdF) (gR_up (V := mdV) (F := mdF) (gR_up (V := mdV) (F := mdF) ⟨hok.1, hok.2⟩ 6 (hP.2.1 6)) 7 (hP.2.1 7)) 8 (hP.2.1 8)) 9 (hP.2.1 9)) 10 (hP.2.1 10)) 11 (hP.2.1 11)) 16 (hP.2.1 16)) 20 (hP.2.1 20)) 21 (hP.2.1 21)) 27 (hP.2.1 27)) 17 (hP.2.1 17)) 15 (hP.2.1 15)) 19 (hP.2.1 19)) 11 (hP.2.2 11)) 12 (hP.2.2 12)) 17 (hP.2.2 17)) 14 (hP.2.2 14)) 16 (hP.2.2 16)) 5 (hP.2.2 5)) 6 (hP.2.2 6)) 7 (hP.2.2 7)) 8 (hP.2.2 8))⟩
              replace p0_123 : (0 : Int) ≤ z_123 ∧ z_123 ≤ (999 : Int) := p0_123
              replace p1_123 : w9_118 ≤ w9_123 ∧ w9_123 ≤ w10_123 ∧ w10_123 ≤ (v 3) := p1_123
              replace p2_123 : w8_123 ≠ 0 → w9_123 < w10_123 := p2_123
              replace p3_123 : 0 < w6_118 → 0 < w6_123 := p3_123
              have rw6_123 : 0 ≤ w6_123 ∧ w6_123 ≤ 5 := hP.2.1 6
              have rw7_123 : 0 ≤ w7_123 ∧ w7_123 ≤ 700 := hP.2.1 7
              have rw8_123 : 0 ≤ w8_123 ∧ w8_123 ≤ 4 := hP.2.1 8
              have rw9_123 : 0 ≤ w9_123 ∧ w9_123 ≤ 700 := hP.2.1 9
              have rw10_123 : 0 ≤ w10_123 ∧ w10_123 ≤ 700 := hP.2.1 10
              have rw11_123 : 0 ≤ w11_123 ∧ w11_123 ≤ 999999 := hP.2.1 11
              have hz_123 : inR z_123 := (by first | omega | (rw [p0_123]; split <;> omega))
              refine lv_goto (tgt := 151) hx hb dX11_readLaw_147 (by decide) ?_
              refine mdS_newRest (f1 := (va_up (va_up (va_up (va_up (va_up (va_up (va_up (va_up (va_up f 11 (f 11)) 12 (f 12)) 17 (f 17)) 14 (f 14)) 16 (f 16)) 5 (u1 (f 5) (v 15) z_88)) 6 (u1 (f 6) (v 15) z_108)) 7 (u1 (f 7) (v 15) z_118)) 8 (u1 (f 8) (v 15) z_123))) C hP hD hS (by omega) (by omega) (by omega) rfl (Or.inr (gF_up (V := mdV) (F := mdF) (gF_up (V := mdV) (F := mdF) (gF_up (V := mdV) (F := mdF) (gF_up (V := mdV) (F := mdF) (gF_up (V := mdV) (F := mdF) (gF_up (V := mdV) (F := mdF) (gF_up (V := mdV) (F := mdF) (gF_up (V := mdV) (F := mdF) (gF_up (V := mdV) (F := mdF) (gR_up (V := mdV) (F := mdF) (gR_up (V := mdV) (F := mdF) (gR_up (V := mdV) (F := mdF) (gR_up (V := mdV) (F := mdF) (gR_up (V := mdV) (F := mdF) (gR_up (V := mdV) (F := mdF) (gR_up (V := mdV) (F := mdF) (gR_up (V := mdV) (F := mdF) (gR_up (V := mdV) (F := mdF) (gR_up (V := mdV) (F := mdF) (gR_up (V := mdV) (F := mdF) (gR_up (V := mdV) (F := mdF) (gR_up (V := mdV) (F := mdF) ⟨hok.1, hok.2⟩ 6 (hP.2.1 6)) 7 (hP.2.1 7)) 8 (hP.2.1 8)) 9 (hP.2.1 9)) 10 (hP.2.1 10)) 11 (hP.2.1 11)) 16 (hP.2.1 16)) 20 (hP.2.1 20)) 21 (hP.2.1 21)) 27 (hP.2.1 27)) 17 (hP.2.1 17)) 15 (hP.2.1 15)) 19 (hP.2.1 19)) 11 (hP.2.2 11)) 12 (hP.2.2 12)) 17 (hP.2.2 17)) 14 (hP.2.2 14)) 16 (hP.2.2 16)) 5 (hP.2.2 5)) 6 (hP.2.2 6)) 7 (hP.2.2 7)) 8 (u1_rng (hP.2.2 8) (show 0 ≤ z_123 ∧ z_123 ≤ 999 from (by omega))))) dX11_readLaw_151 (fun H locs hP hS => ?_)
              refine lv_aload_n hx hb dX11_readLaw_152 rfl (lv_at hl 0 rfl) ?_
              refine lv_dup hx hb dX11_readLaw_153 rfl ?_
              refine mdG_newRounds C hP mF_X11_207 dX11_readLaw_154 ?_
              show W p l e (gRm 4 92) s m args below meth c _ _ 0 0 Q (F0 m 157 ls [.int (iI (v 15)), .ref (ad 0)])
              refine lv_iconst (v := iI 1) hx hb dX11_readLaw_157 rfl ?_
              refine gi_add (z := ((v 15) + 1)) hx hb dX11_readLaw_158 rfl ?_
              refine mdP_newRounds (v1 := (va_up (va_up (va_up (va_up (va_up (va_up (va_up (va_up (va_up (va_up (va_up (va_up (va_up v 6 w6_123) 7 w7_123) 8 w8_123) 9 w9_123) 10 w10_123) 11 w11_123) 16 (v 16)) 20 (v 20)) 21 (v 21)) 27 (v 27)) 17 (v 17)) 15 ((v 15) + 1)) 19 (v 19))) C hP hD hS mF_X11_207 (by omega) rfl (Or.inr (gF_up (V := mdV) (F := mdF) (gF_up (V := mdV) (F := mdF) (gF_up (V := mdV) (F := mdF) (gF_up (V := mdV) (F := mdF) (gF_up (V := mdV) (F := mdF) (gF_up (V := mdV) (F := mdF) (gF_up (V := mdV) (F := mdF) (gF_up (V := mdV) (F := mdF) (gF_up (V := mdV) (F := mdF) (gR_up (V := mdV) (F := mdF) (gR_up (V := mdV) (F := mdF) (gR_up (V := mdV) (F := mdF) (gR_up (V := mdV) (F := mdF) (gR_up (V := mdV) (F := mdF) (gR_up (V := mdV) (F := mdF) (gR_up (V := mdV) (F := mdF) (gR_up (V := mdV) (F := mdF) (gR_up (V := mdV) (F := mdF) (gR_up (V := mdV) (F := mdF) (gR_up (V := mdV) (F := mdF) (gR_up (V := mdV) (F := mdF) (gR_up (V := mdV) (F := mdF) ⟨hok.1, hok.2⟩ 6 (hP.2.1 6)) 7 (hP.2.1 7)) 8 (hP.2.1 8)) 9 (hP.2.1 9)) 10 (hP.2.1 10)) 11 (hP.2.1 11)) 16 (hP.2.1 16)) 20 (hP.2.1 20)) 21 (hP.2.1 21)) 27 (hP.2.1 27)) 17 (hP.2.1 17)) 15 (show 0 ≤ ((v 15) + 1) ∧ ((v 15) + 1) ≤ 4 from by omega)) 19 (hP.2.1 19)) 11 (hP.2.2 11)) 12 (hP.2.2 12)) 17 (hP.2.2 17)) 14 (hP.2.2 14)) 16 (hP.2.2 16)) 5 (hP.2.2 5)) 6 (hP.2.2 6)) 7 (hP.2.2 7)) 8 (hP.2.2 8))) dX11_readLaw_159 (fun H locs hP hS => ?_)
              refine lv_goto (tgt := 246) hx hb dX11_readLaw_162 (by decide) ?_
              refine lv_aload_n hx hb dX11_readLaw_246 rfl (lv_at hl 0 rfl) ?_
              refine mdG_bad C hP mF_X11_188 dX11_readLaw_247 ?_
              show W p l e (gRm 4 92) s m args below meth c _ _ 0 0 Q (F0 m 250 ls [.int (iI w6_123)])
              have r_124 : 0 ≤ w6_123 ∧ w6_123 ≤ 5 := hP.2.1 6
              refine gi_zne (tgt := 257) hx hb dX11_readLaw_250 (by decide) (by omega) (fun c_125 => ?_) (fun c_125 => ?_)
              · exact g_vret hQ C hr hlocks hP hS dX11_readLaw_257 ⟨w6_123, w7_123, w8_123, w9_123, w10_123, w11_123, (v 16), (v 20), (v 21), (v 27), (v 17), ((v 15) + 1), (v 19), (f 11), (f 12), (f 17), (f 14), (f 16), (u1 (f 5) (v 15) z_88), (u1 (f 6) (v 15) z_108), (u1 (f 7) (v 15) z_118), (u1 (f 8) (v 15) z_123), b0_123, rfl, rfl, rfl, rfl, (by first | omega | (split <;> omega)), (by first | omega | (split <;> omega)), (by first | omega | (split <;> omega)), (by first | (intro h; exfalso; omega) | exact fun _ => hrp | exact fun _ => hX (by omega))⟩
              · refine lv_aload_n hx hb dX11_readLaw_253 rfl (lv_at hl 0 rfl) ?_
                refine g_cv (As := []) (rest := []) (n := 0) C hml (m_X11_ends l D k A ad hD (va_up (va_up (va_up (va_up (va_up (va_up (va_up (va_up (va_up (va_up (va_up (va_up (va_up v 6 w6_123) 7 w7_123) 8 w8_123) 9 w9_123) 10 w10_123) 11 w11_123) 16 (v 16)) 20 (v 20)) 21 (v 21)) 27 (v 27)) 17 (v 17)) 15 ((v 15) + 1)) 19 (v 19)) (va_up (va_up (va_up (va_up (va_up (va_up (va_up (va_up (va_up f 11 (f 11)) 12 (f 12)) 17 (f 17)) 14 (f 14)) 16 (f 16)) 5 (u1 (f 5) (v 15) z_88)) 6 (u1 (f 6) (v 15) z_108)) 7 (u1 (f 7) (v 15) z_118)) 8 (u1 (f 8) (v 15) z_123)) (va_up g 0 b0_123) (show w9_123 ≤ w10_123 ∧ w10_123 ≤ (v 3) ∧ (w8_123 ≠ 0 → w9_123 < w10_123) from by omega)) mM_X11_246 mI_X11_ends mE_X11_ends mN_X11 mC_X11_ends (by decide +kernel) 0 (ci := 11) rfl rfl hP hS (fun _ h => h) ⟨Nat.le_of_ble_eq_true rfl, Nat.le_of_ble_eq_true rfl⟩ ⟨Nat.zero_le _, Nat.zero_le _⟩ hl.1 rfl rfl (Nat.le_of_ble_eq_true rfl) dX11_readLaw_254 (fun r_126 v_126 f_126 g_126 H locs hq_126 hP _ hS => ?_)
                obtain ⟨w6_126, w7_126, w8_126, w9_126, w10_126, w11_126, b0_126, rfl, rfl, rfl, rfl, p0_126, p1_126, p2_126, p3_126⟩ := hq_126
                show W p l e (gRm 4 92) s m args below meth c _ _ 0 0 Q (F0 m 257 ls [])
                have hP : gWd D (mdT k ad) (va_up (va_up (va_up (va_up (va_up (va_up (va_up (va_up (va_up (va_up (va_up (va_up (va_up v 6 w6_126) 7 w7_126) 8 w8_126) 9 w9_126) 10 w10_126) 11 w11_126) 16 (v 16)) 20 (v 20)) 21 (v 21)) 27 (v 27)) 17 (v 17)) 15 ((v 15) + 1)) 19 (v 19)) (va_up (va_up (va_up (va_up (va_up (va_up (va_up (va_up (va_up f 11 (f 11)) 12 (f 12)) 17 (f 17)) 14 (f 14)) 16 (f 16)) 5 (u1 (f 5) (v 15) z_88)) 6 (u1 (f 6) (v 15) z_108)) 7 (u1 (f 7) (v 15) z_118)) 8 (u1 (f 8) (v 15) z_123)) (va_up g 0 b0_126) H := ⟨hP.1, (gF_up (V := mdV) (F := mdF) (gF_up (V := mdV) (F := mdF) (gF_up (V := mdV) (F := mdF) (gF_up (V := mdV) (F := mdF) (gF_up (V := mdV) (F := mdF) (gF_up (V := mdV) (F := mdF) (gF_up (V := mdV) (F := mdF) (gF_up (V := mdV) (F := mdF) (gF_up (V := mdV) (F := mdF) (gR_up (V := mdV) (F := mdF) (gR_up (V := mdV) (F := mdF) (gR_up (V := mdV) (F := mdF) (gR_up (V := mdV) (F := mdF) (gR_up (V := mdV) (F := mdF) (gR_up (V := mdV) (F := mdF) (gR_up (V := mdV) (F := mdF) (gR_up (V := mdV) (F := mdF) (gR_up (V := mdV) (F := mdF) (gR_up (V := mdV) (F := mdF) (gR_up (V := mdV) (F := mdF) (gR_up (V := mdV) (F := mdF) (gR_up (V := mdV) (F := mdF) ⟨hok.1, hok.2⟩ 6 (hP.2.1 6)) 7 (hP.2.1 7)) 8 (hP.2.1 8)) 9 (hP.2.1 9)) 10 (hP.2.1 10)) 11 (hP.2.1 11)) 16 (hP.2.1 16)) 20 (hP.2.1 20)) 21 (hP.2.1 21)) 27 (hP.2.1 27)) 17 (hP.2.1 17)) 15 (hP.2.1 15)) 19 (hP.2.1 19)) 11 (hP.2.2 11)) 12 (hP.2.2 12)) 17 (hP.2.2 17)) 14 (hP.2.2 14)) 16 (hP.2.2 16)) 5 (hP.2.2 5)) 6 (hP.2.2 6)) 7 (hP.2.2 7)) 8 (hP.2.2 8))⟩
                replace p0_126 : w9_123 ≤ w9_126 ∧ w9_126 ≤ w10_126 ∧ w10_126 ≤ (v 3) := p0_126
                replace p1_126 : w8_126 ≠ 0 → w9_126 < w10_126 := p1_126
                replace p2_126 : 0 < w6_123 → 0 < w6_126 := p2_126
                replace p3_126 : w6_126 = 0 → w6_123 = 0 := p3_126
                have rw6_126 : 0 ≤ w6_126 ∧ w6_126 ≤ 5 := hP.2.1 6
                have rw7_126 : 0 ≤ w7_126 ∧ w7_126 ≤ 700 := hP.2.1 7
                have rw8_126 : 0 ≤ w8_126 ∧ w8_126 ≤ 4 := hP.2.1 8
                have rw9_126 : 0 ≤ w9_126 ∧ w9_126 ≤ 700 := hP.2.1 9
                have rw10_126 : 0 ≤ w10_126 ∧ w10_126 ≤ 700 := hP.2.1 10
                have rw11_126 : 0 ≤ w11_126 ∧ w11_126 ≤ 999999 := hP.2.1 11
                exact g_vret hQ C hr hlocks hP hS dX11_readLaw_257 ⟨w6_126, w7_126, w8_126, w9_126, w10_126, w11_126, (v 16), (v 20), (v 21), (v 27), (v 17), ((v 15) + 1), (v 19), (f 11), (f 12), (f 17), (f 14), (f 16), (u1 (f 5) (v 15) z_88), (u1 (f 6) (v 15) z_108), (u1 (f 7) (v 15) z_118), (u1 (f 8) (v 15) z_123), b0_126, rfl, rfl, rfl, rfl, (by first | omega | (split <;> omega)), (by first | omega | (split <;> omega)), (by first | omega | (split <;> omega)), (by first | (intro h; exfalso; omega) | exact fun _ => hrp | exact fun _ => hX (by omega))⟩
      by_cases c_87_1 : a1 = 1
      · refine lv_tableIn (off := 138) (tgt := 165) hx hb dX11_readLaw_27 (by rw [c_87_1]; decide) (by rw [c_87_1]; decide) (by rw [c_87_1]; rfl) (by decide) ?_
        refine lv_aload_n hx hb dX11_readLaw_165 rfl (lv_at hl 0 rfl) ?_
        refine g_cv (As := []) (rest := []) (n := 0) C hml (m_X11_readExpression l D k A ad hD (va_up (va_up (va_up (va_up (va_up (va_up (va_up (va_up (va_up (va_up (va_up (va_up (va_up v 6 (v 6)) 7 (v 7)) 8 w8_86) 9 w9_86) 10 w10_86) 11 w11_86) 16 (v 16)) 20 (v 20)) 21 (v 21)) 27 (v 27)) 17 (v 17)) 15 (v 15)) 19 (v 19)) (va_up (va_up (va_up (va_up (va_up (va_up (va_up (va_up (va_up f 11 (f 11)) 12 (f 12)) 17 (f 17)) 14 (f 14)) 16 (f 16)) 5 (f 5)) 6 (f 6)) 7 (f 7)) 8 (f 8)) (va_up g 0 b0_86) (show w9_86 ≤ w10_86 ∧ w10_86 ≤ (v 3) ∧ (w8_86 ≠ 0 → w9_86 < w10_86) from by omega) (show (v 6) = 0 from by omega)) mM_X11_240 mI_X11_readExpression mE_X11_readExpression mN_X11 mC_X11_readExpression (by decide +kernel) 0 (ci := 11) rfl rfl hP hS (fun _ h => h) ⟨Nat.le_of_ble_eq_true rfl, Nat.le_of_ble_eq_true rfl⟩ ⟨Nat.zero_le _, Nat.zero_le _⟩ hl.1 rfl rfl (Nat.le_of_ble_eq_true rfl) dX11_readLaw_166 (fun r_127 v_127 f_127 g_127 H locs hq_127 hP _ hS => ?_)
        obtain ⟨w6_127, w7_127, w8_127, w9_127, w10_127, w11_127, w16_127, w20_127, w21_127, w27_127, a11_127, a12_127, a17_127, b0_127, rfl, rfl, rfl, rfl, p0_127, p1_127, p2_127⟩ := hq_127
        show W p l e (gRm 4 92) s m args below meth c _ _ 0 0 Q (F0 m 169 ls [])
        have hP : gWd D (mdT k ad) (va_up (va_up (va_up (va_up (va_up (va_up (va_up (va_up (va_up (va_up (va_up (va_up (va_up v 6 w6_127) 7 w7_127) 8 w8_127) 9 w9_127) 10 w10_127) 11 w11_127) 16 w16_127) 20 w20_127) 21 w21_127) 27 w27_127) 17 (v 17)) 15 (v 15)) 19 (v 19)) (va_up (va_up (va_up (va_up (va_up (va_up (va_up (va_up (va_up f 11 a11_127) 12 a12_127) 17 a17_127) 14 (f 14)) 16 (f 16)) 5 (f 5)) 6 (f 6)) 7 (f 7)) 8 (f 8)) (va_up g 0 b0_127) H := ⟨hP.1, (gF_up (V := mdV) (F := mdF) (gF_up (V := mdV) (F := mdF) (gF_up (V := mdV) (F := mdF) (gF_up (V := mdV) (F := mdF) (gF_up (V := mdV) (F := mdF) (gF_up (V := mdV) (F := mdF) (gF_up (V := mdV) (F := mdF) (gF_up (V := mdV) (F := mdF) (gF_up (V := mdV) (F := mdF) (gR_up (V := mdV) (F := mdF) (gR_up (V := mdV) (F := mdF) (gR_up (V := mdV) (F := mdF) (gR_up (V := mdV) (F := mdF) (gR_up (V := mdV) (F := mdF) (gR_up (V := mdV) (F := mdF) (gR_up (V := mdV) (F := mdF) (gR_up (V := mdV) (F := mdF) (gR_up (V := mdV) (F := mdF) (gR_up (V := mdV) (F := mdF) (gR_up (V := mdV) (F := mdF) (gR_up (V := mdV) (F := mdF) (gR_up (V := mdV) (F := mdF) ⟨hok.1, hok.2⟩ 6 (hP.2.1 6)) 7 (hP.2.1 7)) 8 (hP.2.1 8)) 9 (hP.2.1 9)) 10 (hP.2.1 10)) 11 (hP.2.1 11)) 16 (hP.2.1 16)) 20 (hP.2.1 20)) 21 (hP.2.1 21)) 27 (hP.2.1 27)) 17 (hP.2.1 17)) 15 (hP.2.1 15)) 19 (hP.2.1 19)) 11 (hP.2.2 11)) 12 (hP.2.2 12)) 17 (hP.2.2 17)) 14 (hP.2.2 14)) 16 (hP.2.2 16)) 5 (hP.2.2 5)) 6 (hP.2.2 6)) 7 (hP.2.2 7)) 8 (hP.2.2 8))⟩
        replace p0_127 : w9_86 ≤ w9_127 ∧ w9_127 ≤ w10_127 ∧ w10_127 ≤ (v 3) := p0_127
        replace p1_127 : w8_127 ≠ 0 → w9_127 < w10_127 := p1_127
        replace p2_127 : w6_127 = 0 → rpOk w16_127 a11_127 ∧ w16_127 ≤ 40 := p2_127
        have rw6_127 : 0 ≤ w6_127 ∧ w6_127 ≤ 5 := hP.2.1 6
        have rw7_127 : 0 ≤ w7_127 ∧ w7_127 ≤ 700 := hP.2.1 7
        have rw8_127 : 0 ≤ w8_127 ∧ w8_127 ≤ 4 := hP.2.1 8
        have rw9_127 : 0 ≤ w9_127 ∧ w9_127 ≤ 700 := hP.2.1 9
        have rw10_127 : 0 ≤ w10_127 ∧ w10_127 ≤ 700 := hP.2.1 10
        have rw11_127 : 0 ≤ w11_127 ∧ w11_127 ≤ 999999 := hP.2.1 11
        have rw16_127 : 0 ≤ w16_127 ∧ w16_127 ≤ 41 := hP.2.1 16
        have rw20_127 : 0 ≤ w20_127 ∧ w20_127 ≤ 64 := hP.2.1 20
        have rw21_127 : 0 ≤ w21_127 ∧ w21_127 ≤ 9 := hP.2.1 21
        have rw27_127 : 0 ≤ w27_127 ∧ w27_127 ≤ 41 := hP.2.1 27
        have hX := p2_127
        refine lv_goto (tgt := 246) hx hb dX11_readLaw_169 (by decide) ?_
        refine lv_aload_n hx hb dX11_readLaw_246 rfl (lv_at hl 0 rfl) ?_
        refine mdG_bad C hP mF_X11_188 dX11_readLaw_247 ?_
        show W p l e (gRm 4 92) s m args below meth c _ _ 0 0 Q (F0 m 250 ls [.int (iI w6_127)])
        have r_128 : 0 ≤ w6_127 ∧ w6_127 ≤ 5 := hP.2.1 6
        refine gi_zne (tgt := 257) hx hb dX11_readLaw_250 (by decide) (by omega) (fun c_129 => ?_) (fun c_129 => ?_)
        · exact g_vret hQ C hr hlocks hP hS dX11_readLaw_257 ⟨w6_127, w7_127, w8_127, w9_127, w10_127, w11_127, w16_127, w20_127, w21_127, w27_127, (v 17), (v 15), (v 19), a11_127, a12_127, a17_127, (f 14), (f 16), (f 5), (f 6), (f 7), (f 8), b0_127, rfl, rfl, rfl, rfl, (by first | omega | (split <;> omega)), (by first | omega | (split <;> omega)), (by first | omega | (split <;> omega)), (by first | (intro h; exfalso; omega) | exact fun _ => hrp | exact fun _ => hX (by omega))⟩
        · refine lv_aload_n hx hb dX11_readLaw_253 rfl (lv_at hl 0 rfl) ?_
          refine g_cv (As := []) (rest := []) (n := 0) C hml (m_X11_ends l D k A ad hD (va_up (va_up (va_up (va_up (va_up (va_up (va_up (va_up (va_up (va_up (va_up (va_up (va_up v 6 w6_127) 7 w7_127) 8 w8_127) 9 w9_127) 10 w10_127) 11 w11_127) 16 w16_127) 20 w20_127) 21 w21_127) 27 w27_127) 17 (v 17)) 15 (v 15)) 19 (v 19)) (va_up (va_up (va_up (va_up (va_up (va_up (va_up (va_up (va_up f 11 a11_127) 12 a12_127) 17 a17_127) 14 (f 14)) 16 (f 16)) 5 (f 5)) 6 (f 6)) 7 (f 7)) 8 (f 8)) (va_up g 0 b0_127) (show w9_127 ≤ w10_127 ∧ w10_127 ≤ (v 3) ∧ (w8_127 ≠ 0 → w9_127 < w10_127) from by omega)) mM_X11_246 mI_X11_ends mE_X11_ends mN_X11 mC_X11_ends (by decide +kernel) 0 (ci := 11) rfl rfl hP hS (fun _ h => h) ⟨Nat.le_of_ble_eq_true rfl, Nat.le_of_ble_eq_true rfl⟩ ⟨Nat.zero_le _, Nat.zero_le _⟩ hl.1 rfl rfl (Nat.le_of_ble_eq_true rfl) dX11_readLaw_254 (fun r_130 v_130 f_130 g_130 H locs hq_130 hP _ hS => ?_)
          obtain ⟨w6_130, w7_130, w8_130, w9_130, w10_130, w11_130, b0_130, rfl, rfl, rfl, rfl, p0_130, p1_130, p2_130, p3_130⟩ := hq_130
          show W p l e (gRm 4 92) s m args below meth c _ _ 0 0 Q (F0 m 257 ls [])
          have hP : gWd D (mdT k ad) (va_up (va_up (va_up (va_up (va_up (va_up (va_up (va_up (va_up (va_up (va_up (va_up (va_up v 6 w6_130) 7 w7_130) 8 w8_130) 9 w9_130) 10 w10_130) 11 w11_130) 16 w16_127) 20 w20_127) 21 w21_127) 27 w27_127) 17 (v 17)) 15 (v 15)) 19 (v 19)) (va_up (va_up (va_up (va_up (va_up (va_up (va_up (va_up (va_up f 11 a11_127) 12 a12_127) 17 a17_127) 14 (f 14)) 16 (f 16)) 5 (f 5)) 6 (f 6)) 7 (f 7)) 8 (f 8)) (va_up g 0 b0_130) H := ⟨hP.1, (gF_up (V := mdV) (F := mdF) (gF_up (V := mdV) (F := mdF) (gF_up (V := mdV) (F := mdF) (gF_up (V := mdV) (F := mdF) (gF_up (V := mdV) (F := mdF) (gF_up (V := mdV) (F := mdF) (gF_up (V := mdV) (F := mdF) (gF_up (V := mdV) (F := mdF) (gF_up (V := mdV) (F := mdF) (gR_up (V := mdV) (F := mdF) (gR_up (V := mdV) (F := mdF) (gR_up (V := mdV) (F := mdF) (gR_up (V := mdV) (F := mdF) (gR_up (V := mdV) (F := mdF) (gR_up (V := mdV) (F := mdF) (gR_up (V := mdV) (F := mdF) (gR_up (V := mdV) (F := mdF) (gR_up (V := mdV) (F := mdF) (gR_up (V := mdV) (F := mdF) (gR_up (V := mdV) (F := mdF) (gR_up (V := mdV) (F := mdF) (gR_up (V := mdV) (F := mdF) ⟨hok.1, hok.2⟩ 6 (hP.2.1 6)) 7 (hP.2.1 7)) 8 (hP.2.1 8)) 9 (hP.2.1 9)) 10 (hP.2.1 10)) 11 (hP.2.1 11)) 16 (hP.2.1 16)) 20 (hP.2.1 20)) 21 (hP.2.1 21)) 27 (hP.2.1 27)) 17 (hP.2.1 17)) 15 (hP.2.1 15)) 19 (hP.2.1 19)) 11 (hP.2.2 11)) 12 (hP.2.2 12)) 17 (hP.2.2 17)) 14 (hP.2.2 14)) 16 (hP.2.2 16)) 5 (hP.2.2 5)) 6 (hP.2.2 6)) 7 (hP.2.2 7)) 8 (hP.2.2 8))⟩
          replace p0_130 : w9_127 ≤ w9_130 ∧ w9_130 ≤ w10_130 ∧ w10_130 ≤ (v 3) := p0_130
          replace p1_130 : w8_130 ≠ 0 → w9_130 < w10_130 := p1_130
          replace p2_130 : 0 < w6_127 → 0 < w6_130 := p2_130
          replace p3_130 : w6_130 = 0 → w6_127 = 0 := p3_130
          have rw6_130 : 0 ≤ w6_130 ∧ w6_130 ≤ 5 := hP.2.1 6
          have rw7_130 : 0 ≤ w7_130 ∧ w7_130 ≤ 700 := hP.2.1 7
          have rw8_130 : 0 ≤ w8_130 ∧ w8_130 ≤ 4 := hP.2.1 8
          have rw9_130 : 0 ≤ w9_130 ∧ w9_130 ≤ 700 := hP.2.1 9
          have rw10_130 : 0 ≤ w10_130 ∧ w10_130 ≤ 700 := hP.2.1 10
          have rw11_130 : 0 ≤ w11_130 ∧ w11_130 ≤ 999999 := hP.2.1 11
          exact g_vret hQ C hr hlocks hP hS dX11_readLaw_257 ⟨w6_130, w7_130, w8_130, w9_130, w10_130, w11_130, w16_127, w20_127, w21_127, w27_127, (v 17), (v 15), (v 19), a11_127, a12_127, a17_127, (f 14), (f 16), (f 5), (f 6), (f 7), (f 8), b0_130, rfl, rfl, rfl, rfl, (by first | omega | (split <;> omega)), (by first | omega | (split <;> omega)), (by first | omega | (split <;> omega)), (by first | (intro h; exfalso; omega) | exact fun _ => hrp | exact fun _ => hX (by omega))⟩
      by_cases c_87_2 : a1 = 2
      · refine lv_tableIn (off := 145) (tgt := 172) hx hb dX11_readLaw_27 (by rw [c_87_2]; decide) (by rw [c_87_2]; decide) (by rw [c_87_2]; rfl) (by decide) ?_
        refine lv_aload_n hx hb dX11_readLaw_172 rfl (lv_at hl 0 rfl) ?_
        refine g_cv (As := []) (rest := []) (n := 0) C hml (m_X11_readKeys l D k A ad hD (va_up (va_up (va_up (va_up (va_up (va_up (va_up (va_up (va_up (va_up (va_up (va_up (va_up v 6 (v 6)) 7 (v 7)) 8 w8_86) 9 w9_86) 10 w10_86) 11 w11_86) 16 (v 16)) 20 (v 20)) 21 (v 21)) 27 (v 27)) 17 (v 17)) 15 (v 15)) 19 (v 19)) (va_up (va_up (va_up (va_up (va_up (va_up (va_up (va_up (va_up f 11 (f 11)) 12 (f 12)) 17 (f 17)) 14 (f 14)) 16 (f 16)) 5 (f 5)) 6 (f 6)) 7 (f 7)) 8 (f 8)) (va_up g 0 b0_86) (show w9_86 ≤ w10_86 ∧ w10_86 ≤ (v 3) ∧ (w8_86 ≠ 0 → w9_86 < w10_86) from by omega) (show (v 6) = 0 from by omega)) mM_X11_243 mI_X11_readKeys mE_X11_readKeys mN_X11 mC_X11_readKeys (by decide +kernel) 0 (ci := 11) rfl rfl hP hS (fun _ h => h) ⟨Nat.le_of_ble_eq_true rfl, Nat.le_of_ble_eq_true rfl⟩ ⟨Nat.zero_le _, Nat.zero_le _⟩ hl.1 rfl rfl (Nat.le_of_ble_eq_true rfl) dX11_readLaw_173 (fun r_131 v_131 f_131 g_131 H locs hq_131 hP _ hS => ?_)
        obtain ⟨w6_131, w7_131, w8_131, w9_131, w10_131, w11_131, w17_131, a14_131, a16_131, b0_131, rfl, rfl, rfl, rfl, p0_131, p1_131⟩ := hq_131
        show W p l e (gRm 4 92) s m args below meth c _ _ 0 0 Q (F0 m 176 ls [])
        have hP : gWd D (mdT k ad) (va_up (va_up (va_up (va_up (va_up (va_up (va_up (va_up (va_up (va_up (va_up (va_up (va_up v 6 w6_131) 7 w7_131) 8 w8_131) 9 w9_131) 10 w10_131) 11 w11_131) 16 (v 16)) 20 (v 20)) 21 (v 21)) 27 (v 27)) 17 w17_131) 15 (v 15)) 19 (v 19)) (va_up (va_up (va_up (va_up (va_up (va_up (va_up (va_up (va_up f 11 (f 11)) 12 (f 12)) 17 (f 17)) 14 a14_131) 16 a16_131) 5 (f 5)) 6 (f 6)) 7 (f 7)) 8 (f 8)) (va_up g 0 b0_131) H := ⟨hP.1, (gF_up (V := mdV) (F := mdF) (gF_up (V := mdV) (F := mdF) (gF_up (V := mdV) (F := mdF) (gF_up (V := mdV) (F := mdF) (gF_up (V := mdV) (F := mdF) (gF_up (V := mdV) (F := mdF) (gF_up (V := mdV) (F := mdF) (gF_up (V := mdV) (F := mdF) (gF_up (V := mdV) (F := mdF) (gR_up (V := mdV) (F := mdF) (gR_up (V := mdV) (F := mdF) (gR_up (V := mdV) (F := mdF) (gR_up (V := mdV) (F := mdF) (gR_up (V := mdV) (F := mdF) (gR_up (V := mdV) (F := mdF) (gR_up (V := mdV) (F := mdF) (gR_up (V := mdV) (F := mdF) (gR_up (V := mdV) (F := mdF) (gR_up (V := mdV) (F := mdF) (gR_up (V := mdV) (F := mdF) (gR_up (V := mdV) (F := mdF) (gR_up (V := mdV) (F := mdF) ⟨hok.1, hok.2⟩ 6 (hP.2.1 6)) 7 (hP.2.1 7)) 8 (hP.2.1 8)) 9 (hP.2.1 9)) 10 (hP.2.1 10)) 11 (hP.2.1 11)) 16 (hP.2.1 16)) 20 (hP.2.1 20)) 21 (hP.2.1 21)) 27 (hP.2.1 27)) 17 (hP.2.1 17)) 15 (hP.2.1 15)) 19 (hP.2.1 19)) 11 (hP.2.2 11)) 12 (hP.2.2 12)) 17 (hP.2.2 17)) 14 (hP.2.2 14)) 16 (hP.2.2 16)) 5 (hP.2.2 5)) 6 (hP.2.2 6)) 7 (hP.2.2 7)) 8 (hP.2.2 8))⟩
        replace p0_131 : w9_86 ≤ w9_131 ∧ w9_131 ≤ w10_131 ∧ w10_131 ≤ (v 3) := p0_131
        replace p1_131 : w8_131 ≠ 0 → w9_131 < w10_131 := p1_131
        have rw6_131 : 0 ≤ w6_131 ∧ w6_131 ≤ 5 := hP.2.1 6
        have rw7_131 : 0 ≤ w7_131 ∧ w7_131 ≤ 700 := hP.2.1 7
        have rw8_131 : 0 ≤ w8_131 ∧ w8_131 ≤ 4 := hP.2.1 8
        have rw9_131 : 0 ≤ w9_131 ∧ w9_131 ≤ 700 := hP.2.1 9
        have rw10_131 : 0 ≤ w10_131 ∧ w10_131 ≤ 700 := hP.2.1 10
        have rw11_131 : 0 ≤ w11_131 ∧ w11_131 ≤ 999999 := hP.2.1 11
        have rw17_131 : 0 ≤ w17_131 ∧ w17_131 ≤ 4 := hP.2.1 17
        refine lv_goto (tgt := 246) hx hb dX11_readLaw_176 (by decide) ?_
        refine lv_aload_n hx hb dX11_readLaw_246 rfl (lv_at hl 0 rfl) ?_
        refine mdG_bad C hP mF_X11_188 dX11_readLaw_247 ?_
        show W p l e (gRm 4 92) s m args below meth c _ _ 0 0 Q (F0 m 250 ls [.int (iI w6_131)])
        have r_132 : 0 ≤ w6_131 ∧ w6_131 ≤ 5 := hP.2.1 6
        refine gi_zne (tgt := 257) hx hb dX11_readLaw_250 (by decide) (by omega) (fun c_133 => ?_) (fun c_133 => ?_)
        · exact g_vret hQ C hr hlocks hP hS dX11_readLaw_257 ⟨w6_131, w7_131, w8_131, w9_131, w10_131, w11_131, (v 16), (v 20), (v 21), (v 27), w17_131, (v 15), (v 19), (f 11), (f 12), (f 17), a14_131, a16_131, (f 5), (f 6), (f 7), (f 8), b0_131, rfl, rfl, rfl, rfl, (by first | omega | (split <;> omega)), (by first | omega | (split <;> omega)), (by first | omega | (split <;> omega)), (by first | (intro h; exfalso; omega) | exact fun _ => hrp | exact fun _ => hX (by omega))⟩
        · refine lv_aload_n hx hb dX11_readLaw_253 rfl (lv_at hl 0 rfl) ?_
          refine g_cv (As := []) (rest := []) (n := 0) C hml (m_X11_ends l D k A ad hD (va_up (va_up (va_up (va_up (va_up (va_up (va_up (va_up (va_up (va_up (va_up (va_up (va_up v 6 w6_131) 7 w7_131) 8 w8_131) 9 w9_131) 10 w10_131) 11 w11_131) 16 (v 16)) 20 (v 20)) 21 (v 21)) 27 (v 27)) 17 w17_131) 15 (v 15)) 19 (v 19)) (va_up (va_up (va_up (va_up (va_up (va_up (va_up (va_up (va_up f 11 (f 11)) 12 (f 12)) 17 (f 17)) 14 a14_131) 16 a16_131) 5 (f 5)) 6 (f 6)) 7 (f 7)) 8 (f 8)) (va_up g 0 b0_131) (show w9_131 ≤ w10_131 ∧ w10_131 ≤ (v 3) ∧ (w8_131 ≠ 0 → w9_131 < w10_131) from by omega)) mM_X11_246 mI_X11_ends mE_X11_ends mN_X11 mC_X11_ends (by decide +kernel) 0 (ci := 11) rfl rfl hP hS (fun _ h => h) ⟨Nat.le_of_ble_eq_true rfl, Nat.le_of_ble_eq_true rfl⟩ ⟨Nat.zero_le _, Nat.zero_le _⟩ hl.1 rfl rfl (Nat.le_of_ble_eq_true rfl) dX11_readLaw_254 (fun r_134 v_134 f_134 g_134 H locs hq_134 hP _ hS => ?_)
          obtain ⟨w6_134, w7_134, w8_134, w9_134, w10_134, w11_134, b0_134, rfl, rfl, rfl, rfl, p0_134, p1_134, p2_134, p3_134⟩ := hq_134
          show W p l e (gRm 4 92) s m args below meth c _ _ 0 0 Q (F0 m 257 ls [])
          have hP : gWd D (mdT k ad) (va_up (va_up (va_up (va_up (va_up (va_up (va_up (va_up (va_up (va_up (va_up (va_up (va_up v 6 w6_134) 7 w7_134) 8 w8_134) 9 w9_134) 10 w10_134) 11 w11_134) 16 (v 16)) 20 (v 20)) 21 (v 21)) 27 (v 27)) 17 w17_131) 15 (v 15)) 19 (v 19)) (va_up (va_up (va_up (va_up (va_up (va_up (va_up (va_up (va_up f 11 (f 11)) 12 (f 12)) 17 (f 17)) 14 a14_131) 16 a16_131) 5 (f 5)) 6 (f 6)) 7 (f 7)) 8 (f 8)) (va_up g 0 b0_134) H := ⟨hP.1, (gF_up (V := mdV) (F := mdF) (gF_up (V := mdV) (F := mdF) (gF_up (V := mdV) (F := mdF) (gF_up (V := mdV) (F := mdF) (gF_up (V := mdV) (F := mdF) (gF_up (V := mdV) (F := mdF) (gF_up (V := mdV) (F := mdF) (gF_up (V := mdV) (F := mdF) (gF_up (V := mdV) (F := mdF) (gR_up (V := mdV) (F := mdF) (gR_up (V := mdV) (F := mdF) (gR_up (V := mdV) (F := mdF) (gR_up (V := mdV) (F := mdF) (gR_up (V := mdV) (F := mdF) (gR_up (V := mdV) (F := mdF) (gR_up (V := mdV) (F := mdF) (gR_up (V := mdV) (F := mdF) (gR_up (V := mdV) (F := mdF) (gR_up (V := mdV) (F := mdF) (gR_up (V := mdV) (F := mdF) (gR_up (V := mdV) (F := mdF) (gR_up (V := mdV) (F := mdF) ⟨hok.1, hok.2⟩ 6 (hP.2.1 6)) 7 (hP.2.1 7)) 8 (hP.2.1 8)) 9 (hP.2.1 9)) 10 (hP.2.1 10)) 11 (hP.2.1 11)) 16 (hP.2.1 16)) 20 (hP.2.1 20)) 21 (hP.2.1 21)) 27 (hP.2.1 27)) 17 (hP.2.1 17)) 15 (hP.2.1 15)) 19 (hP.2.1 19)) 11 (hP.2.2 11)) 12 (hP.2.2 12)) 17 (hP.2.2 17)) 14 (hP.2.2 14)) 16 (hP.2.2 16)) 5 (hP.2.2 5)) 6 (hP.2.2 6)) 7 (hP.2.2 7)) 8 (hP.2.2 8))⟩
          replace p0_134 : w9_131 ≤ w9_134 ∧ w9_134 ≤ w10_134 ∧ w10_134 ≤ (v 3) := p0_134
          replace p1_134 : w8_134 ≠ 0 → w9_134 < w10_134 := p1_134
          replace p2_134 : 0 < w6_131 → 0 < w6_134 := p2_134
          replace p3_134 : w6_134 = 0 → w6_131 = 0 := p3_134
          have rw6_134 : 0 ≤ w6_134 ∧ w6_134 ≤ 5 := hP.2.1 6
          have rw7_134 : 0 ≤ w7_134 ∧ w7_134 ≤ 700 := hP.2.1 7
          have rw8_134 : 0 ≤ w8_134 ∧ w8_134 ≤ 4 := hP.2.1 8
          have rw9_134 : 0 ≤ w9_134 ∧ w9_134 ≤ 700 := hP.2.1 9
          have rw10_134 : 0 ≤ w10_134 ∧ w10_134 ≤ 700 := hP.2.1 10
          have rw11_134 : 0 ≤ w11_134 ∧ w11_134 ≤ 999999 := hP.2.1 11
          exact g_vret hQ C hr hlocks hP hS dX11_readLaw_257 ⟨w6_134, w7_134, w8_134, w9_134, w10_134, w11_134, (v 16), (v 20), (v 21), (v 27), w17_131, (v 15), (v 19), (f 11), (f 12), (f 17), a14_131, a16_131, (f 5), (f 6), (f 7), (f 8), b0_134, rfl, rfl, rfl, rfl, (by first | omega | (split <;> omega)), (by first | omega | (split <;> omega)), (by first | omega | (split <;> omega)), (by first | (intro h; exfalso; omega) | exact fun _ => hrp | exact fun _ => hX (by omega))⟩
      refine lv_tableOut (tgt := 179) hx hb dX11_readLaw_27 (by rw [iI_toInt (by omega)]; omega) (by decide) ?_
      refine lv_aload_n hx hb dX11_readLaw_179 rfl (lv_at hl 0 rfl) ?_
      refine lv_aload_n hx hb dX11_readLaw_180 rfl (lv_at hl 0 rfl) ?_
      refine lv_bipush (v := iI 98) hx hb dX11_readLaw_181 (by decide) ?_
      refine lv_bipush (v := iI 97) hx hb dX11_readLaw_183 (by decide) ?_
      refine lv_bipush (v := iI 99) hx hb dX11_readLaw_185 (by decide) ?_
      refine lv_bipush (v := iI 107) hx hb dX11_readLaw_187 (by decide) ?_
      refine lv_iconst (v := iI 0) hx hb dX11_readLaw_189 rfl ?_
      refine lv_iconst (v := iI 0) hx hb dX11_readLaw_190 rfl ?_
      refine lv_iconst (v := iI 0) hx hb dX11_readLaw_191 rfl ?_
      refine g_cs (As := [.int (iI 98), .int (iI 97), .int (iI 99), .int (iI 107), .int (iI 0), .int (iI 0), .int (iI 0)]) (rest := [.ref (ad 0), .ref (ad 0)]) (n := 7) C hml (m_X11_spelled l D k A ad hD (va_up (va_up (va_up (va_up (va_up (va_up (va_up (va_up (va_up (va_up (va_up (va_up (va_up v 6 (v 6)) 7 (v 7)) 8 w8_86) 9 w9_86) 10 w10_86) 11 w11_86) 16 (v 16)) 20 (v 20)) 21 (v 21)) 27 (v 27)) 17 (v 17)) 15 (v 15)) 19 (v 19)) (va_up (va_up (va_up (va_up (va_up (va_up (va_up (va_up (va_up f 11 (f 11)) 12 (f 12)) 17 (f 17)) 14 (f 14)) 16 (f 16)) 5 (f 5)) 6 (f 6)) 7 (f 7)) 8 (f 8)) (va_up g 0 b0_86) 98 97 99 107 0 0 0 (by decide) (by decide) (by decide) (by decide) (by decide) (by decide) (by decide)) mM_X11_228 mS_X11_spelled mN_X11 mC_X11_spelled (by decide +kernel) hP hS (fun _ h => h) ⟨Nat.le_of_ble_eq_true rfl, Nat.le_of_ble_eq_true rfl⟩ ⟨Nat.zero_le _, Nat.zero_le _⟩ hl.1 rfl rfl (Nat.le_of_ble_eq_true rfl) dX11_readLaw_192 (fun r_135 v_135 f_135 g_135 H locs hq_135 hP _ hS => ?_)
      obtain ⟨z_135, rfl, rfl, rfl, rfl⟩ := hq_135
      show W p l e (gRm 4 92) s m args below meth c _ _ 0 0 Q (F0 m 195 ls [.long (iL z_135), .ref (ad 0), .ref (ad 0)])
      refine g_cv (As := [.long (iL z_135)]) (rest := [.ref (ad 0)]) (n := 1) C hml (m_X11_isWord l D k A ad hD (va_up (va_up (va_up (va_up (va_up (va_up (va_up (va_up (va_up (va_up (va_up (va_up (va_up v 6 (v 6)) 7 (v 7)) 8 w8_86) 9 w9_86) 10 w10_86) 11 w11_86) 16 (v 16)) 20 (v 20)) 21 (v 21)) 27 (v 27)) 17 (v 17)) 15 (v 15)) 19 (v 19)) (va_up (va_up (va_up (va_up (va_up (va_up (va_up (va_up (va_up f 11 (f 11)) 12 (f 12)) 17 (f 17)) 14 (f 14)) 16 (f 16)) 5 (f 5)) 6 (f 6)) 7 (f 7)) 8 (f 8)) (va_up g 0 b0_86) z_135) mM_X11_232 mI_X11_isWord mE_X11_isWord mN_X11 mC_X11_isWord (by decide +kernel) 0 (ci := 11) rfl rfl hP hS (fun _ h => h) ⟨Nat.le_of_ble_eq_true rfl, Nat.le_of_ble_eq_true rfl⟩ ⟨Nat.zero_le _, Nat.zero_le _⟩ hl.1 rfl rfl (Nat.le_of_ble_eq_true rfl) dX11_readLaw_195 (fun r_136 v_136 f_136 g_136 H locs hq_136 hP _ hS => ?_)
      obtain ⟨z_136, rfl, rfl, rfl, rfl, p0_136, p1_136⟩ := hq_136
      show W p l e (gRm 4 92) s m args below meth c _ _ 0 0 Q (F0 m 198 ls [.int (iI z_136), .ref (ad 0)])
      replace p0_136 : 0 ≤ z_136 ∧ z_136 ≤ 1 := p0_136
      replace p1_136 : z_136 = 1 → w8_86 = 1 := p1_136
      refine mdP_newBack (v1 := (va_up (va_up (va_up (va_up (va_up (va_up (va_up (va_up (va_up (va_up (va_up (va_up (va_up v 6 (v 6)) 7 (v 7)) 8 w8_86) 9 w9_86) 10 w10_86) 11 w11_86) 16 (v 16)) 20 (v 20)) 21 (v 21)) 27 (v 27)) 17 (v 17)) 15 (v 15)) 19 z_136)) C hP hD hS mF_X11_210 (by omega) (by omega) rfl (Or.inr (gF_up (V := mdV) (F := mdF) (gF_up (V := mdV) (F := mdF) (gF_up (V := mdV) (F := mdF) (gF_up (V := mdV) (F := mdF) (gF_up (V := mdV) (F := mdF) (gF_up (V := mdV) (F := mdF) (gF_up (V := mdV) (F := mdF) (gF_up (V := mdV) (F := mdF) (gF_up (V := mdV) (F := mdF) (gR_up (V := mdV) (F := mdF) (gR_up (V := mdV) (F := mdF) (gR_up (V := mdV) (F := mdF) (gR_up (V := mdV) (F := mdF) (gR_up (V := mdV) (F := mdF) (gR_up (V := mdV) (F := mdF) (gR_up (V := mdV) (F := mdF) (gR_up (V := mdV) (F := mdF) (gR_up (V := mdV) (F := mdF) (gR_up (V := mdV) (F := mdF) (gR_up (V := mdV) (F := mdF) (gR_up (V := mdV) (F := mdF) (gR_up (V := mdV) (F := mdF) ⟨hok.1, hok.2⟩ 6 (hP.2.1 6)) 7 (hP.2.1 7)) 8 (hP.2.1 8)) 9 (hP.2.1 9)) 10 (hP.2.1 10)) 11 (hP.2.1 11)) 16 (hP.2.1 16)) 20 (hP.2.1 20)) 21 (hP.2.1 21)) 27 (hP.2.1 27)) 17 (hP.2.1 17)) 15 (hP.2.1 15)) 19 (show 0 ≤ z_136 ∧ z_136 ≤ 1 from by omega)) 11 (hP.2.2 11)) 12 (hP.2.2 12)) 17 (hP.2.2 17)) 14 (hP.2.2 14)) 16 (hP.2.2 16)) 5 (hP.2.2 5)) 6 (hP.2.2 6)) 7 (hP.2.2 7)) 8 (hP.2.2 8))) dX11_readLaw_198 (fun H locs hP hS => ?_)
      refine lv_aload_n hx hb dX11_readLaw_201 rfl (lv_at hl 0 rfl) ?_
      refine mdG_newBack C hP mF_X11_210 dX11_readLaw_202 ?_
      show W p l e (gRm 4 92) s m args below meth c _ _ 0 0 Q (F0 m 205 ls [.int (iI z_136)])
      have r_137 : 0 ≤ z_136 ∧ z_136 ≤ 1 := hP.2.1 19
      refine gi_zne (tgt := 235) hx hb dX11_readLaw_205 (by decide) (by omega) (fun c_138 => ?_) (fun c_138 => ?_)
      · refine lv_aload_n hx hb dX11_readLaw_235 rfl (lv_at hl 0 rfl) ?_
        refine mdG_bad C hP mF_X11_188 dX11_readLaw_236 ?_
        show W p l e (gRm 4 92) s m args below meth c _ _ 0 0 Q (F0 m 239 ls [.int (iI (v 6))])
        refine gi_zne (tgt := 246) hx hb dX11_readLaw_239 (by decide) (by omega) (fun c_139 => ?_) (fun c_139 => ?_)
        · refine lv_aload_n hx hb dX11_readLaw_246 rfl (lv_at hl 0 rfl) ?_
          refine mdG_bad C hP mF_X11_188 dX11_readLaw_247 ?_
          show W p l e (gRm 4 92) s m args below meth c _ _ 0 0 Q (F0 m 250 ls [.int (iI (v 6))])
          refine gi_zne (tgt := 257) hx hb dX11_readLaw_250 (by decide) (by omega) (fun c_140 => ?_) (fun c_140 => ?_)
          · exact g_vret hQ C hr hlocks hP hS dX11_readLaw_257 ⟨(v 6), (v 7), w8_86, w9_86, w10_86, w11_86, (v 16), (v 20), (v 21), (v 27), (v 17), (v 15), z_136, (f 11), (f 12), (f 17), (f 14), (f 16), (f 5), (f 6), (f 7), (f 8), b0_86, rfl, rfl, rfl, rfl, (by first | omega | (split <;> omega)), (by first | omega | (split <;> omega)), (by first | omega | (split <;> omega)), (by first | (intro h; exfalso; omega) | exact fun _ => hrp | exact fun _ => hX (by omega))⟩
          · refine lv_aload_n hx hb dX11_readLaw_253 rfl (lv_at hl 0 rfl) ?_
            refine g_cv (As := []) (rest := []) (n := 0) C hml (m_X11_ends l D k A ad hD (va_up (va_up (va_up (va_up (va_up (va_up (va_up (va_up (va_up (va_up (va_up (va_up (va_up v 6 (v 6)) 7 (v 7)) 8 w8_86) 9 w9_86) 10 w10_86) 11 w11_86) 16 (v 16)) 20 (v 20)) 21 (v 21)) 27 (v 27)) 17 (v 17)) 15 (v 15)) 19 z_136) (va_up (va_up (va_up (va_up (va_up (va_up (va_up (va_up (va_up f 11 (f 11)) 12 (f 12)) 17 (f 17)) 14 (f 14)) 16 (f 16)) 5 (f 5)) 6 (f 6)) 7 (f 7)) 8 (f 8)) (va_up g 0 b0_86) (show w9_86 ≤ w10_86 ∧ w10_86 ≤ (v 3) ∧ (w8_86 ≠ 0 → w9_86 < w10_86) from by omega)) mM_X11_246 mI_X11_ends mE_X11_ends mN_X11 mC_X11_ends (by decide +kernel) 0 (ci := 11) rfl rfl hP hS (fun _ h => h) ⟨Nat.le_of_ble_eq_true rfl, Nat.le_of_ble_eq_true rfl⟩ ⟨Nat.zero_le _, Nat.zero_le _⟩ hl.1 rfl rfl (Nat.le_of_ble_eq_true rfl) dX11_readLaw_254 (fun r_141 v_141 f_141 g_141 H locs hq_141 hP _ hS => ?_)
            obtain ⟨w6_141, w7_141, w8_141, w9_141, w10_141, w11_141, b0_141, rfl, rfl, rfl, rfl, p0_141, p1_141, p2_141, p3_141⟩ := hq_141
            show W p l e (gRm 4 92) s m args below meth c _ _ 0 0 Q (F0 m 257 ls [])
            have hP : gWd D (mdT k ad) (va_up (va_up (va_up (va_up (va_up (va_up (va_up (va_up (va_up (va_up (va_up (va_up (va_up v 6 w6_141) 7 w7_141) 8 w8_141) 9 w9_141) 10 w10_141) 11 w11_141) 16 (v 16)) 20 (v 20)) 21 (v 21)) 27 (v 27)) 17 (v 17)) 15 (v 15)) 19 z_136) (va_up (va_up (va_up (va_up (va_up (va_up (va_up (va_up (va_up f 11 (f 11)) 12 (f 12)) 17 (f 17)) 14 (f 14)) 16 (f 16)) 5 (f 5)) 6 (f 6)) 7 (f 7)) 8 (f 8)) (va_up g 0 b0_141) H := ⟨hP.1, (gF_up (V := mdV) (F := mdF) (gF_up (V := mdV) (F := mdF) (gF_up (V := mdV) (F := mdF) (gF_up (V := mdV) (F := mdF) (gF_up (V := mdV) (F := mdF) (gF_up (V := mdV) (F := mdF) (gF_up (V := mdV) (F := mdF) (gF_up (V := mdV) (F := mdF) (gF_up (V := mdV) (F := mdF) (gR_up (V := mdV) (F := mdF) (gR_up (V := mdV) (F := mdF) (gR_up (V := mdV) (F := mdF) (gR_up (V := mdV) (F := mdF) (gR_up (V := mdV) (F := mdF) (gR_up (V := mdV) (F := mdF) (gR_up (V := mdV) (F := mdF) (gR_up (V := mdV) (F := mdF) (gR_up (V := mdV) (F := mdF) (gR_up (V := mdV) (F := mdF) (gR_up (V := mdV) (F := mdF) (gR_up (V := mdV) (F := mdF) (gR_up (V := mdV) (F := mdF) ⟨hok.1, hok.2⟩ 6 (hP.2.1 6)) 7 (hP.2.1 7)) 8 (hP.2.1 8)) 9 (hP.2.1 9)) 10 (hP.2.1 10)) 11 (hP.2.1 11)) 16 (hP.2.1 16)) 20 (hP.2.1 20)) 21 (hP.2.1 21)) 27 (hP.2.1 27)) 17 (hP.2.1 17)) 15 (hP.2.1 15)) 19 (hP.2.1 19)) 11 (hP.2.2 11)) 12 (hP.2.2 12)) 17 (hP.2.2 17)) 14 (hP.2.2 14)) 16 (hP.2.2 16)) 5 (hP.2.2 5)) 6 (hP.2.2 6)) 7 (hP.2.2 7)) 8 (hP.2.2 8))⟩
            replace p0_141 : w9_86 ≤ w9_141 ∧ w9_141 ≤ w10_141 ∧ w10_141 ≤ (v 3) := p0_141
            replace p1_141 : w8_141 ≠ 0 → w9_141 < w10_141 := p1_141
            replace p2_141 : 0 < (v 6) → 0 < w6_141 := p2_141
            replace p3_141 : w6_141 = 0 → (v 6) = 0 := p3_141
            have rw6_141 : 0 ≤ w6_141 ∧ w6_141 ≤ 5 := hP.2.1 6
            have rw7_141 : 0 ≤ w7_141 ∧ w7_141 ≤ 700 := hP.2.1 7
            have rw8_141 : 0 ≤ w8_141 ∧ w8_141 ≤ 4 := hP.2.1 8
            have rw9_141 : 0 ≤ w9_141 ∧ w9_141 ≤ 700 := hP.2.1 9
            have rw10_141 : 0 ≤ w10_141 ∧ w10_141 ≤ 700 := hP.2.1 10
            have rw11_141 : 0 ≤ w11_141 ∧ w11_141 ≤ 999999 := hP.2.1 11
            exact g_vret hQ C hr hlocks hP hS dX11_readLaw_257 ⟨w6_141, w7_141, w8_141, w9_141, w10_141, w11_141, (v 16), (v 20), (v 21), (v 27), (v 17), (v 15), z_136, (f 11), (f 12), (f 17), (f 14), (f 16), (f 5), (f 6), (f 7), (f 8), b0_141, rfl, rfl, rfl, rfl, (by first | omega | (split <;> omega)), (by first | omega | (split <;> omega)), (by first | omega | (split <;> omega)), (by first | (intro h; exfalso; omega) | exact fun _ => hrp | exact fun _ => hX (by omega))⟩
        · refine lv_aload_n hx hb dX11_readLaw_242 rfl (lv_at hl 0 rfl) ?_
          refine g_cv (As := []) (rest := []) (n := 0) C hml (m_X11_next l D k A ad hD (va_up (va_up (va_up (va_up (va_up (va_up (va_up (va_up (va_up (va_up (va_up (va_up (va_up v 6 (v 6)) 7 (v 7)) 8 w8_86) 9 w9_86) 10 w10_86) 11 w11_86) 16 (v 16)) 20 (v 20)) 21 (v 21)) 27 (v 27)) 17 (v 17)) 15 (v 15)) 19 z_136) (va_up (va_up (va_up (va_up (va_up (va_up (va_up (va_up (va_up f 11 (f 11)) 12 (f 12)) 17 (f 17)) 14 (f 14)) 16 (f 16)) 5 (f 5)) 6 (f 6)) 7 (f 7)) 8 (f 8)) (va_up g 0 b0_86) (show w10_86 ≤ (v 3) from by omega)) mM_X11_201 mI_X11_next mE_X11_next mN_X11 mC_X11_next (by decide +kernel) 0 (ci := 11) rfl rfl hP hS (fun _ h => h) ⟨Nat.le_of_ble_eq_true rfl, Nat.le_of_ble_eq_true rfl⟩ ⟨Nat.zero_le _, Nat.zero_le _⟩ hl.1 rfl rfl (Nat.le_of_ble_eq_true rfl) dX11_readLaw_243 (fun r_142 v_142 f_142 g_142 H locs hq_142 hP _ hS => ?_)
          obtain ⟨w8_142, w9_142, w10_142, w11_142, b0_142, rfl, rfl, rfl, rfl, p0_142, p1_142⟩ := hq_142
          show W p l e (gRm 4 92) s m args below meth c _ _ 0 0 Q (F0 m 246 ls [])
          have hP : gWd D (mdT k ad) (va_up (va_up (va_up (va_up (va_up (va_up (va_up (va_up (va_up (va_up (va_up (va_up (va_up v 6 (v 6)) 7 (v 7)) 8 w8_142) 9 w9_142) 10 w10_142) 11 w11_142) 16 (v 16)) 20 (v 20)) 21 (v 21)) 27 (v 27)) 17 (v 17)) 15 (v 15)) 19 z_136) (va_up (va_up (va_up (va_up (va_up (va_up (va_up (va_up (va_up f 11 (f 11)) 12 (f 12)) 17 (f 17)) 14 (f 14)) 16 (f 16)) 5 (f 5)) 6 (f 6)) 7 (f 7)) 8 (f 8)) (va_up g 0 b0_142) H := ⟨hP.1, (gF_up (V := mdV) (F := mdF) (gF_up (V := mdV) (F := mdF) (gF_up (V := mdV) (F := mdF) (gF_up (V := mdV) (F := mdF) (gF_up (V := mdV) (F := mdF) (gF_up (V := mdV) (F := mdF) (gF_up (V := mdV) (F := mdF) (gF_up (V := mdV) (F := mdF) (gF_up (V := mdV) (F := mdF) (gR_up (V := mdV) (F := mdF) (gR_up (V := mdV) (F := mdF) (gR_up (V := mdV) (F := mdF) (gR_up (V := mdV) (F := mdF) (gR_up (V := mdV) (F := mdF) (gR_up (V := mdV) (F := mdF) (gR_up (V := mdV) (F := mdF) (gR_up (V := mdV) (F := mdF) (gR_up (V := mdV) (F := mdF) (gR_up (V := mdV) (F := mdF) (gR_up (V := mdV) (F := mdF) (gR_up (V := mdV) (F := mdF) (gR_up (V := mdV) (F := mdF) ⟨hok.1, hok.2⟩ 6 (hP.2.1 6)) 7 (hP.2.1 7)) 8 (hP.2.1 8)) 9 (hP.2.1 9)) 10 (hP.2.1 10)) 11 (hP.2.1 11)) 16 (hP.2.1 16)) 20 (hP.2.1 20)) 21 (hP.2.1 21)) 27 (hP.2.1 27)) 17 (hP.2.1 17)) 15 (hP.2.1 15)) 19 (hP.2.1 19)) 11 (hP.2.2 11)) 12 (hP.2.2 12)) 17 (hP.2.2 17)) 14 (hP.2.2 14)) 16 (hP.2.2 16)) 5 (hP.2.2 5)) 6 (hP.2.2 6)) 7 (hP.2.2 7)) 8 (hP.2.2 8))⟩
          replace p0_142 : w10_86 ≤ w9_142 ∧ w9_142 ≤ w10_142 ∧ w10_142 ≤ (v 3) := p0_142
          replace p1_142 : w8_142 ≠ 0 → w9_142 < w10_142 := p1_142
          have rw8_142 : 0 ≤ w8_142 ∧ w8_142 ≤ 4 := hP.2.1 8
          have rw9_142 : 0 ≤ w9_142 ∧ w9_142 ≤ 700 := hP.2.1 9
          have rw10_142 : 0 ≤ w10_142 ∧ w10_142 ≤ 700 := hP.2.1 10
          have rw11_142 : 0 ≤ w11_142 ∧ w11_142 ≤ 999999 := hP.2.1 11
          refine lv_aload_n hx hb dX11_readLaw_246 rfl (lv_at hl 0 rfl) ?_
          refine mdG_bad C hP mF_X11_188 dX11_readLaw_247 ?_
          show W p l e (gRm 4 92) s m args below meth c _ _ 0 0 Q (F0 m 250 ls [.int (iI (v 6))])
          refine gi_zne (tgt := 257) hx hb dX11_readLaw_250 (by decide) (by omega) (fun c_143 => ?_) (fun c_143 => ?_)
          · exact g_vret hQ C hr hlocks hP hS dX11_readLaw_257 ⟨(v 6), (v 7), w8_142, w9_142, w10_142, w11_142, (v 16), (v 20), (v 21), (v 27), (v 17), (v 15), z_136, (f 11), (f 12), (f 17), (f 14), (f 16), (f 5), (f 6), (f 7), (f 8), b0_142, rfl, rfl, rfl, rfl, (by first | omega | (split <;> omega)), (by first | omega | (split <;> omega)), (by first | omega | (split <;> omega)), (by first | (intro h; exfalso; omega) | exact fun _ => hrp | exact fun _ => hX (by omega))⟩
          · refine lv_aload_n hx hb dX11_readLaw_253 rfl (lv_at hl 0 rfl) ?_
            refine g_cv (As := []) (rest := []) (n := 0) C hml (m_X11_ends l D k A ad hD (va_up (va_up (va_up (va_up (va_up (va_up (va_up (va_up (va_up (va_up (va_up (va_up (va_up v 6 (v 6)) 7 (v 7)) 8 w8_142) 9 w9_142) 10 w10_142) 11 w11_142) 16 (v 16)) 20 (v 20)) 21 (v 21)) 27 (v 27)) 17 (v 17)) 15 (v 15)) 19 z_136) (va_up (va_up (va_up (va_up (va_up (va_up (va_up (va_up (va_up f 11 (f 11)) 12 (f 12)) 17 (f 17)) 14 (f 14)) 16 (f 16)) 5 (f 5)) 6 (f 6)) 7 (f 7)) 8 (f 8)) (va_up g 0 b0_142) (show w9_142 ≤ w10_142 ∧ w10_142 ≤ (v 3) ∧ (w8_142 ≠ 0 → w9_142 < w10_142) from by omega)) mM_X11_246 mI_X11_ends mE_X11_ends mN_X11 mC_X11_ends (by decide +kernel) 0 (ci := 11) rfl rfl hP hS (fun _ h => h) ⟨Nat.le_of_ble_eq_true rfl, Nat.le_of_ble_eq_true rfl⟩ ⟨Nat.zero_le _, Nat.zero_le _⟩ hl.1 rfl rfl (Nat.le_of_ble_eq_true rfl) dX11_readLaw_254 (fun r_144 v_144 f_144 g_144 H locs hq_144 hP _ hS => ?_)
            obtain ⟨w6_144, w7_144, w8_144, w9_144, w10_144, w11_144, b0_144, rfl, rfl, rfl, rfl, p0_144, p1_144, p2_144, p3_144⟩ := hq_144
            show W p l e (gRm 4 92) s m args below meth c _ _ 0 0 Q (F0 m 257 ls [])
            have hP : gWd D (mdT k ad) (va_up (va_up (va_up (va_up (va_up (va_up (va_up (va_up (va_up (va_up (va_up (va_up (va_up v 6 w6_144) 7 w7_144) 8 w8_144) 9 w9_144) 10 w10_144) 11 w11_144) 16 (v 16)) 20 (v 20)) 21 (v 21)) 27 (v 27)) 17 (v 17)) 15 (v 15)) 19 z_136) (va_up (va_up (va_up (va_up (va_up (va_up (va_up (va_up (va_up f 11 (f 11)) 12 (f 12)) 17 (f 17)) 14 (f 14)) 16 (f 16)) 5 (f 5)) 6 (f 6)) 7 (f 7)) 8 (f 8)) (va_up g 0 b0_144) H := ⟨hP.1, (gF_up (V := mdV) (F := mdF) (gF_up (V := mdV) (F := mdF) (gF_up (V := mdV) (F := mdF) (gF_up (V := mdV) (F := mdF) (gF_up (V := mdV) (F := mdF) (gF_up (V := mdV) (F := mdF) (gF_up (V := mdV) (F := mdF) (gF_up (V := mdV) (F := mdF) (gF_up (V := mdV) (F := mdF) (gR_up (V := mdV) (F := mdF) (gR_up (V := mdV) (F := mdF) (gR_up (V := mdV) (F := mdF) (gR_up (V := mdV) (F := mdF) (gR_up (V := mdV) (F := mdF) (gR_up (V := mdV) (F := mdF) (gR_up (V := mdV) (F := mdF) (gR_up (V := mdV) (F := mdF) (gR_up (V := mdV) (F := mdF) (gR_up (V := mdV) (F := mdF) (gR_up (V := mdV) (F := mdF) (gR_up (V := mdV) (F := mdF) (gR_up (V := mdV) (F := mdF) ⟨hok.1, hok.2⟩ 6 (hP.2.1 6)) 7 (hP.2.1 7)) 8 (hP.2.1 8)) 9 (hP.2.1 9)) 10 (hP.2.1 10)) 11 (hP.2.1 11)) 16 (hP.2.1 16)) 20 (hP.2.1 20)) 21 (hP.2.1 21)) 27 (hP.2.1 27)) 17 (hP.2.1 17)) 15 (hP.2.1 15)) 19 (hP.2.1 19)) 11 (hP.2.2 11)) 12 (hP.2.2 12)) 17 (hP.2.2 17)) 14 (hP.2.2 14)) 16 (hP.2.2 16)) 5 (hP.2.2 5)) 6 (hP.2.2 6)) 7 (hP.2.2 7)) 8 (hP.2.2 8))⟩
            replace p0_144 : w9_142 ≤ w9_144 ∧ w9_144 ≤ w10_144 ∧ w10_144 ≤ (v 3) := p0_144
            replace p1_144 : w8_144 ≠ 0 → w9_144 < w10_144 := p1_144
            replace p2_144 : 0 < (v 6) → 0 < w6_144 := p2_144
            replace p3_144 : w6_144 = 0 → (v 6) = 0 := p3_144
            have rw6_144 : 0 ≤ w6_144 ∧ w6_144 ≤ 5 := hP.2.1 6
            have rw7_144 : 0 ≤ w7_144 ∧ w7_144 ≤ 700 := hP.2.1 7
            have rw8_144 : 0 ≤ w8_144 ∧ w8_144 ≤ 4 := hP.2.1 8
            have rw9_144 : 0 ≤ w9_144 ∧ w9_144 ≤ 700 := hP.2.1 9
            have rw10_144 : 0 ≤ w10_144 ∧ w10_144 ≤ 700 := hP.2.1 10
            have rw11_144 : 0 ≤ w11_144 ∧ w11_144 ≤ 999999 := hP.2.1 11
            exact g_vret hQ C hr hlocks hP hS dX11_readLaw_257 ⟨w6_144, w7_144, w8_144, w9_144, w10_144, w11_144, (v 16), (v 20), (v 21), (v 27), (v 17), (v 15), z_136, (f 11), (f 12), (f 17), (f 14), (f 16), (f 5), (f 6), (f 7), (f 8), b0_144, rfl, rfl, rfl, rfl, (by first | omega | (split <;> omega)), (by first | omega | (split <;> omega)), (by first | omega | (split <;> omega)), (by first | (intro h; exfalso; omega) | exact fun _ => hrp | exact fun _ => hX (by omega))⟩
      · refine lv_aload_n hx hb dX11_readLaw_208 rfl (lv_at hl 0 rfl) ?_
        refine lv_bipush (v := iI 115) hx hb dX11_readLaw_209 (by decide) ?_
        refine lv_bipush (v := iI 104) hx hb dX11_readLaw_211 (by decide) ?_
        refine lv_bipush (v := iI 97) hx hb dX11_readLaw_213 (by decide) ?_
        refine lv_bipush (v := iI 114) hx hb dX11_readLaw_215 (by decide) ?_
        refine lv_bipush (v := iI 101) hx hb dX11_readLaw_217 (by decide) ?_
        refine lv_bipush (v := iI 100) hx hb dX11_readLaw_219 (by decide) ?_
        refine lv_iconst (v := iI 0) hx hb dX11_readLaw_221 rfl ?_
        refine g_cs (As := [.int (iI 115), .int (iI 104), .int (iI 97), .int (iI 114), .int (iI 101), .int (iI 100), .int (iI 0)]) (rest := [.ref (ad 0)]) (n := 7) C hml (m_X11_spelled l D k A ad hD (va_up (va_up (va_up (va_up (va_up (va_up (va_up (va_up (va_up (va_up (va_up (va_up (va_up v 6 (v 6)) 7 (v 7)) 8 w8_86) 9 w9_86) 10 w10_86) 11 w11_86) 16 (v 16)) 20 (v 20)) 21 (v 21)) 27 (v 27)) 17 (v 17)) 15 (v 15)) 19 z_136) (va_up (va_up (va_up (va_up (va_up (va_up (va_up (va_up (va_up f 11 (f 11)) 12 (f 12)) 17 (f 17)) 14 (f 14)) 16 (f 16)) 5 (f 5)) 6 (f 6)) 7 (f 7)) 8 (f 8)) (va_up g 0 b0_86) 115 104 97 114 101 100 0 (by decide) (by decide) (by decide) (by decide) (by decide) (by decide) (by decide)) mM_X11_228 mS_X11_spelled mN_X11 mC_X11_spelled (by decide +kernel) hP hS (fun _ h => h) ⟨Nat.le_of_ble_eq_true rfl, Nat.le_of_ble_eq_true rfl⟩ ⟨Nat.zero_le _, Nat.zero_le _⟩ hl.1 rfl rfl (Nat.le_of_ble_eq_true rfl) dX11_readLaw_222 (fun r_145 v_145 f_145 g_145 H locs hq_145 hP _ hS => ?_)
        obtain ⟨z_145, rfl, rfl, rfl, rfl⟩ := hq_145
        show W p l e (gRm 4 92) s m args below meth c _ _ 0 0 Q (F0 m 225 ls [.long (iL z_145), .ref (ad 0)])
        refine g_cv (As := [.long (iL z_145)]) (rest := []) (n := 1) C hml (m_X11_isWord l D k A ad hD (va_up (va_up (va_up (va_up (va_up (va_up (va_up (va_up (va_up (va_up (va_up (va_up (va_up v 6 (v 6)) 7 (v 7)) 8 w8_86) 9 w9_86) 10 w10_86) 11 w11_86) 16 (v 16)) 20 (v 20)) 21 (v 21)) 27 (v 27)) 17 (v 17)) 15 (v 15)) 19 z_136) (va_up (va_up (va_up (va_up (va_up (va_up (va_up (va_up (va_up f 11 (f 11)) 12 (f 12)) 17 (f 17)) 14 (f 14)) 16 (f 16)) 5 (f 5)) 6 (f 6)) 7 (f 7)) 8 (f 8)) (va_up g 0 b0_86) z_145) mM_X11_232 mI_X11_isWord mE_X11_isWord mN_X11 mC_X11_isWord (by decide +kernel) 0 (ci := 11) rfl rfl hP hS (fun _ h => h) ⟨Nat.le_of_ble_eq_true rfl, Nat.le_of_ble_eq_true rfl⟩ ⟨Nat.zero_le _, Nat.zero_le _⟩ hl.1 rfl rfl (Nat.le_of_ble_eq_true rfl) dX11_readLaw_225 (fun r_146 v_146 f_146 g_146 H locs hq_146 hP _ hS => ?_)
        obtain ⟨z_146, rfl, rfl, rfl, rfl, p0_146, p1_146⟩ := hq_146
        show W p l e (gRm 4 92) s m args below meth c _ _ 0 0 Q (F0 m 228 ls [.int (iI z_146)])
        replace p0_146 : 0 ≤ z_146 ∧ z_146 ≤ 1 := p0_146
        replace p1_146 : z_146 = 1 → w8_86 = 1 := p1_146
        refine gi_zne (tgt := 235) hx hb dX11_readLaw_228 (by decide) (by omega) (fun c_147 => ?_) (fun c_147 => ?_)
        · refine lv_aload_n hx hb dX11_readLaw_235 rfl (lv_at hl 0 rfl) ?_
          refine mdG_bad C hP mF_X11_188 dX11_readLaw_236 ?_
          show W p l e (gRm 4 92) s m args below meth c _ _ 0 0 Q (F0 m 239 ls [.int (iI (v 6))])
          refine gi_zne (tgt := 246) hx hb dX11_readLaw_239 (by decide) (by omega) (fun c_148 => ?_) (fun c_148 => ?_)
          · refine lv_aload_n hx hb dX11_readLaw_246 rfl (lv_at hl 0 rfl) ?_
            refine mdG_bad C hP mF_X11_188 dX11_readLaw_247 ?_
            show W p l e (gRm 4 92) s m args below meth c _ _ 0 0 Q (F0 m 250 ls [.int (iI (v 6))])
            refine gi_zne (tgt := 257) hx hb dX11_readLaw_250 (by decide) (by omega) (fun c_149 => ?_) (fun c_149 => ?_)
            · exact g_vret hQ C hr hlocks hP hS dX11_readLaw_257 ⟨(v 6), (v 7), w8_86, w9_86, w10_86, w11_86, (v 16), (v 20), (v 21), (v 27), (v 17), (v 15), z_136, (f 11), (f 12), (f 17), (f 14), (f 16), (f 5), (f 6), (f 7), (f 8), b0_86, rfl, rfl, rfl, rfl, (by first | omega | (split <;> omega)), (by first | omega | (split <;> omega)), (by first | omega | (split <;> omega)), (by first | (intro h; exfalso; omega) | exact fun _ => hrp | exact fun _ => hX (by omega))⟩
            · refine lv_aload_n hx hb dX11_readLaw_253 rfl (lv_at hl 0 rfl) ?_
              refine g_cv (As := []) (rest := []) (n := 0) C hml (m_X11_ends l D k A ad hD (va_up (va_up (va_up (va_up (va_up (va_up (va_up (va_up (va_up (va_up (va_up (va_up (va_up v 6 (v 6)) 7 (v 7)) 8 w8_86) 9 w9_86) 10 w10_86) 11 w11_86) 16 (v 16)) 20 (v 20)) 21 (v 21)) 27 (v 27)) 17 (v 17)) 15 (v 15)) 19 z_136) (va_up (va_up (va_up (va_up (va_up (va_up (va_up (va_up (va_up f 11 (f 11)) 12 (f 12)) 17 (f 17)) 14 (f 14)) 16 (f 16)) 5 (f 5)) 6 (f 6)) 7 (f 7)) 8 (f 8)) (va_up g 0 b0_86) (show w9_86 ≤ w10_86 ∧ w10_86 ≤ (v 3) ∧ (w8_86 ≠ 0 → w9_86 < w10_86) from by omega)) mM_X11_246 mI_X11_ends mE_X11_ends mN_X11 mC_X11_ends (by decide +kernel) 0 (ci := 11) rfl rfl hP hS (fun _ h => h) ⟨Nat.le_of_ble_eq_true rfl, Nat.le_of_ble_eq_true rfl⟩ ⟨Nat.zero_le _, Nat.zero_le _⟩ hl.1 rfl rfl (Nat.le_of_ble_eq_true rfl) dX11_readLaw_254 (fun r_150 v_150 f_150 g_150 H locs hq_150 hP _ hS => ?_)
              obtain ⟨w6_150, w7_150, w8_150, w9_150, w10_150, w11_150, b0_150, rfl, rfl, rfl, rfl, p0_150, p1_150, p2_150, p3_150⟩ := hq_150
              show W p l e (gRm 4 92) s m args below meth c _ _ 0 0 Q (F0 m 257 ls [])
              have hP : gWd D (mdT k ad) (va_up (va_up (va_up (va_up (va_up (va_up (va_up (va_up (va_up (va_up (va_up (va_up (va_up v 6 w6_150) 7 w7_150) 8 w8_150) 9 w9_150) 10 w10_150) 11 w11_150) 16 (v 16)) 20 (v 20)) 21 (v 21)) 27 (v 27)) 17 (v 17)) 15 (v 15)) 19 z_136) (va_up (va_up (va_up (va_up (va_up (va_up (va_up (va_up (va_up f 11 (f 11)) 12 (f 12)) 17 (f 17)) 14 (f 14)) 16 (f 16)) 5 (f 5)) 6 (f 6)) 7 (f 7)) 8 (f 8)) (va_up g 0 b0_150) H := ⟨hP.1, (gF_up (V := mdV) (F := mdF) (gF_up (V := mdV) (F := mdF) (gF_up (V := mdV) (F := mdF) (gF_up (V := mdV) (F := mdF) (gF_up (V := mdV) (F := mdF) (gF_up (V := mdV) (F := mdF) (gF_up (V := mdV) (F := mdF) (gF_up (V := mdV) (F := mdF) (gF_up (V := mdV) (F := mdF) (gR_up (V := mdV) (F := mdF) (gR_up (V := mdV) (F := mdF) (gR_up (V := mdV) (F := mdF) (gR_up (V := mdV) (F := mdF) (gR_up (V := mdV) (F := mdF) (gR_up (V := mdV) (F := mdF) (gR_up (V := mdV) (F := mdF) (gR_up (V := mdV) (F := mdF) (gR_up (V := mdV) (F := mdF) (gR_up (V := mdV) (F := mdF) (gR_up (V := mdV) (F := mdF) (gR_up (V := mdV) (F := mdF) (gR_up (V := mdV) (F := mdF) ⟨hok.1, hok.2⟩ 6 (hP.2.1 6)) 7 (hP.2.1 7)) 8 (hP.2.1 8)) 9 (hP.2.1 9)) 10 (hP.2.1 10)) 11 (hP.2.1 11)) 16 (hP.2.1 16)) 20 (hP.2.1 20)) 21 (hP.2.1 21)) 27 (hP.2.1 27)) 17 (hP.2.1 17)) 15 (hP.2.1 15)) 19 (hP.2.1 19)) 11 (hP.2.2 11)) 12 (hP.2.2 12)) 17 (hP.2.2 17)) 14 (hP.2.2 14)) 16 (hP.2.2 16)) 5 (hP.2.2 5)) 6 (hP.2.2 6)) 7 (hP.2.2 7)) 8 (hP.2.2 8))⟩
              replace p0_150 : w9_86 ≤ w9_150 ∧ w9_150 ≤ w10_150 ∧ w10_150 ≤ (v 3) := p0_150
              replace p1_150 : w8_150 ≠ 0 → w9_150 < w10_150 := p1_150
              replace p2_150 : 0 < (v 6) → 0 < w6_150 := p2_150
              replace p3_150 : w6_150 = 0 → (v 6) = 0 := p3_150
              have rw6_150 : 0 ≤ w6_150 ∧ w6_150 ≤ 5 := hP.2.1 6
              have rw7_150 : 0 ≤ w7_150 ∧ w7_150 ≤ 700 := hP.2.1 7
              have rw8_150 : 0 ≤ w8_150 ∧ w8_150 ≤ 4 := hP.2.1 8
              have rw9_150 : 0 ≤ w9_150 ∧ w9_150 ≤ 700 := hP.2.1 9
              have rw10_150 : 0 ≤ w10_150 ∧ w10_150 ≤ 700 := hP.2.1 10
              have rw11_150 : 0 ≤ w11_150 ∧ w11_150 ≤ 999999 := hP.2.1 11
              exact g_vret hQ C hr hlocks hP hS dX11_readLaw_257 ⟨w6_150, w7_150, w8_150, w9_150, w10_150, w11_150, (v 16), (v 20), (v 21), (v 27), (v 17), (v 15), z_136, (f 11), (f 12), (f 17), (f 14), (f 16), (f 5), (f 6), (f 7), (f 8), b0_150, rfl, rfl, rfl, rfl, (by first | omega | (split <;> omega)), (by first | omega | (split <;> omega)), (by first | omega | (split <;> omega)), (by first | (intro h; exfalso; omega) | exact fun _ => hrp | exact fun _ => hX (by omega))⟩
          · refine lv_aload_n hx hb dX11_readLaw_242 rfl (lv_at hl 0 rfl) ?_
            refine g_cv (As := []) (rest := []) (n := 0) C hml (m_X11_next l D k A ad hD (va_up (va_up (va_up (va_up (va_up (va_up (va_up (va_up (va_up (va_up (va_up (va_up (va_up v 6 (v 6)) 7 (v 7)) 8 w8_86) 9 w9_86) 10 w10_86) 11 w11_86) 16 (v 16)) 20 (v 20)) 21 (v 21)) 27 (v 27)) 17 (v 17)) 15 (v 15)) 19 z_136) (va_up (va_up (va_up (va_up (va_up (va_up (va_up (va_up (va_up f 11 (f 11)) 12 (f 12)) 17 (f 17)) 14 (f 14)) 16 (f 16)) 5 (f 5)) 6 (f 6)) 7 (f 7)) 8 (f 8)) (va_up g 0 b0_86) (show w10_86 ≤ (v 3) from by omega)) mM_X11_201 mI_X11_next mE_X11_next mN_X11 mC_X11_next (by decide +kernel) 0 (ci := 11) rfl rfl hP hS (fun _ h => h) ⟨Nat.le_of_ble_eq_true rfl, Nat.le_of_ble_eq_true rfl⟩ ⟨Nat.zero_le _, Nat.zero_le _⟩ hl.1 rfl rfl (Nat.le_of_ble_eq_true rfl) dX11_readLaw_243 (fun r_151 v_151 f_151 g_151 H locs hq_151 hP _ hS => ?_)
            obtain ⟨w8_151, w9_151, w10_151, w11_151, b0_151, rfl, rfl, rfl, rfl, p0_151, p1_151⟩ := hq_151
            show W p l e (gRm 4 92) s m args below meth c _ _ 0 0 Q (F0 m 246 ls [])
            have hP : gWd D (mdT k ad) (va_up (va_up (va_up (va_up (va_up (va_up (va_up (va_up (va_up (va_up (va_up (va_up (va_up v 6 (v 6)) 7 (v 7)) 8 w8_151) 9 w9_151) 10 w10_151) 11 w11_151) 16 (v 16)) 20 (v 20)) 21 (v 21)) 27 (v 27)) 17 (v 17)) 15 (v 15)) 19 z_136) (va_up (va_up (va_up (va_up (va_up (va_up (va_up (va_up (va_up f 11 (f 11)) 12 (f 12)) 17 (f 17)) 14 (f 14)) 16 (f 16)) 5 (f 5)) 6 (f 6)) 7 (f 7)) 8 (f 8)) (va_up g 0 b0_151) H := ⟨hP.1, (gF_up (V := mdV) (F := mdF) (gF_up (V := mdV) (F := mdF) (gF_up (V := mdV) (F := mdF) (gF_up (V := mdV) (F := mdF) (gF_up (V := mdV) (F := mdF) (gF_up (V := mdV) (F := mdF) (gF_up (V := mdV) (F := mdF) (gF_up (V := mdV) (F := mdF) (gF_up (V := mdV) (F := mdF) (gR_up (V := mdV) (F := mdF) (gR_up (V := mdV) (F := mdF) (gR_up (V := mdV) (F := mdF) (gR_up (V := mdV) (F := mdF) (gR_up (V := mdV) (F := mdF) (gR_up (V := mdV) (F := mdF) (gR_up (V := mdV) (F := mdF) (gR_up (V := mdV) (F := mdF) (gR_up (V := mdV) (F := mdF) (gR_up (V := mdV) (F := mdF) (gR_up (V := mdV) (F := mdF) (gR_up (V := mdV) (F := mdF) (gR_up (V := mdV) (F := mdF) ⟨hok.1, hok.2⟩ 6 (hP.2.1 6)) 7 (hP.2.1 7)) 8 (hP.2.1 8)) 9 (hP.2.1 9)) 10 (hP.2.1 10)) 11 (hP.2.1 11)) 16 (hP.2.1 16)) 20 (hP.2.1 20)) 21 (hP.2.1 21)) 27 (hP.2.1 27)) 17 (hP.2.1 17)) 15 (hP.2.1 15)) 19 (hP.2.1 19)) 11 (hP.2.2 11)) 12 (hP.2.2 12)) 17 (hP.2.2 17)) 14 (hP.2.2 14)) 16 (hP.2.2 16)) 5 (hP.2.2 5)) 6 (hP.2.2 6)) 7 (hP.2.2 7)) 8 (hP.2.2 8))⟩
            replace p0_151 : w10_86 ≤ w9_151 ∧ w9_151 ≤ w10_151 ∧ w10_151 ≤ (v 3) := p0_151
            replace p1_151 : w8_151 ≠ 0 → w9_151 < w10_151 := p1_151
            have rw8_151 : 0 ≤ w8_151 ∧ w8_151 ≤ 4 := hP.2.1 8
            have rw9_151 : 0 ≤ w9_151 ∧ w9_151 ≤ 700 := hP.2.1 9
            have rw10_151 : 0 ≤ w10_151 ∧ w10_151 ≤ 700 := hP.2.1 10
            have rw11_151 : 0 ≤ w11_151 ∧ w11_151 ≤ 999999 := hP.2.1 11
            refine lv_aload_n hx hb dX11_readLaw_246 rfl (lv_at hl 0 rfl) ?_
            refine mdG_bad C hP mF_X11_188 dX11_readLaw_247 ?_
            show W p l e (gRm 4 92) s m args below meth c _ _ 0 0 Q (F0 m 250 ls [.int (iI (v 6))])
            refine gi_zne (tgt := 257) hx hb dX11_readLaw_250 (by decide) (by omega) (fun c_152 => ?_) (fun c_152 => ?_)
            · exact g_vret hQ C hr hlocks hP hS dX11_readLaw_257 ⟨(v 6), (v 7), w8_151, w9_151, w10_151, w11_151, (v 16), (v 20), (v 21), (v 27), (v 17), (v 15), z_136, (f 11), (f 12), (f 17), (f 14), (f 16), (f 5), (f 6), (f 7), (f 8), b0_151, rfl, rfl, rfl, rfl, (by first | omega | (split <;> omega)), (by first | omega | (split <;> omega)), (by first | omega | (split <;> omega)), (by first | (intro h; exfalso; omega) | exact fun _ => hrp | exact fun _ => hX (by omega))⟩
            · refine lv_aload_n hx hb dX11_readLaw_253 rfl (lv_at hl 0 rfl) ?_
              refine g_cv (As := []) (rest := []) (n := 0) C hml (m_X11_ends l D k A ad hD (va_up (va_up (va_up (va_up (va_up (va_up (va_up (va_up (va_up (va_up (va_up (va_up (va_up v 6 (v 6)) 7 (v 7)) 8 w8_151) 9 w9_151) 10 w10_151) 11 w11_151) 16 (v 16)) 20 (v 20)) 21 (v 21)) 27 (v 27)) 17 (v 17)) 15 (v 15)) 19 z_136) (va_up (va_up (va_up (va_up (va_up (va_up (va_up (va_up (va_up f 11 (f 11)) 12 (f 12)) 17 (f 17)) 14 (f 14)) 16 (f 16)) 5 (f 5)) 6 (f 6)) 7 (f 7)) 8 (f 8)) (va_up g 0 b0_151) (show w9_151 ≤ w10_151 ∧ w10_151 ≤ (v 3) ∧ (w8_151 ≠ 0 → w9_151 < w10_151) from by omega)) mM_X11_246 mI_X11_ends mE_X11_ends mN_X11 mC_X11_ends (by decide +kernel) 0 (ci := 11) rfl rfl hP hS (fun _ h => h) ⟨Nat.le_of_ble_eq_true rfl, Nat.le_of_ble_eq_true rfl⟩ ⟨Nat.zero_le _, Nat.zero_le _⟩ hl.1 rfl rfl (Nat.le_of_ble_eq_true rfl) dX11_readLaw_254 (fun r_153 v_153 f_153 g_153 H locs hq_153 hP _ hS => ?_)
              obtain ⟨w6_153, w7_153, w8_153, w9_153, w10_153, w11_153, b0_153, rfl, rfl, rfl, rfl, p0_153, p1_153, p2_153, p3_153⟩ := hq_153
              show W p l e (gRm 4 92) s m args below meth c _ _ 0 0 Q (F0 m 257 ls [])
              have hP : gWd D (mdT k ad) (va_up (va_up (va_up (va_up (va_up (va_up (va_up (va_up (va_up (va_up (va_up (va_up (va_up v 6 w6_153) 7 w7_153) 8 w8_153) 9 w9_153) 10 w10_153) 11 w11_153) 16 (v 16)) 20 (v 20)) 21 (v 21)) 27 (v 27)) 17 (v 17)) 15 (v 15)) 19 z_136) (va_up (va_up (va_up (va_up (va_up (va_up (va_up (va_up (va_up f 11 (f 11)) 12 (f 12)) 17 (f 17)) 14 (f 14)) 16 (f 16)) 5 (f 5)) 6 (f 6)) 7 (f 7)) 8 (f 8)) (va_up g 0 b0_153) H := ⟨hP.1, (gF_up (V := mdV) (F := mdF) (gF_up (V := mdV) (F := mdF) (gF_up (V := mdV) (F := mdF) (gF_up (V := mdV) (F := mdF) (gF_up (V := mdV) (F := mdF) (gF_up (V := mdV) (F := mdF) (gF_up (V := mdV) (F := mdF) (gF_up (V := mdV) (F := mdF) (gF_up (V := mdV) (F := mdF) (gR_up (V := mdV) (F := mdF) (gR_up (V := mdV) (F := mdF) (gR_up (V := mdV) (F := mdF) (gR_up (V := mdV) (F := mdF) (gR_up (V := mdV) (F := mdF) (gR_up (V := mdV) (F := mdF) (gR_up (V := mdV) (F := mdF) (gR_up (V := mdV) (F := mdF) (gR_up (V := mdV) (F := mdF) (gR_up (V := mdV) (F := mdF) (gR_up (V := mdV) (F := mdF) (gR_up (V := mdV) (F := mdF) (gR_up (V := mdV) (F := mdF) ⟨hok.1, hok.2⟩ 6 (hP.2.1 6)) 7 (hP.2.1 7)) 8 (hP.2.1 8)) 9 (hP.2.1 9)) 10 (hP.2.1 10)) 11 (hP.2.1 11)) 16 (hP.2.1 16)) 20 (hP.2.1 20)) 21 (hP.2.1 21)) 27 (hP.2.1 27)) 17 (hP.2.1 17)) 15 (hP.2.1 15)) 19 (hP.2.1 19)) 11 (hP.2.2 11)) 12 (hP.2.2 12)) 17 (hP.2.2 17)) 14 (hP.2.2 14)) 16 (hP.2.2 16)) 5 (hP.2.2 5)) 6 (hP.2.2 6)) 7 (hP.2.2 7)) 8 (hP.2.2 8))⟩
              replace p0_153 : w9_151 ≤ w9_153 ∧ w9_153 ≤ w10_153 ∧ w10_153 ≤ (v 3) := p0_153
              replace p1_153 : w8_153 ≠ 0 → w9_153 < w10_153 := p1_153
              replace p2_153 : 0 < (v 6) → 0 < w6_153 := p2_153
              replace p3_153 : w6_153 = 0 → (v 6) = 0 := p3_153
              have rw6_153 : 0 ≤ w6_153 ∧ w6_153 ≤ 5 := hP.2.1 6
              have rw7_153 : 0 ≤ w7_153 ∧ w7_153 ≤ 700 := hP.2.1 7
              have rw8_153 : 0 ≤ w8_153 ∧ w8_153 ≤ 4 := hP.2.1 8
              have rw9_153 : 0 ≤ w9_153 ∧ w9_153 ≤ 700 := hP.2.1 9
              have rw10_153 : 0 ≤ w10_153 ∧ w10_153 ≤ 700 := hP.2.1 10
              have rw11_153 : 0 ≤ w11_153 ∧ w11_153 ≤ 999999 := hP.2.1 11
              exact g_vret hQ C hr hlocks hP hS dX11_readLaw_257 ⟨w6_153, w7_153, w8_153, w9_153, w10_153, w11_153, (v 16), (v 20), (v 21), (v 27), (v 17), (v 15), z_136, (f 11), (f 12), (f 17), (f 14), (f 16), (f 5), (f 6), (f 7), (f 8), b0_153, rfl, rfl, rfl, rfl, (by first | omega | (split <;> omega)), (by first | omega | (split <;> omega)), (by first | omega | (split <;> omega)), (by first | (intro h; exfalso; omega) | exact fun _ => hrp | exact fun _ => hX (by omega))⟩
        · refine lv_aload_n hx hb dX11_readLaw_231 rfl (lv_at hl 0 rfl) ?_
          refine g_cv (As := []) (rest := []) (n := 0) C hml (m_X11_wrong l D k A ad hD (va_up (va_up (va_up (va_up (va_up (va_up (va_up (va_up (va_up (va_up (va_up (va_up (va_up v 6 (v 6)) 7 (v 7)) 8 w8_86) 9 w9_86) 10 w10_86) 11 w11_86) 16 (v 16)) 20 (v 20)) 21 (v 21)) 27 (v 27)) 17 (v 17)) 15 (v 15)) 19 z_136) (va_up (va_up (va_up (va_up (va_up (va_up (va_up (va_up (va_up f 11 (f 11)) 12 (f 12)) 17 (f 17)) 14 (f 14)) 16 (f 16)) 5 (f 5)) 6 (f 6)) 7 (f 7)) 8 (f 8)) (va_up g 0 b0_86)) mM_X11_198 mI_X11_wrong mE_X11_wrong mN_X11 mC_X11_wrong (by decide +kernel) 0 (ci := 11) rfl rfl hP hS (fun _ h => h) ⟨Nat.le_of_ble_eq_true rfl, Nat.le_of_ble_eq_true rfl⟩ ⟨Nat.zero_le _, Nat.zero_le _⟩ hl.1 rfl rfl (Nat.le_of_ble_eq_true rfl) dX11_readLaw_232 (fun r_154 v_154 f_154 g_154 H locs hq_154 hP _ hS => ?_)
          obtain ⟨w6_154, w7_154, rfl, rfl, rfl, rfl, p0_154⟩ := hq_154
          show W p l e (gRm 4 92) s m args below meth c _ _ 0 0 Q (F0 m 235 ls [])
          have hP : gWd D (mdT k ad) (va_up (va_up (va_up (va_up (va_up (va_up (va_up (va_up (va_up (va_up (va_up (va_up (va_up v 6 w6_154) 7 w7_154) 8 w8_86) 9 w9_86) 10 w10_86) 11 w11_86) 16 (v 16)) 20 (v 20)) 21 (v 21)) 27 (v 27)) 17 (v 17)) 15 (v 15)) 19 z_136) (va_up (va_up (va_up (va_up (va_up (va_up (va_up (va_up (va_up f 11 (f 11)) 12 (f 12)) 17 (f 17)) 14 (f 14)) 16 (f 16)) 5 (f 5)) 6 (f 6)) 7 (f 7)) 8 (f 8)) (va_up g 0 b0_86) H := ⟨hP.1, (gF_up (V := mdV) (F := mdF) (gF_up (V := mdV) (F := mdF) (gF_up (V := mdV) (F := mdF) (gF_up (V := mdV) (F := mdF) (gF_up (V := mdV) (F := mdF) (gF_up (V := mdV) (F := mdF) (gF_up (V := mdV) (F := mdF) (gF_up (V := mdV) (F := mdF) (gF_up (V := mdV) (F := mdF) (gR_up (V := mdV) (F := mdF) (gR_up (V := mdV) (F := mdF) (gR_up (V := mdV) (F := mdF) (gR_up (V := mdV) (F := mdF) (gR_up (V := mdV) (F := mdF) (gR_up (V := mdV) (F := mdF) (gR_up (V := mdV) (F := mdF) (gR_up (V := mdV) (F := mdF) (gR_up (V := mdV) (F := mdF) (gR_up (V := mdV) (F := mdF) (gR_up (V := mdV) (F := mdF) (gR_up (V := mdV) (F := mdF) (gR_up (V := mdV) (F := mdF) ⟨hok.1, hok.2⟩ 6 (hP.2.1 6)) 7 (hP.2.1 7)) 8 (hP.2.1 8)) 9 (hP.2.1 9)) 10 (hP.2.1 10)) 11 (hP.2.1 11)) 16 (hP.2.1 16)) 20 (hP.2.1 20)) 21 (hP.2.1 21)) 27 (hP.2.1 27)) 17 (hP.2.1 17)) 15 (hP.2.1 15)) 19 (hP.2.1 19)) 11 (hP.2.2 11)) 12 (hP.2.2 12)) 17 (hP.2.2 17)) 14 (hP.2.2 14)) 16 (hP.2.2 16)) 5 (hP.2.2 5)) 6 (hP.2.2 6)) 7 (hP.2.2 7)) 8 (hP.2.2 8))⟩
          replace p0_154 : 0 < w6_154 := p0_154
          have rw6_154 : 0 ≤ w6_154 ∧ w6_154 ≤ 5 := hP.2.1 6
          have rw7_154 : 0 ≤ w7_154 ∧ w7_154 ≤ 700 := hP.2.1 7
          refine lv_aload_n hx hb dX11_readLaw_235 rfl (lv_at hl 0 rfl) ?_
          refine mdG_bad C hP mF_X11_188 dX11_readLaw_236 ?_
          show W p l e (gRm 4 92) s m args below meth c _ _ 0 0 Q (F0 m 239 ls [.int (iI w6_154)])
          have r_155 : 0 ≤ w6_154 ∧ w6_154 ≤ 5 := hP.2.1 6
          refine gi_zne (tgt := 246) hx hb dX11_readLaw_239 (by decide) (by omega) (fun c_156 => ?_) (fun c_156 => ?_)
          · refine lv_aload_n hx hb dX11_readLaw_246 rfl (lv_at hl 0 rfl) ?_
            refine mdG_bad C hP mF_X11_188 dX11_readLaw_247 ?_
            show W p l e (gRm 4 92) s m args below meth c _ _ 0 0 Q (F0 m 250 ls [.int (iI w6_154)])
            refine gi_zne (tgt := 257) hx hb dX11_readLaw_250 (by decide) (by omega) (fun c_157 => ?_) (fun c_157 => ?_)
            · exact g_vret hQ C hr hlocks hP hS dX11_readLaw_257 ⟨w6_154, w7_154, w8_86, w9_86, w10_86, w11_86, (v 16), (v 20), (v 21), (v 27), (v 17), (v 15), z_136, (f 11), (f 12), (f 17), (f 14), (f 16), (f 5), (f 6), (f 7), (f 8), b0_86, rfl, rfl, rfl, rfl, (by first | omega | (split <;> omega)), (by first | omega | (split <;> omega)), (by first | omega | (split <;> omega)), (by first | (intro h; exfalso; omega) | exact fun _ => hrp | exact fun _ => hX (by omega))⟩
            · refine lv_aload_n hx hb dX11_readLaw_253 rfl (lv_at hl 0 rfl) ?_
              refine g_cv (As := []) (rest := []) (n := 0) C hml (m_X11_ends l D k A ad hD (va_up (va_up (va_up (va_up (va_up (va_up (va_up (va_up (va_up (va_up (va_up (va_up (va_up v 6 w6_154) 7 w7_154) 8 w8_86) 9 w9_86) 10 w10_86) 11 w11_86) 16 (v 16)) 20 (v 20)) 21 (v 21)) 27 (v 27)) 17 (v 17)) 15 (v 15)) 19 z_136) (va_up (va_up (va_up (va_up (va_up (va_up (va_up (va_up (va_up f 11 (f 11)) 12 (f 12)) 17 (f 17)) 14 (f 14)) 16 (f 16)) 5 (f 5)) 6 (f 6)) 7 (f 7)) 8 (f 8)) (va_up g 0 b0_86) (show w9_86 ≤ w10_86 ∧ w10_86 ≤ (v 3) ∧ (w8_86 ≠ 0 → w9_86 < w10_86) from by omega)) mM_X11_246 mI_X11_ends mE_X11_ends mN_X11 mC_X11_ends (by decide +kernel) 0 (ci := 11) rfl rfl hP hS (fun _ h => h) ⟨Nat.le_of_ble_eq_true rfl, Nat.le_of_ble_eq_true rfl⟩ ⟨Nat.zero_le _, Nat.zero_le _⟩ hl.1 rfl rfl (Nat.le_of_ble_eq_true rfl) dX11_readLaw_254 (fun r_158 v_158 f_158 g_158 H locs hq_158 hP _ hS => ?_)
              obtain ⟨w6_158, w7_158, w8_158, w9_158, w10_158, w11_158, b0_158, rfl, rfl, rfl, rfl, p0_158, p1_158, p2_158, p3_158⟩ := hq_158
              show W p l e (gRm 4 92) s m args below meth c _ _ 0 0 Q (F0 m 257 ls [])
              have hP : gWd D (mdT k ad) (va_up (va_up (va_up (va_up (va_up (va_up (va_up (va_up (va_up (va_up (va_up (va_up (va_up v 6 w6_158) 7 w7_158) 8 w8_158) 9 w9_158) 10 w10_158) 11 w11_158) 16 (v 16)) 20 (v 20)) 21 (v 21)) 27 (v 27)) 17 (v 17)) 15 (v 15)) 19 z_136) (va_up (va_up (va_up (va_up (va_up (va_up (va_up (va_up (va_up f 11 (f 11)) 12 (f 12)) 17 (f 17)) 14 (f 14)) 16 (f 16)) 5 (f 5)) 6 (f 6)) 7 (f 7)) 8 (f 8)) (va_up g 0 b0_158) H := ⟨hP.1, (gF_up (V := mdV) (F := mdF) (gF_up (V := mdV) (F := mdF) (gF_up (V := mdV) (F := mdF) (gF_up (V := mdV) (F := mdF) (gF_up (V := mdV) (F := mdF) (gF_up (V := mdV) (F := mdF) (gF_up (V := mdV) (F := mdF) (gF_up (V := mdV) (F := mdF) (gF_up (V := mdV) (F := mdF) (gR_up (V := mdV) (F := mdF) (gR_up (V := mdV) (F := mdF) (gR_up (V := mdV) (F := mdF) (gR_up (V := mdV) (F := mdF) (gR_up (V := mdV) (F := mdF) (gR_up (V := mdV) (F := mdF) (gR_up (V := mdV) (F := mdF) (gR_up (V := mdV) (F := mdF) (gR_up (V := mdV) (F := mdF) (gR_up (V := mdV) (F := mdF) (gR_up (V := mdV) (F := mdF) (gR_up (V := mdV) (F := mdF) (gR_up (V := mdV) (F := mdF) ⟨hok.1, hok.2⟩ 6 (hP.2.1 6)) 7 (hP.2.1 7)) 8 (hP.2.1 8)) 9 (hP.2.1 9)) 10 (hP.2.1 10)) 11 (hP.2.1 11)) 16 (hP.2.1 16)) 20 (hP.2.1 20)) 21 (hP.2.1 21)) 27 (hP.2.1 27)) 17 (hP.2.1 17)) 15 (hP.2.1 15)) 19 (hP.2.1 19)) 11 (hP.2.2 11)) 12 (hP.2.2 12)) 17 (hP.2.2 17)) 14 (hP.2.2 14)) 16 (hP.2.2 16)) 5 (hP.2.2 5)) 6 (hP.2.2 6)) 7 (hP.2.2 7)) 8 (hP.2.2 8))⟩
              replace p0_158 : w9_86 ≤ w9_158 ∧ w9_158 ≤ w10_158 ∧ w10_158 ≤ (v 3) := p0_158
              replace p1_158 : w8_158 ≠ 0 → w9_158 < w10_158 := p1_158
              replace p2_158 : 0 < w6_154 → 0 < w6_158 := p2_158
              replace p3_158 : w6_158 = 0 → w6_154 = 0 := p3_158
              have rw6_158 : 0 ≤ w6_158 ∧ w6_158 ≤ 5 := hP.2.1 6
              have rw7_158 : 0 ≤ w7_158 ∧ w7_158 ≤ 700 := hP.2.1 7
              have rw8_158 : 0 ≤ w8_158 ∧ w8_158 ≤ 4 := hP.2.1 8
              have rw9_158 : 0 ≤ w9_158 ∧ w9_158 ≤ 700 := hP.2.1 9
              have rw10_158 : 0 ≤ w10_158 ∧ w10_158 ≤ 700 := hP.2.1 10
              have rw11_158 : 0 ≤ w11_158 ∧ w11_158 ≤ 999999 := hP.2.1 11
              exact g_vret hQ C hr hlocks hP hS dX11_readLaw_257 ⟨w6_158, w7_158, w8_158, w9_158, w10_158, w11_158, (v 16), (v 20), (v 21), (v 27), (v 17), (v 15), z_136, (f 11), (f 12), (f 17), (f 14), (f 16), (f 5), (f 6), (f 7), (f 8), b0_158, rfl, rfl, rfl, rfl, (by first | omega | (split <;> omega)), (by first | omega | (split <;> omega)), (by first | omega | (split <;> omega)), (by first | (intro h; exfalso; omega) | exact fun _ => hrp | exact fun _ => hX (by omega))⟩
          · refine lv_aload_n hx hb dX11_readLaw_242 rfl (lv_at hl 0 rfl) ?_
            refine g_cv (As := []) (rest := []) (n := 0) C hml (m_X11_next l D k A ad hD (va_up (va_up (va_up (va_up (va_up (va_up (va_up (va_up (va_up (va_up (va_up (va_up (va_up v 6 w6_154) 7 w7_154) 8 w8_86) 9 w9_86) 10 w10_86) 11 w11_86) 16 (v 16)) 20 (v 20)) 21 (v 21)) 27 (v 27)) 17 (v 17)) 15 (v 15)) 19 z_136) (va_up (va_up (va_up (va_up (va_up (va_up (va_up (va_up (va_up f 11 (f 11)) 12 (f 12)) 17 (f 17)) 14 (f 14)) 16 (f 16)) 5 (f 5)) 6 (f 6)) 7 (f 7)) 8 (f 8)) (va_up g 0 b0_86) (show w10_86 ≤ (v 3) from by omega)) mM_X11_201 mI_X11_next mE_X11_next mN_X11 mC_X11_next (by decide +kernel) 0 (ci := 11) rfl rfl hP hS (fun _ h => h) ⟨Nat.le_of_ble_eq_true rfl, Nat.le_of_ble_eq_true rfl⟩ ⟨Nat.zero_le _, Nat.zero_le _⟩ hl.1 rfl rfl (Nat.le_of_ble_eq_true rfl) dX11_readLaw_243 (fun r_159 v_159 f_159 g_159 H locs hq_159 hP _ hS => ?_)
            obtain ⟨w8_159, w9_159, w10_159, w11_159, b0_159, rfl, rfl, rfl, rfl, p0_159, p1_159⟩ := hq_159
            show W p l e (gRm 4 92) s m args below meth c _ _ 0 0 Q (F0 m 246 ls [])
            have hP : gWd D (mdT k ad) (va_up (va_up (va_up (va_up (va_up (va_up (va_up (va_up (va_up (va_up (va_up (va_up (va_up v 6 w6_154) 7 w7_154) 8 w8_159) 9 w9_159) 10 w10_159) 11 w11_159) 16 (v 16)) 20 (v 20)) 21 (v 21)) 27 (v 27)) 17 (v 17)) 15 (v 15)) 19 z_136) (va_up (va_up (va_up (va_up (va_up (va_up (va_up (va_up (va_up f 11 (f 11)) 12 (f 12)) 17 (f 17)) 14 (f 14)) 16 (f 16)) 5 (f 5)) 6 (f 6)) 7 (f 7)) 8 (f 8)) (va_up g 0 b0_159) H := ⟨hP.1, (gF_up (V := mdV) (F := mdF) (gF_up (V := mdV) (F := mdF) (gF_up (V := mdV) (F := mdF) (gF_up (V := mdV) (F := mdF) (gF_up (V := mdV) (F := mdF) (gF_up (V := mdV) (F := mdF) (gF_up (V := mdV) (F := mdF) (gF_up (V := mdV) (F := mdF) (gF_up (V := mdV) (F := mdF) (gR_up (V := mdV) (F := mdF) (gR_up (V := mdV) (F := mdF) (gR_up (V := mdV) (F := mdF) (gR_up (V := mdV) (F := mdF) (gR_up (V := mdV) (F := mdF) (gR_up (V := mdV) (F := mdF) (gR_up (V := mdV) (F := mdF) (gR_up (V := mdV) (F := mdF) (gR_up (V := mdV) (F := mdF) (gR_up (V := mdV) (F := mdF) (gR_up (V := mdV) (F := mdF) (gR_up (V := mdV) (F := mdF) (gR_up (V := mdV) (F := mdF) ⟨hok.1, hok.2⟩ 6 (hP.2.1 6)) 7 (hP.2.1 7)) 8 (hP.2.1 8)) 9 (hP.2.1 9)) 10 (hP.2.1 10)) 11 (hP.2.1 11)) 16 (hP.2.1 16)) 20 (hP.2.1 20)) 21 (hP.2.1 21)) 27 (hP.2.1 27)) 17 (hP.2.1 17)) 15 (hP.2.1 15)) 19 (hP.2.1 19)) 11 (hP.2.2 11)) 12 (hP.2.2 12)) 17 (hP.2.2 17)) 14 (hP.2.2 14)) 16 (hP.2.2 16)) 5 (hP.2.2 5)) 6 (hP.2.2 6)) 7 (hP.2.2 7)) 8 (hP.2.2 8))⟩
            replace p0_159 : w10_86 ≤ w9_159 ∧ w9_159 ≤ w10_159 ∧ w10_159 ≤ (v 3) := p0_159
            replace p1_159 : w8_159 ≠ 0 → w9_159 < w10_159 := p1_159
            have rw8_159 : 0 ≤ w8_159 ∧ w8_159 ≤ 4 := hP.2.1 8
            have rw9_159 : 0 ≤ w9_159 ∧ w9_159 ≤ 700 := hP.2.1 9
            have rw10_159 : 0 ≤ w10_159 ∧ w10_159 ≤ 700 := hP.2.1 10
            have rw11_159 : 0 ≤ w11_159 ∧ w11_159 ≤ 999999 := hP.2.1 11
            refine lv_aload_n hx hb dX11_readLaw_246 rfl (lv_at hl 0 rfl) ?_
            refine mdG_bad C hP mF_X11_188 dX11_readLaw_247 ?_
            show W p l e (gRm 4 92) s m args below meth c _ _ 0 0 Q (F0 m 250 ls [.int (iI w6_154)])
            refine gi_zne (tgt := 257) hx hb dX11_readLaw_250 (by decide) (by omega) (fun c_160 => ?_) (fun c_160 => ?_)
            · exact g_vret hQ C hr hlocks hP hS dX11_readLaw_257 ⟨w6_154, w7_154, w8_159, w9_159, w10_159, w11_159, (v 16), (v 20), (v 21), (v 27), (v 17), (v 15), z_136, (f 11), (f 12), (f 17), (f 14), (f 16), (f 5), (f 6), (f 7), (f 8), b0_159, rfl, rfl, rfl, rfl, (by first | omega | (split <;> omega)), (by first | omega | (split <;> omega)), (by first | omega | (split <;> omega)), (by first | (intro h; exfalso; omega) | exact fun _ => hrp | exact fun _ => hX (by omega))⟩
            · refine lv_aload_n hx hb dX11_readLaw_253 rfl (lv_at hl 0 rfl) ?_
              refine g_cv (As := []) (rest := []) (n := 0) C hml (m_X11_ends l D k A ad hD (va_up (va_up (va_up (va_up (va_up (va_up (va_up (va_up (va_up (va_up (va_up (va_up (va_up v 6 w6_154) 7 w7_154) 8 w8_159) 9 w9_159) 10 w10_159) 11 w11_159) 16 (v 16)) 20 (v 20)) 21 (v 21)) 27 (v 27)) 17 (v 17)) 15 (v 15)) 19 z_136) (va_up (va_up (va_up (va_up (va_up (va_up (va_up (va_up (va_up f 11 (f 11)) 12 (f 12)) 17 (f 17)) 14 (f 14)) 16 (f 16)) 5 (f 5)) 6 (f 6)) 7 (f 7)) 8 (f 8)) (va_up g 0 b0_159) (show w9_159 ≤ w10_159 ∧ w10_159 ≤ (v 3) ∧ (w8_159 ≠ 0 → w9_159 < w10_159) from by omega)) mM_X11_246 mI_X11_ends mE_X11_ends mN_X11 mC_X11_ends (by decide +kernel) 0 (ci := 11) rfl rfl hP hS (fun _ h => h) ⟨Nat.le_of_ble_eq_true rfl, Nat.le_of_ble_eq_true rfl⟩ ⟨Nat.zero_le _, Nat.zero_le _⟩ hl.1 rfl rfl (Nat.le_of_ble_eq_true rfl) dX11_readLaw_254 (fun r_161 v_161 f_161 g_161 H locs hq_161 hP _ hS => ?_)
              obtain ⟨w6_161, w7_161, w8_161, w9_161, w10_161, w11_161, b0_161, rfl, rfl, rfl, rfl, p0_161, p1_161, p2_161, p3_161⟩ := hq_161
              show W p l e (gRm 4 92) s m args below meth c _ _ 0 0 Q (F0 m 257 ls [])
              have hP : gWd D (mdT k ad) (va_up (va_up (va_up (va_up (va_up (va_up (va_up (va_up (va_up (va_up (va_up (va_up (va_up v 6 w6_161) 7 w7_161) 8 w8_161) 9 w9_161) 10 w10_161) 11 w11_161) 16 (v 16)) 20 (v 20)) 21 (v 21)) 27 (v 27)) 17 (v 17)) 15 (v 15)) 19 z_136) (va_up (va_up (va_up (va_up (va_up (va_up (va_up (va_up (va_up f 11 (f 11)) 12 (f 12)) 17 (f 17)) 14 (f 14)) 16 (f 16)) 5 (f 5)) 6 (f 6)) 7 (f 7)) 8 (f 8)) (va_up g 0 b0_161) H := ⟨hP.1, (gF_up (V := mdV) (F := mdF) (gF_up (V := mdV) (F := mdF) (gF_up (V := mdV) (F := mdF) (gF_up (V := mdV) (F := mdF) (gF_up (V := mdV) (F := mdF) (gF_up (V := mdV) (F := mdF) (gF_up (V := mdV) (F := mdF) (gF_up (V := mdV) (F := mdF) (gF_up (V := mdV) (F := mdF) (gR_up (V := mdV) (F := mdF) (gR_up (V := mdV) (F := mdF) (gR_up (V := mdV) (F := mdF) (gR_up (V := mdV) (F := mdF) (gR_up (V := mdV) (F := mdF) (gR_up (V := mdV) (F := mdF) (gR_up (V := mdV) (F := mdF) (gR_up (V := mdV) (F := mdF) (gR_up (V := mdV) (F := mdF) (gR_up (V := mdV) (F := mdF) (gR_up (V := mdV) (F := mdF) (gR_up (V := mdV) (F := mdF) (gR_up (V := mdV) (F := mdF) ⟨hok.1, hok.2⟩ 6 (hP.2.1 6)) 7 (hP.2.1 7)) 8 (hP.2.1 8)) 9 (hP.2.1 9)) 10 (hP.2.1 10)) 11 (hP.2.1 11)) 16 (hP.2.1 16)) 20 (hP.2.1 20)) 21 (hP.2.1 21)) 27 (hP.2.1 27)) 17 (hP.2.1 17)) 15 (hP.2.1 15)) 19 (hP.2.1 19)) 11 (hP.2.2 11)) 12 (hP.2.2 12)) 17 (hP.2.2 17)) 14 (hP.2.2 14)) 16 (hP.2.2 16)) 5 (hP.2.2 5)) 6 (hP.2.2 6)) 7 (hP.2.2 7)) 8 (hP.2.2 8))⟩
              replace p0_161 : w9_159 ≤ w9_161 ∧ w9_161 ≤ w10_161 ∧ w10_161 ≤ (v 3) := p0_161
              replace p1_161 : w8_161 ≠ 0 → w9_161 < w10_161 := p1_161
              replace p2_161 : 0 < w6_154 → 0 < w6_161 := p2_161
              replace p3_161 : w6_161 = 0 → w6_154 = 0 := p3_161
              have rw6_161 : 0 ≤ w6_161 ∧ w6_161 ≤ 5 := hP.2.1 6
              have rw7_161 : 0 ≤ w7_161 ∧ w7_161 ≤ 700 := hP.2.1 7
              have rw8_161 : 0 ≤ w8_161 ∧ w8_161 ≤ 4 := hP.2.1 8
              have rw9_161 : 0 ≤ w9_161 ∧ w9_161 ≤ 700 := hP.2.1 9
              have rw10_161 : 0 ≤ w10_161 ∧ w10_161 ≤ 700 := hP.2.1 10
              have rw11_161 : 0 ≤ w11_161 ∧ w11_161 ≤ 999999 := hP.2.1 11
              exact g_vret hQ C hr hlocks hP hS dX11_readLaw_257 ⟨w6_161, w7_161, w8_161, w9_161, w10_161, w11_161, (v 16), (v 20), (v 21), (v 27), (v 17), (v 15), z_136, (f 11), (f 12), (f 17), (f 14), (f 16), (f 5), (f 6), (f 7), (f 8), b0_161, rfl, rfl, rfl, rfl, (by first | omega | (split <;> omega)), (by first | omega | (split <;> omega)), (by first | omega | (split <;> omega)), (by first | (intro h; exfalso; omega) | exact fun _ => hrp | exact fun _ => hX (by omega))⟩
    · refine lv_aload_n hx hb dX11_readLaw_12 rfl (lv_at hl 0 rfl) ?_
      refine lv_iconst (v := iI 3) hx hb dX11_readLaw_13 rfl ?_
      refine lv_aload_n hx hb dX11_readLaw_14 rfl (lv_at hl 0 rfl) ?_
      refine mdG_at C hP mF_X11_158 dX11_readLaw_15 ?_
      show W p l e (gRm 4 92) s m args below meth c _ _ 0 0 Q (F0 m 18 ls [.int (iI (v 9)), .int (iI 3), .ref (ad 0)])
      refine g_cv (As := [.int (iI 3), .int (iI (v 9))]) (rest := []) (n := 2) C hml (m_X11_fail l D k A ad hD (va_up (va_up (va_up (va_up (va_up (va_up (va_up (va_up (va_up (va_up (va_up (va_up (va_up v 6 (v 6)) 7 (v 7)) 8 (v 8)) 9 (v 9)) 10 (v 10)) 11 (v 11)) 16 (v 16)) 20 (v 20)) 21 (v 21)) 27 (v 27)) 17 (v 17)) 15 (v 15)) 19 (v 19)) (va_up (va_up (va_up (va_up (va_up (va_up (va_up (va_up (va_up f 11 (f 11)) 12 (f 12)) 17 (f 17)) 14 (f 14)) 16 (f 16)) 5 (f 5)) 6 (f 6)) 7 (f 7)) 8 (f 8)) (va_up g 0 (g 0)) 3 (v 9) (by decide) (by omega) (show 1 ≤ (3 : Int) ∧ (3 : Int) ≤ 5 from by omega) (show 0 ≤ (v 9) ∧ (v 9) ≤ 700 from by omega)) mM_X11_194 mI_X11_fail mE_X11_fail mN_X11 mC_X11_fail (by decide +kernel) 0 (ci := 11) rfl rfl hP hS (fun _ h => h) ⟨Nat.le_of_ble_eq_true rfl, Nat.le_of_ble_eq_true rfl⟩ ⟨Nat.zero_le _, Nat.zero_le _⟩ hl.1 rfl rfl (Nat.le_of_ble_eq_true rfl) dX11_readLaw_18 (fun r_162 v_162 f_162 g_162 H locs hq_162 hP _ hS => ?_)
      obtain ⟨w6_162, w7_162, rfl, rfl, rfl, rfl, p0_162⟩ := hq_162
      show W p l e (gRm 4 92) s m args below meth c _ _ 0 0 Q (F0 m 21 ls [])
      have hP : gWd D (mdT k ad) (va_up (va_up (va_up (va_up (va_up (va_up (va_up (va_up (va_up (va_up (va_up (va_up (va_up v 6 w6_162) 7 w7_162) 8 (v 8)) 9 (v 9)) 10 (v 10)) 11 (v 11)) 16 (v 16)) 20 (v 20)) 21 (v 21)) 27 (v 27)) 17 (v 17)) 15 (v 15)) 19 (v 19)) (va_up (va_up (va_up (va_up (va_up (va_up (va_up (va_up (va_up f 11 (f 11)) 12 (f 12)) 17 (f 17)) 14 (f 14)) 16 (f 16)) 5 (f 5)) 6 (f 6)) 7 (f 7)) 8 (f 8)) (va_up g 0 (g 0)) H := ⟨hP.1, (gF_up (V := mdV) (F := mdF) (gF_up (V := mdV) (F := mdF) (gF_up (V := mdV) (F := mdF) (gF_up (V := mdV) (F := mdF) (gF_up (V := mdV) (F := mdF) (gF_up (V := mdV) (F := mdF) (gF_up (V := mdV) (F := mdF) (gF_up (V := mdV) (F := mdF) (gF_up (V := mdV) (F := mdF) (gR_up (V := mdV) (F := mdF) (gR_up (V := mdV) (F := mdF) (gR_up (V := mdV) (F := mdF) (gR_up (V := mdV) (F := mdF) (gR_up (V := mdV) (F := mdF) (gR_up (V := mdV) (F := mdF) (gR_up (V := mdV) (F := mdF) (gR_up (V := mdV) (F := mdF) (gR_up (V := mdV) (F := mdF) (gR_up (V := mdV) (F := mdF) (gR_up (V := mdV) (F := mdF) (gR_up (V := mdV) (F := mdF) (gR_up (V := mdV) (F := mdF) ⟨hok.1, hok.2⟩ 6 (hP.2.1 6)) 7 (hP.2.1 7)) 8 (hP.2.1 8)) 9 (hP.2.1 9)) 10 (hP.2.1 10)) 11 (hP.2.1 11)) 16 (hP.2.1 16)) 20 (hP.2.1 20)) 21 (hP.2.1 21)) 27 (hP.2.1 27)) 17 (hP.2.1 17)) 15 (hP.2.1 15)) 19 (hP.2.1 19)) 11 (hP.2.2 11)) 12 (hP.2.2 12)) 17 (hP.2.2 17)) 14 (hP.2.2 14)) 16 (hP.2.2 16)) 5 (hP.2.2 5)) 6 (hP.2.2 6)) 7 (hP.2.2 7)) 8 (hP.2.2 8))⟩
      replace p0_162 : 0 < w6_162 := p0_162
      have rw6_162 : 0 ≤ w6_162 ∧ w6_162 ≤ 5 := hP.2.1 6
      have rw7_162 : 0 ≤ w7_162 ∧ w7_162 ≤ 700 := hP.2.1 7
      exact g_vret hQ C hr hlocks hP hS dX11_readLaw_21 ⟨w6_162, w7_162, (v 8), (v 9), (v 10), (v 11), (v 16), (v 20), (v 21), (v 27), (v 17), (v 15), (v 19), (f 11), (f 12), (f 17), (f 14), (f 16), (f 5), (f 6), (f 7), (f 8), (g 0), rfl, rfl, rfl, rfl, (by first | omega | (split <;> omega)), (by first | omega | (split <;> omega)), (by first | omega | (split <;> omega)), (by first | (intro h; exfalso; omega) | exact fun _ => hrp | exact fun _ => hX (by omega))⟩
