set_option maxHeartbeats 40000000 in
set_option maxRecDepth 100000 in
theorem n_readExpression (l : Launch) (D : va_G) (k : Nat → ClassId) (A : Nat → Prop) (ad : Nat → Nat) (hD : mdD A k ad) (v : gV) (f g : gF) (B : Int → Int) (pp : Int) (hB : ∀ k, (f 0) k % 256 = B k) (hc : mAt B (v 3) (v 9) (v 10) (v 8) (v 11) ((g 0) 0) pp) (hb0 : (v 6) = 0) : GM l D k A (mdT k ad) yX11_readExpression cX11_readExpression 4 none 3 69 [.ref (ad 0)] v f g (fun r v1 f1 g1 => ∃ (w6 : Int) (w7 : Int) (w8 : Int) (w9 : Int) (w10 : Int) (w11 : Int) (w16 : Int) (w20 : Int) (w21 : Int) (w27 : Int) (a11_ : Int → Int) (a12_ : Int → Int) (a17_ : Int → Int) (b0_ : Int → Int), r = none ∧ (va_up (va_up (va_up (va_up (va_up (va_up (va_up (va_up (va_up (va_up v 6 w6) 7 w7) 8 w8) 9 w9) 10 w10) 11 w11) 16 w16) 20 w20) 21 w21) 27 w27) = v1 ∧ (va_up (va_up (va_up f 11 a11_) 12 a12_) 17 a17_) = f1 ∧ (va_up g 0 b0_) = g1 ∧ (∃ o : Int × Int, oM B (v 3) o w6 w7 w9 w10 w8 w11 (b0_ 0) ∧ semi B (v 3) o = semi B (v 3) ((exF B (v 3) 702 pp 0 [] []).1, (exF B (v 3) 702 pp 0 [] []).2.1)) ∧ (w6 = 0 → rpOk w16 a11_ ∧ w16 ≤ 40)) := by
  refine GM.of (by decide) (Nat.le_of_ble_eq_true rfl) ?_
  intro p e s m args below meth c Q ls hQ C hml hr hlocks hP hl
  have hx := C.1
  have hb := C.2.1
  have hok := hP.2
  have hS : va_S A s.heap s.heap [] := va_S.rf
  have hl : lv_has ls 4 [(0, .ref (ad 0))] := hl
  have hP : gWd D (mdT k ad) (va_up (va_up (va_up (va_up (va_up (va_up (va_up (va_up (va_up (va_up v 6 (v 6)) 7 (v 7)) 8 (v 8)) 9 (v 9)) 10 (v 10)) 11 (v 11)) 16 (v 16)) 20 (v 20)) 21 (v 21)) 27 (v 27)) (va_up (va_up (va_up f 11 (f 11)) 12 (f 12)) 17 (f 17)) (va_up g 0 (g 0)) s.heap := by rw [va_id, va_id, va_id, va_id, va_id, va_id, va_id, va_id, va_id, va_id, va_id, va_id, va_id, va_id]; exact hP
  have hpp : 0 ≤ pp ∧ pp ≤ (v 3) := hc.of.2.1
  have r_1 : 0 ≤ (v 9) ∧ (v 9) ≤ 700 := hok.1 9
  have r_2 : 0 ≤ (v 10) ∧ (v 10) ≤ 700 := hok.1 10
  have r_3 : 0 ≤ (v 3) ∧ (v 3) ≤ 700 := hok.1 3
  have r_4 : 0 ≤ (v 8) ∧ (v 8) ≤ 4 := hok.1 8
  have r_5 : 0 ≤ (v 6) ∧ (v 6) ≤ 5 := hok.1 6
  have r_6 : 0 ≤ (v 16) ∧ (v 16) ≤ 41 := hok.1 16
  have r_7 : 0 ≤ (v 20) ∧ (v 20) ≤ 64 := hok.1 20
  have r_8 : 0 ≤ (v 21) ∧ (v 21) ≤ 9 := hok.1 21
  have r_9 : 0 ≤ (v 27) ∧ (v 27) ≤ 41 := hok.1 27
  refine lv_aload_n hx hb dX11_readExpression_0 rfl (lv_at hl 0 rfl) ?_
  refine lv_iconst (v := iI 0) hx hb dX11_readExpression_1 rfl ?_
  refine mdP_newParts (v1 := (va_up (va_up (va_up (va_up (va_up (va_up (va_up (va_up (va_up (va_up v 6 (v 6)) 7 (v 7)) 8 (v 8)) 9 (v 9)) 10 (v 10)) 11 (v 11)) 16 0) 20 (v 20)) 21 (v 21)) 27 (v 27))) C hP hD hS mF_X11_217 (by decide) rfl (Or.inr (gF_up (V := mdV) (F := mdF) (gF_up (V := mdV) (F := mdF) (gF_up (V := mdV) (F := mdF) (gR_up (V := mdV) (F := mdF) (gR_up (V := mdV) (F := mdF) (gR_up (V := mdV) (F := mdF) (gR_up (V := mdV) (F := mdF) (gR_up (V := mdV) (F := mdF) (gR_up (V := mdV) (F := mdF) (gR_up (V := mdV) (F := mdF) (gR_up (V := mdV) (F := mdF) (gR_up (V := mdV) (F := mdF) (gR_up (V := mdV) (F := mdF) ⟨hok.1, hok.2⟩ 6 (hP.2.1 6)) 7 (hP.2.1 7)) 8 (hP.2.1 8)) 9 (hP.2.1 9)) 10 (hP.2.1 10)) 11 (hP.2.1 11)) 16 (show 0 ≤ 0 ∧ 0 ≤ 41 from by decide)) 20 (hP.2.1 20)) 21 (hP.2.1 21)) 27 (hP.2.1 27)) 11 (hP.2.2 11)) 12 (hP.2.2 12)) 17 (hP.2.2 17))) dX11_readExpression_2 (fun H locs hP hS => ?_)
  refine lv_aload_n hx hb dX11_readExpression_5 rfl (lv_at hl 0 rfl) ?_
  refine lv_iconst (v := iI 0) hx hb dX11_readExpression_6 rfl ?_
  refine mdP_counted (v1 := (va_up (va_up (va_up (va_up (va_up (va_up (va_up (va_up (va_up (va_up v 6 (v 6)) 7 (v 7)) 8 (v 8)) 9 (v 9)) 10 (v 10)) 11 (v 11)) 16 0) 20 (v 20)) 21 (v 21)) 27 0)) C hP hD hS mF_X11_249 (by decide) rfl (Or.inr (gF_up (V := mdV) (F := mdF) (gF_up (V := mdV) (F := mdF) (gF_up (V := mdV) (F := mdF) (gR_up (V := mdV) (F := mdF) (gR_up (V := mdV) (F := mdF) (gR_up (V := mdV) (F := mdF) (gR_up (V := mdV) (F := mdF) (gR_up (V := mdV) (F := mdF) (gR_up (V := mdV) (F := mdF) (gR_up (V := mdV) (F := mdF) (gR_up (V := mdV) (F := mdF) (gR_up (V := mdV) (F := mdF) (gR_up (V := mdV) (F := mdF) ⟨hok.1, hok.2⟩ 6 (hP.2.1 6)) 7 (hP.2.1 7)) 8 (hP.2.1 8)) 9 (hP.2.1 9)) 10 (hP.2.1 10)) 11 (hP.2.1 11)) 16 (hP.2.1 16)) 20 (hP.2.1 20)) 21 (hP.2.1 21)) 27 (show 0 ≤ 0 ∧ 0 ≤ 41 from by decide)) 11 (hP.2.2 11)) 12 (hP.2.2 12)) 17 (hP.2.2 17))) dX11_readExpression_7 (fun H locs hP hS => ?_)
  refine lv_aload_n hx hb dX11_readExpression_10 rfl (lv_at hl 0 rfl) ?_
  refine lv_iconst (v := iI 0) hx hb dX11_readExpression_11 rfl ?_
  refine mdP_waiting (v1 := (va_up (va_up (va_up (va_up (va_up (va_up (va_up (va_up (va_up (va_up v 6 (v 6)) 7 (v 7)) 8 (v 8)) 9 (v 9)) 10 (v 10)) 11 (v 11)) 16 0) 20 0) 21 (v 21)) 27 0)) C hP hD hS mF_X11_255 (by decide) rfl (Or.inr (gF_up (V := mdV) (F := mdF) (gF_up (V := mdV) (F := mdF) (gF_up (V := mdV) (F := mdF) (gR_up (V := mdV) (F := mdF) (gR_up (V := mdV) (F := mdF) (gR_up (V := mdV) (F := mdF) (gR_up (V := mdV) (F := mdF) (gR_up (V := mdV) (F := mdF) (gR_up (V := mdV) (F := mdF) (gR_up (V := mdV) (F := mdF) (gR_up (V := mdV) (F := mdF) (gR_up (V := mdV) (F := mdF) (gR_up (V := mdV) (F := mdF) ⟨hok.1, hok.2⟩ 6 (hP.2.1 6)) 7 (hP.2.1 7)) 8 (hP.2.1 8)) 9 (hP.2.1 9)) 10 (hP.2.1 10)) 11 (hP.2.1 11)) 16 (hP.2.1 16)) 20 (show 0 ≤ 0 ∧ 0 ≤ 64 from by decide)) 21 (hP.2.1 21)) 27 (hP.2.1 27)) 11 (hP.2.2 11)) 12 (hP.2.2 12)) 17 (hP.2.2 17))) dX11_readExpression_12 (fun H locs hP hS => ?_)
  refine lv_aload_n hx hb dX11_readExpression_15 rfl (lv_at hl 0 rfl) ?_
  refine lv_iconst (v := iI 0) hx hb dX11_readExpression_16 rfl ?_
  refine mdP_deep (v1 := (va_up (va_up (va_up (va_up (va_up (va_up (va_up (va_up (va_up (va_up v 6 (v 6)) 7 (v 7)) 8 (v 8)) 9 (v 9)) 10 (v 10)) 11 (v 11)) 16 0) 20 0) 21 0) 27 0)) C hP hD hS mF_X11_252 (by decide) rfl (Or.inr (gF_up (V := mdV) (F := mdF) (gF_up (V := mdV) (F := mdF) (gF_up (V := mdV) (F := mdF) (gR_up (V := mdV) (F := mdF) (gR_up (V := mdV) (F := mdF) (gR_up (V := mdV) (F := mdF) (gR_up (V := mdV) (F := mdF) (gR_up (V := mdV) (F := mdF) (gR_up (V := mdV) (F := mdF) (gR_up (V := mdV) (F := mdF) (gR_up (V := mdV) (F := mdF) (gR_up (V := mdV) (F := mdF) (gR_up (V := mdV) (F := mdF) ⟨hok.1, hok.2⟩ 6 (hP.2.1 6)) 7 (hP.2.1 7)) 8 (hP.2.1 8)) 9 (hP.2.1 9)) 10 (hP.2.1 10)) 11 (hP.2.1 11)) 16 (hP.2.1 16)) 20 (hP.2.1 20)) 21 (show 0 ≤ 0 ∧ 0 ≤ 9 from by decide)) 27 (hP.2.1 27)) 11 (hP.2.2 11)) 12 (hP.2.2 12)) 17 (hP.2.2 17))) dX11_readExpression_17 (fun H locs hP hS => ?_)
  refine lv_iconst (v := iI 0) hx hb dX11_readExpression_20 rfl ?_
  refine lv_istore_n (lv' := [(1, .int (iI 0)), (0, .ref (ad 0))]) hx hb dX11_readExpression_21 rfl hl (by decide) rfl (fun ls hl => ?_)
  refine lv_iconst (v := iI 1) hx hb dX11_readExpression_22 rfl ?_
  refine lv_istore_n (lv' := [(2, .int (iI 1)), (1, .int (iI 0)), (0, .ref (ad 0))]) hx hb dX11_readExpression_23 rfl hl (by decide) rfl (fun ls hl => ?_)
  have L_10 : ∀ (n : Nat) (x1 : Int) (x2 : Int) (qq : Int) (S1 : List Int) (E1 : List (Int × Int)) (kk : Nat) (y6_10 : Int) (y7_10 : Int) (y8_10 : Int) (y9_10 : Int) (y10_10 : Int) (y11_10 : Int) (y16_10 : Int) (y20_10 : Int) (y21_10 : Int) (y27_10 : Int) (c11_10 : Int → Int) (c12_10 : Int → Int) (c17_10 : Int → Int) (d0_10 : Int → Int) (H : Heap) (locs : List Loc) (ls : Array Slot), 10 * ((v 3) - qq) + 7 * x2 + 5 - y6_10 < (n : Int) → (0 ≤ x1 ∧ x1 ≤ 1) → ((0 ≤ x2 ∧ x2 ≤ 1) ∧ 0 ≤ qq ∧ qq ≤ (v 3)) → (mAt B (v 3) y9_10 y10_10 y8_10 y11_10 (d0_10 0) qq) → (y6_10 = 0 → xM x1 S1 E1 c17_10 y20_10 c11_10 c12_10 y16_10 y21_10 y27_10 x1) → (y6_10 = 0 → exF B (v 3) kk qq x1 S1 E1 = (exF B (v 3) 702 pp 0 [] [])) → (x2 = 0 → x1 = 1 ∧ ((tK B (v 3) qq) ≠ 43 ∧ (tK B (v 3) qq) ≠ 45 ∧ (tK B (v 3) qq) ≠ 42) ∧ ((tK B (v 3) qq) = 41 → cPa S1 = 0)) → (y6_10 ≠ 0 → y7_10 = qq ∧ (exF B (v 3) 702 pp 0 [] []) = (y6_10, qq, E1)) → ((v 3) - qq < (kk : Int)) → gWd D (mdT k ad) (va_up (va_up (va_up (va_up (va_up (va_up (va_up (va_up (va_up (va_up v 6 y6_10) 7 y7_10) 8 y8_10) 9 y9_10) 10 y10_10) 11 y11_10) 16 y16_10) 20 y20_10) 21 y21_10) 27 y27_10) (va_up (va_up (va_up f 11 c11_10) 12 c12_10) 17 c17_10) (va_up g 0 d0_10) H → va_S A s.heap H locs → lv_has ls 4 [(0, .ref (ad 0)), (1, .int (iI x1)), (2, .int (iI x2))] → W p l e (gRm 3 69) s m args below meth c H locs 0 0 Q (F0 m 24 ls []) := by
    intro n
    induction n with
    | zero =>
      intro x1 x2 qq S1 E1 kk y6_10 y7_10 y8_10 y9_10 y10_10 y11_10 y16_10 y20_10 y21_10 y27_10 c11_10 c12_10 c17_10 d0_10 H locs ls hn_10 i10_0 i10_1 i10_2 i10_3 i10_4 i10_5 i10_6 i10_7 hP hS hl
      have ry6_10 : 0 ≤ y6_10 ∧ y6_10 ≤ 5 := hP.2.1 6
      have ry7_10 : 0 ≤ y7_10 ∧ y7_10 ≤ 700 := hP.2.1 7
      have ry8_10 : 0 ≤ y8_10 ∧ y8_10 ≤ 4 := hP.2.1 8
      have ry9_10 : 0 ≤ y9_10 ∧ y9_10 ≤ 700 := hP.2.1 9
      have ry10_10 : 0 ≤ y10_10 ∧ y10_10 ≤ 700 := hP.2.1 10
      have ry11_10 : 0 ≤ y11_10 ∧ y11_10 ≤ 999999 := hP.2.1 11
      have ry16_10 : 0 ≤ y16_10 ∧ y16_10 ≤ 41 := hP.2.1 16
      have ry20_10 : 0 ≤ y20_10 ∧ y20_10 ≤ 64 := hP.2.1 20
      have ry21_10 : 0 ≤ y21_10 ∧ y21_10 ≤ 9 := hP.2.1 21
      have ry27_10 : 0 ≤ y27_10 ∧ y27_10 ≤ 41 := hP.2.1 27
      exfalso; omega
    | succ n ih_24 =>
      intro x1 x2 qq S1 E1 kk y6_10 y7_10 y8_10 y9_10 y10_10 y11_10 y16_10 y20_10 y21_10 y27_10 c11_10 c12_10 c17_10 d0_10 H locs ls hn_10 i10_0 i10_1 i10_2 i10_3 i10_4 i10_5 i10_6 i10_7 hP hS hl
      have ry6_10 : 0 ≤ y6_10 ∧ y6_10 ≤ 5 := hP.2.1 6
      have ry7_10 : 0 ≤ y7_10 ∧ y7_10 ≤ 700 := hP.2.1 7
      have ry8_10 : 0 ≤ y8_10 ∧ y8_10 ≤ 4 := hP.2.1 8
      have ry9_10 : 0 ≤ y9_10 ∧ y9_10 ≤ 700 := hP.2.1 9
      have ry10_10 : 0 ≤ y10_10 ∧ y10_10 ≤ 700 := hP.2.1 10
      have ry11_10 : 0 ≤ y11_10 ∧ y11_10 ≤ 999999 := hP.2.1 11
      have ry16_10 : 0 ≤ y16_10 ∧ y16_10 ≤ 41 := hP.2.1 16
      have ry20_10 : 0 ≤ y20_10 ∧ y20_10 ≤ 64 := hP.2.1 20
      have ry21_10 : 0 ≤ y21_10 ∧ y21_10 ≤ 9 := hP.2.1 21
      have ry27_10 : 0 ≤ y27_10 ∧ y27_10 ≤ 41 := hP.2.1 27
      have hM := i10_2
      have hJ3 := Bx.mk i10_3
      have hJ4 := Bx.mk i10_4
      have hJ5 := Bx.mk i10_5
      have hJ6 := Bx.mk i10_6
      clear i10_3 i10_4 i10_5 i10_6
      have hat : y9_10 = qq ∧ (0 ≤ qq ∧ qq ≤ (v 3)) := ⟨hM.of.1, hM.of.2.1⟩
      have hle := hM.le
      have hfk := fk_rng B (v 3) qq
      refine lv_iload_n hx hb dX11_readExpression_24 rfl (lv_at hl 2 rfl) ?_
      refine gi_zeq (tgt := 201) hx hb dX11_readExpression_25 (by decide) (by omega) (fun c_11 => ?_) (fun c_11 => ?_)
      · refine lv_aload_n hx hb dX11_readExpression_201 rfl (lv_at hl 0 rfl) ?_
        refine mdG_bad C hP mF_X11_188 dX11_readExpression_202 ?_
        show W p l e (gRm 3 69) s m args below meth c _ _ 0 0 Q (F0 m 205 ls [.int (iI y6_10)])
        have r_12 : 0 ≤ y6_10 ∧ y6_10 ≤ 5 := hP.2.1 6
        refine gi_zle (tgt := 209) hx hb dX11_readExpression_205 (by decide) (by omega) (fun c_13 => ?_) (fun c_13 => ?_)
        · have h5 := hJ5.get (by omega)
          have hX1 : xM 1 S1 E1 c17_10 y20_10 c11_10 c12_10 y16_10 y21_10 y27_10 1 := by have h := hJ3.get (by omega); rw [show x1 = 1 by omega] at h; exact h
          have hO : exF B (v 3) kk qq 1 S1 E1 = (exF B (v 3) 702 pp 0 [] []) := by have h := hJ4.get (by omega); rw [show x1 = 1 by omega] at h; exact h
          have hxr1 := xM_rng hX1
          refine lv_aload_n hx hb dX11_readExpression_209 rfl (lv_at hl 0 rfl) ?_
          refine lv_iconst (v := iI 1) hx hb dX11_readExpression_210 rfl ?_
          refine g_cv (As := [.int (iI 1)]) (rest := []) (n := 1) C hml (n_reduce l D k A ad hD (va_up (va_up (va_up (va_up (va_up (va_up (va_up (va_up (va_up (va_up v 6 y6_10) 7 y7_10) 8 y8_10) 9 y9_10) 10 y10_10) 11 y11_10) 16 y16_10) 20 y20_10) 21 y21_10) 27 y27_10) (va_up (va_up (va_up f 11 c11_10) 12 c12_10) 17 c17_10) (va_up g 0 d0_10) 1 S1 E1 7 (by decide) (show ((1 : Int) = 1 ∧ 7 ≠ 9) ∨ ((1 : Int) = 2 ∧ 7 = 9) from by omega) (show wfS S1 from hX1.1.1) (show hdS S1 ≠ 10 from hX1.1.2.1 rfl) (show rep S1 c17_10 y20_10 from hX1.1.2.2.1) (show repC mp E1 c11_10 c12_10 y16_10 ∧ (E1.length : Int) + cSg S1 ≤ 40 from ⟨hX1.1.2.2.2.1, by omega⟩)) mM_X11_274 mI_X11_reduce mE_X11_reduce mN_X11 mC_X11_reduce (by decide +kernel) 0 (ci := 11) rfl rfl hP hS (fun _ h => h) ⟨Nat.le_of_ble_eq_true rfl, Nat.le_of_ble_eq_true rfl⟩ ⟨Nat.zero_le _, Nat.zero_le _⟩ hl.1 rfl rfl (Nat.le_of_ble_eq_true rfl) dX11_readExpression_211 (fun r_14 v_14 f_14 g_14 H locs hq_14 hP _ hS => ?_)
          obtain ⟨w16_14, w20_14, a11_14, a12_14, rfl, rfl, rfl, rfl, p0_14, p1_14⟩ := hq_14
          show W p l e (gRm 3 69) s m args below meth c _ _ 0 0 Q (F0 m 214 ls [])
          have hP : gWd D (mdT k ad) (va_up (va_up (va_up (va_up (va_up (va_up (va_up (va_up (va_up (va_up v 6 y6_10) 7 y7_10) 8 y8_10) 9 y9_10) 10 y10_10) 11 y11_10) 16 w16_14) 20 w20_14) 21 y21_10) 27 y27_10) (va_up (va_up (va_up f 11 a11_14) 12 a12_14) 17 c17_10) (va_up g 0 d0_10) H := ⟨hP.1, (gF_up (V := mdV) (F := mdF) (gF_up (V := mdV) (F := mdF) (gF_up (V := mdV) (F := mdF) (gR_up (V := mdV) (F := mdF) (gR_up (V := mdV) (F := mdF) (gR_up (V := mdV) (F := mdF) (gR_up (V := mdV) (F := mdF) (gR_up (V := mdV) (F := mdF) (gR_up (V := mdV) (F := mdF) (gR_up (V := mdV) (F := mdF) (gR_up (V := mdV) (F := mdF) (gR_up (V := mdV) (F := mdF) (gR_up (V := mdV) (F := mdF) ⟨hok.1, hok.2⟩ 6 (hP.2.1 6)) 7 (hP.2.1 7)) 8 (hP.2.1 8)) 9 (hP.2.1 9)) 10 (hP.2.1 10)) 11 (hP.2.1 11)) 16 (hP.2.1 16)) 20 (hP.2.1 20)) 21 (hP.2.1 21)) 27 (hP.2.1 27)) 11 (hP.2.2 11)) 12 (hP.2.2 12)) 17 (hP.2.2 17))⟩
          replace p0_14 : rep (rlS 7 S1 E1).1 c17_10 w20_14 := p0_14
          replace p1_14 : repC mp (rlS 7 S1 E1).2 a11_14 a12_14 w16_14 := p1_14
          have rw16_14 : 0 ≤ w16_14 ∧ w16_14 ≤ 41 := hP.2.1 16
          have rw20_14 : 0 ≤ w20_14 ∧ w20_14 ≤ 64 := hP.2.1 20
          have hR0 := p0_14
          have hR1 := p1_14
          have hEn := fun hp => xM_end hX1 hp hR0 hR1
          have hCn := fun hp => (xM_close hX1 hp hR0 hR1 rfl rfl).1
          have hwc : w20_14 = 0 ↔ cPa S1 = 0 := ⟨fun h => by rcases Int.lt_or_le 0 (cPa S1) with h2 | h2; (have := hCn h2; omega); omega, fun h => (hEn h).1⟩
          refine lv_aload_n hx hb dX11_readExpression_214 rfl (lv_at hl 0 rfl) ?_
          refine mdG_waiting C hP mF_X11_255 dX11_readExpression_215 ?_
          show W p l e (gRm 3 69) s m args below meth c _ _ 0 0 Q (F0 m 218 ls [.int (iI w20_14)])
          have r_15 : 0 ≤ w20_14 ∧ w20_14 ≤ 64 := hP.2.1 20
          refine gi_zle (tgt := 225) hx hb dX11_readExpression_218 (by decide) (by omega) (fun c_16 => ?_) (fun c_16 => ?_)
          · exact g_vret hQ C hr hlocks hP hS dX11_readExpression_225 ⟨y6_10, y7_10, y8_10, y9_10, y10_10, y11_10, w16_14, w20_14, y21_10, y27_10, a11_14, a12_14, c17_10, d0_10, rfl, rfl, rfl, rfl, (by first | exact (if hp : cPa S1 = 0 then (if h59 : (tK B (v 3) qq) = 59 then ⟨(0, qq), oM_ok rfl (by omega) hM, by rw [← hO, show kk = (kk - 1) + 1 by omega, exF_end _ h59 hp]⟩ else ⟨(0, qq), oM_ok rfl (by omega) hM, by rw [← hO, show kk = (kk - 1) + 1 by omega, exF_bad1 _ (by omega) (by omega) (by omega), semi_no h59]; exact semi_fk.symm⟩) else (by exfalso; omega)) | exact ⟨(fk B (v 3) qq, qq), oM_bad rfl (by omega) (by omega) hM, by rw [← hO, show kk = (kk - 1) + 1 by omega, exF_bad1 _ (by omega) (by omega) (by omega)]⟩), (by first | (intro h; exfalso; omega) | exact fun _ => (hEn (by omega)).2)⟩
          · refine lv_aload_n hx hb dX11_readExpression_221 rfl (lv_at hl 0 rfl) ?_
            refine g_cv (As := []) (rest := []) (n := 0) C hml (n_wrC l D k A ad hD (va_up (va_up (va_up (va_up (va_up (va_up (va_up (va_up (va_up (va_up v 6 y6_10) 7 y7_10) 8 y8_10) 9 y9_10) 10 y10_10) 11 y11_10) 16 w16_14) 20 w20_14) 21 y21_10) 27 y27_10) (va_up (va_up (va_up f 11 a11_14) 12 a12_14) 17 c17_10) (va_up g 0 d0_10) B qq (show mAt B (v 3) y9_10 y10_10 y8_10 y11_10 (d0_10 0) qq from hM)) mM_X11_198 mI_X11_wrong mE_X11_wrong mN_X11 mC_X11_wrong (by decide +kernel) 0 (ci := 11) rfl rfl hP hS (fun _ h => h) ⟨Nat.le_of_ble_eq_true rfl, Nat.le_of_ble_eq_true rfl⟩ ⟨Nat.zero_le _, Nat.zero_le _⟩ hl.1 rfl rfl (Nat.le_of_ble_eq_true rfl) dX11_readExpression_222 (fun r_17 v_17 f_17 g_17 H locs hq_17 hP _ hS => ?_)
            obtain ⟨w6_17, w7_17, rfl, rfl, rfl, rfl, p0_17, p1_17⟩ := hq_17
            show W p l e (gRm 3 69) s m args below meth c _ _ 0 0 Q (F0 m 225 ls [])
            have hP : gWd D (mdT k ad) (va_up (va_up (va_up (va_up (va_up (va_up (va_up (va_up (va_up (va_up v 6 w6_17) 7 w7_17) 8 y8_10) 9 y9_10) 10 y10_10) 11 y11_10) 16 w16_14) 20 w20_14) 21 y21_10) 27 y27_10) (va_up (va_up (va_up f 11 a11_14) 12 a12_14) 17 c17_10) (va_up g 0 d0_10) H := ⟨hP.1, (gF_up (V := mdV) (F := mdF) (gF_up (V := mdV) (F := mdF) (gF_up (V := mdV) (F := mdF) (gR_up (V := mdV) (F := mdF) (gR_up (V := mdV) (F := mdF) (gR_up (V := mdV) (F := mdF) (gR_up (V := mdV) (F := mdF) (gR_up (V := mdV) (F := mdF) (gR_up (V := mdV) (F := mdF) (gR_up (V := mdV) (F := mdF) (gR_up (V := mdV) (F := mdF) (gR_up (V := mdV) (F := mdF) (gR_up (V := mdV) (F := mdF) ⟨hok.1, hok.2⟩ 6 (hP.2.1 6)) 7 (hP.2.1 7)) 8 (hP.2.1 8)) 9 (hP.2.1 9)) 10 (hP.2.1 10)) 11 (hP.2.1 11)) 16 (hP.2.1 16)) 20 (hP.2.1 20)) 21 (hP.2.1 21)) 27 (hP.2.1 27)) 11 (hP.2.2 11)) 12 (hP.2.2 12)) 17 (hP.2.2 17))⟩
            replace p0_17 : y6_10 = 0 → w6_17 = (fk B (v 3) qq) ∧ w7_17 = qq := p0_17
            replace p1_17 : 0 < y6_10 → w6_17 = y6_10 ∧ w7_17 = y7_10 := p1_17
            have rw6_17 : 0 ≤ w6_17 ∧ w6_17 ≤ 5 := hP.2.1 6
            have rw7_17 : 0 ≤ w7_17 ∧ w7_17 ≤ 700 := hP.2.1 7
            first | replace p0_17 := p0_17 (by omega) | clear p0_17
            first | replace p1_17 := p1_17 (by omega) | clear p1_17
            exact g_vret hQ C hr hlocks hP hS dX11_readExpression_225 ⟨w6_17, w7_17, y8_10, y9_10, y10_10, y11_10, w16_14, w20_14, y21_10, y27_10, a11_14, a12_14, c17_10, d0_10, rfl, rfl, rfl, rfl, (by first | exact (if hp : cPa S1 = 0 then (if h59 : (tK B (v 3) qq) = 59 then ⟨(0, qq), oM_ok rfl (by omega) hM, by rw [← hO, show kk = (kk - 1) + 1 by omega, exF_end _ h59 hp]⟩ else ⟨(0, qq), oM_ok rfl (by omega) hM, by rw [← hO, show kk = (kk - 1) + 1 by omega, exF_bad1 _ (by omega) (by omega) (by omega), semi_no h59]; exact semi_fk.symm⟩) else (by exfalso; omega)) | exact ⟨(fk B (v 3) qq, qq), oM_bad rfl (by omega) (by omega) hM, by rw [← hO, show kk = (kk - 1) + 1 by omega, exF_bad1 _ (by omega) (by omega) (by omega)]⟩), (by first | (intro h; exfalso; omega) | exact fun _ => (hEn (by omega)).2)⟩
        · exact g_vret hQ C hr hlocks hP hS dX11_readExpression_208 ⟨y6_10, y7_10, y8_10, y9_10, y10_10, y11_10, y16_10, y20_10, y21_10, y27_10, c11_10, c12_10, c17_10, d0_10, rfl, rfl, rfl, rfl, ⟨(y6_10, qq), ⟨rfl, fun _ => (hJ6.get (by omega)).1, hM⟩, by rw [(hJ6.get (by omega)).2]⟩, (by intro h; exfalso; omega)⟩
      · refine lv_aload_n hx hb dX11_readExpression_28 rfl (lv_at hl 0 rfl) ?_
        refine mdG_bad C hP mF_X11_188 dX11_readExpression_29 ?_
        show W p l e (gRm 3 69) s m args below meth c _ _ 0 0 Q (F0 m 32 ls [.int (iI y6_10)])
        have r_18 : 0 ≤ y6_10 ∧ y6_10 ≤ 5 := hP.2.1 6
        refine gi_zne (tgt := 201) hx hb dX11_readExpression_32 (by decide) (by omega) (fun c_19 => ?_) (fun c_19 => ?_)
        · refine lv_aload_n hx hb dX11_readExpression_201 rfl (lv_at hl 0 rfl) ?_
          refine mdG_bad C hP mF_X11_188 dX11_readExpression_202 ?_
          show W p l e (gRm 3 69) s m args below meth c _ _ 0 0 Q (F0 m 205 ls [.int (iI y6_10)])
          refine gi_zle (tgt := 209) hx hb dX11_readExpression_205 (by decide) (by omega) (fun c_20 => ?_) (fun c_20 => ?_)
          · have h5 := hJ5.get (by omega)
            have hX1 : xM 1 S1 E1 c17_10 y20_10 c11_10 c12_10 y16_10 y21_10 y27_10 1 := by have h := hJ3.get (by omega); rw [show x1 = 1 by omega] at h; exact h
            have hO : exF B (v 3) kk qq 1 S1 E1 = (exF B (v 3) 702 pp 0 [] []) := by have h := hJ4.get (by omega); rw [show x1 = 1 by omega] at h; exact h
            have hxr1 := xM_rng hX1
            refine lv_aload_n hx hb dX11_readExpression_209 rfl (lv_at hl 0 rfl) ?_
            refine lv_iconst (v := iI 1) hx hb dX11_readExpression_210 rfl ?_
            refine g_cv (As := [.int (iI 1)]) (rest := []) (n := 1) C hml (n_reduce l D k A ad hD (va_up (va_up (va_up (va_up (va_up (va_up (va_up (va_up (va_up (va_up v 6 y6_10) 7 y7_10) 8 y8_10) 9 y9_10) 10 y10_10) 11 y11_10) 16 y16_10) 20 y20_10) 21 y21_10) 27 y27_10) (va_up (va_up (va_up f 11 c11_10) 12 c12_10) 17 c17_10) (va_up g 0 d0_10) 1 S1 E1 7 (by decide) (show ((1 : Int) = 1 ∧ 7 ≠ 9) ∨ ((1 : Int) = 2 ∧ 7 = 9) from by omega) (show wfS S1 from hX1.1.1) (show hdS S1 ≠ 10 from hX1.1.2.1 rfl) (show rep S1 c17_10 y20_10 from hX1.1.2.2.1) (show repC mp E1 c11_10 c12_10 y16_10 ∧ (E1.length : Int) + cSg S1 ≤ 40 from ⟨hX1.1.2.2.2.1, by omega⟩)) mM_X11_274 mI_X11_reduce mE_X11_reduce mN_X11 mC_X11_reduce (by decide +kernel) 0 (ci := 11) rfl rfl hP hS (fun _ h => h) ⟨Nat.le_of_ble_eq_true rfl, Nat.le_of_ble_eq_true rfl⟩ ⟨Nat.zero_le _, Nat.zero_le _⟩ hl.1 rfl rfl (Nat.le_of_ble_eq_true rfl) dX11_readExpression_211 (fun r_21 v_21 f_21 g_21 H locs hq_21 hP _ hS => ?_)
            obtain ⟨w16_21, w20_21, a11_21, a12_21, rfl, rfl, rfl, rfl, p0_21, p1_21⟩ := hq_21
            show W p l e (gRm 3 69) s m args below meth c _ _ 0 0 Q (F0 m 214 ls [])
            have hP : gWd D (mdT k ad) (va_up (va_up (va_up (va_up (va_up (va_up (va_up (va_up (va_up (va_up v 6 y6_10) 7 y7_10) 8 y8_10) 9 y9_10) 10 y10_10) 11 y11_10) 16 w16_21) 20 w20_21) 21 y21_10) 27 y27_10) (va_up (va_up (va_up f 11 a11_21) 12 a12_21) 17 c17_10) (va_up g 0 d0_10) H := ⟨hP.1, (gF_up (V := mdV) (F := mdF) (gF_up (V := mdV) (F := mdF) (gF_up (V := mdV) (F := mdF) (gR_up (V := mdV) (F := mdF) (gR_up (V := mdV) (F := mdF) (gR_up (V := mdV) (F := mdF) (gR_up (V := mdV) (F := mdF) (gR_up (V := mdV) (F := mdF) (gR_up (V := mdV) (F := mdF) (gR_up (V := mdV) (F := mdF) (gR_up (V := mdV) (F := mdF) (gR_up (V := mdV) (F := mdF) (gR_up (V := mdV) (F := mdF) ⟨hok.1, hok.2⟩ 6 (hP.2.1 6)) 7 (hP.2.1 7)) 8 (hP.2.1 8)) 9 (hP.2.1 9)) 10 (hP.2.1 10)) 11 (hP.2.1 11)) 16 (hP.2.1 16)) 20 (hP.2.1 20)) 21 (hP.2.1 21)) 27 (hP.2.1 27)) 11 (hP.2.2 11)) 12 (hP.2.2 12)) 17 (hP.2.2 17))⟩
            replace p0_21 : rep (rlS 7 S1 E1).1 c17_10 w20_21 := p0_21
            replace p1_21 : repC mp (rlS 7 S1 E1).2 a11_21 a12_21 w16_21 := p1_21
            have rw16_21 : 0 ≤ w16_21 ∧ w16_21 ≤ 41 := hP.2.1 16
            have rw20_21 : 0 ≤ w20_21 ∧ w20_21 ≤ 64 := hP.2.1 20
            have hR0 := p0_21
            have hR1 := p1_21
            have hEn := fun hp => xM_end hX1 hp hR0 hR1
            have hCn := fun hp => (xM_close hX1 hp hR0 hR1 rfl rfl).1
            have hwc : w20_21 = 0 ↔ cPa S1 = 0 := ⟨fun h => by rcases Int.lt_or_le 0 (cPa S1) with h2 | h2; (have := hCn h2; omega); omega, fun h => (hEn h).1⟩
            refine lv_aload_n hx hb dX11_readExpression_214 rfl (lv_at hl 0 rfl) ?_
            refine mdG_waiting C hP mF_X11_255 dX11_readExpression_215 ?_
            show W p l e (gRm 3 69) s m args below meth c _ _ 0 0 Q (F0 m 218 ls [.int (iI w20_21)])
            have r_22 : 0 ≤ w20_21 ∧ w20_21 ≤ 64 := hP.2.1 20
            refine gi_zle (tgt := 225) hx hb dX11_readExpression_218 (by decide) (by omega) (fun c_23 => ?_) (fun c_23 => ?_)
            · exact g_vret hQ C hr hlocks hP hS dX11_readExpression_225 ⟨y6_10, y7_10, y8_10, y9_10, y10_10, y11_10, w16_21, w20_21, y21_10, y27_10, a11_21, a12_21, c17_10, d0_10, rfl, rfl, rfl, rfl, (by first | exact (if hp : cPa S1 = 0 then (if h59 : (tK B (v 3) qq) = 59 then ⟨(0, qq), oM_ok rfl (by omega) hM, by rw [← hO, show kk = (kk - 1) + 1 by omega, exF_end _ h59 hp]⟩ else ⟨(0, qq), oM_ok rfl (by omega) hM, by rw [← hO, show kk = (kk - 1) + 1 by omega, exF_bad1 _ (by omega) (by omega) (by omega), semi_no h59]; exact semi_fk.symm⟩) else (by exfalso; omega)) | exact ⟨(fk B (v 3) qq, qq), oM_bad rfl (by omega) (by omega) hM, by rw [← hO, show kk = (kk - 1) + 1 by omega, exF_bad1 _ (by omega) (by omega) (by omega)]⟩), (by first | (intro h; exfalso; omega) | exact fun _ => (hEn (by omega)).2)⟩
            · refine lv_aload_n hx hb dX11_readExpression_221 rfl (lv_at hl 0 rfl) ?_
              refine g_cv (As := []) (rest := []) (n := 0) C hml (n_wrC l D k A ad hD (va_up (va_up (va_up (va_up (va_up (va_up (va_up (va_up (va_up (va_up v 6 y6_10) 7 y7_10) 8 y8_10) 9 y9_10) 10 y10_10) 11 y11_10) 16 w16_21) 20 w20_21) 21 y21_10) 27 y27_10) (va_up (va_up (va_up f 11 a11_21) 12 a12_21) 17 c17_10) (va_up g 0 d0_10) B qq (show mAt B (v 3) y9_10 y10_10 y8_10 y11_10 (d0_10 0) qq from hM)) mM_X11_198 mI_X11_wrong mE_X11_wrong mN_X11 mC_X11_wrong (by decide +kernel) 0 (ci := 11) rfl rfl hP hS (fun _ h => h) ⟨Nat.le_of_ble_eq_true rfl, Nat.le_of_ble_eq_true rfl⟩ ⟨Nat.zero_le _, Nat.zero_le _⟩ hl.1 rfl rfl (Nat.le_of_ble_eq_true rfl) dX11_readExpression_222 (fun r_24 v_24 f_24 g_24 H locs hq_24 hP _ hS => ?_)
              obtain ⟨w6_24, w7_24, rfl, rfl, rfl, rfl, p0_24, p1_24⟩ := hq_24
              show W p l e (gRm 3 69) s m args below meth c _ _ 0 0 Q (F0 m 225 ls [])
              have hP : gWd D (mdT k ad) (va_up (va_up (va_up (va_up (va_up (va_up (va_up (va_up (va_up (va_up v 6 w6_24) 7 w7_24) 8 y8_10) 9 y9_10) 10 y10_10) 11 y11_10) 16 w16_21) 20 w20_21) 21 y21_10) 27 y27_10) (va_up (va_up (va_up f 11 a11_21) 12 a12_21) 17 c17_10) (va_up g 0 d0_10) H := ⟨hP.1, (gF_up (V := mdV) (F := mdF) (gF_up (V := mdV) (F := mdF) (gF_up (V := mdV) (F := mdF) (gR_up (V := mdV) (F := mdF) (gR_up (V := mdV) (F := mdF) (gR_up (V := mdV) (F := mdF) (gR_up (V := mdV) (F := mdF) (gR_up (V := mdV) (F := mdF) (gR_up (V := mdV) (F := mdF) (gR_up (V := mdV) (F := mdF) (gR_up (V := mdV) (F := mdF) (gR_up (V := mdV) (F := mdF) (gR_up (V := mdV) (F := mdF) ⟨hok.1, hok.2⟩ 6 (hP.2.1 6)) 7 (hP.2.1 7)) 8 (hP.2.1 8)) 9 (hP.2.1 9)) 10 (hP.2.1 10)) 11 (hP.2.1 11)) 16 (hP.2.1 16)) 20 (hP.2.1 20)) 21 (hP.2.1 21)) 27 (hP.2.1 27)) 11 (hP.2.2 11)) 12 (hP.2.2 12)) 17 (hP.2.2 17))⟩
              replace p0_24 : y6_10 = 0 → w6_24 = (fk B (v 3) qq) ∧ w7_24 = qq := p0_24
              replace p1_24 : 0 < y6_10 → w6_24 = y6_10 ∧ w7_24 = y7_10 := p1_24
              have rw6_24 : 0 ≤ w6_24 ∧ w6_24 ≤ 5 := hP.2.1 6
              have rw7_24 : 0 ≤ w7_24 ∧ w7_24 ≤ 700 := hP.2.1 7
              first | replace p0_24 := p0_24 (by omega) | clear p0_24
              first | replace p1_24 := p1_24 (by omega) | clear p1_24
              exact g_vret hQ C hr hlocks hP hS dX11_readExpression_225 ⟨w6_24, w7_24, y8_10, y9_10, y10_10, y11_10, w16_21, w20_21, y21_10, y27_10, a11_21, a12_21, c17_10, d0_10, rfl, rfl, rfl, rfl, (by first | exact (if hp : cPa S1 = 0 then (if h59 : (tK B (v 3) qq) = 59 then ⟨(0, qq), oM_ok rfl (by omega) hM, by rw [← hO, show kk = (kk - 1) + 1 by omega, exF_end _ h59 hp]⟩ else ⟨(0, qq), oM_ok rfl (by omega) hM, by rw [← hO, show kk = (kk - 1) + 1 by omega, exF_bad1 _ (by omega) (by omega) (by omega), semi_no h59]; exact semi_fk.symm⟩) else (by exfalso; omega)) | exact ⟨(fk B (v 3) qq, qq), oM_bad rfl (by omega) (by omega) hM, by rw [← hO, show kk = (kk - 1) + 1 by omega, exF_bad1 _ (by omega) (by omega) (by omega)]⟩), (by first | (intro h; exfalso; omega) | exact fun _ => (hEn (by omega)).2)⟩
          · exact g_vret hQ C hr hlocks hP hS dX11_readExpression_208 ⟨y6_10, y7_10, y8_10, y9_10, y10_10, y11_10, y16_10, y20_10, y21_10, y27_10, c11_10, c12_10, c17_10, d0_10, rfl, rfl, rfl, rfl, ⟨(y6_10, qq), ⟨rfl, fun _ => (hJ6.get (by omega)).1, hM⟩, by rw [(hJ6.get (by omega)).2]⟩, (by intro h; exfalso; omega)⟩
        · refine lv_iload_n hx hb dX11_readExpression_35 rfl (lv_at hl 1 rfl) ?_
          refine gi_zne (tgt := 62) hx hb dX11_readExpression_36 (by decide) (by omega) (fun c_25 => ?_) (fun c_25 => ?_)
          · have hX1 : xM 1 S1 E1 c17_10 y20_10 c11_10 c12_10 y16_10 y21_10 y27_10 1 := by have h := hJ3.get (by omega); rw [show x1 = 1 by omega] at h; exact h
            have hO : exF B (v 3) kk qq 1 S1 E1 = (exF B (v 3) 702 pp 0 [] []) := by have h := hJ4.get (by omega); rw [show x1 = 1 by omega] at h; exact h
            have hxr1 := xM_rng hX1
            refine lv_aload_n hx hb dX11_readExpression_62 rfl (lv_at hl 0 rfl) ?_
            refine lv_bipush (v := iI 43) hx hb dX11_readExpression_63 (by decide) ?_
            refine g_cv (As := [.int (iI 43)]) (rest := []) (n := 1) C hml (n_isS l D k A ad hD (va_up (va_up (va_up (va_up (va_up (va_up (va_up (va_up (va_up (va_up v 6 y6_10) 7 y7_10) 8 y8_10) 9 y9_10) 10 y10_10) 11 y11_10) 16 y16_10) 20 y20_10) 21 y21_10) 27 y27_10) (va_up (va_up (va_up f 11 c11_10) 12 c12_10) 17 c17_10) (va_up g 0 d0_10) 43 B qq (by decide) (show mAt B (v 3) y9_10 y10_10 y8_10 y11_10 (d0_10 0) qq from hM) (show 40 ≤ (43 : Int) ∧ (43 : Int) < 256 from by omega)) mM_X11_204 mI_X11_isSign mE_X11_isSign mN_X11 mC_X11_isSign (by decide +kernel) 0 (ci := 11) rfl rfl hP hS (fun _ h => h) ⟨Nat.le_of_ble_eq_true rfl, Nat.le_of_ble_eq_true rfl⟩ ⟨Nat.zero_le _, Nat.zero_le _⟩ hl.1 rfl rfl (Nat.le_of_ble_eq_true rfl) dX11_readExpression_65 (fun r_26 v_26 f_26 g_26 H locs hq_26 hP _ hS => ?_)
            obtain ⟨z_26, rfl, rfl, rfl, rfl, p0_26, p1_26⟩ := hq_26
            show W p l e (gRm 3 69) s m args below meth c _ _ 0 0 Q (F0 m 68 ls [.int (iI z_26)])
            replace p0_26 : 0 ≤ z_26 ∧ z_26 ≤ 1 := p0_26
            replace p1_26 : z_26 = 1 ↔ (tK B (v 3) qq) = (43 : Int) := p1_26
            refine gi_zeq (tgt := 76) hx hb dX11_readExpression_68 (by decide) (by omega) (fun c_27 => ?_) (fun c_27 => ?_)
            · refine lv_aload_n hx hb dX11_readExpression_76 rfl (lv_at hl 0 rfl) ?_
              refine lv_bipush (v := iI 45) hx hb dX11_readExpression_77 (by decide) ?_
              refine g_cv (As := [.int (iI 45)]) (rest := []) (n := 1) C hml (n_isS l D k A ad hD (va_up (va_up (va_up (va_up (va_up (va_up (va_up (va_up (va_up (va_up v 6 y6_10) 7 y7_10) 8 y8_10) 9 y9_10) 10 y10_10) 11 y11_10) 16 y16_10) 20 y20_10) 21 y21_10) 27 y27_10) (va_up (va_up (va_up f 11 c11_10) 12 c12_10) 17 c17_10) (va_up g 0 d0_10) 45 B qq (by decide) (show mAt B (v 3) y9_10 y10_10 y8_10 y11_10 (d0_10 0) qq from hM) (show 40 ≤ (45 : Int) ∧ (45 : Int) < 256 from by omega)) mM_X11_204 mI_X11_isSign mE_X11_isSign mN_X11 mC_X11_isSign (by decide +kernel) 0 (ci := 11) rfl rfl hP hS (fun _ h => h) ⟨Nat.le_of_ble_eq_true rfl, Nat.le_of_ble_eq_true rfl⟩ ⟨Nat.zero_le _, Nat.zero_le _⟩ hl.1 rfl rfl (Nat.le_of_ble_eq_true rfl) dX11_readExpression_79 (fun r_28 v_28 f_28 g_28 H locs hq_28 hP _ hS => ?_)
              obtain ⟨z_28, rfl, rfl, rfl, rfl, p0_28, p1_28⟩ := hq_28
              show W p l e (gRm 3 69) s m args below meth c _ _ 0 0 Q (F0 m 82 ls [.int (iI z_28)])
              replace p0_28 : 0 ≤ z_28 ∧ z_28 ≤ 1 := p0_28
              replace p1_28 : z_28 = 1 ↔ (tK B (v 3) qq) = (45 : Int) := p1_28
              refine gi_zeq (tgt := 90) hx hb dX11_readExpression_82 (by decide) (by omega) (fun c_29 => ?_) (fun c_29 => ?_)
              · refine lv_aload_n hx hb dX11_readExpression_90 rfl (lv_at hl 0 rfl) ?_
                refine lv_bipush (v := iI 42) hx hb dX11_readExpression_91 (by decide) ?_
                refine g_cv (As := [.int (iI 42)]) (rest := []) (n := 1) C hml (n_isS l D k A ad hD (va_up (va_up (va_up (va_up (va_up (va_up (va_up (va_up (va_up (va_up v 6 y6_10) 7 y7_10) 8 y8_10) 9 y9_10) 10 y10_10) 11 y11_10) 16 y16_10) 20 y20_10) 21 y21_10) 27 y27_10) (va_up (va_up (va_up f 11 c11_10) 12 c12_10) 17 c17_10) (va_up g 0 d0_10) 42 B qq (by decide) (show mAt B (v 3) y9_10 y10_10 y8_10 y11_10 (d0_10 0) qq from hM) (show 40 ≤ (42 : Int) ∧ (42 : Int) < 256 from by omega)) mM_X11_204 mI_X11_isSign mE_X11_isSign mN_X11 mC_X11_isSign (by decide +kernel) 0 (ci := 11) rfl rfl hP hS (fun _ h => h) ⟨Nat.le_of_ble_eq_true rfl, Nat.le_of_ble_eq_true rfl⟩ ⟨Nat.zero_le _, Nat.zero_le _⟩ hl.1 rfl rfl (Nat.le_of_ble_eq_true rfl) dX11_readExpression_93 (fun r_30 v_30 f_30 g_30 H locs hq_30 hP _ hS => ?_)
                obtain ⟨z_30, rfl, rfl, rfl, rfl, p0_30, p1_30⟩ := hq_30
                show W p l e (gRm 3 69) s m args below meth c _ _ 0 0 Q (F0 m 96 ls [.int (iI z_30)])
                replace p0_30 : 0 ≤ z_30 ∧ z_30 ≤ 1 := p0_30
                replace p1_30 : z_30 = 1 ↔ (tK B (v 3) qq) = (42 : Int) := p1_30
                refine gi_zeq (tgt := 104) hx hb dX11_readExpression_96 (by decide) (by omega) (fun c_31 => ?_) (fun c_31 => ?_)
                · refine lv_iconst (v := iI 0) hx hb dX11_readExpression_104 rfl ?_
                  refine lv_istore_n (lv' := [(3, .int (iI 0)), (0, .ref (ad 0)), (1, .int (iI x1)), (2, .int (iI x2))]) hx hb dX11_readExpression_105 rfl hl (by decide) rfl (fun ls hl => ?_)
                  refine lv_iload_n hx hb dX11_readExpression_106 rfl (lv_at hl 0 rfl) ?_
                  refine gi_zle (tgt := 144) hx hb dX11_readExpression_107 (by decide) (by decide) (fun c_32 => ?_) (fun c_32 => ?_)
                  · refine lv_aload_n hx hb dX11_readExpression_144 rfl (lv_at hl 1 rfl) ?_
                    refine lv_bipush (v := iI 41) hx hb dX11_readExpression_145 (by decide) ?_
                    refine g_cv (As := [.int (iI 41)]) (rest := []) (n := 1) C hml (n_isS l D k A ad hD (va_up (va_up (va_up (va_up (va_up (va_up (va_up (va_up (va_up (va_up v 6 y6_10) 7 y7_10) 8 y8_10) 9 y9_10) 10 y10_10) 11 y11_10) 16 y16_10) 20 y20_10) 21 y21_10) 27 y27_10) (va_up (va_up (va_up f 11 c11_10) 12 c12_10) 17 c17_10) (va_up g 0 d0_10) 41 B qq (by decide) (show mAt B (v 3) y9_10 y10_10 y8_10 y11_10 (d0_10 0) qq from hM) (show 40 ≤ (41 : Int) ∧ (41 : Int) < 256 from by omega)) mM_X11_204 mI_X11_isSign mE_X11_isSign mN_X11 mC_X11_isSign (by decide +kernel) 0 (ci := 11) rfl rfl hP hS (fun _ h => h) ⟨Nat.le_of_ble_eq_true rfl, Nat.le_of_ble_eq_true rfl⟩ ⟨Nat.zero_le _, Nat.zero_le _⟩ hl.1 rfl rfl (Nat.le_of_ble_eq_true rfl) dX11_readExpression_147 (fun r_33 v_33 f_33 g_33 H locs hq_33 hP _ hS => ?_)
                    obtain ⟨z_33, rfl, rfl, rfl, rfl, p0_33, p1_33⟩ := hq_33
                    show W p l e (gRm 3 69) s m args below meth c _ _ 0 0 Q (F0 m 150 ls [.int (iI z_33)])
                    replace p0_33 : 0 ≤ z_33 ∧ z_33 ≤ 1 := p0_33
                    replace p1_33 : z_33 = 1 ↔ (tK B (v 3) qq) = (41 : Int) := p1_33
                    refine gi_zeq (tgt := 196) hx hb dX11_readExpression_150 (by decide) (by omega) (fun c_34 => ?_) (fun c_34 => ?_)
                    · refine lv_iconst (v := iI 0) hx hb dX11_readExpression_196 rfl ?_
                      refine lv_istore_n (lv' := [(2, .int (iI 0)), (3, .int (iI 0)), (0, .ref (ad 0)), (1, .int (iI x1))]) hx hb dX11_readExpression_197 rfl hl (by decide) rfl (fun ls hl => ?_)
                      refine lv_goto (tgt := 24) hx hb dX11_readExpression_198 (by decide) ?_
                      exact ih_24 x1 0 (qq) (S1) (E1) (kk) y6_10 y7_10 y8_10 y9_10 y10_10 y11_10 y16_10 y20_10 y21_10 y27_10 c11_10 c12_10 c17_10 d0_10 _ _ _ (by omega) (by omega) (by omega) hM (by exact hJ3.get) (by exact hJ4.get) (by first | omega | exact hJ5.get) (by first | (intro h; exfalso; omega) | exact hJ6.get) (by omega) hP hS (lv_sub hl [2, 3, 0] rfl)
                    · refine lv_aload_n hx hb dX11_readExpression_153 rfl (lv_at hl 1 rfl) ?_
                      refine g_cv (As := []) (rest := []) (n := 0) C hml (n_isOpen l D k A ad hD (va_up (va_up (va_up (va_up (va_up (va_up (va_up (va_up (va_up (va_up v 6 y6_10) 7 y7_10) 8 y8_10) 9 y9_10) 10 y10_10) 11 y11_10) 16 y16_10) 20 y20_10) 21 y21_10) 27 y27_10) (va_up (va_up (va_up f 11 c11_10) 12 c12_10) 17 c17_10) (va_up g 0 d0_10) S1 (show rep S1 c17_10 y20_10 from hX1.1.2.2.1)) mM_X11_280 mI_X11_isOpen mE_X11_isOpen mN_X11 mC_X11_isOpen (by decide +kernel) 0 (ci := 11) rfl rfl hP hS (fun _ h => h) ⟨Nat.le_of_ble_eq_true rfl, Nat.le_of_ble_eq_true rfl⟩ ⟨Nat.zero_le _, Nat.zero_le _⟩ hl.1 rfl rfl (Nat.le_of_ble_eq_true rfl) dX11_readExpression_154 (fun r_35 v_35 f_35 g_35 H locs hq_35 hP _ hS => ?_)
                      obtain ⟨z_35, rfl, rfl, rfl, rfl, p0_35, p1_35⟩ := hq_35
                      show W p l e (gRm 3 69) s m args below meth c _ _ 0 0 Q (F0 m 157 ls [.int (iI z_35)])
                      replace p0_35 : 0 ≤ z_35 ∧ z_35 ≤ 1 := p0_35
                      replace p1_35 : z_35 = 1 ↔ 0 < cPa S1 := p1_35
                      refine gi_zeq (tgt := 196) hx hb dX11_readExpression_157 (by decide) (by omega) (fun c_36 => ?_) (fun c_36 => ?_)
                      · refine lv_iconst (v := iI 0) hx hb dX11_readExpression_196 rfl ?_
                        refine lv_istore_n (lv' := [(2, .int (iI 0)), (3, .int (iI 0)), (0, .ref (ad 0)), (1, .int (iI x1))]) hx hb dX11_readExpression_197 rfl hl (by decide) rfl (fun ls hl => ?_)
                        refine lv_goto (tgt := 24) hx hb dX11_readExpression_198 (by decide) ?_
                        exact ih_24 x1 0 (qq) (S1) (E1) (kk) y6_10 y7_10 y8_10 y9_10 y10_10 y11_10 y16_10 y20_10 y21_10 y27_10 c11_10 c12_10 c17_10 d0_10 _ _ _ (by omega) (by omega) (by omega) hM (by exact hJ3.get) (by exact hJ4.get) (by first | omega | exact hJ5.get) (by first | (intro h; exfalso; omega) | exact hJ6.get) (by omega) hP hS (lv_sub hl [2, 3, 0] rfl)
                      · refine lv_aload_n hx hb dX11_readExpression_160 rfl (lv_at hl 1 rfl) ?_
                        refine lv_iconst (v := iI 1) hx hb dX11_readExpression_161 rfl ?_
                        refine g_cv (As := [.int (iI 1)]) (rest := []) (n := 1) C hml (n_reduce l D k A ad hD (va_up (va_up (va_up (va_up (va_up (va_up (va_up (va_up (va_up (va_up v 6 y6_10) 7 y7_10) 8 y8_10) 9 y9_10) 10 y10_10) 11 y11_10) 16 y16_10) 20 y20_10) 21 y21_10) 27 y27_10) (va_up (va_up (va_up f 11 c11_10) 12 c12_10) 17 c17_10) (va_up g 0 d0_10) 1 S1 E1 7 (by decide) (show ((1 : Int) = 1 ∧ 7 ≠ 9) ∨ ((1 : Int) = 2 ∧ 7 = 9) from by omega) (show wfS S1 from hX1.1.1) (show hdS S1 ≠ 10 from hX1.1.2.1 rfl) (show rep S1 c17_10 y20_10 from hX1.1.2.2.1) (show repC mp E1 c11_10 c12_10 y16_10 ∧ (E1.length : Int) + cSg S1 ≤ 40 from ⟨hX1.1.2.2.2.1, by omega⟩)) mM_X11_274 mI_X11_reduce mE_X11_reduce mN_X11 mC_X11_reduce (by decide +kernel) 0 (ci := 11) rfl rfl hP hS (fun _ h => h) ⟨Nat.le_of_ble_eq_true rfl, Nat.le_of_ble_eq_true rfl⟩ ⟨Nat.zero_le _, Nat.zero_le _⟩ hl.1 rfl rfl (Nat.le_of_ble_eq_true rfl) dX11_readExpression_162 (fun r_37 v_37 f_37 g_37 H locs hq_37 hP _ hS => ?_)
                        obtain ⟨w16_37, w20_37, a11_37, a12_37, rfl, rfl, rfl, rfl, p0_37, p1_37⟩ := hq_37
                        show W p l e (gRm 3 69) s m args below meth c _ _ 0 0 Q (F0 m 165 ls [])
                        have hP : gWd D (mdT k ad) (va_up (va_up (va_up (va_up (va_up (va_up (va_up (va_up (va_up (va_up v 6 y6_10) 7 y7_10) 8 y8_10) 9 y9_10) 10 y10_10) 11 y11_10) 16 w16_37) 20 w20_37) 21 y21_10) 27 y27_10) (va_up (va_up (va_up f 11 a11_37) 12 a12_37) 17 c17_10) (va_up g 0 d0_10) H := ⟨hP.1, (gF_up (V := mdV) (F := mdF) (gF_up (V := mdV) (F := mdF) (gF_up (V := mdV) (F := mdF) (gR_up (V := mdV) (F := mdF) (gR_up (V := mdV) (F := mdF) (gR_up (V := mdV) (F := mdF) (gR_up (V := mdV) (F := mdF) (gR_up (V := mdV) (F := mdF) (gR_up (V := mdV) (F := mdF) (gR_up (V := mdV) (F := mdF) (gR_up (V := mdV) (F := mdF) (gR_up (V := mdV) (F := mdF) (gR_up (V := mdV) (F := mdF) ⟨hok.1, hok.2⟩ 6 (hP.2.1 6)) 7 (hP.2.1 7)) 8 (hP.2.1 8)) 9 (hP.2.1 9)) 10 (hP.2.1 10)) 11 (hP.2.1 11)) 16 (hP.2.1 16)) 20 (hP.2.1 20)) 21 (hP.2.1 21)) 27 (hP.2.1 27)) 11 (hP.2.2 11)) 12 (hP.2.2 12)) 17 (hP.2.2 17))⟩
                        replace p0_37 : rep (rlS 7 S1 E1).1 c17_10 w20_37 := p0_37
                        replace p1_37 : repC mp (rlS 7 S1 E1).2 a11_37 a12_37 w16_37 := p1_37
                        have rw16_37 : 0 ≤ w16_37 ∧ w16_37 ≤ 41 := hP.2.1 16
                        have rw20_37 : 0 ≤ w20_37 ∧ w20_37 ≤ 64 := hP.2.1 20
                        have hclo := fun w2 d2 (h1 : w2 = w20_37 - 1) (h2 : d2 = y21_10 - 1) => xM_close hX1 (by omega) p0_37 p1_37 h1 h2
                        have hcl1 := hclo _ _ rfl rfl
                        refine lv_aload_n hx hb dX11_readExpression_165 rfl (lv_at hl 1 rfl) ?_
                        refine lv_dup hx hb dX11_readExpression_166 rfl ?_
                        refine mdG_waiting C hP mF_X11_255 dX11_readExpression_167 ?_
                        show W p l e (gRm 3 69) s m args below meth c _ _ 0 0 Q (F0 m 170 ls [.int (iI w20_37), .ref (ad 0)])
                        have r_38 : 0 ≤ w20_37 ∧ w20_37 ≤ 64 := hP.2.1 20
                        refine lv_iconst (v := iI 1) hx hb dX11_readExpression_170 rfl ?_
                        refine gi_sub (z := (w20_37 - 1)) hx hb dX11_readExpression_171 rfl ?_
                        refine mdP_waiting (v1 := (va_up (va_up (va_up (va_up (va_up (va_up (va_up (va_up (va_up (va_up v 6 y6_10) 7 y7_10) 8 y8_10) 9 y9_10) 10 y10_10) 11 y11_10) 16 w16_37) 20 (w20_37 - 1)) 21 y21_10) 27 y27_10)) C hP hD hS mF_X11_255 (by omega) rfl (Or.inr (gF_up (V := mdV) (F := mdF) (gF_up (V := mdV) (F := mdF) (gF_up (V := mdV) (F := mdF) (gR_up (V := mdV) (F := mdF) (gR_up (V := mdV) (F := mdF) (gR_up (V := mdV) (F := mdF) (gR_up (V := mdV) (F := mdF) (gR_up (V := mdV) (F := mdF) (gR_up (V := mdV) (F := mdF) (gR_up (V := mdV) (F := mdF) (gR_up (V := mdV) (F := mdF) (gR_up (V := mdV) (F := mdF) (gR_up (V := mdV) (F := mdF) ⟨hok.1, hok.2⟩ 6 (hP.2.1 6)) 7 (hP.2.1 7)) 8 (hP.2.1 8)) 9 (hP.2.1 9)) 10 (hP.2.1 10)) 11 (hP.2.1 11)) 16 (hP.2.1 16)) 20 (show 0 ≤ (w20_37 - 1) ∧ (w20_37 - 1) ≤ 64 from by omega)) 21 (hP.2.1 21)) 27 (hP.2.1 27)) 11 (hP.2.2 11)) 12 (hP.2.2 12)) 17 (hP.2.2 17))) dX11_readExpression_172 (fun H locs hP hS => ?_)
                        refine lv_aload_n hx hb dX11_readExpression_175 rfl (lv_at hl 1 rfl) ?_
                        refine lv_dup hx hb dX11_readExpression_176 rfl ?_
                        refine mdG_deep C hP mF_X11_252 dX11_readExpression_177 ?_
                        show W p l e (gRm 3 69) s m args below meth c _ _ 0 0 Q (F0 m 180 ls [.int (iI y21_10), .ref (ad 0)])
                        have r_39 : 0 ≤ y21_10 ∧ y21_10 ≤ 9 := hP.2.1 21
                        refine lv_iconst (v := iI 1) hx hb dX11_readExpression_180 rfl ?_
                        refine gi_sub (z := (y21_10 - 1)) hx hb dX11_readExpression_181 rfl ?_
                        refine mdP_deep (v1 := (va_up (va_up (va_up (va_up (va_up (va_up (va_up (va_up (va_up (va_up v 6 y6_10) 7 y7_10) 8 y8_10) 9 y9_10) 10 y10_10) 11 y11_10) 16 w16_37) 20 (w20_37 - 1)) 21 (y21_10 - 1)) 27 y27_10)) C hP hD hS mF_X11_252 (by omega) rfl (Or.inr (gF_up (V := mdV) (F := mdF) (gF_up (V := mdV) (F := mdF) (gF_up (V := mdV) (F := mdF) (gR_up (V := mdV) (F := mdF) (gR_up (V := mdV) (F := mdF) (gR_up (V := mdV) (F := mdF) (gR_up (V := mdV) (F := mdF) (gR_up (V := mdV) (F := mdF) (gR_up (V := mdV) (F := mdF) (gR_up (V := mdV) (F := mdF) (gR_up (V := mdV) (F := mdF) (gR_up (V := mdV) (F := mdF) (gR_up (V := mdV) (F := mdF) ⟨hok.1, hok.2⟩ 6 (hP.2.1 6)) 7 (hP.2.1 7)) 8 (hP.2.1 8)) 9 (hP.2.1 9)) 10 (hP.2.1 10)) 11 (hP.2.1 11)) 16 (hP.2.1 16)) 20 (hP.2.1 20)) 21 (show 0 ≤ (y21_10 - 1) ∧ (y21_10 - 1) ≤ 9 from by omega)) 27 (hP.2.1 27)) 11 (hP.2.2 11)) 12 (hP.2.2 12)) 17 (hP.2.2 17))) dX11_readExpression_182 (fun H locs hP hS => ?_)
                        refine lv_aload_n hx hb dX11_readExpression_185 rfl (lv_at hl 1 rfl) ?_
                        refine g_cv (As := []) (rest := []) (n := 0) C hml (n_next l D k A ad hD (va_up (va_up (va_up (va_up (va_up (va_up (va_up (va_up (va_up (va_up v 6 y6_10) 7 y7_10) 8 y8_10) 9 y9_10) 10 y10_10) 11 y11_10) 16 w16_37) 20 (w20_37 - 1)) 21 (y21_10 - 1)) 27 y27_10) (va_up (va_up (va_up f 11 a11_37) 12 a12_37) 17 c17_10) (va_up g 0 d0_10) B (show ∀ k, (f 0) k % 256 = B k from hB) (show 0 ≤ y10_10 ∧ y10_10 ≤ (v 3) from by omega)) mM_X11_201 mI_X11_next mE_X11_next mN_X11 mC_X11_next (by decide +kernel) 0 (ci := 11) rfl rfl hP hS (fun _ h => h) ⟨Nat.le_of_ble_eq_true rfl, Nat.le_of_ble_eq_true rfl⟩ ⟨Nat.zero_le _, Nat.zero_le _⟩ hl.1 rfl rfl (Nat.le_of_ble_eq_true rfl) dX11_readExpression_186 (fun r_40 v_40 f_40 g_40 H locs hq_40 hP _ hS => ?_)
                        obtain ⟨w8_40, w9_40, w10_40, w11_40, b0_40, rfl, rfl, rfl, rfl, p0_40⟩ := hq_40
                        show W p l e (gRm 3 69) s m args below meth c _ _ 0 0 Q (F0 m 189 ls [])
                        have hP : gWd D (mdT k ad) (va_up (va_up (va_up (va_up (va_up (va_up (va_up (va_up (va_up (va_up v 6 y6_10) 7 y7_10) 8 w8_40) 9 w9_40) 10 w10_40) 11 w11_40) 16 w16_37) 20 (w20_37 - 1)) 21 (y21_10 - 1)) 27 y27_10) (va_up (va_up (va_up f 11 a11_37) 12 a12_37) 17 c17_10) (va_up g 0 b0_40) H := ⟨hP.1, (gF_up (V := mdV) (F := mdF) (gF_up (V := mdV) (F := mdF) (gF_up (V := mdV) (F := mdF) (gR_up (V := mdV) (F := mdF) (gR_up (V := mdV) (F := mdF) (gR_up (V := mdV) (F := mdF) (gR_up (V := mdV) (F := mdF) (gR_up (V := mdV) (F := mdF) (gR_up (V := mdV) (F := mdF) (gR_up (V := mdV) (F := mdF) (gR_up (V := mdV) (F := mdF) (gR_up (V := mdV) (F := mdF) (gR_up (V := mdV) (F := mdF) ⟨hok.1, hok.2⟩ 6 (hP.2.1 6)) 7 (hP.2.1 7)) 8 (hP.2.1 8)) 9 (hP.2.1 9)) 10 (hP.2.1 10)) 11 (hP.2.1 11)) 16 (hP.2.1 16)) 20 (hP.2.1 20)) 21 (hP.2.1 21)) 27 (hP.2.1 27)) 11 (hP.2.2 11)) 12 (hP.2.2 12)) 17 (hP.2.2 17))⟩
                        replace p0_40 : mAt B (v 3) w9_40 w10_40 w8_40 w11_40 (b0_40 0) (run bW B (v 3) y10_10) := p0_40
                        have rw8_40 : 0 ≤ w8_40 ∧ w8_40 ≤ 4 := hP.2.1 8
                        have rw9_40 : 0 ≤ w9_40 ∧ w9_40 ≤ 700 := hP.2.1 9
                        have rw10_40 : 0 ≤ w10_40 ∧ w10_40 ≤ 700 := hP.2.1 10
                        have rw11_40 : 0 ≤ w11_40 ∧ w11_40 ≤ 999999 := hP.2.1 11
                        have hN : mAt B (v 3) w9_40 w10_40 w8_40 w11_40 (b0_40 0) (tX B (v 3) qq) := by have h := p0_40; rw [hM.bh] at h; exact h
                        clear p0_40
                        have hu := tX_up (B := B) (n := (v 3)) (q := qq) (by have h9 := (not_congr (tK_end (B := B) (n := (v 3)) (q := qq))).mp (by omega); omega)
                        refine lv_aload_n hx hb dX11_readExpression_189 rfl (lv_at hl 1 rfl) ?_
                        refine g_cv (As := []) (rest := []) (n := 0) C hml (n_wholes l D k A ad hD (va_up (va_up (va_up (va_up (va_up (va_up (va_up (va_up (va_up (va_up v 6 y6_10) 7 y7_10) 8 w8_40) 9 w9_40) 10 w10_40) 11 w11_40) 16 w16_37) 20 (w20_37 - 1)) 21 (y21_10 - 1)) 27 y27_10) (va_up (va_up (va_up f 11 a11_37) 12 a12_37) 17 c17_10) (va_up g 0 b0_40) ((rlS 7 S1 E1).1.tail) ((rlS 7 S1 E1).2) (show wfS ((rlS 7 S1 E1).1.tail) from hcl1.2.2.1.1) (show rep ((rlS 7 S1 E1).1.tail) c17_10 (w20_37 - 1) from hcl1.2.2.1.2.2.1) (show (y21_10 - 1) = cNs ((rlS 7 S1 E1).1.tail) from hcl1.2.2.1.2.2.2.2.1) (show repC mp ((rlS 7 S1 E1).2) a11_37 a12_37 w16_37 ∧ (((rlS 7 S1 E1).2).length : Int) + cSg ((rlS 7 S1 E1).1.tail) ≤ 40 from ⟨hcl1.2.2.1.2.2.2.1, by have := xM_rng hcl1.2.2; omega⟩)) mM_X11_268 mI_X11_wholes mE_X11_wholes mN_X11 mC_X11_wholes (by decide +kernel) 0 (ci := 11) rfl rfl hP hS (fun _ h => h) ⟨Nat.le_of_ble_eq_true rfl, Nat.le_of_ble_eq_true rfl⟩ ⟨Nat.zero_le _, Nat.zero_le _⟩ hl.1 rfl rfl (Nat.le_of_ble_eq_true rfl) dX11_readExpression_190 (fun r_41 v_41 f_41 g_41 H locs hq_41 hP _ hS => ?_)
                        obtain ⟨w16_41, w20_41, w21_41, a11_41, a12_41, rfl, rfl, rfl, rfl, p0_41, p1_41, p2_41⟩ := hq_41
                        show W p l e (gRm 3 69) s m args below meth c _ _ 0 0 Q (F0 m 193 ls [])
                        have hP : gWd D (mdT k ad) (va_up (va_up (va_up (va_up (va_up (va_up (va_up (va_up (va_up (va_up v 6 y6_10) 7 y7_10) 8 w8_40) 9 w9_40) 10 w10_40) 11 w11_40) 16 w16_41) 20 w20_41) 21 w21_41) 27 y27_10) (va_up (va_up (va_up f 11 a11_41) 12 a12_41) 17 c17_10) (va_up g 0 b0_40) H := ⟨hP.1, (gF_up (V := mdV) (F := mdF) (gF_up (V := mdV) (F := mdF) (gF_up (V := mdV) (F := mdF) (gR_up (V := mdV) (F := mdF) (gR_up (V := mdV) (F := mdF) (gR_up (V := mdV) (F := mdF) (gR_up (V := mdV) (F := mdF) (gR_up (V := mdV) (F := mdF) (gR_up (V := mdV) (F := mdF) (gR_up (V := mdV) (F := mdF) (gR_up (V := mdV) (F := mdF) (gR_up (V := mdV) (F := mdF) (gR_up (V := mdV) (F := mdF) ⟨hok.1, hok.2⟩ 6 (hP.2.1 6)) 7 (hP.2.1 7)) 8 (hP.2.1 8)) 9 (hP.2.1 9)) 10 (hP.2.1 10)) 11 (hP.2.1 11)) 16 (hP.2.1 16)) 20 (hP.2.1 20)) 21 (hP.2.1 21)) 27 (hP.2.1 27)) 11 (hP.2.2 11)) 12 (hP.2.2 12)) 17 (hP.2.2 17))⟩
                        replace p0_41 : rep (rlN ((rlS 7 S1 E1).1.tail) ((rlS 7 S1 E1).2)).1 c17_10 w20_41 := p0_41
                        replace p1_41 : w21_41 = cNs (rlN ((rlS 7 S1 E1).1.tail) ((rlS 7 S1 E1).2)).1 := p1_41
                        replace p2_41 : repC mp (rlN ((rlS 7 S1 E1).1.tail) ((rlS 7 S1 E1).2)).2 a11_41 a12_41 w16_41 := p2_41
                        have rw16_41 : 0 ≤ w16_41 ∧ w16_41 ≤ 41 := hP.2.1 16
                        have rw20_41 : 0 ≤ w20_41 ∧ w20_41 ≤ 64 := hP.2.1 20
                        have rw21_41 : 0 ≤ w21_41 ∧ w21_41 ≤ 9 := hP.2.1 21
                        have hX3 := xM_whole hcl1.2.2 p0_41 p2_41 p1_41
                        refine lv_goto (tgt := 198) hx hb dX11_readExpression_193 (by decide) ?_
                        refine lv_goto (tgt := 24) hx hb dX11_readExpression_198 (by decide) ?_
                        exact ih_24 x1 x2 ((tX B (v 3) qq)) ((rlN (rlS 7 S1 E1).1.tail (rlS 7 S1 E1).2).1) ((rlN (rlS 7 S1 E1).1.tail (rlS 7 S1 E1).2).2) ((kk - 1)) y6_10 y7_10 w8_40 w9_40 w10_40 w11_40 w16_41 w20_41 w21_41 y27_10 a11_41 a12_41 c17_10 b0_40 _ _ _ (by omega) (by omega) (by omega) hN (by exact (fun _ => by rw [show x1 = 1 by omega]; exact hX3)) (by exact (fun h => by rw [← hO, show kk = (kk - 1) + 1 by omega, show x1 = 1 by omega]; exact (exF_clo _ (by omega) (by omega)).symm)) (by first | omega | exact hJ5.get) (by first | (intro h; exfalso; omega) | exact hJ6.get) (by omega) hP hS (lv_sub hl [1, 2, 3] rfl)
                  · exfalso; omega
                · refine lv_bipush (v := iI 9) hx hb dX11_readExpression_99 (by decide) ?_
                  refine lv_goto (tgt := 105) hx hb dX11_readExpression_101 (by decide) ?_
                  refine lv_istore_n (lv' := [(3, .int (iI 9)), (0, .ref (ad 0)), (1, .int (iI x1)), (2, .int (iI x2))]) hx hb dX11_readExpression_105 rfl hl (by decide) rfl (fun ls hl => ?_)
                  refine lv_iload_n hx hb dX11_readExpression_106 rfl (lv_at hl 0 rfl) ?_
                  refine gi_zle (tgt := 144) hx hb dX11_readExpression_107 (by decide) (by decide) (fun c_42 => ?_) (fun c_42 => ?_)
                  · exfalso; omega
                  · refine lv_aload_n hx hb dX11_readExpression_110 rfl (lv_at hl 1 rfl) ?_
                    refine g_cv (As := []) (rest := []) (n := 0) C hml (n_ctC l D k A ad hD (va_up (va_up (va_up (va_up (va_up (va_up (va_up (va_up (va_up (va_up v 6 y6_10) 7 y7_10) 8 y8_10) 9 y9_10) 10 y10_10) 11 y11_10) 16 y16_10) 20 y20_10) 21 y21_10) 27 y27_10) (va_up (va_up (va_up f 11 c11_10) 12 c12_10) 17 c17_10) (va_up g 0 d0_10) B qq (show mAt B (v 3) y9_10 y10_10 y8_10 y11_10 (d0_10 0) qq from hM) (show y27_10 ≤ 40 from by omega) (show y6_10 = 0 from by omega)) mM_X11_271 mI_X11_counts mE_X11_counts mN_X11 mC_X11_counts (by decide +kernel) 0 (ci := 11) rfl rfl hP hS (fun _ h => h) ⟨Nat.le_of_ble_eq_true rfl, Nat.le_of_ble_eq_true rfl⟩ ⟨Nat.zero_le _, Nat.zero_le _⟩ hl.1 rfl rfl (Nat.le_of_ble_eq_true rfl) dX11_readExpression_111 (fun r_43 v_43 f_43 g_43 H locs hq_43 hP _ hS => ?_)
                    obtain ⟨w6_43, w7_43, rfl, rfl, rfl, rfl, p0_43, p1_43⟩ := hq_43
                    show W p l e (gRm 3 69) s m args below meth c _ _ 0 0 Q (F0 m 114 ls [])
                    have hP : gWd D (mdT k ad) (va_up (va_up (va_up (va_up (va_up (va_up (va_up (va_up (va_up (va_up v 6 w6_43) 7 w7_43) 8 y8_10) 9 y9_10) 10 y10_10) 11 y11_10) 16 y16_10) 20 y20_10) 21 y21_10) 27 (y27_10 + 1)) (va_up (va_up (va_up f 11 c11_10) 12 c12_10) 17 c17_10) (va_up g 0 d0_10) H := ⟨hP.1, (gF_up (V := mdV) (F := mdF) (gF_up (V := mdV) (F := mdF) (gF_up (V := mdV) (F := mdF) (gR_up (V := mdV) (F := mdF) (gR_up (V := mdV) (F := mdF) (gR_up (V := mdV) (F := mdF) (gR_up (V := mdV) (F := mdF) (gR_up (V := mdV) (F := mdF) (gR_up (V := mdV) (F := mdF) (gR_up (V := mdV) (F := mdF) (gR_up (V := mdV) (F := mdF) (gR_up (V := mdV) (F := mdF) (gR_up (V := mdV) (F := mdF) ⟨hok.1, hok.2⟩ 6 (hP.2.1 6)) 7 (hP.2.1 7)) 8 (hP.2.1 8)) 9 (hP.2.1 9)) 10 (hP.2.1 10)) 11 (hP.2.1 11)) 16 (hP.2.1 16)) 20 (hP.2.1 20)) 21 (hP.2.1 21)) 27 (hP.2.1 27)) 11 (hP.2.2 11)) 12 (hP.2.2 12)) 17 (hP.2.2 17))⟩
                    replace p0_43 : y27_10 = 40 → w6_43 = 3 ∧ w7_43 = qq := p0_43
                    replace p1_43 : y27_10 < 40 → w6_43 = 0 := p1_43
                    have rw6_43 : 0 ≤ w6_43 ∧ w6_43 ≤ 5 := hP.2.1 6
                    have rw7_43 : 0 ≤ w7_43 ∧ w7_43 ≤ 700 := hP.2.1 7
                    refine lv_aload_n hx hb dX11_readExpression_114 rfl (lv_at hl 1 rfl) ?_
                    refine mdG_bad C hP mF_X11_188 dX11_readExpression_115 ?_
                    show W p l e (gRm 3 69) s m args below meth c _ _ 0 0 Q (F0 m 118 ls [.int (iI w6_43)])
                    have r_44 : 0 ≤ w6_43 ∧ w6_43 ≤ 5 := hP.2.1 6
                    refine gi_zle (tgt := 122) hx hb dX11_readExpression_118 (by decide) (by omega) (fun c_45 => ?_) (fun c_45 => ?_)
                    · refine lv_aload_n hx hb dX11_readExpression_122 rfl (lv_at hl 1 rfl) ?_
                      refine lv_iload_n hx hb dX11_readExpression_123 rfl (lv_at hl 0 rfl) ?_
                      refine g_cs (As := [.int (iI 9)]) (rest := [.ref (ad 0)]) (n := 1) C hml (n_strong l D k A ad hD (va_up (va_up (va_up (va_up (va_up (va_up (va_up (va_up (va_up (va_up v 6 w6_43) 7 w7_43) 8 y8_10) 9 y9_10) 10 y10_10) 11 y11_10) 16 y16_10) 20 y20_10) 21 y21_10) 27 (y27_10 + 1)) (va_up (va_up (va_up f 11 c11_10) 12 c12_10) 17 c17_10) (va_up g 0 d0_10) 9 (by decide)) mM_X11_258 mS_X11_strong mN_X11 mC_X11_strong (by decide +kernel) hP hS (fun _ h => h) ⟨Nat.le_of_ble_eq_true rfl, Nat.le_of_ble_eq_true rfl⟩ ⟨Nat.zero_le _, Nat.zero_le _⟩ hl.1 rfl rfl (Nat.le_of_ble_eq_true rfl) dX11_readExpression_124 (fun r_46 v_46 f_46 g_46 H locs hq_46 hP _ hS => ?_)
                      obtain ⟨z_46, rfl, rfl, rfl, rfl, p0_46, p1_46, p2_46, p3_46⟩ := hq_46
                      show W p l e (gRm 3 69) s m args below meth c _ _ 0 0 Q (F0 m 127 ls [.int (iI z_46), .ref (ad 0)])
                      replace p0_46 : 0 ≤ z_46 ∧ z_46 ≤ 2 := p0_46
                      replace p1_46 : (9 : Int) = 9 → z_46 = 2 := p1_46
                      replace p2_46 : (9 : Int) < 9 → z_46 = 1 := p2_46
                      replace p3_46 : 9 < (9 : Int) → z_46 = 0 := p3_46
                      refine g_cv (As := [.int (iI z_46)]) (rest := []) (n := 1) C hml (n_reduce l D k A ad hD (va_up (va_up (va_up (va_up (va_up (va_up (va_up (va_up (va_up (va_up v 6 w6_43) 7 w7_43) 8 y8_10) 9 y9_10) 10 y10_10) 11 y11_10) 16 y16_10) 20 y20_10) 21 y21_10) 27 (y27_10 + 1)) (va_up (va_up (va_up f 11 c11_10) 12 c12_10) 17 c17_10) (va_up g 0 d0_10) z_46 S1 E1 9 (by omega) (show (z_46 = 1 ∧ 9 ≠ 9) ∨ (z_46 = 2 ∧ 9 = 9) from by omega) (show wfS S1 from hX1.1.1) (show hdS S1 ≠ 10 from hX1.1.2.1 rfl) (show rep S1 c17_10 y20_10 from hX1.1.2.2.1) (show repC mp E1 c11_10 c12_10 y16_10 ∧ (E1.length : Int) + cSg S1 ≤ 40 from ⟨hX1.1.2.2.2.1, by omega⟩)) mM_X11_274 mI_X11_reduce mE_X11_reduce mN_X11 mC_X11_reduce (by decide +kernel) 0 (ci := 11) rfl rfl hP hS (fun _ h => h) ⟨Nat.le_of_ble_eq_true rfl, Nat.le_of_ble_eq_true rfl⟩ ⟨Nat.zero_le _, Nat.zero_le _⟩ hl.1 rfl rfl (Nat.le_of_ble_eq_true rfl) dX11_readExpression_127 (fun r_47 v_47 f_47 g_47 H locs hq_47 hP _ hS => ?_)
                      obtain ⟨w16_47, w20_47, a11_47, a12_47, rfl, rfl, rfl, rfl, p0_47, p1_47⟩ := hq_47
                      show W p l e (gRm 3 69) s m args below meth c _ _ 0 0 Q (F0 m 130 ls [])
                      have hP : gWd D (mdT k ad) (va_up (va_up (va_up (va_up (va_up (va_up (va_up (va_up (va_up (va_up v 6 w6_43) 7 w7_43) 8 y8_10) 9 y9_10) 10 y10_10) 11 y11_10) 16 w16_47) 20 w20_47) 21 y21_10) 27 (y27_10 + 1)) (va_up (va_up (va_up f 11 a11_47) 12 a12_47) 17 c17_10) (va_up g 0 d0_10) H := ⟨hP.1, (gF_up (V := mdV) (F := mdF) (gF_up (V := mdV) (F := mdF) (gF_up (V := mdV) (F := mdF) (gR_up (V := mdV) (F := mdF) (gR_up (V := mdV) (F := mdF) (gR_up (V := mdV) (F := mdF) (gR_up (V := mdV) (F := mdF) (gR_up (V := mdV) (F := mdF) (gR_up (V := mdV) (F := mdF) (gR_up (V := mdV) (F := mdF) (gR_up (V := mdV) (F := mdF) (gR_up (V := mdV) (F := mdF) (gR_up (V := mdV) (F := mdF) ⟨hok.1, hok.2⟩ 6 (hP.2.1 6)) 7 (hP.2.1 7)) 8 (hP.2.1 8)) 9 (hP.2.1 9)) 10 (hP.2.1 10)) 11 (hP.2.1 11)) 16 (hP.2.1 16)) 20 (hP.2.1 20)) 21 (hP.2.1 21)) 27 (hP.2.1 27)) 11 (hP.2.2 11)) 12 (hP.2.2 12)) 17 (hP.2.2 17))⟩
                      replace p0_47 : rep (rlS 9 S1 E1).1 c17_10 w20_47 := p0_47
                      replace p1_47 : repC mp (rlS 9 S1 E1).2 a11_47 a12_47 w16_47 := p1_47
                      have rw16_47 : 0 ≤ w16_47 ∧ w16_47 ≤ 41 := hP.2.1 16
                      have rw20_47 : 0 ≤ w20_47 ∧ w20_47 ≤ 64 := hP.2.1 20
                      have hR0 := p0_47
                      have hR1 := p1_47
                      have hro := rlS_ok 9 S1 E1 hX1.1.1 (hX1.1.2.1 rfl)
                      have hrv := rlS_v 9 S1 E1 hX1.1.1 hX1.2.1 hX1.2.2
                      have hrl := rep_len _ _ _ hR0
                      have hwl := wfS_len _ hro.1
                      refine lv_aload_n hx hb dX11_readExpression_130 rfl (lv_at hl 1 rfl) ?_
                      refine lv_iload_n hx hb dX11_readExpression_131 rfl (lv_at hl 0 rfl) ?_
                      refine g_cv (As := [.int (iI 9)]) (rest := []) (n := 1) C hml (n_waitFor l D k A ad hD (va_up (va_up (va_up (va_up (va_up (va_up (va_up (va_up (va_up (va_up v 6 w6_43) 7 w7_43) 8 y8_10) 9 y9_10) 10 y10_10) 11 y11_10) 16 w16_47) 20 w20_47) 21 y21_10) 27 (y27_10 + 1)) (va_up (va_up (va_up f 11 a11_47) 12 a12_47) 17 c17_10) (va_up g 0 d0_10) 9 (by decide) (show w20_47 ≤ 63 from by omega) (show 0 ≤ (9 : Int) ∧ (9 : Int) ≤ 11 from by omega)) mM_X11_277 mI_X11_waitFor mE_X11_waitFor mN_X11 mC_X11_waitFor (by decide +kernel) 0 (ci := 11) rfl rfl hP hS (fun _ h => h) ⟨Nat.le_of_ble_eq_true rfl, Nat.le_of_ble_eq_true rfl⟩ ⟨Nat.zero_le _, Nat.zero_le _⟩ hl.1 rfl rfl (Nat.le_of_ble_eq_true rfl) dX11_readExpression_132 (fun r_48 v_48 f_48 g_48 H locs hq_48 hP _ hS => ?_)
                      obtain ⟨rfl, rfl, rfl, rfl⟩ := hq_48
                      show W p l e (gRm 3 69) s m args below meth c _ _ 0 0 Q (F0 m 135 ls [])
                      have hP : gWd D (mdT k ad) (va_up (va_up (va_up (va_up (va_up (va_up (va_up (va_up (va_up (va_up v 6 w6_43) 7 w7_43) 8 y8_10) 9 y9_10) 10 y10_10) 11 y11_10) 16 w16_47) 20 (w20_47 + 1)) 21 y21_10) 27 (y27_10 + 1)) (va_up (va_up (va_up f 11 a11_47) 12 a12_47) 17 (u1 c17_10 w20_47 (9 : Int))) (va_up g 0 d0_10) H := ⟨hP.1, (gF_up (V := mdV) (F := mdF) (gF_up (V := mdV) (F := mdF) (gF_up (V := mdV) (F := mdF) (gR_up (V := mdV) (F := mdF) (gR_up (V := mdV) (F := mdF) (gR_up (V := mdV) (F := mdF) (gR_up (V := mdV) (F := mdF) (gR_up (V := mdV) (F := mdF) (gR_up (V := mdV) (F := mdF) (gR_up (V := mdV) (F := mdF) (gR_up (V := mdV) (F := mdF) (gR_up (V := mdV) (F := mdF) (gR_up (V := mdV) (F := mdF) ⟨hok.1, hok.2⟩ 6 (hP.2.1 6)) 7 (hP.2.1 7)) 8 (hP.2.1 8)) 9 (hP.2.1 9)) 10 (hP.2.1 10)) 11 (hP.2.1 11)) 16 (hP.2.1 16)) 20 (hP.2.1 20)) 21 (hP.2.1 21)) 27 (hP.2.1 27)) 11 (hP.2.2 11)) 12 (hP.2.2 12)) 17 (hP.2.2 17))⟩
                      refine lv_aload_n hx hb dX11_readExpression_135 rfl (lv_at hl 1 rfl) ?_
                      refine g_cv (As := []) (rest := []) (n := 0) C hml (n_next l D k A ad hD (va_up (va_up (va_up (va_up (va_up (va_up (va_up (va_up (va_up (va_up v 6 w6_43) 7 w7_43) 8 y8_10) 9 y9_10) 10 y10_10) 11 y11_10) 16 w16_47) 20 (w20_47 + 1)) 21 y21_10) 27 (y27_10 + 1)) (va_up (va_up (va_up f 11 a11_47) 12 a12_47) 17 (u1 c17_10 w20_47 (9 : Int))) (va_up g 0 d0_10) B (show ∀ k, (f 0) k % 256 = B k from hB) (show 0 ≤ y10_10 ∧ y10_10 ≤ (v 3) from by omega)) mM_X11_201 mI_X11_next mE_X11_next mN_X11 mC_X11_next (by decide +kernel) 0 (ci := 11) rfl rfl hP hS (fun _ h => h) ⟨Nat.le_of_ble_eq_true rfl, Nat.le_of_ble_eq_true rfl⟩ ⟨Nat.zero_le _, Nat.zero_le _⟩ hl.1 rfl rfl (Nat.le_of_ble_eq_true rfl) dX11_readExpression_136 (fun r_49 v_49 f_49 g_49 H locs hq_49 hP _ hS => ?_)
                      obtain ⟨w8_49, w9_49, w10_49, w11_49, b0_49, rfl, rfl, rfl, rfl, p0_49⟩ := hq_49
                      show W p l e (gRm 3 69) s m args below meth c _ _ 0 0 Q (F0 m 139 ls [])
                      have hP : gWd D (mdT k ad) (va_up (va_up (va_up (va_up (va_up (va_up (va_up (va_up (va_up (va_up v 6 w6_43) 7 w7_43) 8 w8_49) 9 w9_49) 10 w10_49) 11 w11_49) 16 w16_47) 20 (w20_47 + 1)) 21 y21_10) 27 (y27_10 + 1)) (va_up (va_up (va_up f 11 a11_47) 12 a12_47) 17 (u1 c17_10 w20_47 (9 : Int))) (va_up g 0 b0_49) H := ⟨hP.1, (gF_up (V := mdV) (F := mdF) (gF_up (V := mdV) (F := mdF) (gF_up (V := mdV) (F := mdF) (gR_up (V := mdV) (F := mdF) (gR_up (V := mdV) (F := mdF) (gR_up (V := mdV) (F := mdF) (gR_up (V := mdV) (F := mdF) (gR_up (V := mdV) (F := mdF) (gR_up (V := mdV) (F := mdF) (gR_up (V := mdV) (F := mdF) (gR_up (V := mdV) (F := mdF) (gR_up (V := mdV) (F := mdF) (gR_up (V := mdV) (F := mdF) ⟨hok.1, hok.2⟩ 6 (hP.2.1 6)) 7 (hP.2.1 7)) 8 (hP.2.1 8)) 9 (hP.2.1 9)) 10 (hP.2.1 10)) 11 (hP.2.1 11)) 16 (hP.2.1 16)) 20 (hP.2.1 20)) 21 (hP.2.1 21)) 27 (hP.2.1 27)) 11 (hP.2.2 11)) 12 (hP.2.2 12)) 17 (hP.2.2 17))⟩
                      replace p0_49 : mAt B (v 3) w9_49 w10_49 w8_49 w11_49 (b0_49 0) (run bW B (v 3) y10_10) := p0_49
                      have rw8_49 : 0 ≤ w8_49 ∧ w8_49 ≤ 4 := hP.2.1 8
                      have rw9_49 : 0 ≤ w9_49 ∧ w9_49 ≤ 700 := hP.2.1 9
                      have rw10_49 : 0 ≤ w10_49 ∧ w10_49 ≤ 700 := hP.2.1 10
                      have rw11_49 : 0 ≤ w11_49 ∧ w11_49 ≤ 999999 := hP.2.1 11
                      have hN : mAt B (v 3) w9_49 w10_49 w8_49 w11_49 (b0_49 0) (tX B (v 3) qq) := by have h := p0_49; rw [hM.bh] at h; exact h
                      clear p0_49
                      have hu := tX_up (B := B) (n := (v 3)) (q := qq) (by have h9 := (not_congr (tK_end (B := B) (n := (v 3)) (q := qq))).mp (by omega); omega)
                      refine lv_iconst (v := iI 0) hx hb dX11_readExpression_139 rfl ?_
                      refine lv_istore_n (lv' := [(1, .int (iI 0)), (3, .int (iI 9)), (0, .ref (ad 0)), (2, .int (iI x2))]) hx hb dX11_readExpression_140 rfl hl (by decide) rfl (fun ls hl => ?_)
                      refine lv_goto (tgt := 198) hx hb dX11_readExpression_141 (by decide) ?_
                      refine lv_goto (tgt := 24) hx hb dX11_readExpression_198 (by decide) ?_
                      exact ih_24 0 x2 ((tX B (v 3) qq)) ((9 :: (rlS 9 S1 E1).1)) ((rlS 9 S1 E1).2) ((kk - 1)) w6_43 w7_43 w8_49 w9_49 w10_49 w11_49 w16_47 (w20_47 + 1) y21_10 (y27_10 + 1) a11_47 a12_47 (u1 c17_10 w20_47 (9 : Int)) b0_49 _ _ _ (by omega) (by omega) (by omega) hN (by exact (fun _ => xM_sg hro.1 (by decide) hro.2.2.2.2.2.1 hro.2.2.2.2.2.2 hro.2.1 hR0 hR1 (by omega) (by omega) (by omega) (by omega) hrv.1 hrv.2)) (by exact (fun h => by rw [← hO, show kk = (kk - 1) + 1 by omega]; exact (exF_sg _ (by omega) (by omega)).symm)) (by first | omega | exact hJ5.get) (by first | (intro h; exfalso; omega) | exact hJ6.get) (by omega) hP hS (lv_sub hl [2, 0, 3] rfl)
                    · exact g_vret hQ C hr hlocks hP hS dX11_readExpression_121 ⟨w6_43, w7_43, y8_10, y9_10, y10_10, y11_10, y16_10, y20_10, y21_10, (y27_10 + 1), c11_10, c12_10, c17_10, d0_10, rfl, rfl, rfl, rfl, ⟨(w6_43, qq), ⟨rfl, fun _ => by show w7_43 = qq; omega, hM⟩, by rw [← hO, show kk = (kk - 1) + 1 by omega, exF_sg3 _ (by omega) (by omega), show w6_43 = 3 by omega]⟩, (by intro h; exfalso; omega)⟩
              · refine lv_bipush (v := iI 8) hx hb dX11_readExpression_85 (by decide) ?_
                refine lv_goto (tgt := 105) hx hb dX11_readExpression_87 (by decide) ?_
                refine lv_istore_n (lv' := [(3, .int (iI 8)), (0, .ref (ad 0)), (1, .int (iI x1)), (2, .int (iI x2))]) hx hb dX11_readExpression_105 rfl hl (by decide) rfl (fun ls hl => ?_)
                refine lv_iload_n hx hb dX11_readExpression_106 rfl (lv_at hl 0 rfl) ?_
                refine gi_zle (tgt := 144) hx hb dX11_readExpression_107 (by decide) (by decide) (fun c_50 => ?_) (fun c_50 => ?_)
                · exfalso; omega
                · refine lv_aload_n hx hb dX11_readExpression_110 rfl (lv_at hl 1 rfl) ?_
                  refine g_cv (As := []) (rest := []) (n := 0) C hml (n_ctC l D k A ad hD (va_up (va_up (va_up (va_up (va_up (va_up (va_up (va_up (va_up (va_up v 6 y6_10) 7 y7_10) 8 y8_10) 9 y9_10) 10 y10_10) 11 y11_10) 16 y16_10) 20 y20_10) 21 y21_10) 27 y27_10) (va_up (va_up (va_up f 11 c11_10) 12 c12_10) 17 c17_10) (va_up g 0 d0_10) B qq (show mAt B (v 3) y9_10 y10_10 y8_10 y11_10 (d0_10 0) qq from hM) (show y27_10 ≤ 40 from by omega) (show y6_10 = 0 from by omega)) mM_X11_271 mI_X11_counts mE_X11_counts mN_X11 mC_X11_counts (by decide +kernel) 0 (ci := 11) rfl rfl hP hS (fun _ h => h) ⟨Nat.le_of_ble_eq_true rfl, Nat.le_of_ble_eq_true rfl⟩ ⟨Nat.zero_le _, Nat.zero_le _⟩ hl.1 rfl rfl (Nat.le_of_ble_eq_true rfl) dX11_readExpression_111 (fun r_51 v_51 f_51 g_51 H locs hq_51 hP _ hS => ?_)
                  obtain ⟨w6_51, w7_51, rfl, rfl, rfl, rfl, p0_51, p1_51⟩ := hq_51
                  show W p l e (gRm 3 69) s m args below meth c _ _ 0 0 Q (F0 m 114 ls [])
                  have hP : gWd D (mdT k ad) (va_up (va_up (va_up (va_up (va_up (va_up (va_up (va_up (va_up (va_up v 6 w6_51) 7 w7_51) 8 y8_10) 9 y9_10) 10 y10_10) 11 y11_10) 16 y16_10) 20 y20_10) 21 y21_10) 27 (y27_10 + 1)) (va_up (va_up (va_up f 11 c11_10) 12 c12_10) 17 c17_10) (va_up g 0 d0_10) H := ⟨hP.1, (gF_up (V := mdV) (F := mdF) (gF_up (V := mdV) (F := mdF) (gF_up (V := mdV) (F := mdF) (gR_up (V := mdV) (F := mdF) (gR_up (V := mdV) (F := mdF) (gR_up (V := mdV) (F := mdF) (gR_up (V := mdV) (F := mdF) (gR_up (V := mdV) (F := mdF) (gR_up (V := mdV) (F := mdF) (gR_up (V := mdV) (F := mdF) (gR_up (V := mdV) (F := mdF) (gR_up (V := mdV) (F := mdF) (gR_up (V := mdV) (F := mdF) ⟨hok.1, hok.2⟩ 6 (hP.2.1 6)) 7 (hP.2.1 7)) 8 (hP.2.1 8)) 9 (hP.2.1 9)) 10 (hP.2.1 10)) 11 (hP.2.1 11)) 16 (hP.2.1 16)) 20 (hP.2.1 20)) 21 (hP.2.1 21)) 27 (hP.2.1 27)) 11 (hP.2.2 11)) 12 (hP.2.2 12)) 17 (hP.2.2 17))⟩
                  replace p0_51 : y27_10 = 40 → w6_51 = 3 ∧ w7_51 = qq := p0_51
                  replace p1_51 : y27_10 < 40 → w6_51 = 0 := p1_51
                  have rw6_51 : 0 ≤ w6_51 ∧ w6_51 ≤ 5 := hP.2.1 6
                  have rw7_51 : 0 ≤ w7_51 ∧ w7_51 ≤ 700 := hP.2.1 7
                  refine lv_aload_n hx hb dX11_readExpression_114 rfl (lv_at hl 1 rfl) ?_
                  refine mdG_bad C hP mF_X11_188 dX11_readExpression_115 ?_
                  show W p l e (gRm 3 69) s m args below meth c _ _ 0 0 Q (F0 m 118 ls [.int (iI w6_51)])
                  have r_52 : 0 ≤ w6_51 ∧ w6_51 ≤ 5 := hP.2.1 6
                  refine gi_zle (tgt := 122) hx hb dX11_readExpression_118 (by decide) (by omega) (fun c_53 => ?_) (fun c_53 => ?_)
                  · refine lv_aload_n hx hb dX11_readExpression_122 rfl (lv_at hl 1 rfl) ?_
                    refine lv_iload_n hx hb dX11_readExpression_123 rfl (lv_at hl 0 rfl) ?_
                    refine g_cs (As := [.int (iI 8)]) (rest := [.ref (ad 0)]) (n := 1) C hml (n_strong l D k A ad hD (va_up (va_up (va_up (va_up (va_up (va_up (va_up (va_up (va_up (va_up v 6 w6_51) 7 w7_51) 8 y8_10) 9 y9_10) 10 y10_10) 11 y11_10) 16 y16_10) 20 y20_10) 21 y21_10) 27 (y27_10 + 1)) (va_up (va_up (va_up f 11 c11_10) 12 c12_10) 17 c17_10) (va_up g 0 d0_10) 8 (by decide)) mM_X11_258 mS_X11_strong mN_X11 mC_X11_strong (by decide +kernel) hP hS (fun _ h => h) ⟨Nat.le_of_ble_eq_true rfl, Nat.le_of_ble_eq_true rfl⟩ ⟨Nat.zero_le _, Nat.zero_le _⟩ hl.1 rfl rfl (Nat.le_of_ble_eq_true rfl) dX11_readExpression_124 (fun r_54 v_54 f_54 g_54 H locs hq_54 hP _ hS => ?_)
                    obtain ⟨z_54, rfl, rfl, rfl, rfl, p0_54, p1_54, p2_54, p3_54⟩ := hq_54
                    show W p l e (gRm 3 69) s m args below meth c _ _ 0 0 Q (F0 m 127 ls [.int (iI z_54), .ref (ad 0)])
                    replace p0_54 : 0 ≤ z_54 ∧ z_54 ≤ 2 := p0_54
                    replace p1_54 : (8 : Int) = 9 → z_54 = 2 := p1_54
                    replace p2_54 : (8 : Int) < 9 → z_54 = 1 := p2_54
                    replace p3_54 : 9 < (8 : Int) → z_54 = 0 := p3_54
                    refine g_cv (As := [.int (iI z_54)]) (rest := []) (n := 1) C hml (n_reduce l D k A ad hD (va_up (va_up (va_up (va_up (va_up (va_up (va_up (va_up (va_up (va_up v 6 w6_51) 7 w7_51) 8 y8_10) 9 y9_10) 10 y10_10) 11 y11_10) 16 y16_10) 20 y20_10) 21 y21_10) 27 (y27_10 + 1)) (va_up (va_up (va_up f 11 c11_10) 12 c12_10) 17 c17_10) (va_up g 0 d0_10) z_54 S1 E1 8 (by omega) (show (z_54 = 1 ∧ 8 ≠ 9) ∨ (z_54 = 2 ∧ 8 = 9) from by omega) (show wfS S1 from hX1.1.1) (show hdS S1 ≠ 10 from hX1.1.2.1 rfl) (show rep S1 c17_10 y20_10 from hX1.1.2.2.1) (show repC mp E1 c11_10 c12_10 y16_10 ∧ (E1.length : Int) + cSg S1 ≤ 40 from ⟨hX1.1.2.2.2.1, by omega⟩)) mM_X11_274 mI_X11_reduce mE_X11_reduce mN_X11 mC_X11_reduce (by decide +kernel) 0 (ci := 11) rfl rfl hP hS (fun _ h => h) ⟨Nat.le_of_ble_eq_true rfl, Nat.le_of_ble_eq_true rfl⟩ ⟨Nat.zero_le _, Nat.zero_le _⟩ hl.1 rfl rfl (Nat.le_of_ble_eq_true rfl) dX11_readExpression_127 (fun r_55 v_55 f_55 g_55 H locs hq_55 hP _ hS => ?_)
                    obtain ⟨w16_55, w20_55, a11_55, a12_55, rfl, rfl, rfl, rfl, p0_55, p1_55⟩ := hq_55
                    show W p l e (gRm 3 69) s m args below meth c _ _ 0 0 Q (F0 m 130 ls [])
                    have hP : gWd D (mdT k ad) (va_up (va_up (va_up (va_up (va_up (va_up (va_up (va_up (va_up (va_up v 6 w6_51) 7 w7_51) 8 y8_10) 9 y9_10) 10 y10_10) 11 y11_10) 16 w16_55) 20 w20_55) 21 y21_10) 27 (y27_10 + 1)) (va_up (va_up (va_up f 11 a11_55) 12 a12_55) 17 c17_10) (va_up g 0 d0_10) H := ⟨hP.1, (gF_up (V := mdV) (F := mdF) (gF_up (V := mdV) (F := mdF) (gF_up (V := mdV) (F := mdF) (gR_up (V := mdV) (F := mdF) (gR_up (V := mdV) (F := mdF) (gR_up (V := mdV) (F := mdF) (gR_up (V := mdV) (F := mdF) (gR_up (V := mdV) (F := mdF) (gR_up (V := mdV) (F := mdF) (gR_up (V := mdV) (F := mdF) (gR_up (V := mdV) (F := mdF) (gR_up (V := mdV) (F := mdF) (gR_up (V := mdV) (F := mdF) ⟨hok.1, hok.2⟩ 6 (hP.2.1 6)) 7 (hP.2.1 7)) 8 (hP.2.1 8)) 9 (hP.2.1 9)) 10 (hP.2.1 10)) 11 (hP.2.1 11)) 16 (hP.2.1 16)) 20 (hP.2.1 20)) 21 (hP.2.1 21)) 27 (hP.2.1 27)) 11 (hP.2.2 11)) 12 (hP.2.2 12)) 17 (hP.2.2 17))⟩
                    replace p0_55 : rep (rlS 8 S1 E1).1 c17_10 w20_55 := p0_55
                    replace p1_55 : repC mp (rlS 8 S1 E1).2 a11_55 a12_55 w16_55 := p1_55
                    have rw16_55 : 0 ≤ w16_55 ∧ w16_55 ≤ 41 := hP.2.1 16
                    have rw20_55 : 0 ≤ w20_55 ∧ w20_55 ≤ 64 := hP.2.1 20
                    have hR0 := p0_55
                    have hR1 := p1_55
                    have hro := rlS_ok 8 S1 E1 hX1.1.1 (hX1.1.2.1 rfl)
                    have hrv := rlS_v 8 S1 E1 hX1.1.1 hX1.2.1 hX1.2.2
                    have hrl := rep_len _ _ _ hR0
                    have hwl := wfS_len _ hro.1
                    refine lv_aload_n hx hb dX11_readExpression_130 rfl (lv_at hl 1 rfl) ?_
                    refine lv_iload_n hx hb dX11_readExpression_131 rfl (lv_at hl 0 rfl) ?_
                    refine g_cv (As := [.int (iI 8)]) (rest := []) (n := 1) C hml (n_waitFor l D k A ad hD (va_up (va_up (va_up (va_up (va_up (va_up (va_up (va_up (va_up (va_up v 6 w6_51) 7 w7_51) 8 y8_10) 9 y9_10) 10 y10_10) 11 y11_10) 16 w16_55) 20 w20_55) 21 y21_10) 27 (y27_10 + 1)) (va_up (va_up (va_up f 11 a11_55) 12 a12_55) 17 c17_10) (va_up g 0 d0_10) 8 (by decide) (show w20_55 ≤ 63 from by omega) (show 0 ≤ (8 : Int) ∧ (8 : Int) ≤ 11 from by omega)) mM_X11_277 mI_X11_waitFor mE_X11_waitFor mN_X11 mC_X11_waitFor (by decide +kernel) 0 (ci := 11) rfl rfl hP hS (fun _ h => h) ⟨Nat.le_of_ble_eq_true rfl, Nat.le_of_ble_eq_true rfl⟩ ⟨Nat.zero_le _, Nat.zero_le _⟩ hl.1 rfl rfl (Nat.le_of_ble_eq_true rfl) dX11_readExpression_132 (fun r_56 v_56 f_56 g_56 H locs hq_56 hP _ hS => ?_)
                    obtain ⟨rfl, rfl, rfl, rfl⟩ := hq_56
                    show W p l e (gRm 3 69) s m args below meth c _ _ 0 0 Q (F0 m 135 ls [])
                    have hP : gWd D (mdT k ad) (va_up (va_up (va_up (va_up (va_up (va_up (va_up (va_up (va_up (va_up v 6 w6_51) 7 w7_51) 8 y8_10) 9 y9_10) 10 y10_10) 11 y11_10) 16 w16_55) 20 (w20_55 + 1)) 21 y21_10) 27 (y27_10 + 1)) (va_up (va_up (va_up f 11 a11_55) 12 a12_55) 17 (u1 c17_10 w20_55 (8 : Int))) (va_up g 0 d0_10) H := ⟨hP.1, (gF_up (V := mdV) (F := mdF) (gF_up (V := mdV) (F := mdF) (gF_up (V := mdV) (F := mdF) (gR_up (V := mdV) (F := mdF) (gR_up (V := mdV) (F := mdF) (gR_up (V := mdV) (F := mdF) (gR_up (V := mdV) (F := mdF) (gR_up (V := mdV) (F := mdF) (gR_up (V := mdV) (F := mdF) (gR_up (V := mdV) (F := mdF) (gR_up (V := mdV) (F := mdF) (gR_up (V := mdV) (F := mdF) (gR_up (V := mdV) (F := mdF) ⟨hok.1, hok.2⟩ 6 (hP.2.1 6)) 7 (hP.2.1 7)) 8 (hP.2.1 8)) 9 (hP.2.1 9)) 10 (hP.2.1 10)) 11 (hP.2.1 11)) 16 (hP.2.1 16)) 20 (hP.2.1 20)) 21 (hP.2.1 21)) 27 (hP.2.1 27)) 11 (hP.2.2 11)) 12 (hP.2.2 12)) 17 (hP.2.2 17))⟩
                    refine lv_aload_n hx hb dX11_readExpression_135 rfl (lv_at hl 1 rfl) ?_
                    refine g_cv (As := []) (rest := []) (n := 0) C hml (n_next l D k A ad hD (va_up (va_up (va_up (va_up (va_up (va_up (va_up (va_up (va_up (va_up v 6 w6_51) 7 w7_51) 8 y8_10) 9 y9_10) 10 y10_10) 11 y11_10) 16 w16_55) 20 (w20_55 + 1)) 21 y21_10) 27 (y27_10 + 1)) (va_up (va_up (va_up f 11 a11_55) 12 a12_55) 17 (u1 c17_10 w20_55 (8 : Int))) (va_up g 0 d0_10) B (show ∀ k, (f 0) k % 256 = B k from hB) (show 0 ≤ y10_10 ∧ y10_10 ≤ (v 3) from by omega)) mM_X11_201 mI_X11_next mE_X11_next mN_X11 mC_X11_next (by decide +kernel) 0 (ci := 11) rfl rfl hP hS (fun _ h => h) ⟨Nat.le_of_ble_eq_true rfl, Nat.le_of_ble_eq_true rfl⟩ ⟨Nat.zero_le _, Nat.zero_le _⟩ hl.1 rfl rfl (Nat.le_of_ble_eq_true rfl) dX11_readExpression_136 (fun r_57 v_57 f_57 g_57 H locs hq_57 hP _ hS => ?_)
                    obtain ⟨w8_57, w9_57, w10_57, w11_57, b0_57, rfl, rfl, rfl, rfl, p0_57⟩ := hq_57
                    show W p l e (gRm 3 69) s m args below meth c _ _ 0 0 Q (F0 m 139 ls [])
                    have hP : gWd D (mdT k ad) (va_up (va_up (va_up (va_up (va_up (va_up (va_up (va_up (va_up (va_up v 6 w6_51) 7 w7_51) 8 w8_57) 9 w9_57) 10 w10_57) 11 w11_57) 16 w16_55) 20 (w20_55 + 1)) 21 y21_10) 27 (y27_10 + 1)) (va_up (va_up (va_up f 11 a11_55) 12 a12_55) 17 (u1 c17_10 w20_55 (8 : Int))) (va_up g 0 b0_57) H := ⟨hP.1, (gF_up (V := mdV) (F := mdF) (gF_up (V := mdV) (F := mdF) (gF_up (V := mdV) (F := mdF) (gR_up (V := mdV) (F := mdF) (gR_up (V := mdV) (F := mdF) (gR_up (V := mdV) (F := mdF) (gR_up (V := mdV) (F := mdF) (gR_up (V := mdV) (F := mdF) (gR_up (V := mdV) (F := mdF) (gR_up (V := mdV) (F := mdF) (gR_up (V := mdV) (F := mdF) (gR_up (V := mdV) (F := mdF) (gR_up (V := mdV) (F := mdF) ⟨hok.1, hok.2⟩ 6 (hP.2.1 6)) 7 (hP.2.1 7)) 8 (hP.2.1 8)) 9 (hP.2.1 9)) 10 (hP.2.1 10)) 11 (hP.2.1 11)) 16 (hP.2.1 16)) 20 (hP.2.1 20)) 21 (hP.2.1 21)) 27 (hP.2.1 27)) 11 (hP.2.2 11)) 12 (hP.2.2 12)) 17 (hP.2.2 17))⟩
                    replace p0_57 : mAt B (v 3) w9_57 w10_57 w8_57 w11_57 (b0_57 0) (run bW B (v 3) y10_10) := p0_57
                    have rw8_57 : 0 ≤ w8_57 ∧ w8_57 ≤ 4 := hP.2.1 8
                    have rw9_57 : 0 ≤ w9_57 ∧ w9_57 ≤ 700 := hP.2.1 9
                    have rw10_57 : 0 ≤ w10_57 ∧ w10_57 ≤ 700 := hP.2.1 10
                    have rw11_57 : 0 ≤ w11_57 ∧ w11_57 ≤ 999999 := hP.2.1 11
                    have hN : mAt B (v 3) w9_57 w10_57 w8_57 w11_57 (b0_57 0) (tX B (v 3) qq) := by have h := p0_57; rw [hM.bh] at h; exact h
                    clear p0_57
                    have hu := tX_up (B := B) (n := (v 3)) (q := qq) (by have h9 := (not_congr (tK_end (B := B) (n := (v 3)) (q := qq))).mp (by omega); omega)
                    refine lv_iconst (v := iI 0) hx hb dX11_readExpression_139 rfl ?_
                    refine lv_istore_n (lv' := [(1, .int (iI 0)), (3, .int (iI 8)), (0, .ref (ad 0)), (2, .int (iI x2))]) hx hb dX11_readExpression_140 rfl hl (by decide) rfl (fun ls hl => ?_)
                    refine lv_goto (tgt := 198) hx hb dX11_readExpression_141 (by decide) ?_
                    refine lv_goto (tgt := 24) hx hb dX11_readExpression_198 (by decide) ?_
                    exact ih_24 0 x2 ((tX B (v 3) qq)) ((8 :: (rlS 8 S1 E1).1)) ((rlS 8 S1 E1).2) ((kk - 1)) w6_51 w7_51 w8_57 w9_57 w10_57 w11_57 w16_55 (w20_55 + 1) y21_10 (y27_10 + 1) a11_55 a12_55 (u1 c17_10 w20_55 (8 : Int)) b0_57 _ _ _ (by omega) (by omega) (by omega) hN (by exact (fun _ => xM_sg hro.1 (by decide) hro.2.2.2.2.2.1 hro.2.2.2.2.2.2 hro.2.1 hR0 hR1 (by omega) (by omega) (by omega) (by omega) hrv.1 hrv.2)) (by exact (fun h => by rw [← hO, show kk = (kk - 1) + 1 by omega]; exact (exF_sg _ (by omega) (by omega)).symm)) (by first | omega | exact hJ5.get) (by first | (intro h; exfalso; omega) | exact hJ6.get) (by omega) hP hS (lv_sub hl [2, 0, 3] rfl)
                  · exact g_vret hQ C hr hlocks hP hS dX11_readExpression_121 ⟨w6_51, w7_51, y8_10, y9_10, y10_10, y11_10, y16_10, y20_10, y21_10, (y27_10 + 1), c11_10, c12_10, c17_10, d0_10, rfl, rfl, rfl, rfl, ⟨(w6_51, qq), ⟨rfl, fun _ => by show w7_51 = qq; omega, hM⟩, by rw [← hO, show kk = (kk - 1) + 1 by omega, exF_sg3 _ (by omega) (by omega), show w6_51 = 3 by omega]⟩, (by intro h; exfalso; omega)⟩
            · refine lv_bipush (v := iI 7) hx hb dX11_readExpression_71 (by decide) ?_
              refine lv_goto (tgt := 105) hx hb dX11_readExpression_73 (by decide) ?_
              refine lv_istore_n (lv' := [(3, .int (iI 7)), (0, .ref (ad 0)), (1, .int (iI x1)), (2, .int (iI x2))]) hx hb dX11_readExpression_105 rfl hl (by decide) rfl (fun ls hl => ?_)
              refine lv_iload_n hx hb dX11_readExpression_106 rfl (lv_at hl 0 rfl) ?_
              refine gi_zle (tgt := 144) hx hb dX11_readExpression_107 (by decide) (by decide) (fun c_58 => ?_) (fun c_58 => ?_)
              · exfalso; omega
              · refine lv_aload_n hx hb dX11_readExpression_110 rfl (lv_at hl 1 rfl) ?_
                refine g_cv (As := []) (rest := []) (n := 0) C hml (n_ctC l D k A ad hD (va_up (va_up (va_up (va_up (va_up (va_up (va_up (va_up (va_up (va_up v 6 y6_10) 7 y7_10) 8 y8_10) 9 y9_10) 10 y10_10) 11 y11_10) 16 y16_10) 20 y20_10) 21 y21_10) 27 y27_10) (va_up (va_up (va_up f 11 c11_10) 12 c12_10) 17 c17_10) (va_up g 0 d0_10) B qq (show mAt B (v 3) y9_10 y10_10 y8_10 y11_10 (d0_10 0) qq from hM) (show y27_10 ≤ 40 from by omega) (show y6_10 = 0 from by omega)) mM_X11_271 mI_X11_counts mE_X11_counts mN_X11 mC_X11_counts (by decide +kernel) 0 (ci := 11) rfl rfl hP hS (fun _ h => h) ⟨Nat.le_of_ble_eq_true rfl, Nat.le_of_ble_eq_true rfl⟩ ⟨Nat.zero_le _, Nat.zero_le _⟩ hl.1 rfl rfl (Nat.le_of_ble_eq_true rfl) dX11_readExpression_111 (fun r_59 v_59 f_59 g_59 H locs hq_59 hP _ hS => ?_)
                obtain ⟨w6_59, w7_59, rfl, rfl, rfl, rfl, p0_59, p1_59⟩ := hq_59
                show W p l e (gRm 3 69) s m args below meth c _ _ 0 0 Q (F0 m 114 ls [])
                have hP : gWd D (mdT k ad) (va_up (va_up (va_up (va_up (va_up (va_up (va_up (va_up (va_up (va_up v 6 w6_59) 7 w7_59) 8 y8_10) 9 y9_10) 10 y10_10) 11 y11_10) 16 y16_10) 20 y20_10) 21 y21_10) 27 (y27_10 + 1)) (va_up (va_up (va_up f 11 c11_10) 12 c12_10) 17 c17_10) (va_up g 0 d0_10) H := ⟨hP.1, (gF_up (V := mdV) (F := mdF) (gF_up (V := mdV) (F := mdF) (gF_up (V := mdV) (F := mdF) (gR_up (V := mdV) (F := mdF) (gR_up (V := mdV) (F := mdF) (gR_up (V := mdV) (F := mdF) (gR_up (V := mdV) (F := mdF) (gR_up (V := mdV) (F := mdF) (gR_up (V := mdV) (F := mdF) (gR_up (V := mdV) (F := mdF) (gR_up (V := mdV) (F := mdF) (gR_up (V := mdV) (F := mdF) (gR_up (V := mdV) (F := mdF) ⟨hok.1, hok.2⟩ 6 (hP.2.1 6)) 7 (hP.2.1 7)) 8 (hP.2.1 8)) 9 (hP.2.1 9)) 10 (hP.2.1 10)) 11 (hP.2.1 11)) 16 (hP.2.1 16)) 20 (hP.2.1 20)) 21 (hP.2.1 21)) 27 (hP.2.1 27)) 11 (hP.2.2 11)) 12 (hP.2.2 12)) 17 (hP.2.2 17))⟩
                replace p0_59 : y27_10 = 40 → w6_59 = 3 ∧ w7_59 = qq := p0_59
                replace p1_59 : y27_10 < 40 → w6_59 = 0 := p1_59
                have rw6_59 : 0 ≤ w6_59 ∧ w6_59 ≤ 5 := hP.2.1 6
                have rw7_59 : 0 ≤ w7_59 ∧ w7_59 ≤ 700 := hP.2.1 7
                refine lv_aload_n hx hb dX11_readExpression_114 rfl (lv_at hl 1 rfl) ?_
                refine mdG_bad C hP mF_X11_188 dX11_readExpression_115 ?_
                show W p l e (gRm 3 69) s m args below meth c _ _ 0 0 Q (F0 m 118 ls [.int (iI w6_59)])
                have r_60 : 0 ≤ w6_59 ∧ w6_59 ≤ 5 := hP.2.1 6
                refine gi_zle (tgt := 122) hx hb dX11_readExpression_118 (by decide) (by omega) (fun c_61 => ?_) (fun c_61 => ?_)
                · refine lv_aload_n hx hb dX11_readExpression_122 rfl (lv_at hl 1 rfl) ?_
                  refine lv_iload_n hx hb dX11_readExpression_123 rfl (lv_at hl 0 rfl) ?_
                  refine g_cs (As := [.int (iI 7)]) (rest := [.ref (ad 0)]) (n := 1) C hml (n_strong l D k A ad hD (va_up (va_up (va_up (va_up (va_up (va_up (va_up (va_up (va_up (va_up v 6 w6_59) 7 w7_59) 8 y8_10) 9 y9_10) 10 y10_10) 11 y11_10) 16 y16_10) 20 y20_10) 21 y21_10) 27 (y27_10 + 1)) (va_up (va_up (va_up f 11 c11_10) 12 c12_10) 17 c17_10) (va_up g 0 d0_10) 7 (by decide)) mM_X11_258 mS_X11_strong mN_X11 mC_X11_strong (by decide +kernel) hP hS (fun _ h => h) ⟨Nat.le_of_ble_eq_true rfl, Nat.le_of_ble_eq_true rfl⟩ ⟨Nat.zero_le _, Nat.zero_le _⟩ hl.1 rfl rfl (Nat.le_of_ble_eq_true rfl) dX11_readExpression_124 (fun r_62 v_62 f_62 g_62 H locs hq_62 hP _ hS => ?_)
                  obtain ⟨z_62, rfl, rfl, rfl, rfl, p0_62, p1_62, p2_62, p3_62⟩ := hq_62
                  show W p l e (gRm 3 69) s m args below meth c _ _ 0 0 Q (F0 m 127 ls [.int (iI z_62), .ref (ad 0)])
                  replace p0_62 : 0 ≤ z_62 ∧ z_62 ≤ 2 := p0_62
                  replace p1_62 : (7 : Int) = 9 → z_62 = 2 := p1_62
                  replace p2_62 : (7 : Int) < 9 → z_62 = 1 := p2_62
                  replace p3_62 : 9 < (7 : Int) → z_62 = 0 := p3_62
                  refine g_cv (As := [.int (iI z_62)]) (rest := []) (n := 1) C hml (n_reduce l D k A ad hD (va_up (va_up (va_up (va_up (va_up (va_up (va_up (va_up (va_up (va_up v 6 w6_59) 7 w7_59) 8 y8_10) 9 y9_10) 10 y10_10) 11 y11_10) 16 y16_10) 20 y20_10) 21 y21_10) 27 (y27_10 + 1)) (va_up (va_up (va_up f 11 c11_10) 12 c12_10) 17 c17_10) (va_up g 0 d0_10) z_62 S1 E1 7 (by omega) (show (z_62 = 1 ∧ 7 ≠ 9) ∨ (z_62 = 2 ∧ 7 = 9) from by omega) (show wfS S1 from hX1.1.1) (show hdS S1 ≠ 10 from hX1.1.2.1 rfl) (show rep S1 c17_10 y20_10 from hX1.1.2.2.1) (show repC mp E1 c11_10 c12_10 y16_10 ∧ (E1.length : Int) + cSg S1 ≤ 40 from ⟨hX1.1.2.2.2.1, by omega⟩)) mM_X11_274 mI_X11_reduce mE_X11_reduce mN_X11 mC_X11_reduce (by decide +kernel) 0 (ci := 11) rfl rfl hP hS (fun _ h => h) ⟨Nat.le_of_ble_eq_true rfl, Nat.le_of_ble_eq_true rfl⟩ ⟨Nat.zero_le _, Nat.zero_le _⟩ hl.1 rfl rfl (Nat.le_of_ble_eq_true rfl) dX11_readExpression_127 (fun r_63 v_63 f_63 g_63 H locs hq_63 hP _ hS => ?_)
                  obtain ⟨w16_63, w20_63, a11_63, a12_63, rfl, rfl, rfl, rfl, p0_63, p1_63⟩ := hq_63
                  show W p l e (gRm 3 69) s m args below meth c _ _ 0 0 Q (F0 m 130 ls [])
                  have hP : gWd D (mdT k ad) (va_up (va_up (va_up (va_up (va_up (va_up (va_up (va_up (va_up (va_up v 6 w6_59) 7 w7_59) 8 y8_10) 9 y9_10) 10 y10_10) 11 y11_10) 16 w16_63) 20 w20_63) 21 y21_10) 27 (y27_10 + 1)) (va_up (va_up (va_up f 11 a11_63) 12 a12_63) 17 c17_10) (va_up g 0 d0_10) H := ⟨hP.1, (gF_up (V := mdV) (F := mdF) (gF_up (V := mdV) (F := mdF) (gF_up (V := mdV) (F := mdF) (gR_up (V := mdV) (F := mdF) (gR_up (V := mdV) (F := mdF) (gR_up (V := mdV) (F := mdF) (gR_up (V := mdV) (F := mdF) (gR_up (V := mdV) (F := mdF) (gR_up (V := mdV) (F := mdF) (gR_up (V := mdV) (F := mdF) (gR_up (V := mdV) (F := mdF) (gR_up (V := mdV) (F := mdF) (gR_up (V := mdV) (F := mdF) ⟨hok.1, hok.2⟩ 6 (hP.2.1 6)) 7 (hP.2.1 7)) 8 (hP.2.1 8)) 9 (hP.2.1 9)) 10 (hP.2.1 10)) 11 (hP.2.1 11)) 16 (hP.2.1 16)) 20 (hP.2.1 20)) 21 (hP.2.1 21)) 27 (hP.2.1 27)) 11 (hP.2.2 11)) 12 (hP.2.2 12)) 17 (hP.2.2 17))⟩
                  replace p0_63 : rep (rlS 7 S1 E1).1 c17_10 w20_63 := p0_63
                  replace p1_63 : repC mp (rlS 7 S1 E1).2 a11_63 a12_63 w16_63 := p1_63
                  have rw16_63 : 0 ≤ w16_63 ∧ w16_63 ≤ 41 := hP.2.1 16
                  have rw20_63 : 0 ≤ w20_63 ∧ w20_63 ≤ 64 := hP.2.1 20
                  have hR0 := p0_63
                  have hR1 := p1_63
                  have hro := rlS_ok 7 S1 E1 hX1.1.1 (hX1.1.2.1 rfl)
                  have hrv := rlS_v 7 S1 E1 hX1.1.1 hX1.2.1 hX1.2.2
                  have hrl := rep_len _ _ _ hR0
                  have hwl := wfS_len _ hro.1
                  refine lv_aload_n hx hb dX11_readExpression_130 rfl (lv_at hl 1 rfl) ?_
                  refine lv_iload_n hx hb dX11_readExpression_131 rfl (lv_at hl 0 rfl) ?_
                  refine g_cv (As := [.int (iI 7)]) (rest := []) (n := 1) C hml (n_waitFor l D k A ad hD (va_up (va_up (va_up (va_up (va_up (va_up (va_up (va_up (va_up (va_up v 6 w6_59) 7 w7_59) 8 y8_10) 9 y9_10) 10 y10_10) 11 y11_10) 16 w16_63) 20 w20_63) 21 y21_10) 27 (y27_10 + 1)) (va_up (va_up (va_up f 11 a11_63) 12 a12_63) 17 c17_10) (va_up g 0 d0_10) 7 (by decide) (show w20_63 ≤ 63 from by omega) (show 0 ≤ (7 : Int) ∧ (7 : Int) ≤ 11 from by omega)) mM_X11_277 mI_X11_waitFor mE_X11_waitFor mN_X11 mC_X11_waitFor (by decide +kernel) 0 (ci := 11) rfl rfl hP hS (fun _ h => h) ⟨Nat.le_of_ble_eq_true rfl, Nat.le_of_ble_eq_true rfl⟩ ⟨Nat.zero_le _, Nat.zero_le _⟩ hl.1 rfl rfl (Nat.le_of_ble_eq_true rfl) dX11_readExpression_132 (fun r_64 v_64 f_64 g_64 H locs hq_64 hP _ hS => ?_)
                  obtain ⟨rfl, rfl, rfl, rfl⟩ := hq_64
                  show W p l e (gRm 3 69) s m args below meth c _ _ 0 0 Q (F0 m 135 ls [])
                  have hP : gWd D (mdT k ad) (va_up (va_up (va_up (va_up (va_up (va_up (va_up (va_up (va_up (va_up v 6 w6_59) 7 w7_59) 8 y8_10) 9 y9_10) 10 y10_10) 11 y11_10) 16 w16_63) 20 (w20_63 + 1)) 21 y21_10) 27 (y27_10 + 1)) (va_up (va_up (va_up f 11 a11_63) 12 a12_63) 17 (u1 c17_10 w20_63 (7 : Int))) (va_up g 0 d0_10) H := ⟨hP.1, (gF_up (V := mdV) (F := mdF) (gF_up (V := mdV) (F := mdF) (gF_up (V := mdV) (F := mdF) (gR_up (V := mdV) (F := mdF) (gR_up (V := mdV) (F := mdF) (gR_up (V := mdV) (F := mdF) (gR_up (V := mdV) (F := mdF) (gR_up (V := mdV) (F := mdF) (gR_up (V := mdV) (F := mdF) (gR_up (V := mdV) (F := mdF) (gR_up (V := mdV) (F := mdF) (gR_up (V := mdV) (F := mdF) (gR_up (V := mdV) (F := mdF) ⟨hok.1, hok.2⟩ 6 (hP.2.1 6)) 7 (hP.2.1 7)) 8 (hP.2.1 8)) 9 (hP.2.1 9)) 10 (hP.2.1 10)) 11 (hP.2.1 11)) 16 (hP.2.1 16)) 20 (hP.2.1 20)) 21 (hP.2.1 21)) 27 (hP.2.1 27)) 11 (hP.2.2 11)) 12 (hP.2.2 12)) 17 (hP.2.2 17))⟩
                  refine lv_aload_n hx hb dX11_readExpression_135 rfl (lv_at hl 1 rfl) ?_
                  refine g_cv (As := []) (rest := []) (n := 0) C hml (n_next l D k A ad hD (va_up (va_up (va_up (va_up (va_up (va_up (va_up (va_up (va_up (va_up v 6 w6_59) 7 w7_59) 8 y8_10) 9 y9_10) 10 y10_10) 11 y11_10) 16 w16_63) 20 (w20_63 + 1)) 21 y21_10) 27 (y27_10 + 1)) (va_up (va_up (va_up f 11 a11_63) 12 a12_63) 17 (u1 c17_10 w20_63 (7 : Int))) (va_up g 0 d0_10) B (show ∀ k, (f 0) k % 256 = B k from hB) (show 0 ≤ y10_10 ∧ y10_10 ≤ (v 3) from by omega)) mM_X11_201 mI_X11_next mE_X11_next mN_X11 mC_X11_next (by decide +kernel) 0 (ci := 11) rfl rfl hP hS (fun _ h => h) ⟨Nat.le_of_ble_eq_true rfl, Nat.le_of_ble_eq_true rfl⟩ ⟨Nat.zero_le _, Nat.zero_le _⟩ hl.1 rfl rfl (Nat.le_of_ble_eq_true rfl) dX11_readExpression_136 (fun r_65 v_65 f_65 g_65 H locs hq_65 hP _ hS => ?_)
                  obtain ⟨w8_65, w9_65, w10_65, w11_65, b0_65, rfl, rfl, rfl, rfl, p0_65⟩ := hq_65
                  show W p l e (gRm 3 69) s m args below meth c _ _ 0 0 Q (F0 m 139 ls [])
                  have hP : gWd D (mdT k ad) (va_up (va_up (va_up (va_up (va_up (va_up (va_up (va_up (va_up (va_up v 6 w6_59) 7 w7_59) 8 w8_65) 9 w9_65) 10 w10_65) 11 w11_65) 16 w16_63) 20 (w20_63 + 1)) 21 y21_10) 27 (y27_10 + 1)) (va_up (va_up (va_up f 11 a11_63) 12 a12_63) 17 (u1 c17_10 w20_63 (7 : Int))) (va_up g 0 b0_65) H := ⟨hP.1, (gF_up (V := mdV) (F := mdF) (gF_up (V := mdV) (F := mdF) (gF_up (V := mdV) (F := mdF) (gR_up (V := mdV) (F := mdF) (gR_up (V := mdV) (F := mdF) (gR_up (V := mdV) (F := mdF) (gR_up (V := mdV) (F := mdF) (gR_up (V := mdV) (F := mdF) (gR_up (V := mdV) (F := mdF) (gR_up (V := mdV) (F := mdF) (gR_up (V := mdV) (F := mdF) (gR_up (V := mdV) (F := mdF) (gR_up (V := mdV) (F := mdF) ⟨hok.1, hok.2⟩ 6 (hP.2.1 6)) 7 (hP.2.1 7)) 8 (hP.2.1 8)) 9 (hP.2.1 9)) 10 (hP.2.1 10)) 11 (hP.2.1 11)) 16 (hP.2.1 16)) 20 (hP.2.1 20)) 21 (hP.2.1 21)) 27 (hP.2.1 27)) 11 (hP.2.2 11)) 12 (hP.2.2 12)) 17 (hP.2.2 17))⟩
                  replace p0_65 : mAt B (v 3) w9_65 w10_65 w8_65 w11_65 (b0_65 0) (run bW B (v 3) y10_10) := p0_65
                  have rw8_65 : 0 ≤ w8_65 ∧ w8_65 ≤ 4 := hP.2.1 8
                  have rw9_65 : 0 ≤ w9_65 ∧ w9_65 ≤ 700 := hP.2.1 9
                  have rw10_65 : 0 ≤ w10_65 ∧ w10_65 ≤ 700 := hP.2.1 10
                  have rw11_65 : 0 ≤ w11_65 ∧ w11_65 ≤ 999999 := hP.2.1 11
                  have hN : mAt B (v 3) w9_65 w10_65 w8_65 w11_65 (b0_65 0) (tX B (v 3) qq) := by have h := p0_65; rw [hM.bh] at h; exact h
                  clear p0_65
                  have hu := tX_up (B := B) (n := (v 3)) (q := qq) (by have h9 := (not_congr (tK_end (B := B) (n := (v 3)) (q := qq))).mp (by omega); omega)
                  refine lv_iconst (v := iI 0) hx hb dX11_readExpression_139 rfl ?_
                  refine lv_istore_n (lv' := [(1, .int (iI 0)), (3, .int (iI 7)), (0, .ref (ad 0)), (2, .int (iI x2))]) hx hb dX11_readExpression_140 rfl hl (by decide) rfl (fun ls hl => ?_)
                  refine lv_goto (tgt := 198) hx hb dX11_readExpression_141 (by decide) ?_
                  refine lv_goto (tgt := 24) hx hb dX11_readExpression_198 (by decide) ?_
                  exact ih_24 0 x2 ((tX B (v 3) qq)) ((7 :: (rlS 7 S1 E1).1)) ((rlS 7 S1 E1).2) ((kk - 1)) w6_59 w7_59 w8_65 w9_65 w10_65 w11_65 w16_63 (w20_63 + 1) y21_10 (y27_10 + 1) a11_63 a12_63 (u1 c17_10 w20_63 (7 : Int)) b0_65 _ _ _ (by omega) (by omega) (by omega) hN (by exact (fun _ => xM_sg hro.1 (by decide) hro.2.2.2.2.2.1 hro.2.2.2.2.2.2 hro.2.1 hR0 hR1 (by omega) (by omega) (by omega) (by omega) hrv.1 hrv.2)) (by exact (fun h => by rw [← hO, show kk = (kk - 1) + 1 by omega]; exact (exF_sg _ (by omega) (by omega)).symm)) (by first | omega | exact hJ5.get) (by first | (intro h; exfalso; omega) | exact hJ6.get) (by omega) hP hS (lv_sub hl [2, 0, 3] rfl)
                · exact g_vret hQ C hr hlocks hP hS dX11_readExpression_121 ⟨w6_59, w7_59, y8_10, y9_10, y10_10, y11_10, y16_10, y20_10, y21_10, (y27_10 + 1), c11_10, c12_10, c17_10, d0_10, rfl, rfl, rfl, rfl, ⟨(w6_59, qq), ⟨rfl, fun _ => by show w7_59 = qq; omega, hM⟩, by rw [← hO, show kk = (kk - 1) + 1 by omega, exF_sg3 _ (by omega) (by omega), show w6_59 = 3 by omega]⟩, (by intro h; exfalso; omega)⟩
          · refine lv_aload_n hx hb dX11_readExpression_39 rfl (lv_at hl 0 rfl) ?_
            refine g_cv (As := []) (rest := []) (n := 0) C hml (n_readFactor l D k A ad hD (va_up (va_up (va_up (va_up (va_up (va_up (va_up (va_up (va_up (va_up v 6 y6_10) 7 y7_10) 8 y8_10) 9 y9_10) 10 y10_10) 11 y11_10) 16 y16_10) 20 y20_10) 21 y21_10) 27 y27_10) (va_up (va_up (va_up f 11 c11_10) 12 c12_10) 17 c17_10) (va_up g 0 d0_10) B qq S1 E1 (show ∀ k, (f 0) k % 256 = B k from hB) (show mAt B (v 3) y9_10 y10_10 y8_10 y11_10 (d0_10 0) qq from hM) (show y6_10 = 0 from by omega) (show xM 0 S1 E1 c17_10 y20_10 c11_10 c12_10 y16_10 y21_10 y27_10 0 from by have h := hJ3.get (by omega); rw [show x1 = 0 by omega] at h; exact h)) mM_X11_264 mI_X11_readFactor mE_X11_readFactor mN_X11 mC_X11_readFactor (by decide +kernel) 0 (ci := 11) rfl rfl hP hS (fun _ h => h) ⟨Nat.le_of_ble_eq_true rfl, Nat.le_of_ble_eq_true rfl⟩ ⟨Nat.zero_le _, Nat.zero_le _⟩ hl.1 rfl rfl (Nat.le_of_ble_eq_true rfl) dX11_readExpression_40 (fun r_66 v_66 f_66 g_66 H locs hq_66 hP _ hS => ?_)
            obtain ⟨z_66, w6_66, w7_66, w8_66, w9_66, w10_66, w11_66, w16_66, w20_66, w21_66, w27_66, a11_66, a12_66, a17_66, b0_66, rfl, rfl, rfl, rfl, p0_66, p1_66⟩ := hq_66
            show W p l e (gRm 3 69) s m args below meth c _ _ 0 0 Q (F0 m 43 ls [.int (iI z_66)])
            have hP : gWd D (mdT k ad) (va_up (va_up (va_up (va_up (va_up (va_up (va_up (va_up (va_up (va_up v 6 w6_66) 7 w7_66) 8 w8_66) 9 w9_66) 10 w10_66) 11 w11_66) 16 w16_66) 20 w20_66) 21 w21_66) 27 w27_66) (va_up (va_up (va_up f 11 a11_66) 12 a12_66) 17 a17_66) (va_up g 0 b0_66) H := ⟨hP.1, (gF_up (V := mdV) (F := mdF) (gF_up (V := mdV) (F := mdF) (gF_up (V := mdV) (F := mdF) (gR_up (V := mdV) (F := mdF) (gR_up (V := mdV) (F := mdF) (gR_up (V := mdV) (F := mdF) (gR_up (V := mdV) (F := mdF) (gR_up (V := mdV) (F := mdF) (gR_up (V := mdV) (F := mdF) (gR_up (V := mdV) (F := mdF) (gR_up (V := mdV) (F := mdF) (gR_up (V := mdV) (F := mdF) (gR_up (V := mdV) (F := mdF) ⟨hok.1, hok.2⟩ 6 (hP.2.1 6)) 7 (hP.2.1 7)) 8 (hP.2.1 8)) 9 (hP.2.1 9)) 10 (hP.2.1 10)) 11 (hP.2.1 11)) 16 (hP.2.1 16)) 20 (hP.2.1 20)) 21 (hP.2.1 21)) 27 (hP.2.1 27)) 11 (hP.2.2 11)) 12 (hP.2.2 12)) 17 (hP.2.2 17))⟩
            replace p0_66 : 0 ≤ z_66 ∧ z_66 ≤ 1 := p0_66
            replace p1_66 : (w6_66 = 0 ∧ ((tK B (v 3) qq) ≠ 256 ∧ (tK B (v 3) qq) ≠ 257) ∧ mAt B (v 3) w9_66 w10_66 w8_66 w11_66 (b0_66 0) (tX B (v 3) qq) ∧ ((z_66 = 1 ∧ ∃ cx vx, xM 0 S1 ((cx, vx) :: E1) a17_66 w20_66 a11_66 a12_66 w16_66 w21_66 w27_66 1 ∧ ∀ k : Nat, exF B (v 3) (k + 1) qq 0 S1 E1 = exF B (v 3) k (tX B (v 3) qq) 1 (rlN S1 ((cx, vx) :: E1)).1 (rlN S1 ((cx, vx) :: E1)).2) ∨ (z_66 = 0 ∧ ∃ Sx, xM 0 Sx E1 a17_66 w20_66 a11_66 a12_66 w16_66 w21_66 w27_66 0 ∧ ∀ k : Nat, exF B (v 3) (k + 1) qq 0 S1 E1 = exF B (v 3) k (tX B (v 3) qq) 0 Sx E1))) ∨ (w6_66 ≠ 0 ∧ w7_66 = qq ∧ mAt B (v 3) w9_66 w10_66 w8_66 w11_66 (b0_66 0) qq ∧ ∀ k : Nat, exF B (v 3) (k + 1) qq 0 S1 E1 = (w6_66, qq, E1)) := p1_66
            have rw6_66 : 0 ≤ w6_66 ∧ w6_66 ≤ 5 := hP.2.1 6
            have rw7_66 : 0 ≤ w7_66 ∧ w7_66 ≤ 700 := hP.2.1 7
            have rw8_66 : 0 ≤ w8_66 ∧ w8_66 ≤ 4 := hP.2.1 8
            have rw9_66 : 0 ≤ w9_66 ∧ w9_66 ≤ 700 := hP.2.1 9
            have rw10_66 : 0 ≤ w10_66 ∧ w10_66 ≤ 700 := hP.2.1 10
            have rw11_66 : 0 ≤ w11_66 ∧ w11_66 ≤ 999999 := hP.2.1 11
            have rw16_66 : 0 ≤ w16_66 ∧ w16_66 ≤ 41 := hP.2.1 16
            have rw20_66 : 0 ≤ w20_66 ∧ w20_66 ≤ 64 := hP.2.1 20
            have rw21_66 : 0 ≤ w21_66 ∧ w21_66 ≤ 9 := hP.2.1 21
            have rw27_66 : 0 ≤ w27_66 ∧ w27_66 ≤ 41 := hP.2.1 27
            have hRF := p1_66
            clear p1_66
            rcases hRF with ⟨hB0, hKK, hN, ⟨hz1, cx, vx, hX2, hEX⟩ | ⟨hz1, Sx, hX2, hEX⟩⟩ | ⟨hB1, hBA, hN, hEX⟩
            · refine lv_istore_n (lv' := [(1, .int (iI z_66)), (0, .ref (ad 0)), (2, .int (iI x2))]) hx hb dX11_readExpression_43 rfl hl (by decide) rfl (fun ls hl => ?_)
              have hu := tX_up (B := B) (n := (v 3)) (q := qq) (by have h9 := (not_congr (tK_end (B := B) (n := (v 3)) (q := qq))).mp (by omega); omega)
              refine lv_iload_n hx hb dX11_readExpression_44 rfl (lv_at hl 0 rfl) ?_
              refine gi_zeq (tgt := 24) hx hb dX11_readExpression_45 (by decide) (by omega) (fun c_67 => ?_) (fun c_67 => ?_)
              · exfalso; omega
              · refine lv_aload_n hx hb dX11_readExpression_48 rfl (lv_at hl 1 rfl) ?_
                refine mdG_bad C hP mF_X11_188 dX11_readExpression_49 ?_
                show W p l e (gRm 3 69) s m args below meth c _ _ 0 0 Q (F0 m 52 ls [.int (iI w6_66)])
                have r_68 : 0 ≤ w6_66 ∧ w6_66 ≤ 5 := hP.2.1 6
                refine gi_zne (tgt := 24) hx hb dX11_readExpression_52 (by decide) (by omega) (fun c_69 => ?_) (fun c_69 => ?_)
                · exfalso; omega
                · refine lv_aload_n hx hb dX11_readExpression_55 rfl (lv_at hl 1 rfl) ?_
                  refine g_cv (As := []) (rest := []) (n := 0) C hml (n_wholes l D k A ad hD (va_up (va_up (va_up (va_up (va_up (va_up (va_up (va_up (va_up (va_up v 6 w6_66) 7 w7_66) 8 w8_66) 9 w9_66) 10 w10_66) 11 w11_66) 16 w16_66) 20 w20_66) 21 w21_66) 27 w27_66) (va_up (va_up (va_up f 11 a11_66) 12 a12_66) 17 a17_66) (va_up g 0 b0_66) S1 ((cx, vx) :: E1) (show wfS S1 from hX2.1.1) (show rep S1 a17_66 w20_66 from hX2.1.2.2.1) (show w21_66 = cNs S1 from hX2.1.2.2.2.2.1) (show repC mp ((cx, vx) :: E1) a11_66 a12_66 w16_66 ∧ (((cx, vx) :: E1).length : Int) + cSg S1 ≤ 40 from ⟨hX2.1.2.2.2.1, by have := xM_rng hX2; omega⟩)) mM_X11_268 mI_X11_wholes mE_X11_wholes mN_X11 mC_X11_wholes (by decide +kernel) 0 (ci := 11) rfl rfl hP hS (fun _ h => h) ⟨Nat.le_of_ble_eq_true rfl, Nat.le_of_ble_eq_true rfl⟩ ⟨Nat.zero_le _, Nat.zero_le _⟩ hl.1 rfl rfl (Nat.le_of_ble_eq_true rfl) dX11_readExpression_56 (fun r_70 v_70 f_70 g_70 H locs hq_70 hP _ hS => ?_)
                  obtain ⟨w16_70, w20_70, w21_70, a11_70, a12_70, rfl, rfl, rfl, rfl, p0_70, p1_70, p2_70⟩ := hq_70
                  show W p l e (gRm 3 69) s m args below meth c _ _ 0 0 Q (F0 m 59 ls [])
                  have hP : gWd D (mdT k ad) (va_up (va_up (va_up (va_up (va_up (va_up (va_up (va_up (va_up (va_up v 6 w6_66) 7 w7_66) 8 w8_66) 9 w9_66) 10 w10_66) 11 w11_66) 16 w16_70) 20 w20_70) 21 w21_70) 27 w27_66) (va_up (va_up (va_up f 11 a11_70) 12 a12_70) 17 a17_66) (va_up g 0 b0_66) H := ⟨hP.1, (gF_up (V := mdV) (F := mdF) (gF_up (V := mdV) (F := mdF) (gF_up (V := mdV) (F := mdF) (gR_up (V := mdV) (F := mdF) (gR_up (V := mdV) (F := mdF) (gR_up (V := mdV) (F := mdF) (gR_up (V := mdV) (F := mdF) (gR_up (V := mdV) (F := mdF) (gR_up (V := mdV) (F := mdF) (gR_up (V := mdV) (F := mdF) (gR_up (V := mdV) (F := mdF) (gR_up (V := mdV) (F := mdF) (gR_up (V := mdV) (F := mdF) ⟨hok.1, hok.2⟩ 6 (hP.2.1 6)) 7 (hP.2.1 7)) 8 (hP.2.1 8)) 9 (hP.2.1 9)) 10 (hP.2.1 10)) 11 (hP.2.1 11)) 16 (hP.2.1 16)) 20 (hP.2.1 20)) 21 (hP.2.1 21)) 27 (hP.2.1 27)) 11 (hP.2.2 11)) 12 (hP.2.2 12)) 17 (hP.2.2 17))⟩
                  replace p0_70 : rep (rlN S1 ((cx, vx) :: E1)).1 a17_66 w20_70 := p0_70
                  replace p1_70 : w21_70 = cNs (rlN S1 ((cx, vx) :: E1)).1 := p1_70
                  replace p2_70 : repC mp (rlN S1 ((cx, vx) :: E1)).2 a11_70 a12_70 w16_70 := p2_70
                  have rw16_70 : 0 ≤ w16_70 ∧ w16_70 ≤ 41 := hP.2.1 16
                  have rw20_70 : 0 ≤ w20_70 ∧ w20_70 ≤ 64 := hP.2.1 20
                  have rw21_70 : 0 ≤ w21_70 ∧ w21_70 ≤ 9 := hP.2.1 21
                  have hX3 := xM_whole hX2 p0_70 p2_70 p1_70
                  refine lv_goto (tgt := 24) hx hb dX11_readExpression_59 (by decide) ?_
                  exact ih_24 z_66 x2 ((tX B (v 3) qq)) ((rlN S1 ((cx, vx) :: E1)).1) ((rlN S1 ((cx, vx) :: E1)).2) ((kk - 1)) w6_66 w7_66 w8_66 w9_66 w10_66 w11_66 w16_70 w20_70 w21_70 w27_66 a11_70 a12_70 a17_66 b0_66 _ _ _ (by omega) (by omega) (by omega) hN (by exact (fun _ => by rw [show z_66 = 1 by omega]; exact hX3)) (by exact (fun h => by rw [← hJ4.get (by omega), show kk = (kk - 1) + 1 by omega, show x1 = 0 by omega, show z_66 = 1 by omega]; exact (hEX _).symm)) (by first | omega | exact hJ5.get) (by first | (intro h; exfalso; omega) | exact hJ6.get) (by omega) hP hS (lv_sub hl [1, 0, 2] rfl)
            · refine lv_istore_n (lv' := [(1, .int (iI z_66)), (0, .ref (ad 0)), (2, .int (iI x2))]) hx hb dX11_readExpression_43 rfl hl (by decide) rfl (fun ls hl => ?_)
              have hu := tX_up (B := B) (n := (v 3)) (q := qq) (by have h9 := (not_congr (tK_end (B := B) (n := (v 3)) (q := qq))).mp (by omega); omega)
              refine lv_iload_n hx hb dX11_readExpression_44 rfl (lv_at hl 0 rfl) ?_
              refine gi_zeq (tgt := 24) hx hb dX11_readExpression_45 (by decide) (by omega) (fun c_71 => ?_) (fun c_71 => ?_)
              · exact ih_24 z_66 x2 ((tX B (v 3) qq)) (Sx) (E1) ((kk - 1)) w6_66 w7_66 w8_66 w9_66 w10_66 w11_66 w16_66 w20_66 w21_66 w27_66 a11_66 a12_66 a17_66 b0_66 _ _ _ (by omega) (by omega) (by omega) hN (by exact (fun _ => by rw [hz1]; exact hX2)) (by exact (fun h => by rw [← hJ4.get (by omega), show kk = (kk - 1) + 1 by omega, show x1 = 0 by omega, hz1]; exact (hEX _).symm)) (by first | omega | exact hJ5.get) (by first | (intro h; exfalso; omega) | exact hJ6.get) (by omega) hP hS (lv_sub hl [1, 0, 2] rfl)
              · exfalso; omega
            · refine lv_istore_n (lv' := [(1, .int (iI z_66)), (0, .ref (ad 0)), (2, .int (iI x2))]) hx hb dX11_readExpression_43 rfl hl (by decide) rfl (fun ls hl => ?_)
              refine lv_iload_n hx hb dX11_readExpression_44 rfl (lv_at hl 0 rfl) ?_
              refine gi_zeq (tgt := 24) hx hb dX11_readExpression_45 (by decide) (by omega) (fun c_72 => ?_) (fun c_72 => ?_)
              · exact ih_24 z_66 x2 (qq) (S1) (E1) (kk) w6_66 w7_66 w8_66 w9_66 w10_66 w11_66 w16_66 w20_66 w21_66 w27_66 a11_66 a12_66 a17_66 b0_66 _ _ _ (by omega) (by omega) (by omega) hN (by exact (fun h => absurd h hB1)) (by exact (fun h => absurd h hB1)) (by first | omega | exact hJ5.get) (by first | (intro h; exfalso; omega) | exact (fun _ => ⟨hBA, by rw [← hJ4.get (by omega), show kk = (kk - 1) + 1 by omega, show x1 = 0 by omega]; exact hEX _⟩)) (by omega) hP hS (lv_sub hl [1, 0, 2] rfl)
              · refine lv_aload_n hx hb dX11_readExpression_48 rfl (lv_at hl 1 rfl) ?_
                refine mdG_bad C hP mF_X11_188 dX11_readExpression_49 ?_
                show W p l e (gRm 3 69) s m args below meth c _ _ 0 0 Q (F0 m 52 ls [.int (iI w6_66)])
                have r_73 : 0 ≤ w6_66 ∧ w6_66 ≤ 5 := hP.2.1 6
                refine gi_zne (tgt := 24) hx hb dX11_readExpression_52 (by decide) (by omega) (fun c_74 => ?_) (fun c_74 => ?_)
                · exact ih_24 z_66 x2 (qq) (S1) (E1) (kk) w6_66 w7_66 w8_66 w9_66 w10_66 w11_66 w16_66 w20_66 w21_66 w27_66 a11_66 a12_66 a17_66 b0_66 _ _ _ (by omega) (by omega) (by omega) hN (by exact (fun h => absurd h hB1)) (by exact (fun h => absurd h hB1)) (by first | omega | exact hJ5.get) (by first | (intro h; exfalso; omega) | exact (fun _ => ⟨hBA, by rw [← hJ4.get (by omega), show kk = (kk - 1) + 1 by omega, show x1 = 0 by omega]; exact hEX _⟩)) (by omega) hP hS (lv_sub hl [1, 0, 2] rfl)
                · exfalso; omega
  exact L_10 8000 0 1 (pp) ([]) ([]) (702) (v 6) (v 7) (v 8) (v 9) (v 10) (v 11) 0 0 0 0 (f 11) (f 12) (f 17) (g 0) _ _ _ (by omega) (by omega) (by omega) hc (fun _ => ⟨⟨trivial, fun h => absurd h (by decide), rfl, rfl, rfl, rfl, by decide, by decide⟩, trivial, rfl⟩) (fun _ => rfl) (by omega) (by omega) (by have := hc.of; omega) hP hS (lv_sub hl [2, 1, 0] rfl)
