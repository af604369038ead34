set_option maxHeartbeats 4000000 in
set_option maxRecDepth 100000 in
theorem e_La_take (l : Launch) (D : va_G) (k : Nat → ClassId) (A : Nat → Prop) (ad : Nat → Nat) (hD : rwD A k ad) (v : gV) (f g : gF) : GM l D k A (rwT k ad) yX4_take cX4_take 2 none 1 64 [.ref (ad 2), .ref (ad 14)] v f g (fun r v1 f1 g1 => r = none ∧ (va_up (va_up (va_up (va_up v 1 (v 7)) 2 (v 8)) 3 (v 9)) 4 (v 10)) = v1 ∧ (va_up (va_up (va_up (va_up (va_up f 1 (gcpy 16 (f 9) (f 1))) 2 (gcpy 40 (f 10) (f 2))) 3 (gcpy 40 (f 11) (f 3))) 4 (gcpy 4 (f 12) (f 4))) 5 (gcpy 4 (f 13) (f 5))) = f1 ∧ g = g1) := by
  refine GM.of (by decide) (Nat.le_of_ble_eq_true rfl) ?_
  intro p e s m args below meth c Q ls hQ C hml hr hlocks hP hl
  have hx := C.1
  have hb := C.2.1
  have hok := hP.2
  have hS : va_S A s.heap s.heap [] := va_S.rf
  have hl : lv_has ls 2 [(0, .ref (ad 2)), (1, .ref (ad 14))] := hl
  have hP : gWd D (rwT k ad) (va_up (va_up (va_up (va_up v 1 (v 1)) 2 (v 2)) 3 (v 3)) 4 (v 4)) (va_up (va_up (va_up (va_up (va_up f 1 (f 1)) 2 (f 2)) 3 (f 3)) 4 (f 4)) 5 (f 5)) g s.heap := by rw [va_id, va_id, va_id, va_id, va_id, va_id, va_id, va_id, va_id]; exact hP
  refine lv_aload_n hx hb dX4_take_0 rfl (lv_at hl 0 rfl) ?_
  refine lv_aload_n hx hb dX4_take_1 rfl (lv_at hl 1 rfl) ?_
  refine rwG_reader_draft_rounds C hP mF_X4_31 dX4_take_2 ?_
  show W p l e (gRm 1 64) s m args below meth c _ _ 0 0 Q (F0 m 5 ls [.int (iI (v 7)), .ref (ad 2)])
  have r_1 : 0 ≤ (v 7) ∧ (v 7) ≤ 4 := hok.1 7
  refine rwP_laws_rounds (v1 := (va_up (va_up (va_up (va_up v 1 (v 7)) 2 (v 2)) 3 (v 3)) 4 (v 4))) C hP hD hS mF_X4_31 (by omega) rfl (Or.inr (gF_up (V := rwV) (F := rwF) (gF_up (V := rwV) (F := rwF) (gF_up (V := rwV) (F := rwF) (gF_up (V := rwV) (F := rwF) (gF_up (V := rwV) (F := rwF) (gR_up (V := rwV) (F := rwF) (gR_up (V := rwV) (F := rwF) (gR_up (V := rwV) (F := rwF) (gR_up (V := rwV) (F := rwF) ⟨hok.1, hok.2⟩ 1 (show 0 ≤ (v 7) ∧ (v 7) ≤ 4 from by omega)) 2 (hP.2.1 2)) 3 (hP.2.1 3)) 4 (hP.2.1 4)) 1 (hP.2.2 1)) 2 (hP.2.2 2)) 3 (hP.2.2 3)) 4 (hP.2.2 4)) 5 (hP.2.2 5))) dX4_take_5 (fun H locs hP hS => ?_)
  refine lv_aload_n hx hb dX4_take_8 rfl (lv_at hl 1 rfl) ?_
  refine rwG_reader_draft_shape C hP mF_X4_9 dX4_take_9 ?_
  refine lv_iconst (v := iI 0) hx hb dX4_take_12 rfl ?_
  refine lv_aload_n hx hb dX4_take_13 rfl (lv_at hl 0 rfl) ?_
  refine rwG_laws_shape C hP mF_X4_9 dX4_take_14 ?_
  refine lv_iconst (v := iI 0) hx hb dX4_take_17 rfl ?_
  refine lv_aload_n hx hb dX4_take_18 rfl (lv_at hl 0 rfl) ?_
  refine rwG_laws_shape C hP mF_X4_9 dX4_take_19 ?_
  refine rwN_laws_shape C hP dX4_take_22 ?_
  refine g_copy (ws' := rwW k ad (va_up (va_up (va_up (va_up v 1 (v 7)) 2 (v 2)) 3 (v 3)) 4 (v 4)) (va_up (va_up (va_up (va_up (va_up f 1 (gcpy 16 (f 9) (f 1))) 2 (f 2)) 3 (f 3)) 4 (f 4)) 5 (f 5)) g) C hml hl.1 hP.1 (hD _ _ _) hS 15 3 rfl rfl mM_X4_53 rfl (by decide) rfl (Nat.le_of_ble_eq_true rfl) (by decide) dX4_take_23 (fun H locs hP2 hS => ?_)
  have hP : gWd D (rwT k ad) (va_up (va_up (va_up (va_up v 1 (v 7)) 2 (v 2)) 3 (v 3)) 4 (v 4)) (va_up (va_up (va_up (va_up (va_up f 1 (gcpy 16 (f 9) (f 1))) 2 (f 2)) 3 (f 3)) 4 (f 4)) 5 (f 5)) g H := ⟨hP2, (gF_up (V := rwV) (F := rwF) (gF_up (V := rwV) (F := rwF) (gF_up (V := rwV) (F := rwF) (gF_up (V := rwV) (F := rwF) (gF_up (V := rwV) (F := rwF) (gR_up (V := rwV) (F := rwF) (gR_up (V := rwV) (F := rwF) (gR_up (V := rwV) (F := rwF) (gR_up (V := rwV) (F := rwF) ⟨hok.1, hok.2⟩ 1 (hP.2.1 1)) 2 (hP.2.1 2)) 3 (hP.2.1 3)) 4 (hP.2.1 4)) 1 (gcpy_rng (hP.2.2 9) (hP.2.2 1))) 2 (hP.2.2 2)) 3 (hP.2.2 3)) 4 (hP.2.2 4)) 5 (hP.2.2 5))⟩
  refine lv_aload_n hx hb dX4_take_26 rfl (lv_at hl 1 rfl) ?_
  refine rwG_reader_draft_item C hP mF_X4_15 dX4_take_27 ?_
  refine lv_iconst (v := iI 0) hx hb dX4_take_30 rfl ?_
  refine lv_aload_n hx hb dX4_take_31 rfl (lv_at hl 0 rfl) ?_
  refine rwG_laws_item C hP mF_X4_15 dX4_take_32 ?_
  refine lv_iconst (v := iI 0) hx hb dX4_take_35 rfl ?_
  refine lv_aload_n hx hb dX4_take_36 rfl (lv_at hl 0 rfl) ?_
  refine rwG_laws_item C hP mF_X4_15 dX4_take_37 ?_
  refine rwN_laws_item C hP dX4_take_40 ?_
  refine g_copy (ws' := rwW k ad (va_up (va_up (va_up (va_up v 1 (v 7)) 2 (v 2)) 3 (v 3)) 4 (v 4)) (va_up (va_up (va_up (va_up (va_up f 1 (gcpy 16 (f 9) (f 1))) 2 (gcpy 40 (f 10) (f 2))) 3 (f 3)) 4 (f 4)) 5 (f 5)) g) C hml hl.1 hP.1 (hD _ _ _) hS 16 4 rfl rfl mM_X4_53 rfl (by decide) rfl (Nat.le_of_ble_eq_true rfl) (by decide) dX4_take_41 (fun H locs hP2 hS => ?_)
  have hP : gWd D (rwT k ad) (va_up (va_up (va_up (va_up v 1 (v 7)) 2 (v 2)) 3 (v 3)) 4 (v 4)) (va_up (va_up (va_up (va_up (va_up f 1 (gcpy 16 (f 9) (f 1))) 2 (gcpy 40 (f 10) (f 2))) 3 (f 3)) 4 (f 4)) 5 (f 5)) g H := ⟨hP2, (gF_up (V := rwV) (F := rwF) (gF_up (V := rwV) (F := rwF) (gF_up (V := rwV) (F := rwF) (gF_up (V := rwV) (F := rwF) (gF_up (V := rwV) (F := rwF) (gR_up (V := rwV) (F := rwF) (gR_up (V := rwV) (F := rwF) (gR_up (V := rwV) (F := rwF) (gR_up (V := rwV) (F := rwF) ⟨hok.1, hok.2⟩ 1 (hP.2.1 1)) 2 (hP.2.1 2)) 3 (hP.2.1 3)) 4 (hP.2.1 4)) 1 (hP.2.2 1)) 2 (gcpy_rng (hP.2.2 10) (hP.2.2 2))) 3 (hP.2.2 3)) 4 (hP.2.2 4)) 5 (hP.2.2 5))⟩
  refine lv_aload_n hx hb dX4_take_44 rfl (lv_at hl 1 rfl) ?_
  refine rwG_reader_draft_number C hP mF_X4_18 dX4_take_45 ?_
  refine lv_iconst (v := iI 0) hx hb dX4_take_48 rfl ?_
  refine lv_aload_n hx hb dX4_take_49 rfl (lv_at hl 0 rfl) ?_
  refine rwG_laws_number C hP mF_X4_18 dX4_take_50 ?_
  refine lv_iconst (v := iI 0) hx hb dX4_take_53 rfl ?_
  refine lv_aload_n hx hb dX4_take_54 rfl (lv_at hl 0 rfl) ?_
  refine rwG_laws_number C hP mF_X4_18 dX4_take_55 ?_
  refine rwN_laws_number C hP dX4_take_58 ?_
  refine g_copy (ws' := rwW k ad (va_up (va_up (va_up (va_up v 1 (v 7)) 2 (v 2)) 3 (v 3)) 4 (v 4)) (va_up (va_up (va_up (va_up (va_up f 1 (gcpy 16 (f 9) (f 1))) 2 (gcpy 40 (f 10) (f 2))) 3 (gcpy 40 (f 11) (f 3))) 4 (f 4)) 5 (f 5)) g) C hml hl.1 hP.1 (hD _ _ _) hS 17 5 rfl rfl mM_X4_53 rfl (by decide) rfl (Nat.le_of_ble_eq_true rfl) (by decide) dX4_take_59 (fun H locs hP2 hS => ?_)
  have hP : gWd D (rwT k ad) (va_up (va_up (va_up (va_up v 1 (v 7)) 2 (v 2)) 3 (v 3)) 4 (v 4)) (va_up (va_up (va_up (va_up (va_up f 1 (gcpy 16 (f 9) (f 1))) 2 (gcpy 40 (f 10) (f 2))) 3 (gcpy 40 (f 11) (f 3))) 4 (f 4)) 5 (f 5)) g H := ⟨hP2, (gF_up (V := rwV) (F := rwF) (gF_up (V := rwV) (F := rwF) (gF_up (V := rwV) (F := rwF) (gF_up (V := rwV) (F := rwF) (gF_up (V := rwV) (F := rwF) (gR_up (V := rwV) (F := rwF) (gR_up (V := rwV) (F := rwF) (gR_up (V := rwV) (F := rwF) (gR_up (V := rwV) (F := rwF) ⟨hok.1, hok.2⟩ 1 (hP.2.1 1)) 2 (hP.2.1 2)) 3 (hP.2.1 3)) 4 (hP.2.1 4)) 1 (hP.2.2 1)) 2 (hP.2.2 2)) 3 (gcpy_rng (hP.2.2 11) (hP.2.2 3))) 4 (hP.2.2 4)) 5 (hP.2.2 5))⟩
  refine lv_aload_n hx hb dX4_take_62 rfl (lv_at hl 0 rfl) ?_
  refine lv_aload_n hx hb dX4_take_63 rfl (lv_at hl 1 rfl) ?_
  refine rwG_reader_draft_items C hP mF_X4_35 dX4_take_64 ?_
  show W p l e (gRm 1 64) s m args below meth c _ _ 0 0 Q (F0 m 67 ls [.int (iI (v 8)), .ref (ad 2)])
  have r_2 : 0 ≤ (v 8) ∧ (v 8) ≤ 40 := hok.1 8
  refine rwP_laws_items (v1 := (va_up (va_up (va_up (va_up v 1 (v 7)) 2 (v 8)) 3 (v 3)) 4 (v 4))) C hP hD hS mF_X4_35 (by omega) rfl (Or.inr (gF_up (V := rwV) (F := rwF) (gF_up (V := rwV) (F := rwF) (gF_up (V := rwV) (F := rwF) (gF_up (V := rwV) (F := rwF) (gF_up (V := rwV) (F := rwF) (gR_up (V := rwV) (F := rwF) (gR_up (V := rwV) (F := rwF) (gR_up (V := rwV) (F := rwF) (gR_up (V := rwV) (F := rwF) ⟨hok.1, hok.2⟩ 1 (hP.2.1 1)) 2 (show 0 ≤ (v 8) ∧ (v 8) ≤ 40 from by omega)) 3 (hP.2.1 3)) 4 (hP.2.1 4)) 1 (hP.2.2 1)) 2 (hP.2.2 2)) 3 (hP.2.2 3)) 4 (hP.2.2 4)) 5 (hP.2.2 5))) dX4_take_67 (fun H locs hP hS => ?_)
  refine lv_aload_n hx hb dX4_take_70 rfl (lv_at hl 1 rfl) ?_
  refine rwG_reader_draft_keyKind C hP mF_X4_21 dX4_take_71 ?_
  refine lv_iconst (v := iI 0) hx hb dX4_take_74 rfl ?_
  refine lv_aload_n hx hb dX4_take_75 rfl (lv_at hl 0 rfl) ?_
  refine rwG_laws_keyKind C hP mF_X4_21 dX4_take_76 ?_
  refine lv_iconst (v := iI 0) hx hb dX4_take_79 rfl ?_
  refine lv_aload_n hx hb dX4_take_80 rfl (lv_at hl 0 rfl) ?_
  refine rwG_laws_keyKind C hP mF_X4_21 dX4_take_81 ?_
  refine rwN_laws_keyKind C hP dX4_take_84 ?_
  refine g_copy (ws' := rwW k ad (va_up (va_up (va_up (va_up v 1 (v 7)) 2 (v 8)) 3 (v 3)) 4 (v 4)) (va_up (va_up (va_up (va_up (va_up f 1 (gcpy 16 (f 9) (f 1))) 2 (gcpy 40 (f 10) (f 2))) 3 (gcpy 40 (f 11) (f 3))) 4 (gcpy 4 (f 12) (f 4))) 5 (f 5)) g) C hml hl.1 hP.1 (hD _ _ _) hS 18 6 rfl rfl mM_X4_53 rfl (by decide) rfl (Nat.le_of_ble_eq_true rfl) (by decide) dX4_take_85 (fun H locs hP2 hS => ?_)
  have hP : gWd D (rwT k ad) (va_up (va_up (va_up (va_up v 1 (v 7)) 2 (v 8)) 3 (v 3)) 4 (v 4)) (va_up (va_up (va_up (va_up (va_up f 1 (gcpy 16 (f 9) (f 1))) 2 (gcpy 40 (f 10) (f 2))) 3 (gcpy 40 (f 11) (f 3))) 4 (gcpy 4 (f 12) (f 4))) 5 (f 5)) g H := ⟨hP2, (gF_up (V := rwV) (F := rwF) (gF_up (V := rwV) (F := rwF) (gF_up (V := rwV) (F := rwF) (gF_up (V := rwV) (F := rwF) (gF_up (V := rwV) (F := rwF) (gR_up (V := rwV) (F := rwF) (gR_up (V := rwV) (F := rwF) (gR_up (V := rwV) (F := rwF) (gR_up (V := rwV) (F := rwF) ⟨hok.1, hok.2⟩ 1 (hP.2.1 1)) 2 (hP.2.1 2)) 3 (hP.2.1 3)) 4 (hP.2.1 4)) 1 (hP.2.2 1)) 2 (hP.2.2 2)) 3 (hP.2.2 3)) 4 (gcpy_rng (hP.2.2 12) (hP.2.2 4))) 5 (hP.2.2 5))⟩
  refine lv_aload_n hx hb dX4_take_88 rfl (lv_at hl 1 rfl) ?_
  refine rwG_reader_draft_keyDown C hP mF_X4_24 dX4_take_89 ?_
  refine lv_iconst (v := iI 0) hx hb dX4_take_92 rfl ?_
  refine lv_aload_n hx hb dX4_take_93 rfl (lv_at hl 0 rfl) ?_
  refine rwG_laws_keyDown C hP mF_X4_24 dX4_take_94 ?_
  refine lv_iconst (v := iI 0) hx hb dX4_take_97 rfl ?_
  refine lv_aload_n hx hb dX4_take_98 rfl (lv_at hl 0 rfl) ?_
  refine rwG_laws_keyDown C hP mF_X4_24 dX4_take_99 ?_
  refine rwN_laws_keyDown C hP dX4_take_102 ?_
  refine g_copy (ws' := rwW k ad (va_up (va_up (va_up (va_up v 1 (v 7)) 2 (v 8)) 3 (v 3)) 4 (v 4)) (va_up (va_up (va_up (va_up (va_up f 1 (gcpy 16 (f 9) (f 1))) 2 (gcpy 40 (f 10) (f 2))) 3 (gcpy 40 (f 11) (f 3))) 4 (gcpy 4 (f 12) (f 4))) 5 (gcpy 4 (f 13) (f 5))) g) C hml hl.1 hP.1 (hD _ _ _) hS 19 7 rfl rfl mM_X4_53 rfl (by decide) rfl (Nat.le_of_ble_eq_true rfl) (by decide) dX4_take_103 (fun H locs hP2 hS => ?_)
  have hP : gWd D (rwT k ad) (va_up (va_up (va_up (va_up v 1 (v 7)) 2 (v 8)) 3 (v 3)) 4 (v 4)) (va_up (va_up (va_up (va_up (va_up f 1 (gcpy 16 (f 9) (f 1))) 2 (gcpy 40 (f 10) (f 2))) 3 (gcpy 40 (f 11) (f 3))) 4 (gcpy 4 (f 12) (f 4))) 5 (gcpy 4 (f 13) (f 5))) g H := ⟨hP2, (gF_up (V := rwV) (F := rwF) (gF_up (V := rwV) (F := rwF) (gF_up (V := rwV) (F := rwF) (gF_up (V := rwV) (F := rwF) (gF_up (V := rwV) (F := rwF) (gR_up (V := rwV) (F := rwF) (gR_up (V := rwV) (F := rwF) (gR_up (V := rwV) (F := rwF) (gR_up (V := rwV) (F := rwF) ⟨hok.1, hok.2⟩ 1 (hP.2.1 1)) 2 (hP.2.1 2)) 3 (hP.2.1 3)) 4 (hP.2.1 4)) 1 (hP.2.2 1)) 2 (hP.2.2 2)) 3 (hP.2.2 3)) 4 (hP.2.2 4)) 5 (gcpy_rng (hP.2.2 13) (hP.2.2 5)))⟩
  refine lv_aload_n hx hb dX4_take_106 rfl (lv_at hl 0 rfl) ?_
  refine lv_aload_n hx hb dX4_take_107 rfl (lv_at hl 1 rfl) ?_
  refine rwG_reader_draft_keys C hP mF_X4_42 dX4_take_108 ?_
  show W p l e (gRm 1 64) s m args below meth c _ _ 0 0 Q (F0 m 111 ls [.int (iI (v 9)), .ref (ad 2)])
  have r_3 : 0 ≤ (v 9) ∧ (v 9) ≤ 4 := hok.1 9
  refine rwP_laws_keys (v1 := (va_up (va_up (va_up (va_up v 1 (v 7)) 2 (v 8)) 3 (v 9)) 4 (v 4))) C hP hD hS mF_X4_42 (by omega) rfl (Or.inr (gF_up (V := rwV) (F := rwF) (gF_up (V := rwV) (F := rwF) (gF_up (V := rwV) (F := rwF) (gF_up (V := rwV) (F := rwF) (gF_up (V := rwV) (F := rwF) (gR_up (V := rwV) (F := rwF) (gR_up (V := rwV) (F := rwF) (gR_up (V := rwV) (F := rwF) (gR_up (V := rwV) (F := rwF) ⟨hok.1, hok.2⟩ 1 (hP.2.1 1)) 2 (hP.2.1 2)) 3 (show 0 ≤ (v 9) ∧ (v 9) ≤ 4 from by omega)) 4 (hP.2.1 4)) 1 (hP.2.2 1)) 2 (hP.2.2 2)) 3 (hP.2.2 3)) 4 (hP.2.2 4)) 5 (hP.2.2 5))) dX4_take_111 (fun H locs hP hS => ?_)
  refine lv_aload_n hx hb dX4_take_114 rfl (lv_at hl 0 rfl) ?_
  refine lv_aload_n hx hb dX4_take_115 rfl (lv_at hl 1 rfl) ?_
  refine rwG_reader_draft_back C hP mF_X4_49 dX4_take_116 ?_
  show W p l e (gRm 1 64) s m args below meth c _ _ 0 0 Q (F0 m 119 ls [.int (iI (v 10)), .ref (ad 2)])
  have r_4 : 0 ≤ (v 10) ∧ (v 10) ≤ 1 := hok.1 10
  refine rwP_laws_back (v1 := (va_up (va_up (va_up (va_up v 1 (v 7)) 2 (v 8)) 3 (v 9)) 4 (v 10))) C hP hD hS mF_X4_49 (by omega) (by omega) rfl (Or.inr (gF_up (V := rwV) (F := rwF) (gF_up (V := rwV) (F := rwF) (gF_up (V := rwV) (F := rwF) (gF_up (V := rwV) (F := rwF) (gF_up (V := rwV) (F := rwF) (gR_up (V := rwV) (F := rwF) (gR_up (V := rwV) (F := rwF) (gR_up (V := rwV) (F := rwF) (gR_up (V := rwV) (F := rwF) ⟨hok.1, hok.2⟩ 1 (hP.2.1 1)) 2 (hP.2.1 2)) 3 (hP.2.1 3)) 4 (show 0 ≤ (v 10) ∧ (v 10) ≤ 1 from by omega)) 1 (hP.2.2 1)) 2 (hP.2.2 2)) 3 (hP.2.2 3)) 4 (hP.2.2 4)) 5 (hP.2.2 5))) dX4_take_119 (fun H locs hP hS => ?_)
  exact g_vret hQ C hr hlocks hP hS dX4_take_122 ⟨rfl, rfl, rfl, rfl⟩
