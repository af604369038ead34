set_option maxHeartbeats 4000000 in
set_option maxRecDepth 100000 in
theorem e_La_readRound (l : Launch) (D : va_G) (k : Nat → ClassId) (A : Nat → Prop) (ad : Nat → Nat) (hD : rwD A k ad) (za : Nat → Nat) (v : gV) (f g : gF) (nn : Int) (pp : Int) (hc : tAt (f 0) nn (f 6) (f 7) (f 8) (v 5) (v 6) pp) (hf : (v 16) = 0) (hk : (tK (f 0) nn pp) ≠ 256 ∧ (tK (f 0) nn pp) ≠ 257) (hd : shOk (v 7) (f 9)) : GE l D k za A (rwT k ad) yX3_readRound cX3_readRound 3 none 4 82 [.ref (ad 9)] v f g (fun r v1 f1 g1 => ∃ (w6 : Int) (w7 : Int) (w16 : Int) (w17 : Int) (a9_ : Int → Int), r = none ∧ (va_up (va_up (va_up (va_up v 6 w6) 7 w7) 16 w16) 17 w17) = v1 ∧ (va_up f 9 a9_) = f1 ∧ g = g1 ∧ (oX (f 0) nn (f 6) (f 7) (f 8) (v 5) (if 4 ≤ (v 7) then ((3 : Int), pp) else rnd (f 0) nn 4 0 (tX (f 0) nn pp)) w16 w17 (v 17) w6) ∧ (w16 = 0 → w7 = (v 7) + 1) ∧ (w16 = 0 → shOk w7 a9_)) := by
  refine GE.of (by decide) (Nat.le_of_ble_eq_true rfl) ?_
  intro p e s m args below meth c Q ls hQ C hml hr hlocks hP hl hE
  have hx := C.1
  have hb := C.2.1
  have hok := hP.2
  have hS : va_S A s.heap s.heap [] := va_S.rf
  have hl : lv_has ls 3 [(0, .ref (ad 9))] := hl
  have hP : gWd D (rwT k ad) (va_up (va_up (va_up (va_up v 6 (v 6)) 7 (v 7)) 16 (v 16)) 17 (v 17)) (va_up f 9 (f 9)) g s.heap := by rw [va_id, va_id, va_id, va_id, va_id]; exact hP
  have r_1 : 0 ≤ (v 7) ∧ (v 7) ≤ 4 := hok.1 7
  have r_2 : 0 ≤ (v 16) ∧ (v 16) ≤ 5 := hok.1 16
  refine lv_aload_n hx hb dX3_readRound_0 rfl (lv_at hl 0 rfl) ?_
  refine rwG_reader_draft C hP mF_X3_21 dX3_readRound_1 ?_
  refine rwG_reader_draft_rounds C hP mF_X3_100 dX3_readRound_4 ?_
  show W p l e (gRm 4 82) s m args below meth c _ _ 0 0 Q (F0 m 7 ls [.int (iI (v 7))])
  refine lv_istore_n (lv' := [(1, .int (iI (v 7))), (0, .ref (ad 9))]) hx hb dX3_readRound_7 rfl hl (by decide) rfl (fun ls hl => ?_)
  refine lv_aload_n hx hb dX3_readRound_8 rfl (lv_at hl 1 rfl) ?_
  refine lv_iload_n hx hb dX3_readRound_9 rfl (lv_at hl 0 rfl) ?_
  refine lv_iconst (v := iI 4) hx hb dX3_readRound_10 rfl ?_
  refine gi_clt (tgt := 18) hx hb dX3_readRound_11 (by decide) (by omega) (by decide) (fun c_3 => ?_) (fun c_3 => ?_)
  · refine lv_iconst (v := iI 0) hx hb dX3_readRound_18 rfl ?_
    refine lv_iconst (v := iI 3) hx hb dX3_readRound_19 rfl ?_
    refine g_cv (As := [.int (iI 0), .int (iI 3)]) (rest := []) (n := 2) C hml (e_La_refuseIf l D k A ad hD (va_up (va_up (va_up (va_up v 6 (v 6)) 7 (v 7)) 16 (v 16)) 17 (v 17)) (va_up f 9 (f 9)) g 0 3 nn pp (by decide) (by decide) (show tAt (f 0) nn (f 6) (f 7) (f 8) (v 5) (v 6) pp from hc) (show 1 ≤ (3 : Int) ∧ (3 : Int) ≤ 5 from by omega)) mM_X3_66 mI_X3_refuseIf mE_X3_refuseIf mN_X3 mC_X3_refuseIf (by decide +kernel) 9 (ci := 3) rfl rfl hP hS (fun _ h => h) ⟨Nat.le_of_ble_eq_true rfl, Nat.le_of_ble_eq_true rfl⟩ ⟨Nat.zero_le _, Nat.zero_le _⟩ hl.1 rfl rfl (Nat.le_of_ble_eq_true rfl) dX3_readRound_20 (fun r_4 v_4 f_4 g_4 H locs hq_4 hP _ hS => ?_)
    obtain ⟨w16_4, w17_4, rfl, rfl, rfl, rfl, p0_4, p1_4⟩ := hq_4
    show W p l e (gRm 4 82) s m args below meth c _ _ 0 0 Q (F0 m 23 ls [])
    have hP : gWd D (rwT k ad) (va_up (va_up (va_up (va_up v 6 (v 6)) 7 (v 7)) 16 w16_4) 17 w17_4) (va_up f 9 (f 9)) g H := ⟨hP.1, (gF_up (V := rwV) (F := rwF) (gR_up (V := rwV) (F := rwF) (gR_up (V := rwV) (F := rwF) (gR_up (V := rwV) (F := rwF) (gR_up (V := rwV) (F := rwF) ⟨hok.1, hok.2⟩ 6 (hP.2.1 6)) 7 (hP.2.1 7)) 16 (hP.2.1 16)) 17 (hP.2.1 17)) 9 (hP.2.2 9))⟩
    replace p0_4 : (0 : Int) = 0 ∨ (v 16) ≠ 0 → w16_4 = (v 16) ∧ w17_4 = (v 17) := p0_4
    replace p1_4 : (0 : Int) ≠ 0 → (v 16) = 0 → w16_4 = (3 : Int) ∧ w17_4 = pp := p1_4
    have rw16_4 : 0 ≤ w16_4 ∧ w16_4 ≤ 5 := hP.2.1 16
    have rw17_4 : (-1) ≤ w17_4 ∧ w17_4 ≤ 700 := hP.2.1 17
    first | replace p0_4 := p0_4 (by omega) | clear p0_4
    first | replace p1_4 := p1_4 (by omega) (by omega) | clear p1_4
    refine lv_aload_n hx hb dX3_readRound_23 rfl (lv_at hl 1 rfl) ?_
    refine g_cv (As := []) (rest := []) (n := 0) C hml (e_La_goOn l D k A ad hD (va_up (va_up (va_up (va_up v 6 (v 6)) 7 (v 7)) 16 w16_4) 17 w17_4) (va_up f 9 (f 9)) g nn pp (show tAt (f 0) nn (f 6) (f 7) (f 8) (v 5) (v 6) pp from hc)) mM_X3_70 mI_X3_goOn mE_X3_goOn mN_X3 mC_X3_goOn (by decide +kernel) 9 (ci := 3) rfl rfl hP hS (fun _ h => h) ⟨Nat.le_of_ble_eq_true rfl, Nat.le_of_ble_eq_true rfl⟩ ⟨Nat.zero_le _, Nat.zero_le _⟩ hl.1 rfl rfl (Nat.le_of_ble_eq_true rfl) dX3_readRound_24 (fun r_5 v_5 f_5 g_5 H locs hq_5 hP _ hS => ?_)
    obtain ⟨z_5, w6_5, rfl, rfl, rfl, rfl, p0_5, p1_5, p2_5, p3_5⟩ := hq_5
    show W p l e (gRm 4 82) s m args below meth c _ _ 0 0 Q (F0 m 27 ls [.int (iI z_5)])
    have hP : gWd D (rwT k ad) (va_up (va_up (va_up (va_up v 6 w6_5) 7 (v 7)) 16 w16_4) 17 w17_4) (va_up f 9 (f 9)) g H := ⟨hP.1, (gF_up (V := rwV) (F := rwF) (gR_up (V := rwV) (F := rwF) (gR_up (V := rwV) (F := rwF) (gR_up (V := rwV) (F := rwF) (gR_up (V := rwV) (F := rwF) ⟨hok.1, hok.2⟩ 6 (hP.2.1 6)) 7 (hP.2.1 7)) 16 (hP.2.1 16)) 17 (hP.2.1 17)) 9 (hP.2.2 9))⟩
    replace p0_5 : 0 ≤ z_5 ∧ z_5 ≤ 1 := p0_5
    replace p1_5 : z_5 = 1 ↔ w16_4 = 0 := p1_5
    replace p2_5 : w16_4 ≠ 0 → w6_5 = (v 6) := p2_5
    replace p3_5 : w16_4 = 0 → (tK (f 0) nn pp) ≠ 256 → (tK (f 0) nn pp) ≠ 257 → tAt (f 0) nn (f 6) (f 7) (f 8) (v 5) w6_5 (tX (f 0) nn pp) := p3_5
    have rw6_5 : 0 ≤ w6_5 ∧ w6_5 ≤ 700 := hP.2.1 6
    first | replace p2_5 := p2_5 (by omega) | clear p2_5
    try have hc2 := p3_5 (by omega) (by omega) (by omega)
    clear p3_5
    refine gi_zne (tgt := 31) hx hb dX3_readRound_27 (by decide) (by omega) (fun c_6 => ?_) (fun c_6 => ?_)
    · have hn_ : (v 7) ≤ 3 ∧ w16_4 = 0 := by omega
      refine lv_iconst (v := iI 0) hx hb dX3_readRound_31 rfl ?_
      refine lv_istore_n (lv' := [(2, .int (iI 0)), (1, .int (iI (v 7))), (0, .ref (ad 9))]) hx hb dX3_readRound_32 rfl hl (by decide) rfl (fun ls hl => ?_)
      have L_7 : ∀ (n : Nat) (x2 : Int) (qq : Int) (y6_7 : Int) (y16_7 : Int) (y17_7 : Int) (c9_7 : Int → Int) (H : Heap) (locs : List Loc) (ls : Array Slot), 4 - x2 < (n : Int) → (0 ≤ x2 ∧ x2 ≤ 4) → (tAt (f 0) nn (f 6) (f 7) (f 8) (v 5) y6_7 qq) → (y16_7 = 0 → y17_7 = (v 17)) → (y16_7 = 0 → rnd (f 0) nn (4 - x2).toNat x2 qq = (rnd (f 0) nn 4 0 (tX (f 0) nn pp))) → (y16_7 ≠ 0 → oX (f 0) nn (f 6) (f 7) (f 8) (v 5) (rnd (f 0) nn 4 0 (tX (f 0) nn pp)) y16_7 y17_7 (v 17) y6_7) → (y16_7 = 0 → shOk (v 7) c9_7 ∧ shPart (v 7) c9_7 x2) → gWd D (rwT k ad) (va_up (va_up (va_up (va_up v 6 y6_7) 7 (v 7)) 16 y16_7) 17 y17_7) (va_up f 9 c9_7) g H → va_S A s.heap H locs → lv_has ls 3 [(0, .ref (ad 9)), (1, .int (iI (v 7))), (2, .int (iI x2))] → W p l e (gRm 4 82) s m args below meth c H locs 0 0 Q (F0 m 33 ls []) := by
        intro n
        induction n with
        | zero =>
          intro x2 qq y6_7 y16_7 y17_7 c9_7 H locs ls hn_7 i7_0 i7_1 i7_2 i7_3 i7_4 i7_5 hP hS hl
          have ry6_7 : 0 ≤ y6_7 ∧ y6_7 ≤ 700 := hP.2.1 6
          have ry16_7 : 0 ≤ y16_7 ∧ y16_7 ≤ 5 := hP.2.1 16
          have ry17_7 : (-1) ≤ y17_7 ∧ y17_7 ≤ 700 := hP.2.1 17
          exfalso; omega
        | succ n ih_33 =>
          intro x2 qq y6_7 y16_7 y17_7 c9_7 H locs ls hn_7 i7_0 i7_1 i7_2 i7_3 i7_4 i7_5 hP hS hl
          have ry6_7 : 0 ≤ y6_7 ∧ y6_7 ≤ 700 := hP.2.1 6
          have ry16_7 : 0 ≤ y16_7 ∧ y16_7 ≤ 5 := hP.2.1 16
          have ry17_7 : (-1) ≤ y17_7 ∧ y17_7 ≤ 700 := hP.2.1 17
          have hJ1 := i7_1
          have hJ2 := i7_2
          have hJ3 := i7_3
          have hJ4 := i7_4
          have hI := i7_5
          have hfk := fk_rng (f 0) nn qq
          refine lv_iload_n hx hb dX3_readRound_33 rfl (lv_at hl 2 rfl) ?_
          refine lv_iconst (v := iI 4) hx hb dX3_readRound_34 rfl ?_
          refine gi_cge (tgt := 131) hx hb dX3_readRound_35 (by decide) (by omega) (by decide) (fun c_8 => ?_) (fun c_8 => ?_)
          · refine lv_aload_n hx hb dX3_readRound_131 rfl (lv_at hl 0 rfl) ?_
            refine rwG_reader_draft C hP mF_X3_21 dX3_readRound_132 ?_
            refine lv_iload_n hx hb dX3_readRound_135 rfl (lv_at hl 1 rfl) ?_
            refine lv_iconst (v := iI 1) hx hb dX3_readRound_136 rfl ?_
            refine gi_add (z := ((v 7) + 1)) hx hb dX3_readRound_137 rfl ?_
            refine rwP_reader_draft_rounds (v1 := (va_up (va_up (va_up (va_up v 6 y6_7) 7 ((v 7) + 1)) 16 y16_7) 17 y17_7)) C hP hD hS mF_X3_100 (by omega) rfl (Or.inr (gF_up (V := rwV) (F := rwF) (gR_up (V := rwV) (F := rwF) (gR_up (V := rwV) (F := rwF) (gR_up (V := rwV) (F := rwF) (gR_up (V := rwV) (F := rwF) ⟨hok.1, hok.2⟩ 6 (hP.2.1 6)) 7 (show 0 ≤ ((v 7) + 1) ∧ ((v 7) + 1) ≤ 4 from by omega)) 16 (hP.2.1 16)) 17 (hP.2.1 17)) 9 (hP.2.2 9))) dX3_readRound_138 (fun H locs hP hS => ?_)
            exact g_vret hQ C hr hlocks hP hS dX3_readRound_141 ⟨y6_7, ((v 7) + 1), y16_7, y17_7, c9_7, rfl, rfl, rfl, rfl, (by first | exact oX_bad (by rw [if_pos (by omega)]) (by decide) (by omega) (by omega) (tAt_eq hc (by omega)) | (rw [if_neg (by omega)]; first | exact hJ4 (by omega) | exact (if h0 : y16_7 = 0 then oX_ok (by rw [← hJ3 h0, show (4 - x2).toNat = 0 by omega]; rfl) h0 (hJ2 h0) hJ1 else hJ4 h0))), (by first | omega | (split <;> omega)), (fun h => by first | (exfalso; omega) | exact shNew (hI (by omega)) (by omega))⟩
          · refine lv_aload_n hx hb dX3_readRound_38 rfl (lv_at hl 0 rfl) ?_
            refine rwG_reader_fault C hP mF_X3_32 dX3_readRound_39 ?_
            show W p l e (gRm 4 82) s m args below meth c _ _ 0 0 Q (F0 m 42 ls [.int (iI y16_7)])
            have r_9 : 0 ≤ y16_7 ∧ y16_7 ≤ 5 := hP.2.1 16
            refine gi_zne (tgt := 131) hx hb dX3_readRound_42 (by decide) (by omega) (fun c_10 => ?_) (fun c_10 => ?_)
            · refine lv_aload_n hx hb dX3_readRound_131 rfl (lv_at hl 0 rfl) ?_
              refine rwG_reader_draft C hP mF_X3_21 dX3_readRound_132 ?_
              refine lv_iload_n hx hb dX3_readRound_135 rfl (lv_at hl 1 rfl) ?_
              refine lv_iconst (v := iI 1) hx hb dX3_readRound_136 rfl ?_
              refine gi_add (z := ((v 7) + 1)) hx hb dX3_readRound_137 rfl ?_
              refine rwP_reader_draft_rounds (v1 := (va_up (va_up (va_up (va_up v 6 y6_7) 7 ((v 7) + 1)) 16 y16_7) 17 y17_7)) C hP hD hS mF_X3_100 (by omega) rfl (Or.inr (gF_up (V := rwV) (F := rwF) (gR_up (V := rwV) (F := rwF) (gR_up (V := rwV) (F := rwF) (gR_up (V := rwV) (F := rwF) (gR_up (V := rwV) (F := rwF) ⟨hok.1, hok.2⟩ 6 (hP.2.1 6)) 7 (show 0 ≤ ((v 7) + 1) ∧ ((v 7) + 1) ≤ 4 from by omega)) 16 (hP.2.1 16)) 17 (hP.2.1 17)) 9 (hP.2.2 9))) dX3_readRound_138 (fun H locs hP hS => ?_)
              exact g_vret hQ C hr hlocks hP hS dX3_readRound_141 ⟨y6_7, ((v 7) + 1), y16_7, y17_7, c9_7, rfl, rfl, rfl, rfl, (by first | exact oX_bad (by rw [if_pos (by omega)]) (by decide) (by omega) (by omega) (tAt_eq hc (by omega)) | (rw [if_neg (by omega)]; first | exact hJ4 (by omega) | exact (if h0 : y16_7 = 0 then oX_ok (by rw [← hJ3 h0, show (4 - x2).toNat = 0 by omega]; rfl) h0 (hJ2 h0) hJ1 else hJ4 h0))), (by first | omega | (split <;> omega)), (fun h => by first | (exfalso; omega) | exact shNew (hI (by omega)) (by omega))⟩
            · refine lv_aload_n hx hb dX3_readRound_45 rfl (lv_at hl 0 rfl) ?_
              refine rwG_reader_tokens C hP mF_X3_12 dX3_readRound_46 ?_
              refine g_cv (As := []) (rest := []) (n := 0) C hml (e_To_kind l D k A ad hD (va_up (va_up (va_up (va_up v 6 y6_7) 7 (v 7)) 16 y16_7) 17 y17_7) (va_up f 9 c9_7) g nn qq (show tAt (f 0) nn (f 6) (f 7) (f 8) (v 5) y6_7 qq from hJ1)) mM_X3_56 mI_X6_kind mE_X6_kind mN_X6 mC_X6_kind (by decide +kernel) 10 (ci := 6) rfl rfl hP hS (fun _ h => h) ⟨Nat.le_of_ble_eq_true rfl, Nat.le_of_ble_eq_true rfl⟩ ⟨Nat.zero_le _, Nat.zero_le _⟩ hl.1 rfl rfl (Nat.le_of_ble_eq_true rfl) dX3_readRound_49 (fun r_11 v_11 f_11 g_11 H locs hq_11 hP _ hS => ?_)
              obtain ⟨z_11, rfl, rfl, rfl, rfl, p0_11, p1_11⟩ := hq_11
              show W p l e (gRm 4 82) s m args below meth c _ _ 0 0 Q (F0 m 52 ls [.int (iI z_11)])
              replace p0_11 : z_11 = (tK (f 0) nn qq) := p0_11
              replace p1_11 : 40 ≤ z_11 ∧ z_11 ≤ 277 := p1_11
              have hz_11 : inR z_11 := (by first | omega | (rw [p0_11]; split <;> omega))
              have hK2 := p0_11
              refine lv_sipush (v := iI 258) hx hb dX3_readRound_52 (by decide) ?_
              refine gi_cne (tgt := 118) hx hb dX3_readRound_55 (by decide) (by omega) (by decide) (fun c_12 => ?_) (fun c_12 => ?_)
              · refine lv_aload_n hx hb dX3_readRound_118 rfl (lv_at hl 0 rfl) ?_
                refine lv_sipush (v := iI 258) hx hb dX3_readRound_119 (by decide) ?_
                refine g_cv (As := [.int (iI 258)]) (rest := []) (n := 1) C hml (e_La_pass l D k A ad hD (va_up (va_up (va_up (va_up v 6 y6_7) 7 (v 7)) 16 y16_7) 17 y17_7) (va_up f 9 c9_7) g 258 nn qq (by decide) (show tAt (f 0) nn (f 6) (f 7) (f 8) (v 5) y6_7 qq from hJ1) (show (258 : Int) ≠ 256 ∧ (258 : Int) ≠ 257 from by omega)) mM_X3_91 mI_X3_pass mE_X3_pass mN_X3 mC_X3_pass (by decide +kernel) 9 (ci := 3) rfl rfl hP hS (fun _ h => h) ⟨Nat.le_of_ble_eq_true rfl, Nat.le_of_ble_eq_true rfl⟩ ⟨Nat.zero_le _, Nat.zero_le _⟩ hl.1 rfl rfl (Nat.le_of_ble_eq_true rfl) dX3_readRound_122 (fun r_13 v_13 f_13 g_13 H locs hq_13 hP _ hS => ?_)
                obtain ⟨w6_13, w16_13, w17_13, rfl, rfl, rfl, rfl, p0_13, p1_13, p2_13, p3_13⟩ := hq_13
                show W p l e (gRm 4 82) s m args below meth c _ _ 0 0 Q (F0 m 125 ls [])
                have hP : gWd D (rwT k ad) (va_up (va_up (va_up (va_up v 6 w6_13) 7 (v 7)) 16 w16_13) 17 w17_13) (va_up f 9 c9_7) g H := ⟨hP.1, (gF_up (V := rwV) (F := rwF) (gR_up (V := rwV) (F := rwF) (gR_up (V := rwV) (F := rwF) (gR_up (V := rwV) (F := rwF) (gR_up (V := rwV) (F := rwF) ⟨hok.1, hok.2⟩ 6 (hP.2.1 6)) 7 (hP.2.1 7)) 16 (hP.2.1 16)) 17 (hP.2.1 17)) 9 (hP.2.2 9))⟩
                replace p0_13 : y16_7 = 0 → (tK (f 0) nn qq) = (258 : Int) → w16_13 = 0 ∧ w17_13 = y17_7 := p0_13
                replace p1_13 : y16_7 = 0 → (tK (f 0) nn qq) ≠ (258 : Int) → w16_13 = (fk (f 0) nn qq) ∧ w17_13 = qq ∧ w6_13 = y6_7 := p1_13
                replace p2_13 : y16_7 ≠ 0 → w16_13 = y16_7 ∧ w17_13 = y17_7 ∧ w6_13 = y6_7 := p2_13
                replace p3_13 : y16_7 = 0 → (tK (f 0) nn qq) = (258 : Int) → tAt (f 0) nn (f 6) (f 7) (f 8) (v 5) w6_13 (tX (f 0) nn qq) := p3_13
                have rw6_13 : 0 ≤ w6_13 ∧ w6_13 ≤ 700 := hP.2.1 6
                have rw16_13 : 0 ≤ w16_13 ∧ w16_13 ≤ 5 := hP.2.1 16
                have rw17_13 : (-1) ≤ w17_13 ∧ w17_13 ≤ 700 := hP.2.1 17
                first | replace p0_13 := p0_13 (by omega) (by omega) | clear p0_13
                first | replace p1_13 := p1_13 (by omega) (by omega) | clear p1_13
                first | replace p2_13 := p2_13 (by omega) | clear p2_13
                try have hP3 := p3_13 (by omega) (by omega)
                clear p3_13
                refine lv_iinc (v := iI (x2 + 1)) (lv' := [(2, .int (iI (x2 + 1))), (0, .ref (ad 9)), (1, .int (iI (v 7)))]) hx hb dX3_readRound_125 hl (k := 2) rfl (by show iI _ + iI 1 = _; rw [iI_add]) (by decide) rfl (fun ls hl => ?_)
                refine lv_goto (tgt := 33) hx hb dX3_readRound_128 (by decide) ?_
                exact ih_33 (x2 + 1) (qq) w6_13 w16_13 w17_13 c9_7 _ _ _ (by omega) (by omega) (by first | exact hP3 | exact tAt_eq hJ1 (by omega)) (by omega) (by first | (intro h; exfalso; omega) | exact fun h => (by rw [← hJ3 (by omega), show (4 - x2).toNat = (4 - (x2 + 1)).toNat + 1 by omega]; exact (rnd_c (by omega) (by omega)).symm)) (by first | (intro h; exfalso; omega) | exact fun h => oX_bad (by rw [← hJ3 (by omega), show (4 - x2).toNat = (4 - (x2 + 1)).toNat + 1 by omega]; exact rnd_a (by omega)) (by omega) (by omega) (by omega) (tAt_eq hJ1 (by omega)) | exact fun h => oX_bad (by rw [← hJ3 (by omega), show (4 - x2).toNat = (4 - (x2 + 1)).toNat + 1 by omega]; exact rnd_b (by omega) (by omega)) (by decide) (by omega) (by omega) (tAt_eq hJ1 (by omega))) (fun h => by first | (exfalso; omega) | exact shBack (hI (by omega)) (by omega) (by omega) (by omega)) hP hS (lv_sub hl [1, 2, 0] rfl)
              · refine lv_aload_n hx hb dX3_readRound_58 rfl (lv_at hl 0 rfl) ?_
                refine lv_aload_n hx hb dX3_readRound_59 rfl (lv_at hl 0 rfl) ?_
                refine rwG_reader_tokens C hP mF_X3_12 dX3_readRound_60 ?_
                refine g_cv (As := []) (rest := [.ref (ad 9)]) (n := 0) C hml (e_To_value l D k A ad hD (va_up (va_up (va_up (va_up v 6 y6_7) 7 (v 7)) 16 y16_7) 17 y17_7) (va_up f 9 c9_7) g nn qq (show tAt (f 0) nn (f 6) (f 7) (f 8) (v 5) y6_7 qq from hJ1)) mM_X3_103 mI_X6_value mE_X6_value mN_X6 mC_X6_value (by decide +kernel) 10 (ci := 6) rfl rfl hP hS (fun _ h => h) ⟨Nat.le_of_ble_eq_true rfl, Nat.le_of_ble_eq_true rfl⟩ ⟨Nat.zero_le _, Nat.zero_le _⟩ hl.1 rfl rfl (Nat.le_of_ble_eq_true rfl) dX3_readRound_63 (fun r_14 v_14 f_14 g_14 H locs hq_14 hP _ hS => ?_)
                obtain ⟨z_14, rfl, rfl, rfl, rfl, p0_14, p1_14⟩ := hq_14
                show W p l e (gRm 4 82) s m args below meth c _ _ 0 0 Q (F0 m 66 ls [.int (iI z_14), .ref (ad 9)])
                replace p0_14 : z_14 = (tV (f 0) nn qq) := p0_14
                replace p1_14 : 0 ≤ z_14 ∧ z_14 ≤ 999999 := p1_14
                have hz_14 : inR z_14 := (by first | omega | (rw [p0_14]; split <;> omega))
                refine va_getsN hx hb hE.p0 hS C.2.2.2.1 (va_Nw.use rfl hE.p8) (fun _ h => h) dX3_readRound_66 ?_
                refine lv_iload_n hx hb dX3_readRound_69 rfl (lv_at hl 2 rfl) ?_
                refine va_ti (v := .int (iI (gElo (x2).toNat))) hx hb hE.p1 hS (iI_in (by omega) (by omega) (by decide)) (by show Value.int (iI (gElo _)) = _; rw [gE_cl (by omega) (by omega)]) dX3_readRound_70 ?_
                show W p l e (gRm 4 82) s m args below meth c _ _ 0 0 Q (F0 m 71 ls [.int (iI (gElo (x2).toNat)), .int (iI z_14), .ref (ad 9)])
                have r_15 : 0 ≤ (gElo (x2).toNat) ∧ (gElo (x2).toNat) ≤ 999 := gElo_r _
                refine gi_clt (tgt := 89) hx hb dX3_readRound_71 (by decide) (by omega) (by omega) (fun c_16 => ?_) (fun c_16 => ?_)
                · refine lv_iconst (v := iI 1) hx hb dX3_readRound_89 rfl ?_
                  refine lv_goto (tgt := 94) hx hb dX3_readRound_90 (by decide) ?_
                  refine lv_iconst (v := iI 4) hx hb dX3_readRound_94 rfl ?_
                  refine g_cv (As := [.int (iI 1), .int (iI 4)]) (rest := []) (n := 2) C hml (e_La_refuseIf l D k A ad hD (va_up (va_up (va_up (va_up v 6 y6_7) 7 (v 7)) 16 y16_7) 17 y17_7) (va_up f 9 c9_7) g 1 4 nn qq (by decide) (by decide) (show tAt (f 0) nn (f 6) (f 7) (f 8) (v 5) y6_7 qq from hJ1) (show 1 ≤ (4 : Int) ∧ (4 : Int) ≤ 5 from by omega)) mM_X3_66 mI_X3_refuseIf mE_X3_refuseIf mN_X3 mC_X3_refuseIf (by decide +kernel) 9 (ci := 3) rfl rfl hP hS (fun _ h => h) ⟨Nat.le_of_ble_eq_true rfl, Nat.le_of_ble_eq_true rfl⟩ ⟨Nat.zero_le _, Nat.zero_le _⟩ hl.1 rfl rfl (Nat.le_of_ble_eq_true rfl) dX3_readRound_95 (fun r_17 v_17 f_17 g_17 H locs hq_17 hP _ hS => ?_)
                  obtain ⟨w16_17, w17_17, rfl, rfl, rfl, rfl, p0_17, p1_17⟩ := hq_17
                  show W p l e (gRm 4 82) s m args below meth c _ _ 0 0 Q (F0 m 98 ls [])
                  have hP : gWd D (rwT k ad) (va_up (va_up (va_up (va_up v 6 y6_7) 7 (v 7)) 16 w16_17) 17 w17_17) (va_up f 9 c9_7) g H := ⟨hP.1, (gF_up (V := rwV) (F := rwF) (gR_up (V := rwV) (F := rwF) (gR_up (V := rwV) (F := rwF) (gR_up (V := rwV) (F := rwF) (gR_up (V := rwV) (F := rwF) ⟨hok.1, hok.2⟩ 6 (hP.2.1 6)) 7 (hP.2.1 7)) 16 (hP.2.1 16)) 17 (hP.2.1 17)) 9 (hP.2.2 9))⟩
                  replace p0_17 : (1 : Int) = 0 ∨ y16_7 ≠ 0 → w16_17 = y16_7 ∧ w17_17 = y17_7 := p0_17
                  replace p1_17 : (1 : Int) ≠ 0 → y16_7 = 0 → w16_17 = (4 : Int) ∧ w17_17 = qq := p1_17
                  have rw16_17 : 0 ≤ w16_17 ∧ w16_17 ≤ 5 := hP.2.1 16
                  have rw17_17 : (-1) ≤ w17_17 ∧ w17_17 ≤ 700 := hP.2.1 17
                  first | replace p0_17 := p0_17 (by omega) | clear p0_17
                  first | replace p1_17 := p1_17 (by omega) (by omega) | clear p1_17
                  refine lv_aload_n hx hb dX3_readRound_98 rfl (lv_at hl 0 rfl) ?_
                  refine rwG_reader_draft C hP mF_X3_21 dX3_readRound_99 ?_
                  refine rwG_reader_draft_shape C hP mF_X3_113 dX3_readRound_102 ?_
                  refine lv_iload_n hx hb dX3_readRound_105 rfl (lv_at hl 1 rfl) ?_
                  refine lv_iconst (v := iI 4) hx hb dX3_readRound_106 rfl ?_
                  refine gi_mul (z := ((v 7) * 4)) hx hb dX3_readRound_107 rfl ?_
                  refine lv_iload_n hx hb dX3_readRound_108 rfl (lv_at hl 2 rfl) ?_
                  refine gi_add (z := (((v 7) * 4) + x2)) hx hb dX3_readRound_109 rfl ?_
                  refine lv_aload_n hx hb dX3_readRound_110 rfl (lv_at hl 0 rfl) ?_
                  refine rwG_reader_tokens C hP mF_X3_12 dX3_readRound_111 ?_
                  refine g_cv (As := []) (rest := [.int (iI (((v 7) * 4) + x2)), .ref (ad 15)]) (n := 0) C hml (e_To_value l D k A ad hD (va_up (va_up (va_up (va_up v 6 y6_7) 7 (v 7)) 16 w16_17) 17 w17_17) (va_up f 9 c9_7) g nn qq (show tAt (f 0) nn (f 6) (f 7) (f 8) (v 5) y6_7 qq from hJ1)) mM_X3_103 mI_X6_value mE_X6_value mN_X6 mC_X6_value (by decide +kernel) 10 (ci := 6) rfl rfl hP hS (fun _ h => h) ⟨Nat.le_of_ble_eq_true rfl, Nat.le_of_ble_eq_true rfl⟩ ⟨Nat.zero_le _, Nat.zero_le _⟩ hl.1 rfl rfl (Nat.le_of_ble_eq_true rfl) dX3_readRound_114 (fun r_18 v_18 f_18 g_18 H locs hq_18 hP _ hS => ?_)
                  obtain ⟨z_18, rfl, rfl, rfl, rfl, p0_18, p1_18⟩ := hq_18
                  show W p l e (gRm 4 82) s m args below meth c _ _ 0 0 Q (F0 m 117 ls [.int (iI z_18), .int (iI (((v 7) * 4) + x2)), .ref (ad 15)])
                  replace p0_18 : z_18 = (tV (f 0) nn qq) := p0_18
                  replace p1_18 : 0 ≤ z_18 ∧ z_18 ≤ 999999 := p1_18
                  have hz_18 : inR z_18 := (by first | omega | (rw [p0_18]; split <;> omega))
                  refine rwS_reader_draft_shape (f1 := (va_up f 9 (u1 c9_7 (((v 7) * 4) + x2) z_18))) C hP hD hS (by omega) (by omega) (by omega) rfl (Or.inr (gF_up (V := rwV) (F := rwF) (gR_up (V := rwV) (F := rwF) (gR_up (V := rwV) (F := rwF) (gR_up (V := rwV) (F := rwF) (gR_up (V := rwV) (F := rwF) ⟨hok.1, hok.2⟩ 6 (hP.2.1 6)) 7 (hP.2.1 7)) 16 (hP.2.1 16)) 17 (hP.2.1 17)) 9 (u1_rng (hP.2.2 9) (show 0 ≤ z_18 ∧ z_18 ≤ 999999 from (by omega))))) dX3_readRound_117 (fun H locs hP hS => ?_)
                  refine lv_aload_n hx hb dX3_readRound_118 rfl (lv_at hl 0 rfl) ?_
                  refine lv_sipush (v := iI 258) hx hb dX3_readRound_119 (by decide) ?_
                  refine g_cv (As := [.int (iI 258)]) (rest := []) (n := 1) C hml (e_La_pass l D k A ad hD (va_up (va_up (va_up (va_up v 6 y6_7) 7 (v 7)) 16 w16_17) 17 w17_17) (va_up f 9 (u1 c9_7 (((v 7) * 4) + x2) z_18)) g 258 nn qq (by decide) (show tAt (f 0) nn (f 6) (f 7) (f 8) (v 5) y6_7 qq from hJ1) (show (258 : Int) ≠ 256 ∧ (258 : Int) ≠ 257 from by omega)) mM_X3_91 mI_X3_pass mE_X3_pass mN_X3 mC_X3_pass (by decide +kernel) 9 (ci := 3) rfl rfl hP hS (fun _ h => h) ⟨Nat.le_of_ble_eq_true rfl, Nat.le_of_ble_eq_true rfl⟩ ⟨Nat.zero_le _, Nat.zero_le _⟩ hl.1 rfl rfl (Nat.le_of_ble_eq_true rfl) dX3_readRound_122 (fun r_19 v_19 f_19 g_19 H locs hq_19 hP _ hS => ?_)
                  obtain ⟨w6_19, w16_19, w17_19, rfl, rfl, rfl, rfl, p0_19, p1_19, p2_19, p3_19⟩ := hq_19
                  show W p l e (gRm 4 82) s m args below meth c _ _ 0 0 Q (F0 m 125 ls [])
                  have hP : gWd D (rwT k ad) (va_up (va_up (va_up (va_up v 6 w6_19) 7 (v 7)) 16 w16_19) 17 w17_19) (va_up f 9 (u1 c9_7 (((v 7) * 4) + x2) z_18)) g H := ⟨hP.1, (gF_up (V := rwV) (F := rwF) (gR_up (V := rwV) (F := rwF) (gR_up (V := rwV) (F := rwF) (gR_up (V := rwV) (F := rwF) (gR_up (V := rwV) (F := rwF) ⟨hok.1, hok.2⟩ 6 (hP.2.1 6)) 7 (hP.2.1 7)) 16 (hP.2.1 16)) 17 (hP.2.1 17)) 9 (hP.2.2 9))⟩
                  replace p0_19 : w16_17 = 0 → (tK (f 0) nn qq) = (258 : Int) → w16_19 = 0 ∧ w17_19 = w17_17 := p0_19
                  replace p1_19 : w16_17 = 0 → (tK (f 0) nn qq) ≠ (258 : Int) → w16_19 = (fk (f 0) nn qq) ∧ w17_19 = qq ∧ w6_19 = y6_7 := p1_19
                  replace p2_19 : w16_17 ≠ 0 → w16_19 = w16_17 ∧ w17_19 = w17_17 ∧ w6_19 = y6_7 := p2_19
                  replace p3_19 : w16_17 = 0 → (tK (f 0) nn qq) = (258 : Int) → tAt (f 0) nn (f 6) (f 7) (f 8) (v 5) w6_19 (tX (f 0) nn qq) := p3_19
                  have rw6_19 : 0 ≤ w6_19 ∧ w6_19 ≤ 700 := hP.2.1 6
                  have rw16_19 : 0 ≤ w16_19 ∧ w16_19 ≤ 5 := hP.2.1 16
                  have rw17_19 : (-1) ≤ w17_19 ∧ w17_19 ≤ 700 := hP.2.1 17
                  first | replace p0_19 := p0_19 (by omega) (by omega) | clear p0_19
                  first | replace p1_19 := p1_19 (by omega) (by omega) | clear p1_19
                  first | replace p2_19 := p2_19 (by omega) | clear p2_19
                  try have hP3 := p3_19 (by omega) (by omega)
                  clear p3_19
                  refine lv_iinc (v := iI (x2 + 1)) (lv' := [(2, .int (iI (x2 + 1))), (0, .ref (ad 9)), (1, .int (iI (v 7)))]) hx hb dX3_readRound_125 hl (k := 2) rfl (by show iI _ + iI 1 = _; rw [iI_add]) (by decide) rfl (fun ls hl => ?_)
                  refine lv_goto (tgt := 33) hx hb dX3_readRound_128 (by decide) ?_
                  exact ih_33 (x2 + 1) (qq) w6_19 w16_19 w17_19 (u1 c9_7 (((v 7) * 4) + x2) z_18) _ _ _ (by omega) (by omega) (by first | exact hP3 | exact tAt_eq hJ1 (by omega)) (by omega) (by first | (intro h; exfalso; omega) | exact fun h => (by rw [← hJ3 (by omega), show (4 - x2).toNat = (4 - (x2 + 1)).toNat + 1 by omega]; exact (rnd_c (by omega) (by omega)).symm)) (by first | (intro h; exfalso; omega) | exact fun h => oX_bad (by rw [← hJ3 (by omega), show (4 - x2).toNat = (4 - (x2 + 1)).toNat + 1 by omega]; exact rnd_a (by omega)) (by omega) (by omega) (by omega) (tAt_eq hJ1 (by omega)) | exact fun h => oX_bad (by rw [← hJ3 (by omega), show (4 - x2).toNat = (4 - (x2 + 1)).toNat + 1 by omega]; exact rnd_b (by omega) (by omega)) (by decide) (by omega) (by omega) (tAt_eq hJ1 (by omega))) (fun h => by first | (exfalso; omega) | exact shBack (hI (by omega)) (by omega) (by omega) (by omega)) hP hS (lv_sub hl [1, 2, 0] rfl)
                · refine lv_aload_n hx hb dX3_readRound_74 rfl (lv_at hl 0 rfl) ?_
                  refine rwG_reader_tokens C hP mF_X3_12 dX3_readRound_75 ?_
                  refine g_cv (As := []) (rest := [.ref (ad 9)]) (n := 0) C hml (e_To_value l D k A ad hD (va_up (va_up (va_up (va_up v 6 y6_7) 7 (v 7)) 16 y16_7) 17 y17_7) (va_up f 9 c9_7) g nn qq (show tAt (f 0) nn (f 6) (f 7) (f 8) (v 5) y6_7 qq from hJ1)) mM_X3_103 mI_X6_value mE_X6_value mN_X6 mC_X6_value (by decide +kernel) 10 (ci := 6) rfl rfl hP hS (fun _ h => h) ⟨Nat.le_of_ble_eq_true rfl, Nat.le_of_ble_eq_true rfl⟩ ⟨Nat.zero_le _, Nat.zero_le _⟩ hl.1 rfl rfl (Nat.le_of_ble_eq_true rfl) dX3_readRound_78 (fun r_20 v_20 f_20 g_20 H locs hq_20 hP _ hS => ?_)
                  obtain ⟨z_20, rfl, rfl, rfl, rfl, p0_20, p1_20⟩ := hq_20
                  show W p l e (gRm 4 82) s m args below meth c _ _ 0 0 Q (F0 m 81 ls [.int (iI z_20), .ref (ad 9)])
                  replace p0_20 : z_20 = (tV (f 0) nn qq) := p0_20
                  replace p1_20 : 0 ≤ z_20 ∧ z_20 ≤ 999999 := p1_20
                  have hz_20 : inR z_20 := (by first | omega | (rw [p0_20]; split <;> omega))
                  refine va_getsN hx hb hE.p2 hS C.2.2.2.1 (va_Nw.use rfl hE.p9) (fun _ h => h) dX3_readRound_81 ?_
                  refine lv_iload_n hx hb dX3_readRound_84 rfl (lv_at hl 2 rfl) ?_
                  refine va_ti (v := .int (iI (gEhi (x2).toNat))) hx hb hE.p3 hS (iI_in (by omega) (by omega) (by decide)) (by show Value.int (iI (gEhi _)) = _; rw [gE_cl (by omega) (by omega)]) dX3_readRound_85 ?_
                  show W p l e (gRm 4 82) s m args below meth c _ _ 0 0 Q (F0 m 86 ls [.int (iI (gEhi (x2).toNat)), .int (iI z_20), .ref (ad 9)])
                  have r_21 : 0 ≤ (gEhi (x2).toNat) ∧ (gEhi (x2).toNat) ≤ 999 := gEhi_r _
                  refine gi_cle (tgt := 93) hx hb dX3_readRound_86 (by decide) (by omega) (by omega) (fun c_22 => ?_) (fun c_22 => ?_)
                  · refine lv_iconst (v := iI 0) hx hb dX3_readRound_93 rfl ?_
                    refine lv_iconst (v := iI 4) hx hb dX3_readRound_94 rfl ?_
                    refine g_cv (As := [.int (iI 0), .int (iI 4)]) (rest := []) (n := 2) C hml (e_La_refuseIf l D k A ad hD (va_up (va_up (va_up (va_up v 6 y6_7) 7 (v 7)) 16 y16_7) 17 y17_7) (va_up f 9 c9_7) g 0 4 nn qq (by decide) (by decide) (show tAt (f 0) nn (f 6) (f 7) (f 8) (v 5) y6_7 qq from hJ1) (show 1 ≤ (4 : Int) ∧ (4 : Int) ≤ 5 from by omega)) mM_X3_66 mI_X3_refuseIf mE_X3_refuseIf mN_X3 mC_X3_refuseIf (by decide +kernel) 9 (ci := 3) rfl rfl hP hS (fun _ h => h) ⟨Nat.le_of_ble_eq_true rfl, Nat.le_of_ble_eq_true rfl⟩ ⟨Nat.zero_le _, Nat.zero_le _⟩ hl.1 rfl rfl (Nat.le_of_ble_eq_true rfl) dX3_readRound_95 (fun r_23 v_23 f_23 g_23 H locs hq_23 hP _ hS => ?_)
                    obtain ⟨w16_23, w17_23, rfl, rfl, rfl, rfl, p0_23, p1_23⟩ := hq_23
                    show W p l e (gRm 4 82) s m args below meth c _ _ 0 0 Q (F0 m 98 ls [])
                    have hP : gWd D (rwT k ad) (va_up (va_up (va_up (va_up v 6 y6_7) 7 (v 7)) 16 w16_23) 17 w17_23) (va_up f 9 c9_7) g H := ⟨hP.1, (gF_up (V := rwV) (F := rwF) (gR_up (V := rwV) (F := rwF) (gR_up (V := rwV) (F := rwF) (gR_up (V := rwV) (F := rwF) (gR_up (V := rwV) (F := rwF) ⟨hok.1, hok.2⟩ 6 (hP.2.1 6)) 7 (hP.2.1 7)) 16 (hP.2.1 16)) 17 (hP.2.1 17)) 9 (hP.2.2 9))⟩
                    replace p0_23 : (0 : Int) = 0 ∨ y16_7 ≠ 0 → w16_23 = y16_7 ∧ w17_23 = y17_7 := p0_23
                    replace p1_23 : (0 : Int) ≠ 0 → y16_7 = 0 → w16_23 = (4 : Int) ∧ w17_23 = qq := p1_23
                    have rw16_23 : 0 ≤ w16_23 ∧ w16_23 ≤ 5 := hP.2.1 16
                    have rw17_23 : (-1) ≤ w17_23 ∧ w17_23 ≤ 700 := hP.2.1 17
                    first | replace p0_23 := p0_23 (by omega) | clear p0_23
                    first | replace p1_23 := p1_23 (by omega) (by omega) | clear p1_23
                    refine lv_aload_n hx hb dX3_readRound_98 rfl (lv_at hl 0 rfl) ?_
                    refine rwG_reader_draft C hP mF_X3_21 dX3_readRound_99 ?_
                    refine rwG_reader_draft_shape C hP mF_X3_113 dX3_readRound_102 ?_
                    refine lv_iload_n hx hb dX3_readRound_105 rfl (lv_at hl 1 rfl) ?_
                    refine lv_iconst (v := iI 4) hx hb dX3_readRound_106 rfl ?_
                    refine gi_mul (z := ((v 7) * 4)) hx hb dX3_readRound_107 rfl ?_
                    refine lv_iload_n hx hb dX3_readRound_108 rfl (lv_at hl 2 rfl) ?_
                    refine gi_add (z := (((v 7) * 4) + x2)) hx hb dX3_readRound_109 rfl ?_
                    refine lv_aload_n hx hb dX3_readRound_110 rfl (lv_at hl 0 rfl) ?_
                    refine rwG_reader_tokens C hP mF_X3_12 dX3_readRound_111 ?_
                    refine g_cv (As := []) (rest := [.int (iI (((v 7) * 4) + x2)), .ref (ad 15)]) (n := 0) C hml (e_To_value l D k A ad hD (va_up (va_up (va_up (va_up v 6 y6_7) 7 (v 7)) 16 w16_23) 17 w17_23) (va_up f 9 c9_7) g nn qq (show tAt (f 0) nn (f 6) (f 7) (f 8) (v 5) y6_7 qq from hJ1)) mM_X3_103 mI_X6_value mE_X6_value mN_X6 mC_X6_value (by decide +kernel) 10 (ci := 6) rfl rfl hP hS (fun _ h => h) ⟨Nat.le_of_ble_eq_true rfl, Nat.le_of_ble_eq_true rfl⟩ ⟨Nat.zero_le _, Nat.zero_le _⟩ hl.1 rfl rfl (Nat.le_of_ble_eq_true rfl) dX3_readRound_114 (fun r_24 v_24 f_24 g_24 H locs hq_24 hP _ hS => ?_)
                    obtain ⟨z_24, rfl, rfl, rfl, rfl, p0_24, p1_24⟩ := hq_24
                    show W p l e (gRm 4 82) s m args below meth c _ _ 0 0 Q (F0 m 117 ls [.int (iI z_24), .int (iI (((v 7) * 4) + x2)), .ref (ad 15)])
                    replace p0_24 : z_24 = (tV (f 0) nn qq) := p0_24
                    replace p1_24 : 0 ≤ z_24 ∧ z_24 ≤ 999999 := p1_24
                    have hz_24 : inR z_24 := (by first | omega | (rw [p0_24]; split <;> omega))
                    refine rwS_reader_draft_shape (f1 := (va_up f 9 (u1 c9_7 (((v 7) * 4) + x2) z_24))) C hP hD hS (by omega) (by omega) (by omega) rfl (Or.inr (gF_up (V := rwV) (F := rwF) (gR_up (V := rwV) (F := rwF) (gR_up (V := rwV) (F := rwF) (gR_up (V := rwV) (F := rwF) (gR_up (V := rwV) (F := rwF) ⟨hok.1, hok.2⟩ 6 (hP.2.1 6)) 7 (hP.2.1 7)) 16 (hP.2.1 16)) 17 (hP.2.1 17)) 9 (u1_rng (hP.2.2 9) (show 0 ≤ z_24 ∧ z_24 ≤ 999999 from (by omega))))) dX3_readRound_117 (fun H locs hP hS => ?_)
                    refine lv_aload_n hx hb dX3_readRound_118 rfl (lv_at hl 0 rfl) ?_
                    refine lv_sipush (v := iI 258) hx hb dX3_readRound_119 (by decide) ?_
                    refine g_cv (As := [.int (iI 258)]) (rest := []) (n := 1) C hml (e_La_pass l D k A ad hD (va_up (va_up (va_up (va_up v 6 y6_7) 7 (v 7)) 16 w16_23) 17 w17_23) (va_up f 9 (u1 c9_7 (((v 7) * 4) + x2) z_24)) g 258 nn qq (by decide) (show tAt (f 0) nn (f 6) (f 7) (f 8) (v 5) y6_7 qq from hJ1) (show (258 : Int) ≠ 256 ∧ (258 : Int) ≠ 257 from by omega)) mM_X3_91 mI_X3_pass mE_X3_pass mN_X3 mC_X3_pass (by decide +kernel) 9 (ci := 3) rfl rfl hP hS (fun _ h => h) ⟨Nat.le_of_ble_eq_true rfl, Nat.le_of_ble_eq_true rfl⟩ ⟨Nat.zero_le _, Nat.zero_le _⟩ hl.1 rfl rfl (Nat.le_of_ble_eq_true rfl) dX3_readRound_122 (fun r_25 v_25 f_25 g_25 H locs hq_25 hP _ hS => ?_)
                    obtain ⟨w6_25, w16_25, w17_25, rfl, rfl, rfl, rfl, p0_25, p1_25, p2_25, p3_25⟩ := hq_25
                    show W p l e (gRm 4 82) s m args below meth c _ _ 0 0 Q (F0 m 125 ls [])
                    have hP : gWd D (rwT k ad) (va_up (va_up (va_up (va_up v 6 w6_25) 7 (v 7)) 16 w16_25) 17 w17_25) (va_up f 9 (u1 c9_7 (((v 7) * 4) + x2) z_24)) g H := ⟨hP.1, (gF_up (V := rwV) (F := rwF) (gR_up (V := rwV) (F := rwF) (gR_up (V := rwV) (F := rwF) (gR_up (V := rwV) (F := rwF) (gR_up (V := rwV) (F := rwF) ⟨hok.1, hok.2⟩ 6 (hP.2.1 6)) 7 (hP.2.1 7)) 16 (hP.2.1 16)) 17 (hP.2.1 17)) 9 (hP.2.2 9))⟩
                    replace p0_25 : w16_23 = 0 → (tK (f 0) nn qq) = (258 : Int) → w16_25 = 0 ∧ w17_25 = w17_23 := p0_25
                    replace p1_25 : w16_23 = 0 → (tK (f 0) nn qq) ≠ (258 : Int) → w16_25 = (fk (f 0) nn qq) ∧ w17_25 = qq ∧ w6_25 = y6_7 := p1_25
                    replace p2_25 : w16_23 ≠ 0 → w16_25 = w16_23 ∧ w17_25 = w17_23 ∧ w6_25 = y6_7 := p2_25
                    replace p3_25 : w16_23 = 0 → (tK (f 0) nn qq) = (258 : Int) → tAt (f 0) nn (f 6) (f 7) (f 8) (v 5) w6_25 (tX (f 0) nn qq) := p3_25
                    have rw6_25 : 0 ≤ w6_25 ∧ w6_25 ≤ 700 := hP.2.1 6
                    have rw16_25 : 0 ≤ w16_25 ∧ w16_25 ≤ 5 := hP.2.1 16
                    have rw17_25 : (-1) ≤ w17_25 ∧ w17_25 ≤ 700 := hP.2.1 17
                    first | replace p0_25 := p0_25 (by omega) (by omega) | clear p0_25
                    first | replace p1_25 := p1_25 (by omega) (by omega) | clear p1_25
                    first | replace p2_25 := p2_25 (by omega) | clear p2_25
                    try have hP3 := p3_25 (by omega) (by omega)
                    clear p3_25
                    refine lv_iinc (v := iI (x2 + 1)) (lv' := [(2, .int (iI (x2 + 1))), (0, .ref (ad 9)), (1, .int (iI (v 7)))]) hx hb dX3_readRound_125 hl (k := 2) rfl (by show iI _ + iI 1 = _; rw [iI_add]) (by decide) rfl (fun ls hl => ?_)
                    refine lv_goto (tgt := 33) hx hb dX3_readRound_128 (by decide) ?_
                    exact ih_33 (x2 + 1) ((tX (f 0) nn qq)) w6_25 w16_25 w17_25 (u1 c9_7 (((v 7) * 4) + x2) z_24) _ _ _ (by omega) (by omega) (by first | exact hP3 | exact tAt_eq hJ1 (by omega)) (by omega) (by first | (intro h; exfalso; omega) | exact fun h => (by rw [← hJ3 (by omega), show (4 - x2).toNat = (4 - (x2 + 1)).toNat + 1 by omega]; exact (rnd_c (by omega) (by omega)).symm)) (by first | (intro h; exfalso; omega) | exact fun h => oX_bad (by rw [← hJ3 (by omega), show (4 - x2).toNat = (4 - (x2 + 1)).toNat + 1 by omega]; exact rnd_a (by omega)) (by omega) (by omega) (by omega) (tAt_eq hJ1 (by omega)) | exact fun h => oX_bad (by rw [← hJ3 (by omega), show (4 - x2).toNat = (4 - (x2 + 1)).toNat + 1 by omega]; exact rnd_b (by omega) (by omega)) (by decide) (by omega) (by omega) (tAt_eq hJ1 (by omega))) (fun h => by first | (exfalso; omega) | exact shBack (hI (by omega)) (by omega) (by omega) (by omega)) hP hS (lv_sub hl [1, 2, 0] rfl)
                  · refine lv_iconst (v := iI 1) hx hb dX3_readRound_89 rfl ?_
                    refine lv_goto (tgt := 94) hx hb dX3_readRound_90 (by decide) ?_
                    refine lv_iconst (v := iI 4) hx hb dX3_readRound_94 rfl ?_
                    refine g_cv (As := [.int (iI 1), .int (iI 4)]) (rest := []) (n := 2) C hml (e_La_refuseIf l D k A ad hD (va_up (va_up (va_up (va_up v 6 y6_7) 7 (v 7)) 16 y16_7) 17 y17_7) (va_up f 9 c9_7) g 1 4 nn qq (by decide) (by decide) (show tAt (f 0) nn (f 6) (f 7) (f 8) (v 5) y6_7 qq from hJ1) (show 1 ≤ (4 : Int) ∧ (4 : Int) ≤ 5 from by omega)) mM_X3_66 mI_X3_refuseIf mE_X3_refuseIf mN_X3 mC_X3_refuseIf (by decide +kernel) 9 (ci := 3) rfl rfl hP hS (fun _ h => h) ⟨Nat.le_of_ble_eq_true rfl, Nat.le_of_ble_eq_true rfl⟩ ⟨Nat.zero_le _, Nat.zero_le _⟩ hl.1 rfl rfl (Nat.le_of_ble_eq_true rfl) dX3_readRound_95 (fun r_26 v_26 f_26 g_26 H locs hq_26 hP _ hS => ?_)
                    obtain ⟨w16_26, w17_26, rfl, rfl, rfl, rfl, p0_26, p1_26⟩ := hq_26
                    show W p l e (gRm 4 82) s m args below meth c _ _ 0 0 Q (F0 m 98 ls [])
                    have hP : gWd D (rwT k ad) (va_up (va_up (va_up (va_up v 6 y6_7) 7 (v 7)) 16 w16_26) 17 w17_26) (va_up f 9 c9_7) g H := ⟨hP.1, (gF_up (V := rwV) (F := rwF) (gR_up (V := rwV) (F := rwF) (gR_up (V := rwV) (F := rwF) (gR_up (V := rwV) (F := rwF) (gR_up (V := rwV) (F := rwF) ⟨hok.1, hok.2⟩ 6 (hP.2.1 6)) 7 (hP.2.1 7)) 16 (hP.2.1 16)) 17 (hP.2.1 17)) 9 (hP.2.2 9))⟩
                    replace p0_26 : (1 : Int) = 0 ∨ y16_7 ≠ 0 → w16_26 = y16_7 ∧ w17_26 = y17_7 := p0_26
                    replace p1_26 : (1 : Int) ≠ 0 → y16_7 = 0 → w16_26 = (4 : Int) ∧ w17_26 = qq := p1_26
                    have rw16_26 : 0 ≤ w16_26 ∧ w16_26 ≤ 5 := hP.2.1 16
                    have rw17_26 : (-1) ≤ w17_26 ∧ w17_26 ≤ 700 := hP.2.1 17
                    first | replace p0_26 := p0_26 (by omega) | clear p0_26
                    first | replace p1_26 := p1_26 (by omega) (by omega) | clear p1_26
                    refine lv_aload_n hx hb dX3_readRound_98 rfl (lv_at hl 0 rfl) ?_
                    refine rwG_reader_draft C hP mF_X3_21 dX3_readRound_99 ?_
                    refine rwG_reader_draft_shape C hP mF_X3_113 dX3_readRound_102 ?_
                    refine lv_iload_n hx hb dX3_readRound_105 rfl (lv_at hl 1 rfl) ?_
                    refine lv_iconst (v := iI 4) hx hb dX3_readRound_106 rfl ?_
                    refine gi_mul (z := ((v 7) * 4)) hx hb dX3_readRound_107 rfl ?_
                    refine lv_iload_n hx hb dX3_readRound_108 rfl (lv_at hl 2 rfl) ?_
                    refine gi_add (z := (((v 7) * 4) + x2)) hx hb dX3_readRound_109 rfl ?_
                    refine lv_aload_n hx hb dX3_readRound_110 rfl (lv_at hl 0 rfl) ?_
                    refine rwG_reader_tokens C hP mF_X3_12 dX3_readRound_111 ?_
                    refine g_cv (As := []) (rest := [.int (iI (((v 7) * 4) + x2)), .ref (ad 15)]) (n := 0) C hml (e_To_value l D k A ad hD (va_up (va_up (va_up (va_up v 6 y6_7) 7 (v 7)) 16 w16_26) 17 w17_26) (va_up f 9 c9_7) g nn qq (show tAt (f 0) nn (f 6) (f 7) (f 8) (v 5) y6_7 qq from hJ1)) mM_X3_103 mI_X6_value mE_X6_value mN_X6 mC_X6_value (by decide +kernel) 10 (ci := 6) rfl rfl hP hS (fun _ h => h) ⟨Nat.le_of_ble_eq_true rfl, Nat.le_of_ble_eq_true rfl⟩ ⟨Nat.zero_le _, Nat.zero_le _⟩ hl.1 rfl rfl (Nat.le_of_ble_eq_true rfl) dX3_readRound_114 (fun r_27 v_27 f_27 g_27 H locs hq_27 hP _ hS => ?_)
                    obtain ⟨z_27, rfl, rfl, rfl, rfl, p0_27, p1_27⟩ := hq_27
                    show W p l e (gRm 4 82) s m args below meth c _ _ 0 0 Q (F0 m 117 ls [.int (iI z_27), .int (iI (((v 7) * 4) + x2)), .ref (ad 15)])
                    replace p0_27 : z_27 = (tV (f 0) nn qq) := p0_27
                    replace p1_27 : 0 ≤ z_27 ∧ z_27 ≤ 999999 := p1_27
                    have hz_27 : inR z_27 := (by first | omega | (rw [p0_27]; split <;> omega))
                    refine rwS_reader_draft_shape (f1 := (va_up f 9 (u1 c9_7 (((v 7) * 4) + x2) z_27))) C hP hD hS (by omega) (by omega) (by omega) rfl (Or.inr (gF_up (V := rwV) (F := rwF) (gR_up (V := rwV) (F := rwF) (gR_up (V := rwV) (F := rwF) (gR_up (V := rwV) (F := rwF) (gR_up (V := rwV) (F := rwF) ⟨hok.1, hok.2⟩ 6 (hP.2.1 6)) 7 (hP.2.1 7)) 16 (hP.2.1 16)) 17 (hP.2.1 17)) 9 (u1_rng (hP.2.2 9) (show 0 ≤ z_27 ∧ z_27 ≤ 999999 from (by omega))))) dX3_readRound_117 (fun H locs hP hS => ?_)
                    refine lv_aload_n hx hb dX3_readRound_118 rfl (lv_at hl 0 rfl) ?_
                    refine lv_sipush (v := iI 258) hx hb dX3_readRound_119 (by decide) ?_
                    refine g_cv (As := [.int (iI 258)]) (rest := []) (n := 1) C hml (e_La_pass l D k A ad hD (va_up (va_up (va_up (va_up v 6 y6_7) 7 (v 7)) 16 w16_26) 17 w17_26) (va_up f 9 (u1 c9_7 (((v 7) * 4) + x2) z_27)) g 258 nn qq (by decide) (show tAt (f 0) nn (f 6) (f 7) (f 8) (v 5) y6_7 qq from hJ1) (show (258 : Int) ≠ 256 ∧ (258 : Int) ≠ 257 from by omega)) mM_X3_91 mI_X3_pass mE_X3_pass mN_X3 mC_X3_pass (by decide +kernel) 9 (ci := 3) rfl rfl hP hS (fun _ h => h) ⟨Nat.le_of_ble_eq_true rfl, Nat.le_of_ble_eq_true rfl⟩ ⟨Nat.zero_le _, Nat.zero_le _⟩ hl.1 rfl rfl (Nat.le_of_ble_eq_true rfl) dX3_readRound_122 (fun r_28 v_28 f_28 g_28 H locs hq_28 hP _ hS => ?_)
                    obtain ⟨w6_28, w16_28, w17_28, rfl, rfl, rfl, rfl, p0_28, p1_28, p2_28, p3_28⟩ := hq_28
                    show W p l e (gRm 4 82) s m args below meth c _ _ 0 0 Q (F0 m 125 ls [])
                    have hP : gWd D (rwT k ad) (va_up (va_up (va_up (va_up v 6 w6_28) 7 (v 7)) 16 w16_28) 17 w17_28) (va_up f 9 (u1 c9_7 (((v 7) * 4) + x2) z_27)) g H := ⟨hP.1, (gF_up (V := rwV) (F := rwF) (gR_up (V := rwV) (F := rwF) (gR_up (V := rwV) (F := rwF) (gR_up (V := rwV) (F := rwF) (gR_up (V := rwV) (F := rwF) ⟨hok.1, hok.2⟩ 6 (hP.2.1 6)) 7 (hP.2.1 7)) 16 (hP.2.1 16)) 17 (hP.2.1 17)) 9 (hP.2.2 9))⟩
                    replace p0_28 : w16_26 = 0 → (tK (f 0) nn qq) = (258 : Int) → w16_28 = 0 ∧ w17_28 = w17_26 := p0_28
                    replace p1_28 : w16_26 = 0 → (tK (f 0) nn qq) ≠ (258 : Int) → w16_28 = (fk (f 0) nn qq) ∧ w17_28 = qq ∧ w6_28 = y6_7 := p1_28
                    replace p2_28 : w16_26 ≠ 0 → w16_28 = w16_26 ∧ w17_28 = w17_26 ∧ w6_28 = y6_7 := p2_28
                    replace p3_28 : w16_26 = 0 → (tK (f 0) nn qq) = (258 : Int) → tAt (f 0) nn (f 6) (f 7) (f 8) (v 5) w6_28 (tX (f 0) nn qq) := p3_28
                    have rw6_28 : 0 ≤ w6_28 ∧ w6_28 ≤ 700 := hP.2.1 6
                    have rw16_28 : 0 ≤ w16_28 ∧ w16_28 ≤ 5 := hP.2.1 16
                    have rw17_28 : (-1) ≤ w17_28 ∧ w17_28 ≤ 700 := hP.2.1 17
                    first | replace p0_28 := p0_28 (by omega) (by omega) | clear p0_28
                    first | replace p1_28 := p1_28 (by omega) (by omega) | clear p1_28
                    first | replace p2_28 := p2_28 (by omega) | clear p2_28
                    try have hP3 := p3_28 (by omega) (by omega)
                    clear p3_28
                    refine lv_iinc (v := iI (x2 + 1)) (lv' := [(2, .int (iI (x2 + 1))), (0, .ref (ad 9)), (1, .int (iI (v 7)))]) hx hb dX3_readRound_125 hl (k := 2) rfl (by show iI _ + iI 1 = _; rw [iI_add]) (by decide) rfl (fun ls hl => ?_)
                    refine lv_goto (tgt := 33) hx hb dX3_readRound_128 (by decide) ?_
                    exact ih_33 (x2 + 1) (qq) w6_28 w16_28 w17_28 (u1 c9_7 (((v 7) * 4) + x2) z_27) _ _ _ (by omega) (by omega) (by first | exact hP3 | exact tAt_eq hJ1 (by omega)) (by omega) (by first | (intro h; exfalso; omega) | exact fun h => (by rw [← hJ3 (by omega), show (4 - x2).toNat = (4 - (x2 + 1)).toNat + 1 by omega]; exact (rnd_c (by omega) (by omega)).symm)) (by first | (intro h; exfalso; omega) | exact fun h => oX_bad (by rw [← hJ3 (by omega), show (4 - x2).toNat = (4 - (x2 + 1)).toNat + 1 by omega]; exact rnd_a (by omega)) (by omega) (by omega) (by omega) (tAt_eq hJ1 (by omega)) | exact fun h => oX_bad (by rw [← hJ3 (by omega), show (4 - x2).toNat = (4 - (x2 + 1)).toNat + 1 by omega]; exact rnd_b (by omega) (by omega)) (by decide) (by omega) (by omega) (tAt_eq hJ1 (by omega))) (fun h => by first | (exfalso; omega) | exact shBack (hI (by omega)) (by omega) (by omega) (by omega)) hP hS (lv_sub hl [1, 2, 0] rfl)
      exact L_7 5 0 ((tX (f 0) nn pp)) w6_5 w16_4 w17_4 (f 9) _ _ _ (by omega) (by omega) hc2 (by omega) (fun _ => rfl) (fun h => absurd (show w16_4 = 0 by omega) h) (fun h => ⟨hd, shPart0⟩) hP hS (lv_sub hl [2, 1, 0] rfl)
    · exfalso; omega
  · refine lv_iconst (v := iI 1) hx hb dX3_readRound_14 rfl ?_
    refine lv_goto (tgt := 19) hx hb dX3_readRound_15 (by decide) ?_
    refine lv_iconst (v := iI 3) hx hb dX3_readRound_19 rfl ?_
    refine g_cv (As := [.int (iI 1), .int (iI 3)]) (rest := []) (n := 2) C hml (e_La_refuseIf l D k A ad hD (va_up (va_up (va_up (va_up v 6 (v 6)) 7 (v 7)) 16 (v 16)) 17 (v 17)) (va_up f 9 (f 9)) g 1 3 nn pp (by decide) (by decide) (show tAt (f 0) nn (f 6) (f 7) (f 8) (v 5) (v 6) pp from hc) (show 1 ≤ (3 : Int) ∧ (3 : Int) ≤ 5 from by omega)) mM_X3_66 mI_X3_refuseIf mE_X3_refuseIf mN_X3 mC_X3_refuseIf (by decide +kernel) 9 (ci := 3) rfl rfl hP hS (fun _ h => h) ⟨Nat.le_of_ble_eq_true rfl, Nat.le_of_ble_eq_true rfl⟩ ⟨Nat.zero_le _, Nat.zero_le _⟩ hl.1 rfl rfl (Nat.le_of_ble_eq_true rfl) dX3_readRound_20 (fun r_29 v_29 f_29 g_29 H locs hq_29 hP _ hS => ?_)
    obtain ⟨w16_29, w17_29, rfl, rfl, rfl, rfl, p0_29, p1_29⟩ := hq_29
    show W p l e (gRm 4 82) s m args below meth c _ _ 0 0 Q (F0 m 23 ls [])
    have hP : gWd D (rwT k ad) (va_up (va_up (va_up (va_up v 6 (v 6)) 7 (v 7)) 16 w16_29) 17 w17_29) (va_up f 9 (f 9)) g H := ⟨hP.1, (gF_up (V := rwV) (F := rwF) (gR_up (V := rwV) (F := rwF) (gR_up (V := rwV) (F := rwF) (gR_up (V := rwV) (F := rwF) (gR_up (V := rwV) (F := rwF) ⟨hok.1, hok.2⟩ 6 (hP.2.1 6)) 7 (hP.2.1 7)) 16 (hP.2.1 16)) 17 (hP.2.1 17)) 9 (hP.2.2 9))⟩
    replace p0_29 : (1 : Int) = 0 ∨ (v 16) ≠ 0 → w16_29 = (v 16) ∧ w17_29 = (v 17) := p0_29
    replace p1_29 : (1 : Int) ≠ 0 → (v 16) = 0 → w16_29 = (3 : Int) ∧ w17_29 = pp := p1_29
    have rw16_29 : 0 ≤ w16_29 ∧ w16_29 ≤ 5 := hP.2.1 16
    have rw17_29 : (-1) ≤ w17_29 ∧ w17_29 ≤ 700 := hP.2.1 17
    first | replace p0_29 := p0_29 (by omega) | clear p0_29
    first | replace p1_29 := p1_29 (by omega) (by omega) | clear p1_29
    refine lv_aload_n hx hb dX3_readRound_23 rfl (lv_at hl 1 rfl) ?_
    refine g_cv (As := []) (rest := []) (n := 0) C hml (e_La_goOn l D k A ad hD (va_up (va_up (va_up (va_up v 6 (v 6)) 7 (v 7)) 16 w16_29) 17 w17_29) (va_up f 9 (f 9)) g nn pp (show tAt (f 0) nn (f 6) (f 7) (f 8) (v 5) (v 6) pp from hc)) mM_X3_70 mI_X3_goOn mE_X3_goOn mN_X3 mC_X3_goOn (by decide +kernel) 9 (ci := 3) rfl rfl hP hS (fun _ h => h) ⟨Nat.le_of_ble_eq_true rfl, Nat.le_of_ble_eq_true rfl⟩ ⟨Nat.zero_le _, Nat.zero_le _⟩ hl.1 rfl rfl (Nat.le_of_ble_eq_true rfl) dX3_readRound_24 (fun r_30 v_30 f_30 g_30 H locs hq_30 hP _ hS => ?_)
    obtain ⟨z_30, w6_30, rfl, rfl, rfl, rfl, p0_30, p1_30, p2_30, p3_30⟩ := hq_30
    show W p l e (gRm 4 82) s m args below meth c _ _ 0 0 Q (F0 m 27 ls [.int (iI z_30)])
    have hP : gWd D (rwT k ad) (va_up (va_up (va_up (va_up v 6 w6_30) 7 (v 7)) 16 w16_29) 17 w17_29) (va_up f 9 (f 9)) g H := ⟨hP.1, (gF_up (V := rwV) (F := rwF) (gR_up (V := rwV) (F := rwF) (gR_up (V := rwV) (F := rwF) (gR_up (V := rwV) (F := rwF) (gR_up (V := rwV) (F := rwF) ⟨hok.1, hok.2⟩ 6 (hP.2.1 6)) 7 (hP.2.1 7)) 16 (hP.2.1 16)) 17 (hP.2.1 17)) 9 (hP.2.2 9))⟩
    replace p0_30 : 0 ≤ z_30 ∧ z_30 ≤ 1 := p0_30
    replace p1_30 : z_30 = 1 ↔ w16_29 = 0 := p1_30
    replace p2_30 : w16_29 ≠ 0 → w6_30 = (v 6) := p2_30
    replace p3_30 : w16_29 = 0 → (tK (f 0) nn pp) ≠ 256 → (tK (f 0) nn pp) ≠ 257 → tAt (f 0) nn (f 6) (f 7) (f 8) (v 5) w6_30 (tX (f 0) nn pp) := p3_30
    have rw6_30 : 0 ≤ w6_30 ∧ w6_30 ≤ 700 := hP.2.1 6
    first | replace p2_30 := p2_30 (by omega) | clear p2_30
    try have hc2 := p3_30 (by omega) (by omega) (by omega)
    clear p3_30
    refine gi_zne (tgt := 31) hx hb dX3_readRound_27 (by decide) (by omega) (fun c_31 => ?_) (fun c_31 => ?_)
    · exfalso; omega
    · exact g_vret hQ C hr hlocks hP hS dX3_readRound_30 ⟨w6_30, (v 7), w16_29, w17_29, (f 9), rfl, rfl, rfl, rfl, (by first | exact oX_bad (by rw [if_pos (by omega)]) (by decide) (by omega) (by omega) (tAt_eq hc (by omega)) | (rw [if_neg (by omega)]; first | exact hJ4 (by omega) | exact (if h0 : w16_29 = 0 then oX_ok (by rw [← hJ3 h0, show (4 - x2).toNat = 0 by omega]; rfl) h0 (hJ2 h0) hJ1 else hJ4 h0))), (by first | omega | (split <;> omega)), (fun h => by first | (exfalso; omega) | exact shNew (hI (by omega)) (by omega))⟩
