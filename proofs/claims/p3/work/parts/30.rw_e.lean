set_option maxHeartbeats 4000000 in
set_option maxRecDepth 100000 in
theorem c_X6_wordKind (l : Launch) (D : va_G) (k : Nat → ClassId) (A : Nat → Prop) (ad : Nat → Nat) (hD : rwD A k ad) (za : Nat → Nat) (v : gV) (f g : gF) (a2 : Int) (a3 : Int) (h_a2 : inR a2) (h_a3 : inR a3) (h2 : 0 ≤ a2 ∧ a2 ≤ a3) (h3 : a3 ≤ 700) : GE l D k za A (rwT k ad) yX6_wordKind cX6_wordKind 8 (some .int) 4 85 [.ref (ad 1), .int (iI a2), .int (iI a3)] v f g (fun r v1 f1 g1 => ∃ (z : Int), r = some (.int (iI z)) ∧ v = v1 ∧ f = f1 ∧ g = g1 ∧ (259 ≤ z ∧ z ≤ 278)) := by
  refine GE.of (by decide) (Nat.le_of_ble_eq_true rfl) ?_
  intro p e s m args below meth c Q ls hQ C hml hr hlocks hP hl hE
  have hx := C.1
  have hb := C.2.1
  have hok := hP.2
  have hS : va_S A s.heap s.heap [] := va_S.rf
  have hl : lv_has ls 8 [(0, .ref (ad 1)), (1, .int (iI a2)), (2, .int (iI a3))] := hl
  refine lv_sipush (v := iI 260) hx hb dX6_wordKind_0 (by decide) ?_
  refine lv_istore_n (lv' := [(3, .int (iI 260)), (0, .ref (ad 1)), (1, .int (iI a2)), (2, .int (iI a3))]) hx hb dX6_wordKind_3 rfl hl (by decide) rfl (fun ls hl => ?_)
  refine lv_iload_n hx hb dX6_wordKind_4 rfl (lv_at hl 2 rfl) ?_
  refine lv_istore (lv' := [(4, .int (iI a2)), (3, .int (iI 260)), (0, .ref (ad 1)), (1, .int (iI a2)), (2, .int (iI a3))]) hx hb dX6_wordKind_5 hl (by decide) rfl (fun ls hl => ?_)
  refine lv_iconst (v := iI 1) hx hb dX6_wordKind_7 rfl ?_
  refine lv_istore (lv' := [(5, .int (iI 1)), (4, .int (iI a2)), (3, .int (iI 260)), (0, .ref (ad 1)), (1, .int (iI a2)), (2, .int (iI a3))]) hx hb dX6_wordKind_8 hl (by decide) rfl (fun ls hl => ?_)
  refine lv_iconst (v := iI 0) hx hb dX6_wordKind_10 rfl ?_
  refine lv_istore (lv' := [(6, .int (iI 0)), (5, .int (iI 1)), (4, .int (iI a2)), (3, .int (iI 260)), (0, .ref (ad 1)), (1, .int (iI a2)), (2, .int (iI a3))]) hx hb dX6_wordKind_11 hl (by decide) rfl (fun ls hl => ?_)
  have L_1 : ∀ (n : Nat) (x3 : Int) (x4 : Int) (x5 : Int) (x6 : Int) (H : Heap) (locs : List Loc) (ls : Array Slot), 97 - x6 < (n : Int) → (0 ≤ x6 ∧ x6 ≤ 97) → (a2 ≤ x4 ∧ x4 ≤ a2 + x6) → (x3 = 260 + gEsp x6) → (0 ≤ x5 ∧ x5 ≤ 1) → (0 ≤ gEsp x6 ∧ gEsp x6 ≤ 18) → gWd D (rwT k ad) v f g H → va_S A s.heap H locs → lv_has ls 8 [(0, .ref (ad 1)), (1, .int (iI a2)), (2, .int (iI a3)), (3, .int (iI x3)), (4, .int (iI x4)), (5, .int (iI x5)), (6, .int (iI x6))] → W p l e (gRm 4 85) s m args below meth c H locs 0 0 Q (F0 m 13 ls []) := by
    intro n
    induction n with
    | zero =>
      intro x3 x4 x5 x6 H locs ls hn_1 i1_0 i1_1 i1_2 i1_3 i1_4 hP hS hl
      exfalso; omega
    | succ n ih_13 =>
      intro x3 x4 x5 x6 H locs ls hn_1 i1_0 i1_1 i1_2 i1_3 i1_4 hP hS hl
      refine lv_iload hx hb dX6_wordKind_13 (lv_at hl 6 rfl) ?_
      refine va_ldcS hx hb C.2.2.2.1 hE.p7 dX6_wordKind_15 ?_
      refine g_cvX (As := []) (rest := [.int (iI x6)]) (n := 0) C hE hml j_len mM_X6_54 mI_J0_length_8abf5 mE_J0_length_8abf5 mN_J0 mC_J0_length_8abf5 (by decide +kernel) (vk_recv (adK := fun _ => za 2) (i := 0) hE.p5 (by decide) hS) hP hS (fun _ h => h) ⟨Nat.le_of_ble_eq_true rfl, Nat.le_of_ble_eq_true rfl⟩ ⟨Nat.zero_le _, Nat.zero_le _⟩ hl.1 rfl rfl (Nat.le_of_ble_eq_true rfl) dX6_wordKind_17 (fun r v1 f1 g1 H locs hq hP _ hS => ?_)
      obtain ⟨rfl, rfl, rfl, rfl⟩ := hq
      show W p l e (gRm 4 85) s m args below meth c _ _ 0 0 Q (F0 m 20 ls [.int (iI 97), .int (iI x6)])
      refine gi_cge (tgt := 100) hx hb dX6_wordKind_20 (by decide) (by omega) (by decide) (fun c_2 => ?_) (fun c_2 => ?_)
      · refine lv_sipush (v := iI 259) hx hb dX6_wordKind_100 (by decide) ?_
        exact g_iret hQ C hr hlocks hP hS dX6_wordKind_103 ⟨259, rfl, rfl, rfl, rfl, (by first | omega | (split <;> omega))⟩
      · refine va_ldcS hx hb C.2.2.2.1 hE.p7 dX6_wordKind_23 ?_
        refine lv_iload hx hb dX6_wordKind_25 (lv_at hl 6 rfl) ?_
        refine g_cvX (As := [.int (iI x6)]) (rest := []) (n := 1) C hE hml (j_cat (a := x6) (by omega) (by omega)) mM_X6_60 mI_J0_charAt_5068e mE_J0_charAt_5068e mN_J0 mC_J0_charAt_5068e (by decide +kernel) (vk_recv (adK := fun _ => za 2) (i := 0) hE.p5 (by decide) hS) hP hS (fun _ h => h) ⟨Nat.le_of_ble_eq_true rfl, Nat.le_of_ble_eq_true rfl⟩ ⟨Nat.zero_le _, Nat.zero_le _⟩ hl.1 rfl rfl (Nat.le_of_ble_eq_true rfl) dX6_wordKind_27 (fun r v1 f1 g1 H locs hq hP _ hS => ?_)
        obtain ⟨rfl, rfl, rfl, rfl⟩ := hq
        show W p l e (gRm 4 85) s m args below meth c _ _ 0 0 Q (F0 m 30 ls [.int (iI (gEch x6))])
        have q_3 := gEsp_step (i := x6) (by omega) (by omega)
        refine lv_istore (lv' := [(7, .int (iI (gEch x6))), (0, .ref (ad 1)), (1, .int (iI a2)), (2, .int (iI a3)), (3, .int (iI x3)), (4, .int (iI x4)), (5, .int (iI x5)), (6, .int (iI x6))]) hx hb dX6_wordKind_30 hl (by decide) rfl (fun ls hl => ?_)
        refine lv_iload hx hb dX6_wordKind_32 (lv_at hl 0 rfl) ?_
        refine lv_bipush (v := iI 32) hx hb dX6_wordKind_34 (by decide) ?_
        refine gi_ceq (tgt := 72) hx hb dX6_wordKind_36 (by decide) (by omega) (by decide) (fun c_4 => ?_) (fun c_4 => ?_)
        · refine lv_iload hx hb dX6_wordKind_72 (lv_at hl 6 rfl) ?_
          refine gi_zeq (tgt := 85) hx hb dX6_wordKind_74 (by decide) (by omega) (fun c_5 => ?_) (fun c_5 => ?_)
          · refine lv_iinc (v := iI (x3 + 1)) (lv' := [(3, .int (iI (x3 + 1))), (7, .int (iI (gEch x6))), (0, .ref (ad 1)), (1, .int (iI a2)), (2, .int (iI a3)), (4, .int (iI x4)), (5, .int (iI x5)), (6, .int (iI x6))]) hx hb dX6_wordKind_85 hl (k := 4) rfl (by show iI _ + iI 1 = _; rw [iI_add]) (by decide) rfl (fun ls hl => ?_)
            refine lv_iload_n hx hb dX6_wordKind_88 rfl (lv_at hl 3 rfl) ?_
            refine lv_istore (lv' := [(4, .int (iI a2)), (3, .int (iI (x3 + 1))), (7, .int (iI (gEch x6))), (0, .ref (ad 1)), (1, .int (iI a2)), (2, .int (iI a3)), (5, .int (iI x5)), (6, .int (iI x6))]) hx hb dX6_wordKind_89 hl (by decide) rfl (fun ls hl => ?_)
            refine lv_iconst (v := iI 1) hx hb dX6_wordKind_91 rfl ?_
            refine lv_istore (lv' := [(5, .int (iI 1)), (4, .int (iI a2)), (3, .int (iI (x3 + 1))), (7, .int (iI (gEch x6))), (0, .ref (ad 1)), (1, .int (iI a2)), (2, .int (iI a3)), (6, .int (iI x6))]) hx hb dX6_wordKind_92 hl (by decide) rfl (fun ls hl => ?_)
            refine lv_iinc (v := iI (x6 + 1)) (lv' := [(6, .int (iI (x6 + 1))), (5, .int (iI 1)), (4, .int (iI a2)), (3, .int (iI (x3 + 1))), (7, .int (iI (gEch x6))), (0, .ref (ad 1)), (1, .int (iI a2)), (2, .int (iI a3))]) hx hb dX6_wordKind_94 hl (k := 7) rfl (by show iI _ + iI 1 = _; rw [iI_add]) (by decide) rfl (fun ls hl => ?_)
            refine lv_goto (tgt := 13) hx hb dX6_wordKind_97 (by decide) ?_
            exact ih_13 (x3 + 1) a2 1 (x6 + 1) _ _ _ (by omega) (by omega) (by omega) (by omega) (by omega) (by omega) hP hS (lv_sub hl [5, 6, 7, 3, 2, 1, 0] rfl)
          · refine lv_iload hx hb dX6_wordKind_77 (lv_at hl 5 rfl) ?_
            refine lv_iload_n hx hb dX6_wordKind_79 rfl (lv_at hl 3 rfl) ?_
            refine gi_cne (tgt := 85) hx hb dX6_wordKind_80 (by decide) (by omega) (by omega) (fun c_6 => ?_) (fun c_6 => ?_)
            · refine lv_iinc (v := iI (x3 + 1)) (lv' := [(3, .int (iI (x3 + 1))), (7, .int (iI (gEch x6))), (0, .ref (ad 1)), (1, .int (iI a2)), (2, .int (iI a3)), (4, .int (iI x4)), (5, .int (iI x5)), (6, .int (iI x6))]) hx hb dX6_wordKind_85 hl (k := 4) rfl (by show iI _ + iI 1 = _; rw [iI_add]) (by decide) rfl (fun ls hl => ?_)
              refine lv_iload_n hx hb dX6_wordKind_88 rfl (lv_at hl 3 rfl) ?_
              refine lv_istore (lv' := [(4, .int (iI a2)), (3, .int (iI (x3 + 1))), (7, .int (iI (gEch x6))), (0, .ref (ad 1)), (1, .int (iI a2)), (2, .int (iI a3)), (5, .int (iI x5)), (6, .int (iI x6))]) hx hb dX6_wordKind_89 hl (by decide) rfl (fun ls hl => ?_)
              refine lv_iconst (v := iI 1) hx hb dX6_wordKind_91 rfl ?_
              refine lv_istore (lv' := [(5, .int (iI 1)), (4, .int (iI a2)), (3, .int (iI (x3 + 1))), (7, .int (iI (gEch x6))), (0, .ref (ad 1)), (1, .int (iI a2)), (2, .int (iI a3)), (6, .int (iI x6))]) hx hb dX6_wordKind_92 hl (by decide) rfl (fun ls hl => ?_)
              refine lv_iinc (v := iI (x6 + 1)) (lv' := [(6, .int (iI (x6 + 1))), (5, .int (iI 1)), (4, .int (iI a2)), (3, .int (iI (x3 + 1))), (7, .int (iI (gEch x6))), (0, .ref (ad 1)), (1, .int (iI a2)), (2, .int (iI a3))]) hx hb dX6_wordKind_94 hl (k := 7) rfl (by show iI _ + iI 1 = _; rw [iI_add]) (by decide) rfl (fun ls hl => ?_)
              refine lv_goto (tgt := 13) hx hb dX6_wordKind_97 (by decide) ?_
              exact ih_13 (x3 + 1) a2 1 (x6 + 1) _ _ _ (by omega) (by omega) (by omega) (by omega) (by omega) (by omega) hP hS (lv_sub hl [5, 6, 7, 3, 2, 1, 0] rfl)
            · refine lv_iload_n hx hb dX6_wordKind_83 rfl (lv_at hl 4 rfl) ?_
              exact g_iret hQ C hr hlocks hP hS dX6_wordKind_84 ⟨x3, rfl, rfl, rfl, rfl, (by first | omega | (split <;> omega))⟩
        · refine lv_iload hx hb dX6_wordKind_39 (lv_at hl 6 rfl) ?_
          refine gi_zeq (tgt := 63) hx hb dX6_wordKind_41 (by decide) (by omega) (fun c_7 => ?_) (fun c_7 => ?_)
          · refine lv_iconst (v := iI 0) hx hb dX6_wordKind_63 rfl ?_
            refine lv_istore (lv' := [(5, .int (iI 0)), (7, .int (iI (gEch x6))), (0, .ref (ad 1)), (1, .int (iI a2)), (2, .int (iI a3)), (3, .int (iI x3)), (4, .int (iI x4)), (6, .int (iI x6))]) hx hb dX6_wordKind_64 hl (by decide) rfl (fun ls hl => ?_)
            refine lv_iinc (v := iI (x4 + 1)) (lv' := [(4, .int (iI (x4 + 1))), (5, .int (iI 0)), (7, .int (iI (gEch x6))), (0, .ref (ad 1)), (1, .int (iI a2)), (2, .int (iI a3)), (3, .int (iI x3)), (6, .int (iI x6))]) hx hb dX6_wordKind_66 hl (k := 6) rfl (by show iI _ + iI 1 = _; rw [iI_add]) (by decide) rfl (fun ls hl => ?_)
            refine lv_goto (tgt := 94) hx hb dX6_wordKind_69 (by decide) ?_
            refine lv_iinc (v := iI (x6 + 1)) (lv' := [(6, .int (iI (x6 + 1))), (4, .int (iI (x4 + 1))), (5, .int (iI 0)), (7, .int (iI (gEch x6))), (0, .ref (ad 1)), (1, .int (iI a2)), (2, .int (iI a3)), (3, .int (iI x3))]) hx hb dX6_wordKind_94 hl (k := 7) rfl (by show iI _ + iI 1 = _; rw [iI_add]) (by decide) rfl (fun ls hl => ?_)
            refine lv_goto (tgt := 13) hx hb dX6_wordKind_97 (by decide) ?_
            exact ih_13 x3 (x4 + 1) 0 (x6 + 1) _ _ _ (by omega) (by omega) (by omega) (by omega) (by omega) (by omega) hP hS (lv_sub hl [4, 5, 6, 7, 1, 2, 0] rfl)
          · refine lv_iload hx hb dX6_wordKind_44 (lv_at hl 5 rfl) ?_
            refine lv_iload_n hx hb dX6_wordKind_46 rfl (lv_at hl 3 rfl) ?_
            refine gi_cge (tgt := 63) hx hb dX6_wordKind_47 (by decide) (by omega) (by omega) (fun c_8 => ?_) (fun c_8 => ?_)
            · refine lv_iconst (v := iI 0) hx hb dX6_wordKind_63 rfl ?_
              refine lv_istore (lv' := [(5, .int (iI 0)), (7, .int (iI (gEch x6))), (0, .ref (ad 1)), (1, .int (iI a2)), (2, .int (iI a3)), (3, .int (iI x3)), (4, .int (iI x4)), (6, .int (iI x6))]) hx hb dX6_wordKind_64 hl (by decide) rfl (fun ls hl => ?_)
              refine lv_iinc (v := iI (x4 + 1)) (lv' := [(4, .int (iI (x4 + 1))), (5, .int (iI 0)), (7, .int (iI (gEch x6))), (0, .ref (ad 1)), (1, .int (iI a2)), (2, .int (iI a3)), (3, .int (iI x3)), (6, .int (iI x6))]) hx hb dX6_wordKind_66 hl (k := 6) rfl (by show iI _ + iI 1 = _; rw [iI_add]) (by decide) rfl (fun ls hl => ?_)
              refine lv_goto (tgt := 94) hx hb dX6_wordKind_69 (by decide) ?_
              refine lv_iinc (v := iI (x6 + 1)) (lv' := [(6, .int (iI (x6 + 1))), (4, .int (iI (x4 + 1))), (5, .int (iI 0)), (7, .int (iI (gEch x6))), (0, .ref (ad 1)), (1, .int (iI a2)), (2, .int (iI a3)), (3, .int (iI x3))]) hx hb dX6_wordKind_94 hl (k := 7) rfl (by show iI _ + iI 1 = _; rw [iI_add]) (by decide) rfl (fun ls hl => ?_)
              refine lv_goto (tgt := 13) hx hb dX6_wordKind_97 (by decide) ?_
              exact ih_13 x3 (x4 + 1) 0 (x6 + 1) _ _ _ (by omega) (by omega) (by omega) (by omega) (by omega) (by omega) hP hS (lv_sub hl [4, 5, 6, 7, 1, 2, 0] rfl)
            · refine lv_aload_n hx hb dX6_wordKind_50 rfl (lv_at hl 1 rfl) ?_
              refine lv_iload hx hb dX6_wordKind_51 (lv_at hl 5 rfl) ?_
              refine rwL_tape C hP (by omega) (by omega) dX6_wordKind_53 ?_
              have r_9 : 0 ≤ (f 0 x4) ∧ (f 0 x4) ≤ 255 := hP.2.2 0 x4
              refine lv_iload hx hb dX6_wordKind_54 (lv_at hl 0 rfl) ?_
              refine gi_cne (tgt := 63) hx hb dX6_wordKind_56 (by decide) (by omega) (by omega) (fun c_10 => ?_) (fun c_10 => ?_)
              · refine lv_iconst (v := iI 0) hx hb dX6_wordKind_63 rfl ?_
                refine lv_istore (lv' := [(5, .int (iI 0)), (7, .int (iI (gEch x6))), (0, .ref (ad 1)), (1, .int (iI a2)), (2, .int (iI a3)), (3, .int (iI x3)), (4, .int (iI x4)), (6, .int (iI x6))]) hx hb dX6_wordKind_64 hl (by decide) rfl (fun ls hl => ?_)
                refine lv_iinc (v := iI (x4 + 1)) (lv' := [(4, .int (iI (x4 + 1))), (5, .int (iI 0)), (7, .int (iI (gEch x6))), (0, .ref (ad 1)), (1, .int (iI a2)), (2, .int (iI a3)), (3, .int (iI x3)), (6, .int (iI x6))]) hx hb dX6_wordKind_66 hl (k := 6) rfl (by show iI _ + iI 1 = _; rw [iI_add]) (by decide) rfl (fun ls hl => ?_)
                refine lv_goto (tgt := 94) hx hb dX6_wordKind_69 (by decide) ?_
                refine lv_iinc (v := iI (x6 + 1)) (lv' := [(6, .int (iI (x6 + 1))), (4, .int (iI (x4 + 1))), (5, .int (iI 0)), (7, .int (iI (gEch x6))), (0, .ref (ad 1)), (1, .int (iI a2)), (2, .int (iI a3)), (3, .int (iI x3))]) hx hb dX6_wordKind_94 hl (k := 7) rfl (by show iI _ + iI 1 = _; rw [iI_add]) (by decide) rfl (fun ls hl => ?_)
                refine lv_goto (tgt := 13) hx hb dX6_wordKind_97 (by decide) ?_
                exact ih_13 x3 (x4 + 1) 0 (x6 + 1) _ _ _ (by omega) (by omega) (by omega) (by omega) (by omega) (by omega) hP hS (lv_sub hl [4, 5, 6, 7, 1, 2, 0] rfl)
              · refine lv_iconst (v := iI 1) hx hb dX6_wordKind_59 rfl ?_
                refine lv_goto (tgt := 64) hx hb dX6_wordKind_60 (by decide) ?_
                refine lv_istore (lv' := [(5, .int (iI 1)), (7, .int (iI (gEch x6))), (0, .ref (ad 1)), (1, .int (iI a2)), (2, .int (iI a3)), (3, .int (iI x3)), (4, .int (iI x4)), (6, .int (iI x6))]) hx hb dX6_wordKind_64 hl (by decide) rfl (fun ls hl => ?_)
                refine lv_iinc (v := iI (x4 + 1)) (lv' := [(4, .int (iI (x4 + 1))), (5, .int (iI 1)), (7, .int (iI (gEch x6))), (0, .ref (ad 1)), (1, .int (iI a2)), (2, .int (iI a3)), (3, .int (iI x3)), (6, .int (iI x6))]) hx hb dX6_wordKind_66 hl (k := 6) rfl (by show iI _ + iI 1 = _; rw [iI_add]) (by decide) rfl (fun ls hl => ?_)
                refine lv_goto (tgt := 94) hx hb dX6_wordKind_69 (by decide) ?_
                refine lv_iinc (v := iI (x6 + 1)) (lv' := [(6, .int (iI (x6 + 1))), (4, .int (iI (x4 + 1))), (5, .int (iI 1)), (7, .int (iI (gEch x6))), (0, .ref (ad 1)), (1, .int (iI a2)), (2, .int (iI a3)), (3, .int (iI x3))]) hx hb dX6_wordKind_94 hl (k := 7) rfl (by show iI _ + iI 1 = _; rw [iI_add]) (by decide) rfl (fun ls hl => ?_)
                refine lv_goto (tgt := 13) hx hb dX6_wordKind_97 (by decide) ?_
                exact ih_13 x3 (x4 + 1) 1 (x6 + 1) _ _ _ (by omega) (by omega) (by omega) (by omega) (by omega) (by omega) hP hS (lv_sub hl [4, 5, 6, 7, 1, 2, 0] rfl)
  exact L_1 98 260 a2 1 0 _ _ _ (by omega) (by omega) (by omega) rfl (by omega) (by decide) hP hS (lv_sub hl [4, 5, 6, 3, 2, 1, 0] rfl)

set_option maxHeartbeats 4000000 in
set_option maxRecDepth 100000 in
theorem c_X6_putWord (l : Launch) (D : va_G) (k : Nat → ClassId) (A : Nat → Prop) (ad : Nat → Nat) (hD : rwD A k ad) (za : Nat → Nat) (v : gV) (f g : gF) (a2 : Int) (a3 : Int) (h_a2 : inR a2) (h_a3 : inR a3) (h2 : 0 ≤ a2 ∧ a2 ≤ a3) (h3 : a3 ≤ 700) : GE l D k za A (rwT k ad) yX6_putWord cX6_putWord 5 (some .int) 5 112 [.ref (ad 10), .ref (ad 1), .int (iI a2), .int (iI a3)] v f g (fun r v1 f1 g1 => ∃ (z : Int) (w5 : Int) (a6_ : Int → Int) (a7_ : Int → Int) (a8_ : Int → Int), r = some (.int (iI z)) ∧ (va_up v 5 w5) = v1 ∧ (va_up (va_up (va_up f 6 a6_) 7 a7_) 8 a8_) = f1 ∧ g = g1 ∧ (a2 ≤ z ∧ z ≤ a3)) := by
  refine GE.of (by decide) (Nat.le_of_ble_eq_true rfl) ?_
  intro p e s m args below meth c Q ls hQ C hml hr hlocks hP hl hE
  have hx := C.1
  have hb := C.2.1
  have hok := hP.2
  have hS : va_S A s.heap s.heap [] := va_S.rf
  have hl : lv_has ls 5 [(0, .ref (ad 10)), (1, .ref (ad 1)), (2, .int (iI a2)), (3, .int (iI a3))] := hl
  have hP : gWd D (rwT k ad) (va_up v 5 (v 5)) (va_up (va_up (va_up f 6 (f 6)) 7 (f 7)) 8 (f 8)) g s.heap := by rw [va_id, va_id, va_id, va_id]; exact hP
  refine lv_iload_n hx hb dX6_putWord_0 rfl (lv_at hl 2 rfl) ?_
  refine lv_istore (lv' := [(4, .int (iI a2)), (0, .ref (ad 10)), (1, .ref (ad 1)), (2, .int (iI a2)), (3, .int (iI a3))]) hx hb dX6_putWord_1 hl (by decide) rfl (fun ls hl => ?_)
  have L_1 : ∀ (n : Nat) (x4 : Int) (H : Heap) (locs : List Loc) (ls : Array Slot), 700 - x4 < (n : Int) → (a2 ≤ x4 ∧ x4 ≤ a3) → gWd D (rwT k ad) (va_up v 5 (v 5)) (va_up (va_up (va_up f 6 (f 6)) 7 (f 7)) 8 (f 8)) g H → va_S A s.heap H locs → lv_has ls 5 [(0, .ref (ad 10)), (1, .ref (ad 1)), (2, .int (iI a2)), (3, .int (iI a3)), (4, .int (iI x4))] → W p l e (gRm 5 112) s m args below meth c H locs 0 0 Q (F0 m 3 ls []) := by
    intro n
    induction n with
    | zero =>
      intro x4 H locs ls hn_1 i1_0 hP hS hl
      exfalso; omega
    | succ n ih_3 =>
      intro x4 H locs ls hn_1 i1_0 hP hS hl
      refine lv_iload hx hb dX6_putWord_3 (lv_at hl 4 rfl) ?_
      refine lv_iload_n hx hb dX6_putWord_5 rfl (lv_at hl 3 rfl) ?_
      refine gi_cge (tgt := 25) hx hb dX6_putWord_6 (by decide) (by omega) (by omega) (fun c_2 => ?_) (fun c_2 => ?_)
      · refine lv_aload_n hx hb dX6_putWord_25 rfl (lv_at hl 0 rfl) ?_
        refine lv_aload_n hx hb dX6_putWord_26 rfl (lv_at hl 1 rfl) ?_
        refine lv_iload_n hx hb dX6_putWord_27 rfl (lv_at hl 2 rfl) ?_
        refine lv_iload hx hb dX6_putWord_28 (lv_at hl 4 rfl) ?_
        refine g_csE (As := [.ref (ad 1), .int (iI a2), .int (iI x4)]) (rest := [.ref (ad 10)]) (n := 3) C hE hml (c_X6_wordKind l D k A ad hD za (va_up v 5 (v 5)) (va_up (va_up (va_up f 6 (f 6)) 7 (f 7)) 8 (f 8)) g a2 x4 (by omega) (by omega) (show 0 ≤ a2 ∧ a2 ≤ x4 from by omega) (show x4 ≤ 700 from by omega)) mM_X6_49 mS_X6_wordKind mN_X6 mC_X6_wordKind (by decide +kernel) hP hS (fun _ h => h) ⟨Nat.le_of_ble_eq_true rfl, Nat.le_of_ble_eq_true rfl⟩ ⟨Nat.zero_le _, Nat.zero_le _⟩ hl.1 rfl rfl (Nat.le_of_ble_eq_true rfl) dX6_putWord_30 (fun r_3 v_3 f_3 g_3 H locs hq_3 hP _ hS => ?_)
        obtain ⟨z_3, rfl, rfl, rfl, rfl, p0_3⟩ := hq_3
        show W p l e (gRm 5 112) s m args below meth c _ _ 0 0 Q (F0 m 33 ls [.int (iI z_3), .ref (ad 10)])
        replace p0_3 : 259 ≤ z_3 ∧ z_3 ≤ 278 := p0_3
        refine lv_iload_n hx hb dX6_putWord_33 rfl (lv_at hl 2 rfl) ?_
        refine lv_iconst (v := iI 0) hx hb dX6_putWord_34 rfl ?_
        refine g_cv (As := [.int (iI z_3), .int (iI a2), .int (iI 0)]) (rest := []) (n := 3) C hml (c_X6_put l D k A ad hD (va_up v 5 (v 5)) (va_up (va_up (va_up f 6 (f 6)) 7 (f 7)) 8 (f 8)) g z_3 a2 0 (by omega) (by omega) (by decide) (show 0 ≤ z_3 ∧ z_3 ≤ 300 from by omega) (show 0 ≤ a2 ∧ a2 ≤ 700 from by omega) (show 0 ≤ (0 : Int) ∧ (0 : Int) ≤ 999999 from by omega)) mM_X6_45 mI_X6_put mE_X6_put mN_X6 mC_X6_put (by decide +kernel) 10 (ci := 6) rfl rfl hP hS (fun _ h => h) ⟨Nat.le_of_ble_eq_true rfl, Nat.le_of_ble_eq_true rfl⟩ ⟨Nat.zero_le _, Nat.zero_le _⟩ hl.1 rfl rfl (Nat.le_of_ble_eq_true rfl) dX6_putWord_35 (fun r_4 v_4 f_4 g_4 H locs hq_4 hP _ hS => ?_)
        obtain ⟨w5_4, a6_4, a7_4, a8_4, rfl, rfl, rfl, rfl⟩ := hq_4
        show W p l e (gRm 5 112) s m args below meth c _ _ 0 0 Q (F0 m 38 ls [])
        have hP : gWd D (rwT k ad) (va_up v 5 w5_4) (va_up (va_up (va_up f 6 a6_4) 7 a7_4) 8 a8_4) g H := ⟨hP.1, (gF_up (V := rwV) (F := rwF) (gF_up (V := rwV) (F := rwF) (gF_up (V := rwV) (F := rwF) (gR_up (V := rwV) (F := rwF) ⟨hok.1, hok.2⟩ 5 (hP.2.1 5)) 6 (hP.2.2 6)) 7 (hP.2.2 7)) 8 (hP.2.2 8))⟩
        have rw5_4 : 0 ≤ w5_4 ∧ w5_4 ≤ 701 := hP.2.1 5
        refine lv_iload hx hb dX6_putWord_38 (lv_at hl 4 rfl) ?_
        exact g_iret hQ C hr hlocks hP hS dX6_putWord_40 ⟨x4, w5_4, a6_4, a7_4, a8_4, rfl, rfl, rfl, rfl, (by first | omega | (split <;> omega))⟩
      · refine lv_aload_n hx hb dX6_putWord_9 rfl (lv_at hl 1 rfl) ?_
        refine lv_iload hx hb dX6_putWord_10 (lv_at hl 4 rfl) ?_
        refine rwL_tape C hP (by omega) (by omega) dX6_putWord_12 ?_
        show W p l e (gRm 5 112) s m args below meth c _ _ 0 0 Q (F0 m 13 ls [.int (iI (f 0 x4))])
        have r_5 : 0 ≤ (f 0 x4) ∧ (f 0 x4) ≤ 255 := hP.2.2 0 x4
        refine g_cs (As := [.int (iI (f 0 x4))]) (rest := []) (n := 1) C hml (c_X6_isLetter l D k A ad hD (va_up v 5 (v 5)) (va_up (va_up (va_up f 6 (f 6)) 7 (f 7)) 8 (f 8)) g (f 0 x4) (by omega)) mM_X6_28 mS_X6_isLetter mN_X6 mC_X6_isLetter (by decide +kernel) hP hS (fun _ h => h) ⟨Nat.le_of_ble_eq_true rfl, Nat.le_of_ble_eq_true rfl⟩ ⟨Nat.zero_le _, Nat.zero_le _⟩ hl.1 rfl rfl (Nat.le_of_ble_eq_true rfl) dX6_putWord_13 (fun r_6 v_6 f_6 g_6 H locs hq_6 hP _ hS => ?_)
        obtain ⟨z_6, rfl, rfl, rfl, rfl, p0_6⟩ := hq_6
        show W p l e (gRm 5 112) s m args below meth c _ _ 0 0 Q (F0 m 16 ls [.int (iI z_6)])
        replace p0_6 : z_6 = (if 97 ≤ (f 0 x4) ∧ (f 0 x4) ≤ 122 then 1 else 0) := p0_6
        have w_6 := gif (P := 97 ≤ (f 0 x4) ∧ (f 0 x4) ≤ 122) p0_6
        have hz_6 : inR z_6 := (by first | omega | (rw [p0_6]; split <;> omega))
        refine gi_zeq (tgt := 25) hx hb dX6_putWord_16 (by decide) (by omega) (fun c_7 => ?_) (fun c_7 => ?_)
        · refine lv_aload_n hx hb dX6_putWord_25 rfl (lv_at hl 0 rfl) ?_
          refine lv_aload_n hx hb dX6_putWord_26 rfl (lv_at hl 1 rfl) ?_
          refine lv_iload_n hx hb dX6_putWord_27 rfl (lv_at hl 2 rfl) ?_
          refine lv_iload hx hb dX6_putWord_28 (lv_at hl 4 rfl) ?_
          refine g_csE (As := [.ref (ad 1), .int (iI a2), .int (iI x4)]) (rest := [.ref (ad 10)]) (n := 3) C hE hml (c_X6_wordKind l D k A ad hD za (va_up v 5 (v 5)) (va_up (va_up (va_up f 6 (f 6)) 7 (f 7)) 8 (f 8)) g a2 x4 (by omega) (by omega) (show 0 ≤ a2 ∧ a2 ≤ x4 from by omega) (show x4 ≤ 700 from by omega)) mM_X6_49 mS_X6_wordKind mN_X6 mC_X6_wordKind (by decide +kernel) hP hS (fun _ h => h) ⟨Nat.le_of_ble_eq_true rfl, Nat.le_of_ble_eq_true rfl⟩ ⟨Nat.zero_le _, Nat.zero_le _⟩ hl.1 rfl rfl (Nat.le_of_ble_eq_true rfl) dX6_putWord_30 (fun r_8 v_8 f_8 g_8 H locs hq_8 hP _ hS => ?_)
          obtain ⟨z_8, rfl, rfl, rfl, rfl, p0_8⟩ := hq_8
          show W p l e (gRm 5 112) s m args below meth c _ _ 0 0 Q (F0 m 33 ls [.int (iI z_8), .ref (ad 10)])
          replace p0_8 : 259 ≤ z_8 ∧ z_8 ≤ 278 := p0_8
          refine lv_iload_n hx hb dX6_putWord_33 rfl (lv_at hl 2 rfl) ?_
          refine lv_iconst (v := iI 0) hx hb dX6_putWord_34 rfl ?_
          refine g_cv (As := [.int (iI z_8), .int (iI a2), .int (iI 0)]) (rest := []) (n := 3) C hml (c_X6_put l D k A ad hD (va_up v 5 (v 5)) (va_up (va_up (va_up f 6 (f 6)) 7 (f 7)) 8 (f 8)) g z_8 a2 0 (by omega) (by omega) (by decide) (show 0 ≤ z_8 ∧ z_8 ≤ 300 from by omega) (show 0 ≤ a2 ∧ a2 ≤ 700 from by omega) (show 0 ≤ (0 : Int) ∧ (0 : Int) ≤ 999999 from by omega)) mM_X6_45 mI_X6_put mE_X6_put mN_X6 mC_X6_put (by decide +kernel) 10 (ci := 6) rfl rfl hP hS (fun _ h => h) ⟨Nat.le_of_ble_eq_true rfl, Nat.le_of_ble_eq_true rfl⟩ ⟨Nat.zero_le _, Nat.zero_le _⟩ hl.1 rfl rfl (Nat.le_of_ble_eq_true rfl) dX6_putWord_35 (fun r_9 v_9 f_9 g_9 H locs hq_9 hP _ hS => ?_)
          obtain ⟨w5_9, a6_9, a7_9, a8_9, rfl, rfl, rfl, rfl⟩ := hq_9
          show W p l e (gRm 5 112) s m args below meth c _ _ 0 0 Q (F0 m 38 ls [])
          have hP : gWd D (rwT k ad) (va_up v 5 w5_9) (va_up (va_up (va_up f 6 a6_9) 7 a7_9) 8 a8_9) g H := ⟨hP.1, (gF_up (V := rwV) (F := rwF) (gF_up (V := rwV) (F := rwF) (gF_up (V := rwV) (F := rwF) (gR_up (V := rwV) (F := rwF) ⟨hok.1, hok.2⟩ 5 (hP.2.1 5)) 6 (hP.2.2 6)) 7 (hP.2.2 7)) 8 (hP.2.2 8))⟩
          have rw5_9 : 0 ≤ w5_9 ∧ w5_9 ≤ 701 := hP.2.1 5
          refine lv_iload hx hb dX6_putWord_38 (lv_at hl 4 rfl) ?_
          exact g_iret hQ C hr hlocks hP hS dX6_putWord_40 ⟨x4, w5_9, a6_9, a7_9, a8_9, rfl, rfl, rfl, rfl, (by first | omega | (split <;> omega))⟩
        · refine lv_iinc (v := iI (x4 + 1)) (lv' := [(4, .int (iI (x4 + 1))), (0, .ref (ad 10)), (1, .ref (ad 1)), (2, .int (iI a2)), (3, .int (iI a3))]) hx hb dX6_putWord_19 hl (k := 4) rfl (by show iI _ + iI 1 = _; rw [iI_add]) (by decide) rfl (fun ls hl => ?_)
          refine lv_goto (tgt := 3) hx hb dX6_putWord_22 (by decide) ?_
          exact ih_3 (x4 + 1) _ _ _ (by omega) (by omega) hP hS (lv_sub hl [1, 2, 3, 4, 0] rfl)
  exact L_1 701 a2 _ _ _ (by omega) (by omega) hP hS (lv_sub hl [1, 2, 3, 4, 0] rfl)

set_option maxHeartbeats 4000000 in
set_option maxRecDepth 100000 in
theorem c_X6_split (l : Launch) (D : va_G) (k : Nat → ClassId) (A : Nat → Prop) (ad : Nat → Nat) (hD : rwD A k ad) (za : Nat → Nat) (v : gV) (f g : gF) (a2 : Int) (h_a2 : inR a2) (h2 : 0 ≤ a2 ∧ a2 ≤ 700) : GE l D k za A (rwT k ad) yX6_split cX6_split 6 none 6 136 [.ref (ad 10), .ref (ad 1), .int (iI a2)] v f g (fun r v1 f1 g1 => ∃ (w6 : Int) (w5 : Int) (a6_ : Int → Int) (a7_ : Int → Int) (a8_ : Int → Int), r = none ∧ (va_up (va_up v 6 w6) 5 w5) = v1 ∧ (va_up (va_up (va_up f 6 a6_) 7 a7_) 8 a8_) = f1 ∧ g = g1) := by
  refine GE.of (by decide) (Nat.le_of_ble_eq_true rfl) ?_
  intro p e s m args below meth c Q ls hQ C hml hr hlocks hP hl hE
  have hx := C.1
  have hb := C.2.1
  have hok := hP.2
  have hS : va_S A s.heap s.heap [] := va_S.rf
  have hl : lv_has ls 6 [(0, .ref (ad 10)), (1, .ref (ad 1)), (2, .int (iI a2))] := hl
  have hP : gWd D (rwT k ad) (va_up (va_up v 6 (v 6)) 5 (v 5)) (va_up (va_up (va_up f 6 (f 6)) 7 (f 7)) 8 (f 8)) g s.heap := by rw [va_id, va_id, va_id, va_id, va_id]; exact hP
  refine lv_aload_n hx hb dX6_split_0 rfl (lv_at hl 0 rfl) ?_
  refine lv_iconst (v := iI 0) hx hb dX6_split_1 rfl ?_
  refine rwP_reader_tokens_at (v1 := (va_up (va_up v 6 0) 5 (v 5))) C hP hD hS mF_X6_21 (by decide) rfl (Or.inr (gF_up (V := rwV) (F := rwF) (gF_up (V := rwV) (F := rwF) (gF_up (V := rwV) (F := rwF) (gR_up (V := rwV) (F := rwF) (gR_up (V := rwV) (F := rwF) ⟨hok.1, hok.2⟩ 6 (show 0 ≤ 0 ∧ 0 ≤ 700 from by decide)) 5 (hP.2.1 5)) 6 (hP.2.2 6)) 7 (hP.2.2 7)) 8 (hP.2.2 8))) dX6_split_2 (fun H locs hP hS => ?_)
  refine lv_aload_n hx hb dX6_split_5 rfl (lv_at hl 0 rfl) ?_
  refine lv_iconst (v := iI 0) hx hb dX6_split_6 rfl ?_
  refine rwP_reader_tokens_many (v1 := (va_up (va_up v 6 0) 5 0)) C hP hD hS mF_X6_25 (by decide) rfl (Or.inr (gF_up (V := rwV) (F := rwF) (gF_up (V := rwV) (F := rwF) (gF_up (V := rwV) (F := rwF) (gR_up (V := rwV) (F := rwF) (gR_up (V := rwV) (F := rwF) ⟨hok.1, hok.2⟩ 6 (hP.2.1 6)) 5 (show 0 ≤ 0 ∧ 0 ≤ 701 from by decide)) 6 (hP.2.2 6)) 7 (hP.2.2 7)) 8 (hP.2.2 8))) dX6_split_7 (fun H locs hP hS => ?_)
  refine lv_iconst (v := iI 0) hx hb dX6_split_10 rfl ?_
  refine lv_istore_n (lv' := [(3, .int (iI 0)), (0, .ref (ad 10)), (1, .ref (ad 1)), (2, .int (iI a2))]) hx hb dX6_split_11 rfl hl (by decide) rfl (fun ls hl => ?_)
  refine lv_iconst (v := iI 0) hx hb dX6_split_12 rfl ?_
  refine lv_istore (lv' := [(4, .int (iI 0)), (3, .int (iI 0)), (0, .ref (ad 10)), (1, .ref (ad 1)), (2, .int (iI a2))]) hx hb dX6_split_13 hl (by decide) rfl (fun ls hl => ?_)
  have L_1 : ∀ (n : Nat) (x3 : Int) (x4 : Int) (y5_1 : Int) (c6_1 : Int → Int) (c7_1 : Int → Int) (c8_1 : Int → Int) (H : Heap) (locs : List Loc) (ls : Array Slot), 700 - x4 < (n : Int) → (0 ≤ x4 ∧ x4 ≤ a2) → (0 ≤ x3 ∧ x3 ≤ a2) → gWd D (rwT k ad) (va_up (va_up v 6 0) 5 y5_1) (va_up (va_up (va_up f 6 c6_1) 7 c7_1) 8 c8_1) g H → va_S A s.heap H locs → lv_has ls 6 [(0, .ref (ad 10)), (1, .ref (ad 1)), (2, .int (iI a2)), (3, .int (iI x3)), (4, .int (iI x4))] → W p l e (gRm 6 136) s m args below meth c H locs 0 0 Q (F0 m 15 ls []) := by
    intro n
    induction n with
    | zero =>
      intro x3 x4 y5_1 c6_1 c7_1 c8_1 H locs ls hn_1 i1_0 i1_1 hP hS hl
      have ry5_1 : 0 ≤ y5_1 ∧ y5_1 ≤ 701 := hP.2.1 5
      exfalso; omega
    | succ n ih_15 =>
      intro x3 x4 y5_1 c6_1 c7_1 c8_1 H locs ls hn_1 i1_0 i1_1 hP hS hl
      have ry5_1 : 0 ≤ y5_1 ∧ y5_1 ≤ 701 := hP.2.1 5
      refine lv_iload hx hb dX6_split_15 (lv_at hl 4 rfl) ?_
      refine lv_iload_n hx hb dX6_split_17 rfl (lv_at hl 2 rfl) ?_
      refine gi_cge (tgt := 145) hx hb dX6_split_18 (by decide) (by omega) (by omega) (fun c_2 => ?_) (fun c_2 => ?_)
      · refine lv_aload_n hx hb dX6_split_145 rfl (lv_at hl 0 rfl) ?_
        refine lv_sipush (v := iI 256) hx hb dX6_split_146 (by decide) ?_
        refine lv_iload_n hx hb dX6_split_149 rfl (lv_at hl 2 rfl) ?_
        refine lv_iconst (v := iI 0) hx hb dX6_split_150 rfl ?_
        refine g_cv (As := [.int (iI 256), .int (iI a2), .int (iI 0)]) (rest := []) (n := 3) C hml (c_X6_put l D k A ad hD (va_up (va_up v 6 0) 5 y5_1) (va_up (va_up (va_up f 6 c6_1) 7 c7_1) 8 c8_1) g 256 a2 0 (by decide) (by omega) (by decide) (show 0 ≤ (256 : Int) ∧ (256 : Int) ≤ 300 from by omega) (show 0 ≤ a2 ∧ a2 ≤ 700 from by omega) (show 0 ≤ (0 : Int) ∧ (0 : Int) ≤ 999999 from by omega)) mM_X6_45 mI_X6_put mE_X6_put mN_X6 mC_X6_put (by decide +kernel) 10 (ci := 6) rfl rfl hP hS (fun _ h => h) ⟨Nat.le_of_ble_eq_true rfl, Nat.le_of_ble_eq_true rfl⟩ ⟨Nat.zero_le _, Nat.zero_le _⟩ hl.1 rfl rfl (Nat.le_of_ble_eq_true rfl) dX6_split_151 (fun r_3 v_3 f_3 g_3 H locs hq_3 hP _ hS => ?_)
        obtain ⟨w5_3, a6_3, a7_3, a8_3, rfl, rfl, rfl, rfl⟩ := hq_3
        show W p l e (gRm 6 136) s m args below meth c _ _ 0 0 Q (F0 m 154 ls [])
        have hP : gWd D (rwT k ad) (va_up (va_up v 6 0) 5 w5_3) (va_up (va_up (va_up f 6 a6_3) 7 a7_3) 8 a8_3) g H := ⟨hP.1, (gF_up (V := rwV) (F := rwF) (gF_up (V := rwV) (F := rwF) (gF_up (V := rwV) (F := rwF) (gR_up (V := rwV) (F := rwF) (gR_up (V := rwV) (F := rwF) ⟨hok.1, hok.2⟩ 6 (hP.2.1 6)) 5 (hP.2.1 5)) 6 (hP.2.2 6)) 7 (hP.2.2 7)) 8 (hP.2.2 8))⟩
        have rw5_3 : 0 ≤ w5_3 ∧ w5_3 ≤ 701 := hP.2.1 5
        exact g_vret hQ C hr hlocks hP hS dX6_split_154 ⟨0, w5_3, a6_3, a7_3, a8_3, rfl, rfl, rfl, rfl⟩
      · refine lv_iload_n hx hb dX6_split_21 rfl (lv_at hl 3 rfl) ?_
        refine lv_iload_n hx hb dX6_split_22 rfl (lv_at hl 2 rfl) ?_
        refine gi_cge (tgt := 145) hx hb dX6_split_23 (by decide) (by omega) (by omega) (fun c_4 => ?_) (fun c_4 => ?_)
        · refine lv_aload_n hx hb dX6_split_145 rfl (lv_at hl 0 rfl) ?_
          refine lv_sipush (v := iI 256) hx hb dX6_split_146 (by decide) ?_
          refine lv_iload_n hx hb dX6_split_149 rfl (lv_at hl 2 rfl) ?_
          refine lv_iconst (v := iI 0) hx hb dX6_split_150 rfl ?_
          refine g_cv (As := [.int (iI 256), .int (iI a2), .int (iI 0)]) (rest := []) (n := 3) C hml (c_X6_put l D k A ad hD (va_up (va_up v 6 0) 5 y5_1) (va_up (va_up (va_up f 6 c6_1) 7 c7_1) 8 c8_1) g 256 a2 0 (by decide) (by omega) (by decide) (show 0 ≤ (256 : Int) ∧ (256 : Int) ≤ 300 from by omega) (show 0 ≤ a2 ∧ a2 ≤ 700 from by omega) (show 0 ≤ (0 : Int) ∧ (0 : Int) ≤ 999999 from by omega)) mM_X6_45 mI_X6_put mE_X6_put mN_X6 mC_X6_put (by decide +kernel) 10 (ci := 6) rfl rfl hP hS (fun _ h => h) ⟨Nat.le_of_ble_eq_true rfl, Nat.le_of_ble_eq_true rfl⟩ ⟨Nat.zero_le _, Nat.zero_le _⟩ hl.1 rfl rfl (Nat.le_of_ble_eq_true rfl) dX6_split_151 (fun r_5 v_5 f_5 g_5 H locs hq_5 hP _ hS => ?_)
          obtain ⟨w5_5, a6_5, a7_5, a8_5, rfl, rfl, rfl, rfl⟩ := hq_5
          show W p l e (gRm 6 136) s m args below meth c _ _ 0 0 Q (F0 m 154 ls [])
          have hP : gWd D (rwT k ad) (va_up (va_up v 6 0) 5 w5_5) (va_up (va_up (va_up f 6 a6_5) 7 a7_5) 8 a8_5) g H := ⟨hP.1, (gF_up (V := rwV) (F := rwF) (gF_up (V := rwV) (F := rwF) (gF_up (V := rwV) (F := rwF) (gR_up (V := rwV) (F := rwF) (gR_up (V := rwV) (F := rwF) ⟨hok.1, hok.2⟩ 6 (hP.2.1 6)) 5 (hP.2.1 5)) 6 (hP.2.2 6)) 7 (hP.2.2 7)) 8 (hP.2.2 8))⟩
          have rw5_5 : 0 ≤ w5_5 ∧ w5_5 ≤ 701 := hP.2.1 5
          exact g_vret hQ C hr hlocks hP hS dX6_split_154 ⟨0, w5_5, a6_5, a7_5, a8_5, rfl, rfl, rfl, rfl⟩
        · refine lv_aload_n hx hb dX6_split_26 rfl (lv_at hl 1 rfl) ?_
          refine lv_iload_n hx hb dX6_split_27 rfl (lv_at hl 3 rfl) ?_
          refine rwL_tape C hP (by omega) (by omega) dX6_split_28 ?_
          show W p l e (gRm 6 136) s m args below meth c _ _ 0 0 Q (F0 m 29 ls [.int (iI (f 0 x3))])
          have r_6 : 0 ≤ (f 0 x3) ∧ (f 0 x3) ≤ 255 := hP.2.2 0 x3
          refine lv_istore (lv' := [(5, .int (iI (f 0 x3))), (0, .ref (ad 10)), (1, .ref (ad 1)), (2, .int (iI a2)), (3, .int (iI x3)), (4, .int (iI x4))]) hx hb dX6_split_29 hl (by decide) rfl (fun ls hl => ?_)
          refine lv_iload hx hb dX6_split_31 (lv_at hl 0 rfl) ?_
          refine lv_bipush (v := iI 32) hx hb dX6_split_33 (by decide) ?_
          refine gi_ceq (tgt := 45) hx hb dX6_split_35 (by decide) (by omega) (by decide) (fun c_7 => ?_) (fun c_7 => ?_)
          · refine lv_iinc (v := iI (x3 + 1)) (lv' := [(3, .int (iI (x3 + 1))), (5, .int (iI (f 0 x3))), (0, .ref (ad 10)), (1, .ref (ad 1)), (2, .int (iI a2)), (4, .int (iI x4))]) hx hb dX6_split_45 hl (k := 4) rfl (by show iI _ + iI 1 = _; rw [iI_add]) (by decide) rfl (fun ls hl => ?_)
            refine lv_goto (tgt := 114) hx hb dX6_split_48 (by decide) ?_
            refine lv_aload_n hx hb dX6_split_114 rfl (lv_at hl 2 rfl) ?_
            refine rwG_reader_tokens_many C hP mF_X6_25 dX6_split_115 ?_
            show W p l e (gRm 6 136) s m args below meth c _ _ 0 0 Q (F0 m 118 ls [.int (iI y5_1)])
            have r_8 : 0 ≤ y5_1 ∧ y5_1 ≤ 701 := hP.2.1 5
            refine gi_zle (tgt := 139) hx hb dX6_split_118 (by decide) (by omega) (fun c_9 => ?_) (fun c_9 => ?_)
            · refine lv_iinc (v := iI (x4 + 1)) (lv' := [(4, .int (iI (x4 + 1))), (3, .int (iI (x3 + 1))), (5, .int (iI (f 0 x3))), (0, .ref (ad 10)), (1, .ref (ad 1)), (2, .int (iI a2))]) hx hb dX6_split_139 hl (k := 5) rfl (by show iI _ + iI 1 = _; rw [iI_add]) (by decide) rfl (fun ls hl => ?_)
              refine lv_goto (tgt := 15) hx hb dX6_split_142 (by decide) ?_
              exact ih_15 (x3 + 1) (x4 + 1) y5_1 c6_1 c7_1 c8_1 _ _ _ (by omega) (by omega) (by omega) hP hS (lv_sub hl [3, 4, 5, 1, 0] rfl)
            · refine lv_aload_n hx hb dX6_split_121 rfl (lv_at hl 2 rfl) ?_
              refine rwG_reader_tokens_kinds C hP mF_X6_9 dX6_split_122 ?_
              refine lv_aload_n hx hb dX6_split_125 rfl (lv_at hl 2 rfl) ?_
              refine rwG_reader_tokens_many C hP mF_X6_25 dX6_split_126 ?_
              show W p l e (gRm 6 136) s m args below meth c _ _ 0 0 Q (F0 m 129 ls [.int (iI y5_1), .ref (ad 11)])
              refine lv_iconst (v := iI 1) hx hb dX6_split_129 rfl ?_
              refine gi_sub (z := (y5_1 - 1)) hx hb dX6_split_130 rfl ?_
              refine rwL_reader_tokens_kinds C hP (by omega) (by omega) dX6_split_131 ?_
              show W p l e (gRm 6 136) s m args below meth c _ _ 0 0 Q (F0 m 132 ls [.int (iI (c6_1 (y5_1 - 1)))])
              have r_10 : 0 ≤ (c6_1 (y5_1 - 1)) ∧ (c6_1 (y5_1 - 1)) ≤ 300 := hP.2.2 6 (y5_1 - 1)
              refine lv_sipush (v := iI 257) hx hb dX6_split_132 (by decide) ?_
              refine gi_cne (tgt := 139) hx hb dX6_split_135 (by decide) (by omega) (by decide) (fun c_11 => ?_) (fun c_11 => ?_)
              · refine lv_iinc (v := iI (x4 + 1)) (lv' := [(4, .int (iI (x4 + 1))), (3, .int (iI (x3 + 1))), (5, .int (iI (f 0 x3))), (0, .ref (ad 10)), (1, .ref (ad 1)), (2, .int (iI a2))]) hx hb dX6_split_139 hl (k := 5) rfl (by show iI _ + iI 1 = _; rw [iI_add]) (by decide) rfl (fun ls hl => ?_)
                refine lv_goto (tgt := 15) hx hb dX6_split_142 (by decide) ?_
                exact ih_15 (x3 + 1) (x4 + 1) y5_1 c6_1 c7_1 c8_1 _ _ _ (by omega) (by omega) (by omega) hP hS (lv_sub hl [3, 4, 5, 1, 0] rfl)
              · exact g_vret hQ C hr hlocks hP hS dX6_split_138 ⟨0, y5_1, c6_1, c7_1, c8_1, rfl, rfl, rfl, rfl⟩
          · refine lv_iload hx hb dX6_split_38 (lv_at hl 0 rfl) ?_
            refine lv_bipush (v := iI 10) hx hb dX6_split_40 (by decide) ?_
            refine gi_cne (tgt := 51) hx hb dX6_split_42 (by decide) (by omega) (by decide) (fun c_12 => ?_) (fun c_12 => ?_)
            · refine lv_iload hx hb dX6_split_51 (lv_at hl 0 rfl) ?_
              refine g_cs (As := [.int (iI (f 0 x3))]) (rest := []) (n := 1) C hml (c_X6_isLetter l D k A ad hD (va_up (va_up v 6 0) 5 y5_1) (va_up (va_up (va_up f 6 c6_1) 7 c7_1) 8 c8_1) g (f 0 x3) (by omega)) mM_X6_28 mS_X6_isLetter mN_X6 mC_X6_isLetter (by decide +kernel) hP hS (fun _ h => h) ⟨Nat.le_of_ble_eq_true rfl, Nat.le_of_ble_eq_true rfl⟩ ⟨Nat.zero_le _, Nat.zero_le _⟩ hl.1 rfl rfl (Nat.le_of_ble_eq_true rfl) dX6_split_53 (fun r_13 v_13 f_13 g_13 H locs hq_13 hP _ hS => ?_)
              obtain ⟨z_13, rfl, rfl, rfl, rfl, p0_13⟩ := hq_13
              show W p l e (gRm 6 136) s m args below meth c _ _ 0 0 Q (F0 m 56 ls [.int (iI z_13)])
              replace p0_13 : z_13 = (if 97 ≤ (f 0 x3) ∧ (f 0 x3) ≤ 122 then 1 else 0) := p0_13
              have w_13 := gif (P := 97 ≤ (f 0 x3) ∧ (f 0 x3) ≤ 122) p0_13
              have hz_13 : inR z_13 := (by first | omega | (rw [p0_13]; split <;> omega))
              refine gi_zeq (tgt := 70) hx hb dX6_split_56 (by decide) (by omega) (fun c_14 => ?_) (fun c_14 => ?_)
              · refine lv_iload hx hb dX6_split_70 (lv_at hl 0 rfl) ?_
                refine g_cs (As := [.int (iI (f 0 x3))]) (rest := []) (n := 1) C hml (c_X6_isDigit l D k A ad hD (va_up (va_up v 6 0) 5 y5_1) (va_up (va_up (va_up f 6 c6_1) 7 c7_1) 8 c8_1) g (f 0 x3) (by omega)) mM_X6_36 mS_X6_isDigit mN_X6 mC_X6_isDigit (by decide +kernel) hP hS (fun _ h => h) ⟨Nat.le_of_ble_eq_true rfl, Nat.le_of_ble_eq_true rfl⟩ ⟨Nat.zero_le _, Nat.zero_le _⟩ hl.1 rfl rfl (Nat.le_of_ble_eq_true rfl) dX6_split_72 (fun r_15 v_15 f_15 g_15 H locs hq_15 hP _ hS => ?_)
                obtain ⟨z_15, rfl, rfl, rfl, rfl, p0_15⟩ := hq_15
                show W p l e (gRm 6 136) s m args below meth c _ _ 0 0 Q (F0 m 75 ls [.int (iI z_15)])
                replace p0_15 : z_15 = (if 48 ≤ (f 0 x3) ∧ (f 0 x3) ≤ 57 then 1 else 0) := p0_15
                have w_15 := gif (P := 48 ≤ (f 0 x3) ∧ (f 0 x3) ≤ 57) p0_15
                have hz_15 : inR z_15 := (by first | omega | (rw [p0_15]; split <;> omega))
                refine gi_zeq (tgt := 89) hx hb dX6_split_75 (by decide) (by omega) (fun c_16 => ?_) (fun c_16 => ?_)
                · refine lv_aload_n hx hb dX6_split_89 rfl (lv_at hl 1 rfl) ?_
                  refine lv_iload hx hb dX6_split_90 (lv_at hl 0 rfl) ?_
                  refine g_cs (As := [.int (iI (f 0 x3))]) (rest := [.ref (ad 10)]) (n := 1) C hml (c_X6_isSign l D k A ad hD (va_up (va_up v 6 0) 5 y5_1) (va_up (va_up (va_up f 6 c6_1) 7 c7_1) 8 c8_1) g (f 0 x3) (by omega)) mM_X6_42 mS_X6_isSign mN_X6 mC_X6_isSign (by decide +kernel) hP hS (fun _ h => h) ⟨Nat.le_of_ble_eq_true rfl, Nat.le_of_ble_eq_true rfl⟩ ⟨Nat.zero_le _, Nat.zero_le _⟩ hl.1 rfl rfl (Nat.le_of_ble_eq_true rfl) dX6_split_92 (fun r_17 v_17 f_17 g_17 H locs hq_17 hP _ hS => ?_)
                  obtain ⟨z_17, rfl, rfl, rfl, rfl, p0_17⟩ := hq_17
                  show W p l e (gRm 6 136) s m args below meth c _ _ 0 0 Q (F0 m 95 ls [.int (iI z_17), .ref (ad 10)])
                  replace p0_17 : 0 ≤ z_17 ∧ z_17 ≤ 1 := p0_17
                  refine gi_zeq (tgt := 103) hx hb dX6_split_95 (by decide) (by omega) (fun c_18 => ?_) (fun c_18 => ?_)
                  · refine lv_sipush (v := iI 257) hx hb dX6_split_103 (by decide) ?_
                    refine lv_iload_n hx hb dX6_split_106 rfl (lv_at hl 4 rfl) ?_
                    refine lv_iconst (v := iI 0) hx hb dX6_split_107 rfl ?_
                    refine g_cv (As := [.int (iI 257), .int (iI x3), .int (iI 0)]) (rest := []) (n := 3) C hml (c_X6_put l D k A ad hD (va_up (va_up v 6 0) 5 y5_1) (va_up (va_up (va_up f 6 c6_1) 7 c7_1) 8 c8_1) g 257 x3 0 (by decide) (by omega) (by decide) (show 0 ≤ (257 : Int) ∧ (257 : Int) ≤ 300 from by omega) (show 0 ≤ x3 ∧ x3 ≤ 700 from by omega) (show 0 ≤ (0 : Int) ∧ (0 : Int) ≤ 999999 from by omega)) mM_X6_45 mI_X6_put mE_X6_put mN_X6 mC_X6_put (by decide +kernel) 10 (ci := 6) rfl rfl hP hS (fun _ h => h) ⟨Nat.le_of_ble_eq_true rfl, Nat.le_of_ble_eq_true rfl⟩ ⟨Nat.zero_le _, Nat.zero_le _⟩ hl.1 rfl rfl (Nat.le_of_ble_eq_true rfl) dX6_split_108 (fun r_19 v_19 f_19 g_19 H locs hq_19 hP _ hS => ?_)
                    obtain ⟨w5_19, a6_19, a7_19, a8_19, rfl, rfl, rfl, rfl⟩ := hq_19
                    show W p l e (gRm 6 136) s m args below meth c _ _ 0 0 Q (F0 m 111 ls [])
                    have hP : gWd D (rwT k ad) (va_up (va_up v 6 0) 5 w5_19) (va_up (va_up (va_up f 6 a6_19) 7 a7_19) 8 a8_19) g H := ⟨hP.1, (gF_up (V := rwV) (F := rwF) (gF_up (V := rwV) (F := rwF) (gF_up (V := rwV) (F := rwF) (gR_up (V := rwV) (F := rwF) (gR_up (V := rwV) (F := rwF) ⟨hok.1, hok.2⟩ 6 (hP.2.1 6)) 5 (hP.2.1 5)) 6 (hP.2.2 6)) 7 (hP.2.2 7)) 8 (hP.2.2 8))⟩
                    have rw5_19 : 0 ≤ w5_19 ∧ w5_19 ≤ 701 := hP.2.1 5
                    refine lv_iinc (v := iI (x3 + 1)) (lv' := [(3, .int (iI (x3 + 1))), (5, .int (iI (f 0 x3))), (0, .ref (ad 10)), (1, .ref (ad 1)), (2, .int (iI a2)), (4, .int (iI x4))]) hx hb dX6_split_111 hl (k := 4) rfl (by show iI _ + iI 1 = _; rw [iI_add]) (by decide) rfl (fun ls hl => ?_)
                    refine lv_aload_n hx hb dX6_split_114 rfl (lv_at hl 2 rfl) ?_
                    refine rwG_reader_tokens_many C hP mF_X6_25 dX6_split_115 ?_
                    show W p l e (gRm 6 136) s m args below meth c _ _ 0 0 Q (F0 m 118 ls [.int (iI w5_19)])
                    have r_20 : 0 ≤ w5_19 ∧ w5_19 ≤ 701 := hP.2.1 5
                    refine gi_zle (tgt := 139) hx hb dX6_split_118 (by decide) (by omega) (fun c_21 => ?_) (fun c_21 => ?_)
                    · refine lv_iinc (v := iI (x4 + 1)) (lv' := [(4, .int (iI (x4 + 1))), (3, .int (iI (x3 + 1))), (5, .int (iI (f 0 x3))), (0, .ref (ad 10)), (1, .ref (ad 1)), (2, .int (iI a2))]) hx hb dX6_split_139 hl (k := 5) rfl (by show iI _ + iI 1 = _; rw [iI_add]) (by decide) rfl (fun ls hl => ?_)
                      refine lv_goto (tgt := 15) hx hb dX6_split_142 (by decide) ?_
                      exact ih_15 (x3 + 1) (x4 + 1) w5_19 a6_19 a7_19 a8_19 _ _ _ (by omega) (by omega) (by omega) hP hS (lv_sub hl [3, 4, 5, 1, 0] rfl)
                    · refine lv_aload_n hx hb dX6_split_121 rfl (lv_at hl 2 rfl) ?_
                      refine rwG_reader_tokens_kinds C hP mF_X6_9 dX6_split_122 ?_
                      refine lv_aload_n hx hb dX6_split_125 rfl (lv_at hl 2 rfl) ?_
                      refine rwG_reader_tokens_many C hP mF_X6_25 dX6_split_126 ?_
                      show W p l e (gRm 6 136) s m args below meth c _ _ 0 0 Q (F0 m 129 ls [.int (iI w5_19), .ref (ad 11)])
                      refine lv_iconst (v := iI 1) hx hb dX6_split_129 rfl ?_
                      refine gi_sub (z := (w5_19 - 1)) hx hb dX6_split_130 rfl ?_
                      refine rwL_reader_tokens_kinds C hP (by omega) (by omega) dX6_split_131 ?_
                      show W p l e (gRm 6 136) s m args below meth c _ _ 0 0 Q (F0 m 132 ls [.int (iI (a6_19 (w5_19 - 1)))])
                      have r_22 : 0 ≤ (a6_19 (w5_19 - 1)) ∧ (a6_19 (w5_19 - 1)) ≤ 300 := hP.2.2 6 (w5_19 - 1)
                      refine lv_sipush (v := iI 257) hx hb dX6_split_132 (by decide) ?_
                      refine gi_cne (tgt := 139) hx hb dX6_split_135 (by decide) (by omega) (by decide) (fun c_23 => ?_) (fun c_23 => ?_)
                      · refine lv_iinc (v := iI (x4 + 1)) (lv' := [(4, .int (iI (x4 + 1))), (3, .int (iI (x3 + 1))), (5, .int (iI (f 0 x3))), (0, .ref (ad 10)), (1, .ref (ad 1)), (2, .int (iI a2))]) hx hb dX6_split_139 hl (k := 5) rfl (by show iI _ + iI 1 = _; rw [iI_add]) (by decide) rfl (fun ls hl => ?_)
                        refine lv_goto (tgt := 15) hx hb dX6_split_142 (by decide) ?_
                        exact ih_15 (x3 + 1) (x4 + 1) w5_19 a6_19 a7_19 a8_19 _ _ _ (by omega) (by omega) (by omega) hP hS (lv_sub hl [3, 4, 5, 1, 0] rfl)
                      · exact g_vret hQ C hr hlocks hP hS dX6_split_138 ⟨0, w5_19, a6_19, a7_19, a8_19, rfl, rfl, rfl, rfl⟩
                  · refine lv_iload hx hb dX6_split_98 (lv_at hl 0 rfl) ?_
                    refine lv_goto (tgt := 106) hx hb dX6_split_100 (by decide) ?_
                    refine lv_iload_n hx hb dX6_split_106 rfl (lv_at hl 4 rfl) ?_
                    refine lv_iconst (v := iI 0) hx hb dX6_split_107 rfl ?_
                    refine g_cv (As := [.int (iI (f 0 x3)), .int (iI x3), .int (iI 0)]) (rest := []) (n := 3) C hml (c_X6_put l D k A ad hD (va_up (va_up v 6 0) 5 y5_1) (va_up (va_up (va_up f 6 c6_1) 7 c7_1) 8 c8_1) g (f 0 x3) x3 0 (by omega) (by omega) (by decide) (show 0 ≤ (f 0 x3) ∧ (f 0 x3) ≤ 300 from by omega) (show 0 ≤ x3 ∧ x3 ≤ 700 from by omega) (show 0 ≤ (0 : Int) ∧ (0 : Int) ≤ 999999 from by omega)) mM_X6_45 mI_X6_put mE_X6_put mN_X6 mC_X6_put (by decide +kernel) 10 (ci := 6) rfl rfl hP hS (fun _ h => h) ⟨Nat.le_of_ble_eq_true rfl, Nat.le_of_ble_eq_true rfl⟩ ⟨Nat.zero_le _, Nat.zero_le _⟩ hl.1 rfl rfl (Nat.le_of_ble_eq_true rfl) dX6_split_108 (fun r_24 v_24 f_24 g_24 H locs hq_24 hP _ hS => ?_)
                    obtain ⟨w5_24, a6_24, a7_24, a8_24, rfl, rfl, rfl, rfl⟩ := hq_24
                    show W p l e (gRm 6 136) s m args below meth c _ _ 0 0 Q (F0 m 111 ls [])
                    have hP : gWd D (rwT k ad) (va_up (va_up v 6 0) 5 w5_24) (va_up (va_up (va_up f 6 a6_24) 7 a7_24) 8 a8_24) g H := ⟨hP.1, (gF_up (V := rwV) (F := rwF) (gF_up (V := rwV) (F := rwF) (gF_up (V := rwV) (F := rwF) (gR_up (V := rwV) (F := rwF) (gR_up (V := rwV) (F := rwF) ⟨hok.1, hok.2⟩ 6 (hP.2.1 6)) 5 (hP.2.1 5)) 6 (hP.2.2 6)) 7 (hP.2.2 7)) 8 (hP.2.2 8))⟩
                    have rw5_24 : 0 ≤ w5_24 ∧ w5_24 ≤ 701 := hP.2.1 5
                    refine lv_iinc (v := iI (x3 + 1)) (lv' := [(3, .int (iI (x3 + 1))), (5, .int (iI (f 0 x3))), (0, .ref (ad 10)), (1, .ref (ad 1)), (2, .int (iI a2)), (4, .int (iI x4))]) hx hb dX6_split_111 hl (k := 4) rfl (by show iI _ + iI 1 = _; rw [iI_add]) (by decide) rfl (fun ls hl => ?_)
                    refine lv_aload_n hx hb dX6_split_114 rfl (lv_at hl 2 rfl) ?_
                    refine rwG_reader_tokens_many C hP mF_X6_25 dX6_split_115 ?_
                    show W p l e (gRm 6 136) s m args below meth c _ _ 0 0 Q (F0 m 118 ls [.int (iI w5_24)])
                    have r_25 : 0 ≤ w5_24 ∧ w5_24 ≤ 701 := hP.2.1 5
                    refine gi_zle (tgt := 139) hx hb dX6_split_118 (by decide) (by omega) (fun c_26 => ?_) (fun c_26 => ?_)
                    · refine lv_iinc (v := iI (x4 + 1)) (lv' := [(4, .int (iI (x4 + 1))), (3, .int (iI (x3 + 1))), (5, .int (iI (f 0 x3))), (0, .ref (ad 10)), (1, .ref (ad 1)), (2, .int (iI a2))]) hx hb dX6_split_139 hl (k := 5) rfl (by show iI _ + iI 1 = _; rw [iI_add]) (by decide) rfl (fun ls hl => ?_)
                      refine lv_goto (tgt := 15) hx hb dX6_split_142 (by decide) ?_
                      exact ih_15 (x3 + 1) (x4 + 1) w5_24 a6_24 a7_24 a8_24 _ _ _ (by omega) (by omega) (by omega) hP hS (lv_sub hl [3, 4, 5, 1, 0] rfl)
                    · refine lv_aload_n hx hb dX6_split_121 rfl (lv_at hl 2 rfl) ?_
                      refine rwG_reader_tokens_kinds C hP mF_X6_9 dX6_split_122 ?_
                      refine lv_aload_n hx hb dX6_split_125 rfl (lv_at hl 2 rfl) ?_
                      refine rwG_reader_tokens_many C hP mF_X6_25 dX6_split_126 ?_
                      show W p l e (gRm 6 136) s m args below meth c _ _ 0 0 Q (F0 m 129 ls [.int (iI w5_24), .ref (ad 11)])
                      refine lv_iconst (v := iI 1) hx hb dX6_split_129 rfl ?_
                      refine gi_sub (z := (w5_24 - 1)) hx hb dX6_split_130 rfl ?_
                      refine rwL_reader_tokens_kinds C hP (by omega) (by omega) dX6_split_131 ?_
                      show W p l e (gRm 6 136) s m args below meth c _ _ 0 0 Q (F0 m 132 ls [.int (iI (a6_24 (w5_24 - 1)))])
                      have r_27 : 0 ≤ (a6_24 (w5_24 - 1)) ∧ (a6_24 (w5_24 - 1)) ≤ 300 := hP.2.2 6 (w5_24 - 1)
                      refine lv_sipush (v := iI 257) hx hb dX6_split_132 (by decide) ?_
                      refine gi_cne (tgt := 139) hx hb dX6_split_135 (by decide) (by omega) (by decide) (fun c_28 => ?_) (fun c_28 => ?_)
                      · refine lv_iinc (v := iI (x4 + 1)) (lv' := [(4, .int (iI (x4 + 1))), (3, .int (iI (x3 + 1))), (5, .int (iI (f 0 x3))), (0, .ref (ad 10)), (1, .ref (ad 1)), (2, .int (iI a2))]) hx hb dX6_split_139 hl (k := 5) rfl (by show iI _ + iI 1 = _; rw [iI_add]) (by decide) rfl (fun ls hl => ?_)
                        refine lv_goto (tgt := 15) hx hb dX6_split_142 (by decide) ?_
                        exact ih_15 (x3 + 1) (x4 + 1) w5_24 a6_24 a7_24 a8_24 _ _ _ (by omega) (by omega) (by omega) hP hS (lv_sub hl [3, 4, 5, 1, 0] rfl)
                      · exact g_vret hQ C hr hlocks hP hS dX6_split_138 ⟨0, w5_24, a6_24, a7_24, a8_24, rfl, rfl, rfl, rfl⟩
                · refine lv_aload_n hx hb dX6_split_78 rfl (lv_at hl 1 rfl) ?_
                  refine lv_aload_n hx hb dX6_split_79 rfl (lv_at hl 2 rfl) ?_
                  refine lv_iload_n hx hb dX6_split_80 rfl (lv_at hl 4 rfl) ?_
                  refine lv_iload_n hx hb dX6_split_81 rfl (lv_at hl 3 rfl) ?_
                  refine g_cv (As := [.ref (ad 1), .int (iI x3), .int (iI a2)]) (rest := []) (n := 3) C hml (c_X6_putNumber l D k A ad hD (va_up (va_up v 6 0) 5 y5_1) (va_up (va_up (va_up f 6 c6_1) 7 c7_1) 8 c8_1) g x3 a2 (by omega) (by omega) (show 0 ≤ x3 ∧ x3 ≤ a2 from by omega) (show a2 ≤ 700 from by omega)) mM_X6_39 mI_X6_putNumber mE_X6_putNumber mN_X6 mC_X6_putNumber (by decide +kernel) 10 (ci := 6) rfl rfl hP hS (fun _ h => h) ⟨Nat.le_of_ble_eq_true rfl, Nat.le_of_ble_eq_true rfl⟩ ⟨Nat.zero_le _, Nat.zero_le _⟩ hl.1 rfl rfl (Nat.le_of_ble_eq_true rfl) dX6_split_82 (fun r_29 v_29 f_29 g_29 H locs hq_29 hP _ hS => ?_)
                  obtain ⟨z_29, w5_29, a6_29, a7_29, a8_29, rfl, rfl, rfl, rfl, p0_29⟩ := hq_29
                  show W p l e (gRm 6 136) s m args below meth c _ _ 0 0 Q (F0 m 85 ls [.int (iI z_29)])
                  have hP : gWd D (rwT k ad) (va_up (va_up v 6 0) 5 w5_29) (va_up (va_up (va_up f 6 a6_29) 7 a7_29) 8 a8_29) g H := ⟨hP.1, (gF_up (V := rwV) (F := rwF) (gF_up (V := rwV) (F := rwF) (gF_up (V := rwV) (F := rwF) (gR_up (V := rwV) (F := rwF) (gR_up (V := rwV) (F := rwF) ⟨hok.1, hok.2⟩ 6 (hP.2.1 6)) 5 (hP.2.1 5)) 6 (hP.2.2 6)) 7 (hP.2.2 7)) 8 (hP.2.2 8))⟩
                  replace p0_29 : x3 ≤ z_29 ∧ z_29 ≤ a2 := p0_29
                  have rw5_29 : 0 ≤ w5_29 ∧ w5_29 ≤ 701 := hP.2.1 5
                  have hz_29 : inR z_29 := (by first | omega | (rw [p0_29]; split <;> omega))
                  refine lv_istore_n (lv' := [(3, .int (iI z_29)), (5, .int (iI (f 0 x3))), (0, .ref (ad 10)), (1, .ref (ad 1)), (2, .int (iI a2)), (4, .int (iI x4))]) hx hb dX6_split_85 rfl hl (by decide) rfl (fun ls hl => ?_)
                  refine lv_goto (tgt := 114) hx hb dX6_split_86 (by decide) ?_
                  refine lv_aload_n hx hb dX6_split_114 rfl (lv_at hl 2 rfl) ?_
                  refine rwG_reader_tokens_many C hP mF_X6_25 dX6_split_115 ?_
                  show W p l e (gRm 6 136) s m args below meth c _ _ 0 0 Q (F0 m 118 ls [.int (iI w5_29)])
                  have r_30 : 0 ≤ w5_29 ∧ w5_29 ≤ 701 := hP.2.1 5
                  refine gi_zle (tgt := 139) hx hb dX6_split_118 (by decide) (by omega) (fun c_31 => ?_) (fun c_31 => ?_)
                  · refine lv_iinc (v := iI (x4 + 1)) (lv' := [(4, .int (iI (x4 + 1))), (3, .int (iI z_29)), (5, .int (iI (f 0 x3))), (0, .ref (ad 10)), (1, .ref (ad 1)), (2, .int (iI a2))]) hx hb dX6_split_139 hl (k := 5) rfl (by show iI _ + iI 1 = _; rw [iI_add]) (by decide) rfl (fun ls hl => ?_)
                    refine lv_goto (tgt := 15) hx hb dX6_split_142 (by decide) ?_
                    exact ih_15 z_29 (x4 + 1) w5_29 a6_29 a7_29 a8_29 _ _ _ (by omega) (by omega) (by omega) hP hS (lv_sub hl [3, 4, 5, 1, 0] rfl)
                  · refine lv_aload_n hx hb dX6_split_121 rfl (lv_at hl 2 rfl) ?_
                    refine rwG_reader_tokens_kinds C hP mF_X6_9 dX6_split_122 ?_
                    refine lv_aload_n hx hb dX6_split_125 rfl (lv_at hl 2 rfl) ?_
                    refine rwG_reader_tokens_many C hP mF_X6_25 dX6_split_126 ?_
                    show W p l e (gRm 6 136) s m args below meth c _ _ 0 0 Q (F0 m 129 ls [.int (iI w5_29), .ref (ad 11)])
                    refine lv_iconst (v := iI 1) hx hb dX6_split_129 rfl ?_
                    refine gi_sub (z := (w5_29 - 1)) hx hb dX6_split_130 rfl ?_
                    refine rwL_reader_tokens_kinds C hP (by omega) (by omega) dX6_split_131 ?_
                    show W p l e (gRm 6 136) s m args below meth c _ _ 0 0 Q (F0 m 132 ls [.int (iI (a6_29 (w5_29 - 1)))])
                    have r_32 : 0 ≤ (a6_29 (w5_29 - 1)) ∧ (a6_29 (w5_29 - 1)) ≤ 300 := hP.2.2 6 (w5_29 - 1)
                    refine lv_sipush (v := iI 257) hx hb dX6_split_132 (by decide) ?_
                    refine gi_cne (tgt := 139) hx hb dX6_split_135 (by decide) (by omega) (by decide) (fun c_33 => ?_) (fun c_33 => ?_)
                    · refine lv_iinc (v := iI (x4 + 1)) (lv' := [(4, .int (iI (x4 + 1))), (3, .int (iI z_29)), (5, .int (iI (f 0 x3))), (0, .ref (ad 10)), (1, .ref (ad 1)), (2, .int (iI a2))]) hx hb dX6_split_139 hl (k := 5) rfl (by show iI _ + iI 1 = _; rw [iI_add]) (by decide) rfl (fun ls hl => ?_)
                      refine lv_goto (tgt := 15) hx hb dX6_split_142 (by decide) ?_
                      exact ih_15 z_29 (x4 + 1) w5_29 a6_29 a7_29 a8_29 _ _ _ (by omega) (by omega) (by omega) hP hS (lv_sub hl [3, 4, 5, 1, 0] rfl)
                    · exact g_vret hQ C hr hlocks hP hS dX6_split_138 ⟨0, w5_29, a6_29, a7_29, a8_29, rfl, rfl, rfl, rfl⟩
              · refine lv_aload_n hx hb dX6_split_59 rfl (lv_at hl 1 rfl) ?_
                refine lv_aload_n hx hb dX6_split_60 rfl (lv_at hl 2 rfl) ?_
                refine lv_iload_n hx hb dX6_split_61 rfl (lv_at hl 4 rfl) ?_
                refine lv_iload_n hx hb dX6_split_62 rfl (lv_at hl 3 rfl) ?_
                refine g_cvE (As := [.ref (ad 1), .int (iI x3), .int (iI a2)]) (rest := []) (n := 3) C hE hml (c_X6_putWord l D k A ad hD za (va_up (va_up v 6 0) 5 y5_1) (va_up (va_up (va_up f 6 c6_1) 7 c7_1) 8 c8_1) g x3 a2 (by omega) (by omega) (show 0 ≤ x3 ∧ x3 ≤ a2 from by omega) (show a2 ≤ 700 from by omega)) mM_X6_32 mI_X6_putWord mE_X6_putWord mN_X6 mC_X6_putWord (by decide +kernel) 10 (ci := 6) rfl rfl hP hS (fun _ h => h) ⟨Nat.le_of_ble_eq_true rfl, Nat.le_of_ble_eq_true rfl⟩ ⟨Nat.zero_le _, Nat.zero_le _⟩ hl.1 rfl rfl (Nat.le_of_ble_eq_true rfl) dX6_split_63 (fun r_34 v_34 f_34 g_34 H locs hq_34 hP _ hS => ?_)
                obtain ⟨z_34, w5_34, a6_34, a7_34, a8_34, rfl, rfl, rfl, rfl, p0_34⟩ := hq_34
                show W p l e (gRm 6 136) s m args below meth c _ _ 0 0 Q (F0 m 66 ls [.int (iI z_34)])
                have hP : gWd D (rwT k ad) (va_up (va_up v 6 0) 5 w5_34) (va_up (va_up (va_up f 6 a6_34) 7 a7_34) 8 a8_34) g H := ⟨hP.1, (gF_up (V := rwV) (F := rwF) (gF_up (V := rwV) (F := rwF) (gF_up (V := rwV) (F := rwF) (gR_up (V := rwV) (F := rwF) (gR_up (V := rwV) (F := rwF) ⟨hok.1, hok.2⟩ 6 (hP.2.1 6)) 5 (hP.2.1 5)) 6 (hP.2.2 6)) 7 (hP.2.2 7)) 8 (hP.2.2 8))⟩
                replace p0_34 : x3 ≤ z_34 ∧ z_34 ≤ a2 := p0_34
                have rw5_34 : 0 ≤ w5_34 ∧ w5_34 ≤ 701 := hP.2.1 5
                have hz_34 : inR z_34 := (by first | omega | (rw [p0_34]; split <;> omega))
                refine lv_istore_n (lv' := [(3, .int (iI z_34)), (5, .int (iI (f 0 x3))), (0, .ref (ad 10)), (1, .ref (ad 1)), (2, .int (iI a2)), (4, .int (iI x4))]) hx hb dX6_split_66 rfl hl (by decide) rfl (fun ls hl => ?_)
                refine lv_goto (tgt := 114) hx hb dX6_split_67 (by decide) ?_
                refine lv_aload_n hx hb dX6_split_114 rfl (lv_at hl 2 rfl) ?_
                refine rwG_reader_tokens_many C hP mF_X6_25 dX6_split_115 ?_
                show W p l e (gRm 6 136) s m args below meth c _ _ 0 0 Q (F0 m 118 ls [.int (iI w5_34)])
                have r_35 : 0 ≤ w5_34 ∧ w5_34 ≤ 701 := hP.2.1 5
                refine gi_zle (tgt := 139) hx hb dX6_split_118 (by decide) (by omega) (fun c_36 => ?_) (fun c_36 => ?_)
                · refine lv_iinc (v := iI (x4 + 1)) (lv' := [(4, .int (iI (x4 + 1))), (3, .int (iI z_34)), (5, .int (iI (f 0 x3))), (0, .ref (ad 10)), (1, .ref (ad 1)), (2, .int (iI a2))]) hx hb dX6_split_139 hl (k := 5) rfl (by show iI _ + iI 1 = _; rw [iI_add]) (by decide) rfl (fun ls hl => ?_)
                  refine lv_goto (tgt := 15) hx hb dX6_split_142 (by decide) ?_
                  exact ih_15 z_34 (x4 + 1) w5_34 a6_34 a7_34 a8_34 _ _ _ (by omega) (by omega) (by omega) hP hS (lv_sub hl [3, 4, 5, 1, 0] rfl)
                · refine lv_aload_n hx hb dX6_split_121 rfl (lv_at hl 2 rfl) ?_
                  refine rwG_reader_tokens_kinds C hP mF_X6_9 dX6_split_122 ?_
                  refine lv_aload_n hx hb dX6_split_125 rfl (lv_at hl 2 rfl) ?_
                  refine rwG_reader_tokens_many C hP mF_X6_25 dX6_split_126 ?_
                  show W p l e (gRm 6 136) s m args below meth c _ _ 0 0 Q (F0 m 129 ls [.int (iI w5_34), .ref (ad 11)])
                  refine lv_iconst (v := iI 1) hx hb dX6_split_129 rfl ?_
                  refine gi_sub (z := (w5_34 - 1)) hx hb dX6_split_130 rfl ?_
                  refine rwL_reader_tokens_kinds C hP (by omega) (by omega) dX6_split_131 ?_
                  show W p l e (gRm 6 136) s m args below meth c _ _ 0 0 Q (F0 m 132 ls [.int (iI (a6_34 (w5_34 - 1)))])
                  have r_37 : 0 ≤ (a6_34 (w5_34 - 1)) ∧ (a6_34 (w5_34 - 1)) ≤ 300 := hP.2.2 6 (w5_34 - 1)
                  refine lv_sipush (v := iI 257) hx hb dX6_split_132 (by decide) ?_
                  refine gi_cne (tgt := 139) hx hb dX6_split_135 (by decide) (by omega) (by decide) (fun c_38 => ?_) (fun c_38 => ?_)
                  · refine lv_iinc (v := iI (x4 + 1)) (lv' := [(4, .int (iI (x4 + 1))), (3, .int (iI z_34)), (5, .int (iI (f 0 x3))), (0, .ref (ad 10)), (1, .ref (ad 1)), (2, .int (iI a2))]) hx hb dX6_split_139 hl (k := 5) rfl (by show iI _ + iI 1 = _; rw [iI_add]) (by decide) rfl (fun ls hl => ?_)
                    refine lv_goto (tgt := 15) hx hb dX6_split_142 (by decide) ?_
                    exact ih_15 z_34 (x4 + 1) w5_34 a6_34 a7_34 a8_34 _ _ _ (by omega) (by omega) (by omega) hP hS (lv_sub hl [3, 4, 5, 1, 0] rfl)
                  · exact g_vret hQ C hr hlocks hP hS dX6_split_138 ⟨0, w5_34, a6_34, a7_34, a8_34, rfl, rfl, rfl, rfl⟩
            · refine lv_iinc (v := iI (x3 + 1)) (lv' := [(3, .int (iI (x3 + 1))), (5, .int (iI (f 0 x3))), (0, .ref (ad 10)), (1, .ref (ad 1)), (2, .int (iI a2)), (4, .int (iI x4))]) hx hb dX6_split_45 hl (k := 4) rfl (by show iI _ + iI 1 = _; rw [iI_add]) (by decide) rfl (fun ls hl => ?_)
              refine lv_goto (tgt := 114) hx hb dX6_split_48 (by decide) ?_
              refine lv_aload_n hx hb dX6_split_114 rfl (lv_at hl 2 rfl) ?_
              refine rwG_reader_tokens_many C hP mF_X6_25 dX6_split_115 ?_
              show W p l e (gRm 6 136) s m args below meth c _ _ 0 0 Q (F0 m 118 ls [.int (iI y5_1)])
              have r_39 : 0 ≤ y5_1 ∧ y5_1 ≤ 701 := hP.2.1 5
              refine gi_zle (tgt := 139) hx hb dX6_split_118 (by decide) (by omega) (fun c_40 => ?_) (fun c_40 => ?_)
              · refine lv_iinc (v := iI (x4 + 1)) (lv' := [(4, .int (iI (x4 + 1))), (3, .int (iI (x3 + 1))), (5, .int (iI (f 0 x3))), (0, .ref (ad 10)), (1, .ref (ad 1)), (2, .int (iI a2))]) hx hb dX6_split_139 hl (k := 5) rfl (by show iI _ + iI 1 = _; rw [iI_add]) (by decide) rfl (fun ls hl => ?_)
                refine lv_goto (tgt := 15) hx hb dX6_split_142 (by decide) ?_
                exact ih_15 (x3 + 1) (x4 + 1) y5_1 c6_1 c7_1 c8_1 _ _ _ (by omega) (by omega) (by omega) hP hS (lv_sub hl [3, 4, 5, 1, 0] rfl)
              · refine lv_aload_n hx hb dX6_split_121 rfl (lv_at hl 2 rfl) ?_
                refine rwG_reader_tokens_kinds C hP mF_X6_9 dX6_split_122 ?_
                refine lv_aload_n hx hb dX6_split_125 rfl (lv_at hl 2 rfl) ?_
                refine rwG_reader_tokens_many C hP mF_X6_25 dX6_split_126 ?_
                show W p l e (gRm 6 136) s m args below meth c _ _ 0 0 Q (F0 m 129 ls [.int (iI y5_1), .ref (ad 11)])
                refine lv_iconst (v := iI 1) hx hb dX6_split_129 rfl ?_
                refine gi_sub (z := (y5_1 - 1)) hx hb dX6_split_130 rfl ?_
                refine rwL_reader_tokens_kinds C hP (by omega) (by omega) dX6_split_131 ?_
                show W p l e (gRm 6 136) s m args below meth c _ _ 0 0 Q (F0 m 132 ls [.int (iI (c6_1 (y5_1 - 1)))])
                have r_41 : 0 ≤ (c6_1 (y5_1 - 1)) ∧ (c6_1 (y5_1 - 1)) ≤ 300 := hP.2.2 6 (y5_1 - 1)
                refine lv_sipush (v := iI 257) hx hb dX6_split_132 (by decide) ?_
                refine gi_cne (tgt := 139) hx hb dX6_split_135 (by decide) (by omega) (by decide) (fun c_42 => ?_) (fun c_42 => ?_)
                · refine lv_iinc (v := iI (x4 + 1)) (lv' := [(4, .int (iI (x4 + 1))), (3, .int (iI (x3 + 1))), (5, .int (iI (f 0 x3))), (0, .ref (ad 10)), (1, .ref (ad 1)), (2, .int (iI a2))]) hx hb dX6_split_139 hl (k := 5) rfl (by show iI _ + iI 1 = _; rw [iI_add]) (by decide) rfl (fun ls hl => ?_)
                  refine lv_goto (tgt := 15) hx hb dX6_split_142 (by decide) ?_
                  exact ih_15 (x3 + 1) (x4 + 1) y5_1 c6_1 c7_1 c8_1 _ _ _ (by omega) (by omega) (by omega) hP hS (lv_sub hl [3, 4, 5, 1, 0] rfl)
                · exact g_vret hQ C hr hlocks hP hS dX6_split_138 ⟨0, y5_1, c6_1, c7_1, c8_1, rfl, rfl, rfl, rfl⟩
  exact L_1 701 0 0 0 (f 6) (f 7) (f 8) _ _ _ (by omega) (by omega) (by omega) hP hS (lv_sub hl [2, 3, 4, 1, 0] rfl)

set_option maxHeartbeats 4000000 in
set_option maxRecDepth 100000 in
theorem c_passE (l : Launch) (D : va_G) (k : Nat → ClassId) (A : Nat → Prop) (ad : Nat → Nat) (hD : rwD A k ad) (v : gV) (f g : gF) (a1 : Int) (h_a1 : inR a1) : GM l D k A (rwT k ad) yX3_pass cX3_pass 2 none 3 61 [.ref (ad 9), .int (iI a1)] v f g (fun r v1 f1 g1 => ∃ (w6 : Int) (w16 : Int) (w17 : Int), r = none ∧ (va_up (va_up (va_up v 6 w6) 16 w16) 17 w17) = v1 ∧ f = f1 ∧ g = g1 ∧ ((v 16) ≠ 0 → w16 ≠ 0) ∧ ((f 6) (v 6) ≠ a1 → w16 ≠ 0)) := by
  refine GM.of (by decide) (Nat.le_of_ble_eq_true rfl) ?_
  intro p e s m args below meth c Q ls hQ C hml hr hlocks hP hl
  have hx := C.1
  have hb := C.2.1
  have hok := hP.2
  have hS : va_S A s.heap s.heap [] := va_S.rf
  have hl : lv_has ls 2 [(0, .ref (ad 9)), (1, .int (iI a1))] := hl
  have hP : gWd D (rwT k ad) (va_up (va_up (va_up v 6 (v 6)) 16 (v 16)) 17 (v 17)) f g s.heap := by rw [va_id, va_id, va_id]; exact hP
  refine lv_aload_n hx hb dX3_pass_0 rfl (lv_at hl 0 rfl) ?_
  refine rwG_reader_tokens C hP mF_X3_12 dX3_pass_1 ?_
  refine g_cv (As := []) (rest := []) (n := 0) C hml (c_X6_kind l D k A ad hD (va_up (va_up (va_up v 6 (v 6)) 16 (v 16)) 17 (v 17)) f g) mM_X3_56 mI_X6_kind mE_X6_kind mN_X6 mC_X6_kind (by decide +kernel) 10 (ci := 6) rfl rfl hP hS (fun _ h => h) ⟨Nat.le_of_ble_eq_true rfl, Nat.le_of_ble_eq_true rfl⟩ ⟨Nat.zero_le _, Nat.zero_le _⟩ hl.1 rfl rfl (Nat.le_of_ble_eq_true rfl) dX3_pass_4 (fun r_1 v_1 f_1 g_1 H locs hq_1 hP _ hS => ?_)
  obtain ⟨z_1, rfl, rfl, rfl, rfl, p0_1, p1_1⟩ := hq_1
  show W p l e (gRm 3 61) s m args below meth c _ _ 0 0 Q (F0 m 7 ls [.int (iI z_1)])
  replace p0_1 : z_1 = ((f 6) (v 6)) := p0_1
  replace p1_1 : 0 ≤ z_1 ∧ z_1 ≤ 300 := p1_1
  have hz_1 : inR z_1 := (by first | omega | (rw [p0_1]; split <;> omega))
  refine lv_iload_n hx hb dX3_pass_7 rfl (lv_at hl 1 rfl) ?_
  refine gi_ceq (tgt := 15) hx hb dX3_pass_8 (by decide) (by omega) (by omega) (fun c_2 => ?_) (fun c_2 => ?_)
  · refine lv_aload_n hx hb dX3_pass_15 rfl (lv_at hl 0 rfl) ?_
    refine g_cv (As := []) (rest := []) (n := 0) C hml (c_X3_goOn l D k A ad hD (va_up (va_up (va_up v 6 (v 6)) 16 (v 16)) 17 (v 17)) f g) mM_X3_70 mI_X3_goOn mE_X3_goOn mN_X3 mC_X3_goOn (by decide +kernel) 9 (ci := 3) rfl rfl hP hS (fun _ h => h) ⟨Nat.le_of_ble_eq_true rfl, Nat.le_of_ble_eq_true rfl⟩ ⟨Nat.zero_le _, Nat.zero_le _⟩ hl.1 rfl rfl (Nat.le_of_ble_eq_true rfl) dX3_pass_16 (fun r_3 v_3 f_3 g_3 H locs hq_3 hP _ hS => ?_)
    obtain ⟨z_3, w6_3, rfl, rfl, rfl, rfl, p0_3, p1_3⟩ := hq_3
    show W p l e (gRm 3 61) s m args below meth c _ _ 0 0 Q (F0 m 19 ls [.int (iI z_3)])
    have hP : gWd D (rwT k ad) (va_up (va_up (va_up v 6 w6_3) 16 (v 16)) 17 (v 17)) f g H := ⟨hP.1, (gR_up (V := rwV) (F := rwF) (gR_up (V := rwV) (F := rwF) (gR_up (V := rwV) (F := rwF) ⟨hok.1, hok.2⟩ 6 (hP.2.1 6)) 16 (hP.2.1 16)) 17 (hP.2.1 17))⟩
    replace p0_3 : 0 ≤ z_3 ∧ z_3 ≤ 1 := p0_3
    replace p1_3 : z_3 = 1 ↔ (v 16) = 0 := p1_3
    have rw6_3 : 0 ≤ w6_3 ∧ w6_3 ≤ 700 := hP.2.1 6
    refine lv_pop hx hb dX3_pass_19 rfl ?_
    exact g_vret hQ C hr hlocks hP hS dX3_pass_20 ⟨w6_3, (v 16), (v 17), rfl, rfl, rfl, rfl, (by first | omega | (split <;> omega)), (by first | omega | (split <;> omega))⟩
  · refine lv_aload_n hx hb dX3_pass_11 rfl (lv_at hl 0 rfl) ?_
    refine g_cv (As := []) (rest := []) (n := 0) C hml (c_X3_refuseToken l D k A ad hD (va_up (va_up (va_up v 6 (v 6)) 16 (v 16)) 17 (v 17)) f g) mM_X3_88 mI_X3_refuseToken mE_X3_refuseToken mN_X3 mC_X3_refuseToken (by decide +kernel) 9 (ci := 3) rfl rfl hP hS (fun _ h => h) ⟨Nat.le_of_ble_eq_true rfl, Nat.le_of_ble_eq_true rfl⟩ ⟨Nat.zero_le _, Nat.zero_le _⟩ hl.1 rfl rfl (Nat.le_of_ble_eq_true rfl) dX3_pass_12 (fun r_4 v_4 f_4 g_4 H locs hq_4 hP _ hS => ?_)
    obtain ⟨w16_4, w17_4, rfl, rfl, rfl, rfl, p0_4⟩ := hq_4
    show W p l e (gRm 3 61) s m args below meth c _ _ 0 0 Q (F0 m 15 ls [])
    have hP : gWd D (rwT k ad) (va_up (va_up (va_up v 6 (v 6)) 16 w16_4) 17 w17_4) f g H := ⟨hP.1, (gR_up (V := rwV) (F := rwF) (gR_up (V := rwV) (F := rwF) (gR_up (V := rwV) (F := rwF) ⟨hok.1, hok.2⟩ 6 (hP.2.1 6)) 16 (hP.2.1 16)) 17 (hP.2.1 17))⟩
    replace p0_4 : w16_4 ≠ 0 := p0_4
    have rw16_4 : 0 ≤ w16_4 ∧ w16_4 ≤ 5 := hP.2.1 16
    have rw17_4 : (-1) ≤ w17_4 ∧ w17_4 ≤ 700 := hP.2.1 17
    refine lv_aload_n hx hb dX3_pass_15 rfl (lv_at hl 0 rfl) ?_
    refine g_cv (As := []) (rest := []) (n := 0) C hml (c_X3_goOn l D k A ad hD (va_up (va_up (va_up v 6 (v 6)) 16 w16_4) 17 w17_4) f g) mM_X3_70 mI_X3_goOn mE_X3_goOn mN_X3 mC_X3_goOn (by decide +kernel) 9 (ci := 3) rfl rfl hP hS (fun _ h => h) ⟨Nat.le_of_ble_eq_true rfl, Nat.le_of_ble_eq_true rfl⟩ ⟨Nat.zero_le _, Nat.zero_le _⟩ hl.1 rfl rfl (Nat.le_of_ble_eq_true rfl) dX3_pass_16 (fun r_5 v_5 f_5 g_5 H locs hq_5 hP _ hS => ?_)
    obtain ⟨z_5, w6_5, rfl, rfl, rfl, rfl, p0_5, p1_5⟩ := hq_5
    show W p l e (gRm 3 61) s m args below meth c _ _ 0 0 Q (F0 m 19 ls [.int (iI z_5)])
    have hP : gWd D (rwT k ad) (va_up (va_up (va_up v 6 w6_5) 16 w16_4) 17 w17_4) f g H := ⟨hP.1, (gR_up (V := rwV) (F := rwF) (gR_up (V := rwV) (F := rwF) (gR_up (V := rwV) (F := rwF) ⟨hok.1, hok.2⟩ 6 (hP.2.1 6)) 16 (hP.2.1 16)) 17 (hP.2.1 17))⟩
    replace p0_5 : 0 ≤ z_5 ∧ z_5 ≤ 1 := p0_5
    replace p1_5 : z_5 = 1 ↔ w16_4 = 0 := p1_5
    have rw6_5 : 0 ≤ w6_5 ∧ w6_5 ≤ 700 := hP.2.1 6
    refine lv_pop hx hb dX3_pass_19 rfl ?_
    exact g_vret hQ C hr hlocks hP hS dX3_pass_20 ⟨w6_5, w16_4, w17_4, rfl, rfl, rfl, rfl, (by first | omega | (split <;> omega)), (by first | omega | (split <;> omega))⟩

set_option maxHeartbeats 4000000 in
set_option maxRecDepth 100000 in
theorem c_X3_readRound (l : Launch) (D : va_G) (k : Nat → ClassId) (A : Nat → Prop) (ad : Nat → Nat) (hD : rwD A k ad) (za : Nat → Nat) (v : gV) (f g : gF) (hd : (v 16) = 0 → shOk (v 7) (f 9)) : GE l D k za A (rwT k ad) yX3_readRound cX3_readRound 3 none 4 82 [.ref (ad 9)] v f g (fun r v1 f1 g1 => ∃ (w6 : Int) (w7 : Int) (w16 : Int) (w17 : Int) (a9_ : Int → Int), r = none ∧ (va_up (va_up (va_up (va_up v 6 w6) 7 w7) 16 w16) 17 w17) = v1 ∧ (va_up f 9 a9_) = f1 ∧ g = g1 ∧ (w16 = 0 → shOk w7 a9_) ∧ ((v 16) ≠ 0 → w16 ≠ 0)) := by
  refine GE.of (by decide) (Nat.le_of_ble_eq_true rfl) ?_
  intro p e s m args below meth c Q ls hQ C hml hr hlocks hP hl hE
  have hx := C.1
  have hb := C.2.1
  have hok := hP.2
  have hS : va_S A s.heap s.heap [] := va_S.rf
  have hl : lv_has ls 3 [(0, .ref (ad 9))] := hl
  have hP : gWd D (rwT k ad) (va_up (va_up (va_up (va_up v 6 (v 6)) 7 (v 7)) 16 (v 16)) 17 (v 17)) (va_up f 9 (f 9)) g s.heap := by rw [va_id, va_id, va_id, va_id, va_id]; exact hP
  have r_1 : 0 ≤ (v 7) ∧ (v 7) ≤ 4 := hok.1 7
  have r_2 : 0 ≤ (v 16) ∧ (v 16) ≤ 5 := hok.1 16
  refine lv_aload_n hx hb dX3_readRound_0 rfl (lv_at hl 0 rfl) ?_
  refine rwG_reader_draft C hP mF_X3_21 dX3_readRound_1 ?_
  refine rwG_reader_draft_rounds C hP mF_X3_100 dX3_readRound_4 ?_
  show W p l e (gRm 4 82) s m args below meth c _ _ 0 0 Q (F0 m 7 ls [.int (iI (v 7))])
  refine lv_istore_n (lv' := [(1, .int (iI (v 7))), (0, .ref (ad 9))]) hx hb dX3_readRound_7 rfl hl (by decide) rfl (fun ls hl => ?_)
  refine lv_aload_n hx hb dX3_readRound_8 rfl (lv_at hl 1 rfl) ?_
  refine lv_iload_n hx hb dX3_readRound_9 rfl (lv_at hl 0 rfl) ?_
  refine lv_iconst (v := iI 4) hx hb dX3_readRound_10 rfl ?_
  refine gi_clt (tgt := 18) hx hb dX3_readRound_11 (by decide) (by omega) (by decide) (fun c_3 => ?_) (fun c_3 => ?_)
  · refine lv_iconst (v := iI 0) hx hb dX3_readRound_18 rfl ?_
    refine lv_iconst (v := iI 3) hx hb dX3_readRound_19 rfl ?_
    refine g_cv (As := [.int (iI 0), .int (iI 3)]) (rest := []) (n := 2) C hml (c_X3_refuseIf l D k A ad hD (va_up (va_up (va_up (va_up v 6 (v 6)) 7 (v 7)) 16 (v 16)) 17 (v 17)) (va_up f 9 (f 9)) g 0 3 (by decide) (by decide) (show 1 ≤ (3 : Int) ∧ (3 : Int) ≤ 5 from by omega)) mM_X3_66 mI_X3_refuseIf mE_X3_refuseIf mN_X3 mC_X3_refuseIf (by decide +kernel) 9 (ci := 3) rfl rfl hP hS (fun _ h => h) ⟨Nat.le_of_ble_eq_true rfl, Nat.le_of_ble_eq_true rfl⟩ ⟨Nat.zero_le _, Nat.zero_le _⟩ hl.1 rfl rfl (Nat.le_of_ble_eq_true rfl) dX3_readRound_20 (fun r_4 v_4 f_4 g_4 H locs hq_4 hP _ hS => ?_)
    obtain ⟨w16_4, w17_4, rfl, rfl, rfl, rfl, p0_4, p1_4, p2_4⟩ := hq_4
    show W p l e (gRm 4 82) s m args below meth c _ _ 0 0 Q (F0 m 23 ls [])
    have hP : gWd D (rwT k ad) (va_up (va_up (va_up (va_up v 6 (v 6)) 7 (v 7)) 16 w16_4) 17 w17_4) (va_up f 9 (f 9)) g H := ⟨hP.1, (gF_up (V := rwV) (F := rwF) (gR_up (V := rwV) (F := rwF) (gR_up (V := rwV) (F := rwF) (gR_up (V := rwV) (F := rwF) (gR_up (V := rwV) (F := rwF) ⟨hok.1, hok.2⟩ 6 (hP.2.1 6)) 7 (hP.2.1 7)) 16 (hP.2.1 16)) 17 (hP.2.1 17)) 9 (hP.2.2 9))⟩
    replace p0_4 : (0 : Int) ≠ 0 → w16_4 ≠ 0 := p0_4
    replace p1_4 : (v 16) ≠ 0 → w16_4 ≠ 0 := p1_4
    replace p2_4 : (0 : Int) = 0 → w16_4 = (v 16) := p2_4
    have rw16_4 : 0 ≤ w16_4 ∧ w16_4 ≤ 5 := hP.2.1 16
    have rw17_4 : (-1) ≤ w17_4 ∧ w17_4 ≤ 700 := hP.2.1 17
    refine lv_aload_n hx hb dX3_readRound_23 rfl (lv_at hl 1 rfl) ?_
    refine g_cv (As := []) (rest := []) (n := 0) C hml (c_X3_goOn l D k A ad hD (va_up (va_up (va_up (va_up v 6 (v 6)) 7 (v 7)) 16 w16_4) 17 w17_4) (va_up f 9 (f 9)) g) mM_X3_70 mI_X3_goOn mE_X3_goOn mN_X3 mC_X3_goOn (by decide +kernel) 9 (ci := 3) rfl rfl hP hS (fun _ h => h) ⟨Nat.le_of_ble_eq_true rfl, Nat.le_of_ble_eq_true rfl⟩ ⟨Nat.zero_le _, Nat.zero_le _⟩ hl.1 rfl rfl (Nat.le_of_ble_eq_true rfl) dX3_readRound_24 (fun r_5 v_5 f_5 g_5 H locs hq_5 hP _ hS => ?_)
    obtain ⟨z_5, w6_5, rfl, rfl, rfl, rfl, p0_5, p1_5⟩ := hq_5
    show W p l e (gRm 4 82) s m args below meth c _ _ 0 0 Q (F0 m 27 ls [.int (iI z_5)])
    have hP : gWd D (rwT k ad) (va_up (va_up (va_up (va_up v 6 w6_5) 7 (v 7)) 16 w16_4) 17 w17_4) (va_up f 9 (f 9)) g H := ⟨hP.1, (gF_up (V := rwV) (F := rwF) (gR_up (V := rwV) (F := rwF) (gR_up (V := rwV) (F := rwF) (gR_up (V := rwV) (F := rwF) (gR_up (V := rwV) (F := rwF) ⟨hok.1, hok.2⟩ 6 (hP.2.1 6)) 7 (hP.2.1 7)) 16 (hP.2.1 16)) 17 (hP.2.1 17)) 9 (hP.2.2 9))⟩
    replace p0_5 : 0 ≤ z_5 ∧ z_5 ≤ 1 := p0_5
    replace p1_5 : z_5 = 1 ↔ w16_4 = 0 := p1_5
    have rw6_5 : 0 ≤ w6_5 ∧ w6_5 ≤ 700 := hP.2.1 6
    refine gi_zne (tgt := 31) hx hb dX3_readRound_27 (by decide) (by omega) (fun c_6 => ?_) (fun c_6 => ?_)
    · have hn_ : (v 7) ≤ 3 ∧ w16_4 = 0 ∧ (v 16) = 0 := by omega
      refine lv_iconst (v := iI 0) hx hb dX3_readRound_31 rfl ?_
      refine lv_istore_n (lv' := [(2, .int (iI 0)), (1, .int (iI (v 7))), (0, .ref (ad 9))]) hx hb dX3_readRound_32 rfl hl (by decide) rfl (fun ls hl => ?_)
      have L_7 : ∀ (n : Nat) (x2 : Int) (y6_7 : Int) (y16_7 : Int) (y17_7 : Int) (c9_7 : Int → Int) (H : Heap) (locs : List Loc) (ls : Array Slot), 4 - x2 < (n : Int) → (0 ≤ x2 ∧ x2 ≤ 4) → (y16_7 = 0 → shOk (v 7) c9_7 ∧ shPart (v 7) c9_7 x2) → gWd D (rwT k ad) (va_up (va_up (va_up (va_up v 6 y6_7) 7 (v 7)) 16 y16_7) 17 y17_7) (va_up f 9 c9_7) g H → va_S A s.heap H locs → lv_has ls 3 [(0, .ref (ad 9)), (1, .int (iI (v 7))), (2, .int (iI x2))] → W p l e (gRm 4 82) s m args below meth c H locs 0 0 Q (F0 m 33 ls []) := by
        intro n
        induction n with
        | zero =>
          intro x2 y6_7 y16_7 y17_7 c9_7 H locs ls hn_7 i7_0 i7_1 hP hS hl
          have ry6_7 : 0 ≤ y6_7 ∧ y6_7 ≤ 700 := hP.2.1 6
          have ry16_7 : 0 ≤ y16_7 ∧ y16_7 ≤ 5 := hP.2.1 16
          have ry17_7 : (-1) ≤ y17_7 ∧ y17_7 ≤ 700 := hP.2.1 17
          exfalso; omega
        | succ n ih_33 =>
          intro x2 y6_7 y16_7 y17_7 c9_7 H locs ls hn_7 i7_0 i7_1 hP hS hl
          have ry6_7 : 0 ≤ y6_7 ∧ y6_7 ≤ 700 := hP.2.1 6
          have ry16_7 : 0 ≤ y16_7 ∧ y16_7 ≤ 5 := hP.2.1 16
          have ry17_7 : (-1) ≤ y17_7 ∧ y17_7 ≤ 700 := hP.2.1 17
          have hI := i7_1
          refine lv_iload_n hx hb dX3_readRound_33 rfl (lv_at hl 2 rfl) ?_
          refine lv_iconst (v := iI 4) hx hb dX3_readRound_34 rfl ?_
          refine gi_cge (tgt := 131) hx hb dX3_readRound_35 (by decide) (by omega) (by decide) (fun c_8 => ?_) (fun c_8 => ?_)
          · refine lv_aload_n hx hb dX3_readRound_131 rfl (lv_at hl 0 rfl) ?_
            refine rwG_reader_draft C hP mF_X3_21 dX3_readRound_132 ?_
            refine lv_iload_n hx hb dX3_readRound_135 rfl (lv_at hl 1 rfl) ?_
            refine lv_iconst (v := iI 1) hx hb dX3_readRound_136 rfl ?_
            refine gi_add (z := ((v 7) + 1)) hx hb dX3_readRound_137 rfl ?_
            refine rwP_reader_draft_rounds (v1 := (va_up (va_up (va_up (va_up v 6 y6_7) 7 ((v 7) + 1)) 16 y16_7) 17 y17_7)) C hP hD hS mF_X3_100 (by omega) rfl (Or.inr (gF_up (V := rwV) (F := rwF) (gR_up (V := rwV) (F := rwF) (gR_up (V := rwV) (F := rwF) (gR_up (V := rwV) (F := rwF) (gR_up (V := rwV) (F := rwF) ⟨hok.1, hok.2⟩ 6 (hP.2.1 6)) 7 (show 0 ≤ ((v 7) + 1) ∧ ((v 7) + 1) ≤ 4 from by omega)) 16 (hP.2.1 16)) 17 (hP.2.1 17)) 9 (hP.2.2 9))) dX3_readRound_138 (fun H locs hP hS => ?_)
            exact g_vret hQ C hr hlocks hP hS dX3_readRound_141 ⟨y6_7, ((v 7) + 1), y16_7, y17_7, c9_7, rfl, rfl, rfl, rfl, (fun h => by first | (exfalso; omega) | exact shNew (hI (by omega)) (by omega)), (by first | omega | (split <;> omega))⟩
          · refine lv_aload_n hx hb dX3_readRound_38 rfl (lv_at hl 0 rfl) ?_
            refine rwG_reader_fault C hP mF_X3_32 dX3_readRound_39 ?_
            show W p l e (gRm 4 82) s m args below meth c _ _ 0 0 Q (F0 m 42 ls [.int (iI y16_7)])
            have r_9 : 0 ≤ y16_7 ∧ y16_7 ≤ 5 := hP.2.1 16
            refine gi_zne (tgt := 131) hx hb dX3_readRound_42 (by decide) (by omega) (fun c_10 => ?_) (fun c_10 => ?_)
            · refine lv_aload_n hx hb dX3_readRound_131 rfl (lv_at hl 0 rfl) ?_
              refine rwG_reader_draft C hP mF_X3_21 dX3_readRound_132 ?_
              refine lv_iload_n hx hb dX3_readRound_135 rfl (lv_at hl 1 rfl) ?_
              refine lv_iconst (v := iI 1) hx hb dX3_readRound_136 rfl ?_
              refine gi_add (z := ((v 7) + 1)) hx hb dX3_readRound_137 rfl ?_
              refine rwP_reader_draft_rounds (v1 := (va_up (va_up (va_up (va_up v 6 y6_7) 7 ((v 7) + 1)) 16 y16_7) 17 y17_7)) C hP hD hS mF_X3_100 (by omega) rfl (Or.inr (gF_up (V := rwV) (F := rwF) (gR_up (V := rwV) (F := rwF) (gR_up (V := rwV) (F := rwF) (gR_up (V := rwV) (F := rwF) (gR_up (V := rwV) (F := rwF) ⟨hok.1, hok.2⟩ 6 (hP.2.1 6)) 7 (show 0 ≤ ((v 7) + 1) ∧ ((v 7) + 1) ≤ 4 from by omega)) 16 (hP.2.1 16)) 17 (hP.2.1 17)) 9 (hP.2.2 9))) dX3_readRound_138 (fun H locs hP hS => ?_)
              exact g_vret hQ C hr hlocks hP hS dX3_readRound_141 ⟨y6_7, ((v 7) + 1), y16_7, y17_7, c9_7, rfl, rfl, rfl, rfl, (fun h => by first | (exfalso; omega) | exact shNew (hI (by omega)) (by omega)), (by first | omega | (split <;> omega))⟩
            · refine lv_aload_n hx hb dX3_readRound_45 rfl (lv_at hl 0 rfl) ?_
              refine rwG_reader_tokens C hP mF_X3_12 dX3_readRound_46 ?_
              refine g_cv (As := []) (rest := []) (n := 0) C hml (c_X6_kind l D k A ad hD (va_up (va_up (va_up (va_up v 6 y6_7) 7 (v 7)) 16 y16_7) 17 y17_7) (va_up f 9 c9_7) g) mM_X3_56 mI_X6_kind mE_X6_kind mN_X6 mC_X6_kind (by decide +kernel) 10 (ci := 6) rfl rfl hP hS (fun _ h => h) ⟨Nat.le_of_ble_eq_true rfl, Nat.le_of_ble_eq_true rfl⟩ ⟨Nat.zero_le _, Nat.zero_le _⟩ hl.1 rfl rfl (Nat.le_of_ble_eq_true rfl) dX3_readRound_49 (fun r_11 v_11 f_11 g_11 H locs hq_11 hP _ hS => ?_)
              obtain ⟨z_11, rfl, rfl, rfl, rfl, p0_11, p1_11⟩ := hq_11
              show W p l e (gRm 4 82) s m args below meth c _ _ 0 0 Q (F0 m 52 ls [.int (iI z_11)])
              replace p0_11 : z_11 = ((f 6) y6_7) := p0_11
              replace p1_11 : 0 ≤ z_11 ∧ z_11 ≤ 300 := p1_11
              have hz_11 : inR z_11 := (by first | omega | (rw [p0_11]; split <;> omega))
              refine lv_sipush (v := iI 258) hx hb dX3_readRound_52 (by decide) ?_
              refine gi_cne (tgt := 118) hx hb dX3_readRound_55 (by decide) (by omega) (by decide) (fun c_12 => ?_) (fun c_12 => ?_)
              · refine lv_aload_n hx hb dX3_readRound_118 rfl (lv_at hl 0 rfl) ?_
                refine lv_sipush (v := iI 258) hx hb dX3_readRound_119 (by decide) ?_
                refine g_cv (As := [.int (iI 258)]) (rest := []) (n := 1) C hml (c_passE l D k A ad hD (va_up (va_up (va_up (va_up v 6 y6_7) 7 (v 7)) 16 y16_7) 17 y17_7) (va_up f 9 c9_7) g 258 (by decide)) mM_X3_91 mI_X3_pass mE_X3_pass mN_X3 mC_X3_pass (by decide +kernel) 9 (ci := 3) rfl rfl hP hS (fun _ h => h) ⟨Nat.le_of_ble_eq_true rfl, Nat.le_of_ble_eq_true rfl⟩ ⟨Nat.zero_le _, Nat.zero_le _⟩ hl.1 rfl rfl (Nat.le_of_ble_eq_true rfl) dX3_readRound_122 (fun r_13 v_13 f_13 g_13 H locs hq_13 hP _ hS => ?_)
                obtain ⟨w6_13, w16_13, w17_13, rfl, rfl, rfl, rfl, p0_13, p1_13⟩ := hq_13
                show W p l e (gRm 4 82) s m args below meth c _ _ 0 0 Q (F0 m 125 ls [])
                have hP : gWd D (rwT k ad) (va_up (va_up (va_up (va_up v 6 w6_13) 7 (v 7)) 16 w16_13) 17 w17_13) (va_up f 9 c9_7) g H := ⟨hP.1, (gF_up (V := rwV) (F := rwF) (gR_up (V := rwV) (F := rwF) (gR_up (V := rwV) (F := rwF) (gR_up (V := rwV) (F := rwF) (gR_up (V := rwV) (F := rwF) ⟨hok.1, hok.2⟩ 6 (hP.2.1 6)) 7 (hP.2.1 7)) 16 (hP.2.1 16)) 17 (hP.2.1 17)) 9 (hP.2.2 9))⟩
                replace p0_13 : y16_7 ≠ 0 → w16_13 ≠ 0 := p0_13
                replace p1_13 : (f 6) y6_7 ≠ (258 : Int) → w16_13 ≠ 0 := p1_13
                have rw6_13 : 0 ≤ w6_13 ∧ w6_13 ≤ 700 := hP.2.1 6
                have rw16_13 : 0 ≤ w16_13 ∧ w16_13 ≤ 5 := hP.2.1 16
                have rw17_13 : (-1) ≤ w17_13 ∧ w17_13 ≤ 700 := hP.2.1 17
                refine lv_iinc (v := iI (x2 + 1)) (lv' := [(2, .int (iI (x2 + 1))), (0, .ref (ad 9)), (1, .int (iI (v 7)))]) hx hb dX3_readRound_125 hl (k := 2) rfl (by show iI _ + iI 1 = _; rw [iI_add]) (by decide) rfl (fun ls hl => ?_)
                refine lv_goto (tgt := 33) hx hb dX3_readRound_128 (by decide) ?_
                exact ih_33 (x2 + 1) w6_13 w16_13 w17_13 c9_7 _ _ _ (by omega) (by omega) (fun h => by first | (exfalso; omega) | exact shBack (hI (by omega)) (by omega) (by omega) (by omega)) hP hS (lv_sub hl [1, 2, 0] rfl)
              · refine lv_aload_n hx hb dX3_readRound_58 rfl (lv_at hl 0 rfl) ?_
                refine lv_aload_n hx hb dX3_readRound_59 rfl (lv_at hl 0 rfl) ?_
                refine rwG_reader_tokens C hP mF_X3_12 dX3_readRound_60 ?_
                refine g_cv (As := []) (rest := [.ref (ad 9)]) (n := 0) C hml (c_X6_value l D k A ad hD (va_up (va_up (va_up (va_up v 6 y6_7) 7 (v 7)) 16 y16_7) 17 y17_7) (va_up f 9 c9_7) g) mM_X3_103 mI_X6_value mE_X6_value mN_X6 mC_X6_value (by decide +kernel) 10 (ci := 6) rfl rfl hP hS (fun _ h => h) ⟨Nat.le_of_ble_eq_true rfl, Nat.le_of_ble_eq_true rfl⟩ ⟨Nat.zero_le _, Nat.zero_le _⟩ hl.1 rfl rfl (Nat.le_of_ble_eq_true rfl) dX3_readRound_63 (fun r_14 v_14 f_14 g_14 H locs hq_14 hP _ hS => ?_)
                obtain ⟨z_14, rfl, rfl, rfl, rfl, p0_14, p1_14⟩ := hq_14
                show W p l e (gRm 4 82) s m args below meth c _ _ 0 0 Q (F0 m 66 ls [.int (iI z_14), .ref (ad 9)])
                replace p0_14 : z_14 = ((f 8) y6_7) := p0_14
                replace p1_14 : 0 ≤ z_14 ∧ z_14 ≤ 999999 := p1_14
                have hz_14 : inR z_14 := (by first | omega | (rw [p0_14]; split <;> omega))
                refine va_getsN hx hb hE.p0 hS C.2.2.2.1 (va_Nw.use rfl hE.p8) (fun _ h => h) dX3_readRound_66 ?_
                refine lv_iload_n hx hb dX3_readRound_69 rfl (lv_at hl 2 rfl) ?_
                refine va_ti (v := .int (iI (gElo (x2).toNat))) hx hb hE.p1 hS (iI_in (by omega) (by omega) (by decide)) (by show Value.int (iI (gElo _)) = _; rw [gE_cl (by omega) (by omega)]) dX3_readRound_70 ?_
                show W p l e (gRm 4 82) s m args below meth c _ _ 0 0 Q (F0 m 71 ls [.int (iI (gElo (x2).toNat)), .int (iI z_14), .ref (ad 9)])
                have r_15 : 0 ≤ (gElo (x2).toNat) ∧ (gElo (x2).toNat) ≤ 999 := gElo_r _
                refine gi_clt (tgt := 89) hx hb dX3_readRound_71 (by decide) (by omega) (by omega) (fun c_16 => ?_) (fun c_16 => ?_)
                · refine lv_iconst (v := iI 1) hx hb dX3_readRound_89 rfl ?_
                  refine lv_goto (tgt := 94) hx hb dX3_readRound_90 (by decide) ?_
                  refine lv_iconst (v := iI 4) hx hb dX3_readRound_94 rfl ?_
                  refine g_cv (As := [.int (iI 1), .int (iI 4)]) (rest := []) (n := 2) C hml (c_X3_refuseIf l D k A ad hD (va_up (va_up (va_up (va_up v 6 y6_7) 7 (v 7)) 16 y16_7) 17 y17_7) (va_up f 9 c9_7) g 1 4 (by decide) (by decide) (show 1 ≤ (4 : Int) ∧ (4 : Int) ≤ 5 from by omega)) mM_X3_66 mI_X3_refuseIf mE_X3_refuseIf mN_X3 mC_X3_refuseIf (by decide +kernel) 9 (ci := 3) rfl rfl hP hS (fun _ h => h) ⟨Nat.le_of_ble_eq_true rfl, Nat.le_of_ble_eq_true rfl⟩ ⟨Nat.zero_le _, Nat.zero_le _⟩ hl.1 rfl rfl (Nat.le_of_ble_eq_true rfl) dX3_readRound_95 (fun r_17 v_17 f_17 g_17 H locs hq_17 hP _ hS => ?_)
                  obtain ⟨w16_17, w17_17, rfl, rfl, rfl, rfl, p0_17, p1_17, p2_17⟩ := hq_17
                  show W p l e (gRm 4 82) s m args below meth c _ _ 0 0 Q (F0 m 98 ls [])
                  have hP : gWd D (rwT k ad) (va_up (va_up (va_up (va_up v 6 y6_7) 7 (v 7)) 16 w16_17) 17 w17_17) (va_up f 9 c9_7) g H := ⟨hP.1, (gF_up (V := rwV) (F := rwF) (gR_up (V := rwV) (F := rwF) (gR_up (V := rwV) (F := rwF) (gR_up (V := rwV) (F := rwF) (gR_up (V := rwV) (F := rwF) ⟨hok.1, hok.2⟩ 6 (hP.2.1 6)) 7 (hP.2.1 7)) 16 (hP.2.1 16)) 17 (hP.2.1 17)) 9 (hP.2.2 9))⟩
                  replace p0_17 : (1 : Int) ≠ 0 → w16_17 ≠ 0 := p0_17
                  replace p1_17 : y16_7 ≠ 0 → w16_17 ≠ 0 := p1_17
                  replace p2_17 : (1 : Int) = 0 → w16_17 = y16_7 := p2_17
                  have rw16_17 : 0 ≤ w16_17 ∧ w16_17 ≤ 5 := hP.2.1 16
                  have rw17_17 : (-1) ≤ w17_17 ∧ w17_17 ≤ 700 := hP.2.1 17
                  refine lv_aload_n hx hb dX3_readRound_98 rfl (lv_at hl 0 rfl) ?_
                  refine rwG_reader_draft C hP mF_X3_21 dX3_readRound_99 ?_
                  refine rwG_reader_draft_shape C hP mF_X3_113 dX3_readRound_102 ?_
                  refine lv_iload_n hx hb dX3_readRound_105 rfl (lv_at hl 1 rfl) ?_
                  refine lv_iconst (v := iI 4) hx hb dX3_readRound_106 rfl ?_
                  refine gi_mul (z := ((v 7) * 4)) hx hb dX3_readRound_107 rfl ?_
                  refine lv_iload_n hx hb dX3_readRound_108 rfl (lv_at hl 2 rfl) ?_
                  refine gi_add (z := (((v 7) * 4) + x2)) hx hb dX3_readRound_109 rfl ?_
                  refine lv_aload_n hx hb dX3_readRound_110 rfl (lv_at hl 0 rfl) ?_
                  refine rwG_reader_tokens C hP mF_X3_12 dX3_readRound_111 ?_
                  refine g_cv (As := []) (rest := [.int (iI (((v 7) * 4) + x2)), .ref (ad 15)]) (n := 0) C hml (c_X6_value l D k A ad hD (va_up (va_up (va_up (va_up v 6 y6_7) 7 (v 7)) 16 w16_17) 17 w17_17) (va_up f 9 c9_7) g) mM_X3_103 mI_X6_value mE_X6_value mN_X6 mC_X6_value (by decide +kernel) 10 (ci := 6) rfl rfl hP hS (fun _ h => h) ⟨Nat.le_of_ble_eq_true rfl, Nat.le_of_ble_eq_true rfl⟩ ⟨Nat.zero_le _, Nat.zero_le _⟩ hl.1 rfl rfl (Nat.le_of_ble_eq_true rfl) dX3_readRound_114 (fun r_18 v_18 f_18 g_18 H locs hq_18 hP _ hS => ?_)
                  obtain ⟨z_18, rfl, rfl, rfl, rfl, p0_18, p1_18⟩ := hq_18
                  show W p l e (gRm 4 82) s m args below meth c _ _ 0 0 Q (F0 m 117 ls [.int (iI z_18), .int (iI (((v 7) * 4) + x2)), .ref (ad 15)])
                  replace p0_18 : z_18 = ((f 8) y6_7) := p0_18
                  replace p1_18 : 0 ≤ z_18 ∧ z_18 ≤ 999999 := p1_18
                  have hz_18 : inR z_18 := (by first | omega | (rw [p0_18]; split <;> omega))
                  refine rwS_reader_draft_shape (f1 := (va_up f 9 (u1 c9_7 (((v 7) * 4) + x2) z_18))) C hP hD hS (by omega) (by omega) (by omega) rfl (Or.inr (gF_up (V := rwV) (F := rwF) (gR_up (V := rwV) (F := rwF) (gR_up (V := rwV) (F := rwF) (gR_up (V := rwV) (F := rwF) (gR_up (V := rwV) (F := rwF) ⟨hok.1, hok.2⟩ 6 (hP.2.1 6)) 7 (hP.2.1 7)) 16 (hP.2.1 16)) 17 (hP.2.1 17)) 9 (u1_rng (hP.2.2 9) (show 0 ≤ z_18 ∧ z_18 ≤ 999999 from (by omega))))) dX3_readRound_117 (fun H locs hP hS => ?_)
                  refine lv_aload_n hx hb dX3_readRound_118 rfl (lv_at hl 0 rfl) ?_
                  refine lv_sipush (v := iI 258) hx hb dX3_readRound_119 (by decide) ?_
                  refine g_cv (As := [.int (iI 258)]) (rest := []) (n := 1) C hml (c_passE l D k A ad hD (va_up (va_up (va_up (va_up v 6 y6_7) 7 (v 7)) 16 w16_17) 17 w17_17) (va_up f 9 (u1 c9_7 (((v 7) * 4) + x2) z_18)) g 258 (by decide)) mM_X3_91 mI_X3_pass mE_X3_pass mN_X3 mC_X3_pass (by decide +kernel) 9 (ci := 3) rfl rfl hP hS (fun _ h => h) ⟨Nat.le_of_ble_eq_true rfl, Nat.le_of_ble_eq_true rfl⟩ ⟨Nat.zero_le _, Nat.zero_le _⟩ hl.1 rfl rfl (Nat.le_of_ble_eq_true rfl) dX3_readRound_122 (fun r_19 v_19 f_19 g_19 H locs hq_19 hP _ hS => ?_)
                  obtain ⟨w6_19, w16_19, w17_19, rfl, rfl, rfl, rfl, p0_19, p1_19⟩ := hq_19
                  show W p l e (gRm 4 82) s m args below meth c _ _ 0 0 Q (F0 m 125 ls [])
                  have hP : gWd D (rwT k ad) (va_up (va_up (va_up (va_up v 6 w6_19) 7 (v 7)) 16 w16_19) 17 w17_19) (va_up f 9 (u1 c9_7 (((v 7) * 4) + x2) z_18)) g H := ⟨hP.1, (gF_up (V := rwV) (F := rwF) (gR_up (V := rwV) (F := rwF) (gR_up (V := rwV) (F := rwF) (gR_up (V := rwV) (F := rwF) (gR_up (V := rwV) (F := rwF) ⟨hok.1, hok.2⟩ 6 (hP.2.1 6)) 7 (hP.2.1 7)) 16 (hP.2.1 16)) 17 (hP.2.1 17)) 9 (hP.2.2 9))⟩
                  replace p0_19 : w16_17 ≠ 0 → w16_19 ≠ 0 := p0_19
                  replace p1_19 : (f 6) y6_7 ≠ (258 : Int) → w16_19 ≠ 0 := p1_19
                  have rw6_19 : 0 ≤ w6_19 ∧ w6_19 ≤ 700 := hP.2.1 6
                  have rw16_19 : 0 ≤ w16_19 ∧ w16_19 ≤ 5 := hP.2.1 16
                  have rw17_19 : (-1) ≤ w17_19 ∧ w17_19 ≤ 700 := hP.2.1 17
                  refine lv_iinc (v := iI (x2 + 1)) (lv' := [(2, .int (iI (x2 + 1))), (0, .ref (ad 9)), (1, .int (iI (v 7)))]) hx hb dX3_readRound_125 hl (k := 2) rfl (by show iI _ + iI 1 = _; rw [iI_add]) (by decide) rfl (fun ls hl => ?_)
                  refine lv_goto (tgt := 33) hx hb dX3_readRound_128 (by decide) ?_
                  exact ih_33 (x2 + 1) w6_19 w16_19 w17_19 (u1 c9_7 (((v 7) * 4) + x2) z_18) _ _ _ (by omega) (by omega) (fun h => by first | (exfalso; omega) | exact shBack (hI (by omega)) (by omega) (by omega) (by omega)) hP hS (lv_sub hl [1, 2, 0] rfl)
                · refine lv_aload_n hx hb dX3_readRound_74 rfl (lv_at hl 0 rfl) ?_
                  refine rwG_reader_tokens C hP mF_X3_12 dX3_readRound_75 ?_
                  refine g_cv (As := []) (rest := [.ref (ad 9)]) (n := 0) C hml (c_X6_value l D k A ad hD (va_up (va_up (va_up (va_up v 6 y6_7) 7 (v 7)) 16 y16_7) 17 y17_7) (va_up f 9 c9_7) g) mM_X3_103 mI_X6_value mE_X6_value mN_X6 mC_X6_value (by decide +kernel) 10 (ci := 6) rfl rfl hP hS (fun _ h => h) ⟨Nat.le_of_ble_eq_true rfl, Nat.le_of_ble_eq_true rfl⟩ ⟨Nat.zero_le _, Nat.zero_le _⟩ hl.1 rfl rfl (Nat.le_of_ble_eq_true rfl) dX3_readRound_78 (fun r_20 v_20 f_20 g_20 H locs hq_20 hP _ hS => ?_)
                  obtain ⟨z_20, rfl, rfl, rfl, rfl, p0_20, p1_20⟩ := hq_20
                  show W p l e (gRm 4 82) s m args below meth c _ _ 0 0 Q (F0 m 81 ls [.int (iI z_20), .ref (ad 9)])
                  replace p0_20 : z_20 = ((f 8) y6_7) := p0_20
                  replace p1_20 : 0 ≤ z_20 ∧ z_20 ≤ 999999 := p1_20
                  have hz_20 : inR z_20 := (by first | omega | (rw [p0_20]; split <;> omega))
                  refine va_getsN hx hb hE.p2 hS C.2.2.2.1 (va_Nw.use rfl hE.p9) (fun _ h => h) dX3_readRound_81 ?_
                  refine lv_iload_n hx hb dX3_readRound_84 rfl (lv_at hl 2 rfl) ?_
                  refine va_ti (v := .int (iI (gEhi (x2).toNat))) hx hb hE.p3 hS (iI_in (by omega) (by omega) (by decide)) (by show Value.int (iI (gEhi _)) = _; rw [gE_cl (by omega) (by omega)]) dX3_readRound_85 ?_
                  show W p l e (gRm 4 82) s m args below meth c _ _ 0 0 Q (F0 m 86 ls [.int (iI (gEhi (x2).toNat)), .int (iI z_20), .ref (ad 9)])
                  have r_21 : 0 ≤ (gEhi (x2).toNat) ∧ (gEhi (x2).toNat) ≤ 999 := gEhi_r _
                  refine gi_cle (tgt := 93) hx hb dX3_readRound_86 (by decide) (by omega) (by omega) (fun c_22 => ?_) (fun c_22 => ?_)
                  · refine lv_iconst (v := iI 0) hx hb dX3_readRound_93 rfl ?_
                    refine lv_iconst (v := iI 4) hx hb dX3_readRound_94 rfl ?_
                    refine g_cv (As := [.int (iI 0), .int (iI 4)]) (rest := []) (n := 2) C hml (c_X3_refuseIf l D k A ad hD (va_up (va_up (va_up (va_up v 6 y6_7) 7 (v 7)) 16 y16_7) 17 y17_7) (va_up f 9 c9_7) g 0 4 (by decide) (by decide) (show 1 ≤ (4 : Int) ∧ (4 : Int) ≤ 5 from by omega)) mM_X3_66 mI_X3_refuseIf mE_X3_refuseIf mN_X3 mC_X3_refuseIf (by decide +kernel) 9 (ci := 3) rfl rfl hP hS (fun _ h => h) ⟨Nat.le_of_ble_eq_true rfl, Nat.le_of_ble_eq_true rfl⟩ ⟨Nat.zero_le _, Nat.zero_le _⟩ hl.1 rfl rfl (Nat.le_of_ble_eq_true rfl) dX3_readRound_95 (fun r_23 v_23 f_23 g_23 H locs hq_23 hP _ hS => ?_)
                    obtain ⟨w16_23, w17_23, rfl, rfl, rfl, rfl, p0_23, p1_23, p2_23⟩ := hq_23
                    show W p l e (gRm 4 82) s m args below meth c _ _ 0 0 Q (F0 m 98 ls [])
                    have hP : gWd D (rwT k ad) (va_up (va_up (va_up (va_up v 6 y6_7) 7 (v 7)) 16 w16_23) 17 w17_23) (va_up f 9 c9_7) g H := ⟨hP.1, (gF_up (V := rwV) (F := rwF) (gR_up (V := rwV) (F := rwF) (gR_up (V := rwV) (F := rwF) (gR_up (V := rwV) (F := rwF) (gR_up (V := rwV) (F := rwF) ⟨hok.1, hok.2⟩ 6 (hP.2.1 6)) 7 (hP.2.1 7)) 16 (hP.2.1 16)) 17 (hP.2.1 17)) 9 (hP.2.2 9))⟩
                    replace p0_23 : (0 : Int) ≠ 0 → w16_23 ≠ 0 := p0_23
                    replace p1_23 : y16_7 ≠ 0 → w16_23 ≠ 0 := p1_23
                    replace p2_23 : (0 : Int) = 0 → w16_23 = y16_7 := p2_23
                    have rw16_23 : 0 ≤ w16_23 ∧ w16_23 ≤ 5 := hP.2.1 16
                    have rw17_23 : (-1) ≤ w17_23 ∧ w17_23 ≤ 700 := hP.2.1 17
                    refine lv_aload_n hx hb dX3_readRound_98 rfl (lv_at hl 0 rfl) ?_
                    refine rwG_reader_draft C hP mF_X3_21 dX3_readRound_99 ?_
                    refine rwG_reader_draft_shape C hP mF_X3_113 dX3_readRound_102 ?_
                    refine lv_iload_n hx hb dX3_readRound_105 rfl (lv_at hl 1 rfl) ?_
                    refine lv_iconst (v := iI 4) hx hb dX3_readRound_106 rfl ?_
                    refine gi_mul (z := ((v 7) * 4)) hx hb dX3_readRound_107 rfl ?_
                    refine lv_iload_n hx hb dX3_readRound_108 rfl (lv_at hl 2 rfl) ?_
                    refine gi_add (z := (((v 7) * 4) + x2)) hx hb dX3_readRound_109 rfl ?_
                    refine lv_aload_n hx hb dX3_readRound_110 rfl (lv_at hl 0 rfl) ?_
                    refine rwG_reader_tokens C hP mF_X3_12 dX3_readRound_111 ?_
                    refine g_cv (As := []) (rest := [.int (iI (((v 7) * 4) + x2)), .ref (ad 15)]) (n := 0) C hml (c_X6_value l D k A ad hD (va_up (va_up (va_up (va_up v 6 y6_7) 7 (v 7)) 16 w16_23) 17 w17_23) (va_up f 9 c9_7) g) mM_X3_103 mI_X6_value mE_X6_value mN_X6 mC_X6_value (by decide +kernel) 10 (ci := 6) rfl rfl hP hS (fun _ h => h) ⟨Nat.le_of_ble_eq_true rfl, Nat.le_of_ble_eq_true rfl⟩ ⟨Nat.zero_le _, Nat.zero_le _⟩ hl.1 rfl rfl (Nat.le_of_ble_eq_true rfl) dX3_readRound_114 (fun r_24 v_24 f_24 g_24 H locs hq_24 hP _ hS => ?_)
                    obtain ⟨z_24, rfl, rfl, rfl, rfl, p0_24, p1_24⟩ := hq_24
                    show W p l e (gRm 4 82) s m args below meth c _ _ 0 0 Q (F0 m 117 ls [.int (iI z_24), .int (iI (((v 7) * 4) + x2)), .ref (ad 15)])
                    replace p0_24 : z_24 = ((f 8) y6_7) := p0_24
                    replace p1_24 : 0 ≤ z_24 ∧ z_24 ≤ 999999 := p1_24
                    have hz_24 : inR z_24 := (by first | omega | (rw [p0_24]; split <;> omega))
                    refine rwS_reader_draft_shape (f1 := (va_up f 9 (u1 c9_7 (((v 7) * 4) + x2) z_24))) C hP hD hS (by omega) (by omega) (by omega) rfl (Or.inr (gF_up (V := rwV) (F := rwF) (gR_up (V := rwV) (F := rwF) (gR_up (V := rwV) (F := rwF) (gR_up (V := rwV) (F := rwF) (gR_up (V := rwV) (F := rwF) ⟨hok.1, hok.2⟩ 6 (hP.2.1 6)) 7 (hP.2.1 7)) 16 (hP.2.1 16)) 17 (hP.2.1 17)) 9 (u1_rng (hP.2.2 9) (show 0 ≤ z_24 ∧ z_24 ≤ 999999 from (by omega))))) dX3_readRound_117 (fun H locs hP hS => ?_)
                    refine lv_aload_n hx hb dX3_readRound_118 rfl (lv_at hl 0 rfl) ?_
                    refine lv_sipush (v := iI 258) hx hb dX3_readRound_119 (by decide) ?_
                    refine g_cv (As := [.int (iI 258)]) (rest := []) (n := 1) C hml (c_passE l D k A ad hD (va_up (va_up (va_up (va_up v 6 y6_7) 7 (v 7)) 16 w16_23) 17 w17_23) (va_up f 9 (u1 c9_7 (((v 7) * 4) + x2) z_24)) g 258 (by decide)) mM_X3_91 mI_X3_pass mE_X3_pass mN_X3 mC_X3_pass (by decide +kernel) 9 (ci := 3) rfl rfl hP hS (fun _ h => h) ⟨Nat.le_of_ble_eq_true rfl, Nat.le_of_ble_eq_true rfl⟩ ⟨Nat.zero_le _, Nat.zero_le _⟩ hl.1 rfl rfl (Nat.le_of_ble_eq_true rfl) dX3_readRound_122 (fun r_25 v_25 f_25 g_25 H locs hq_25 hP _ hS => ?_)
                    obtain ⟨w6_25, w16_25, w17_25, rfl, rfl, rfl, rfl, p0_25, p1_25⟩ := hq_25
                    show W p l e (gRm 4 82) s m args below meth c _ _ 0 0 Q (F0 m 125 ls [])
                    have hP : gWd D (rwT k ad) (va_up (va_up (va_up (va_up v 6 w6_25) 7 (v 7)) 16 w16_25) 17 w17_25) (va_up f 9 (u1 c9_7 (((v 7) * 4) + x2) z_24)) g H := ⟨hP.1, (gF_up (V := rwV) (F := rwF) (gR_up (V := rwV) (F := rwF) (gR_up (V := rwV) (F := rwF) (gR_up (V := rwV) (F := rwF) (gR_up (V := rwV) (F := rwF) ⟨hok.1, hok.2⟩ 6 (hP.2.1 6)) 7 (hP.2.1 7)) 16 (hP.2.1 16)) 17 (hP.2.1 17)) 9 (hP.2.2 9))⟩
                    replace p0_25 : w16_23 ≠ 0 → w16_25 ≠ 0 := p0_25
                    replace p1_25 : (f 6) y6_7 ≠ (258 : Int) → w16_25 ≠ 0 := p1_25
                    have rw6_25 : 0 ≤ w6_25 ∧ w6_25 ≤ 700 := hP.2.1 6
                    have rw16_25 : 0 ≤ w16_25 ∧ w16_25 ≤ 5 := hP.2.1 16
                    have rw17_25 : (-1) ≤ w17_25 ∧ w17_25 ≤ 700 := hP.2.1 17
                    refine lv_iinc (v := iI (x2 + 1)) (lv' := [(2, .int (iI (x2 + 1))), (0, .ref (ad 9)), (1, .int (iI (v 7)))]) hx hb dX3_readRound_125 hl (k := 2) rfl (by show iI _ + iI 1 = _; rw [iI_add]) (by decide) rfl (fun ls hl => ?_)
                    refine lv_goto (tgt := 33) hx hb dX3_readRound_128 (by decide) ?_
                    exact ih_33 (x2 + 1) w6_25 w16_25 w17_25 (u1 c9_7 (((v 7) * 4) + x2) z_24) _ _ _ (by omega) (by omega) (fun h => by first | (exfalso; omega) | exact shBack (hI (by omega)) (by omega) (by omega) (by omega)) hP hS (lv_sub hl [1, 2, 0] rfl)
                  · refine lv_iconst (v := iI 1) hx hb dX3_readRound_89 rfl ?_
                    refine lv_goto (tgt := 94) hx hb dX3_readRound_90 (by decide) ?_
                    refine lv_iconst (v := iI 4) hx hb dX3_readRound_94 rfl ?_
                    refine g_cv (As := [.int (iI 1), .int (iI 4)]) (rest := []) (n := 2) C hml (c_X3_refuseIf l D k A ad hD (va_up (va_up (va_up (va_up v 6 y6_7) 7 (v 7)) 16 y16_7) 17 y17_7) (va_up f 9 c9_7) g 1 4 (by decide) (by decide) (show 1 ≤ (4 : Int) ∧ (4 : Int) ≤ 5 from by omega)) mM_X3_66 mI_X3_refuseIf mE_X3_refuseIf mN_X3 mC_X3_refuseIf (by decide +kernel) 9 (ci := 3) rfl rfl hP hS (fun _ h => h) ⟨Nat.le_of_ble_eq_true rfl, Nat.le_of_ble_eq_true rfl⟩ ⟨Nat.zero_le _, Nat.zero_le _⟩ hl.1 rfl rfl (Nat.le_of_ble_eq_true rfl) dX3_readRound_95 (fun r_26 v_26 f_26 g_26 H locs hq_26 hP _ hS => ?_)
                    obtain ⟨w16_26, w17_26, rfl, rfl, rfl, rfl, p0_26, p1_26, p2_26⟩ := hq_26
                    show W p l e (gRm 4 82) s m args below meth c _ _ 0 0 Q (F0 m 98 ls [])
                    have hP : gWd D (rwT k ad) (va_up (va_up (va_up (va_up v 6 y6_7) 7 (v 7)) 16 w16_26) 17 w17_26) (va_up f 9 c9_7) g H := ⟨hP.1, (gF_up (V := rwV) (F := rwF) (gR_up (V := rwV) (F := rwF) (gR_up (V := rwV) (F := rwF) (gR_up (V := rwV) (F := rwF) (gR_up (V := rwV) (F := rwF) ⟨hok.1, hok.2⟩ 6 (hP.2.1 6)) 7 (hP.2.1 7)) 16 (hP.2.1 16)) 17 (hP.2.1 17)) 9 (hP.2.2 9))⟩
                    replace p0_26 : (1 : Int) ≠ 0 → w16_26 ≠ 0 := p0_26
                    replace p1_26 : y16_7 ≠ 0 → w16_26 ≠ 0 := p1_26
                    replace p2_26 : (1 : Int) = 0 → w16_26 = y16_7 := p2_26
                    have rw16_26 : 0 ≤ w16_26 ∧ w16_26 ≤ 5 := hP.2.1 16
                    have rw17_26 : (-1) ≤ w17_26 ∧ w17_26 ≤ 700 := hP.2.1 17
                    refine lv_aload_n hx hb dX3_readRound_98 rfl (lv_at hl 0 rfl) ?_
                    refine rwG_reader_draft C hP mF_X3_21 dX3_readRound_99 ?_
                    refine rwG_reader_draft_shape C hP mF_X3_113 dX3_readRound_102 ?_
                    refine lv_iload_n hx hb dX3_readRound_105 rfl (lv_at hl 1 rfl) ?_
                    refine lv_iconst (v := iI 4) hx hb dX3_readRound_106 rfl ?_
                    refine gi_mul (z := ((v 7) * 4)) hx hb dX3_readRound_107 rfl ?_
                    refine lv_iload_n hx hb dX3_readRound_108 rfl (lv_at hl 2 rfl) ?_
                    refine gi_add (z := (((v 7) * 4) + x2)) hx hb dX3_readRound_109 rfl ?_
                    refine lv_aload_n hx hb dX3_readRound_110 rfl (lv_at hl 0 rfl) ?_
                    refine rwG_reader_tokens C hP mF_X3_12 dX3_readRound_111 ?_
                    refine g_cv (As := []) (rest := [.int (iI (((v 7) * 4) + x2)), .ref (ad 15)]) (n := 0) C hml (c_X6_value l D k A ad hD (va_up (va_up (va_up (va_up v 6 y6_7) 7 (v 7)) 16 w16_26) 17 w17_26) (va_up f 9 c9_7) g) mM_X3_103 mI_X6_value mE_X6_value mN_X6 mC_X6_value (by decide +kernel) 10 (ci := 6) rfl rfl hP hS (fun _ h => h) ⟨Nat.le_of_ble_eq_true rfl, Nat.le_of_ble_eq_true rfl⟩ ⟨Nat.zero_le _, Nat.zero_le _⟩ hl.1 rfl rfl (Nat.le_of_ble_eq_true rfl) dX3_readRound_114 (fun r_27 v_27 f_27 g_27 H locs hq_27 hP _ hS => ?_)
                    obtain ⟨z_27, rfl, rfl, rfl, rfl, p0_27, p1_27⟩ := hq_27
                    show W p l e (gRm 4 82) s m args below meth c _ _ 0 0 Q (F0 m 117 ls [.int (iI z_27), .int (iI (((v 7) * 4) + x2)), .ref (ad 15)])
                    replace p0_27 : z_27 = ((f 8) y6_7) := p0_27
                    replace p1_27 : 0 ≤ z_27 ∧ z_27 ≤ 999999 := p1_27
                    have hz_27 : inR z_27 := (by first | omega | (rw [p0_27]; split <;> omega))
                    refine rwS_reader_draft_shape (f1 := (va_up f 9 (u1 c9_7 (((v 7) * 4) + x2) z_27))) C hP hD hS (by omega) (by omega) (by omega) rfl (Or.inr (gF_up (V := rwV) (F := rwF) (gR_up (V := rwV) (F := rwF) (gR_up (V := rwV) (F := rwF) (gR_up (V := rwV) (F := rwF) (gR_up (V := rwV) (F := rwF) ⟨hok.1, hok.2⟩ 6 (hP.2.1 6)) 7 (hP.2.1 7)) 16 (hP.2.1 16)) 17 (hP.2.1 17)) 9 (u1_rng (hP.2.2 9) (show 0 ≤ z_27 ∧ z_27 ≤ 999999 from (by omega))))) dX3_readRound_117 (fun H locs hP hS => ?_)
                    refine lv_aload_n hx hb dX3_readRound_118 rfl (lv_at hl 0 rfl) ?_
                    refine lv_sipush (v := iI 258) hx hb dX3_readRound_119 (by decide) ?_
                    refine g_cv (As := [.int (iI 258)]) (rest := []) (n := 1) C hml (c_passE l D k A ad hD (va_up (va_up (va_up (va_up v 6 y6_7) 7 (v 7)) 16 w16_26) 17 w17_26) (va_up f 9 (u1 c9_7 (((v 7) * 4) + x2) z_27)) g 258 (by decide)) mM_X3_91 mI_X3_pass mE_X3_pass mN_X3 mC_X3_pass (by decide +kernel) 9 (ci := 3) rfl rfl hP hS (fun _ h => h) ⟨Nat.le_of_ble_eq_true rfl, Nat.le_of_ble_eq_true rfl⟩ ⟨Nat.zero_le _, Nat.zero_le _⟩ hl.1 rfl rfl (Nat.le_of_ble_eq_true rfl) dX3_readRound_122 (fun r_28 v_28 f_28 g_28 H locs hq_28 hP _ hS => ?_)
                    obtain ⟨w6_28, w16_28, w17_28, rfl, rfl, rfl, rfl, p0_28, p1_28⟩ := hq_28
                    show W p l e (gRm 4 82) s m args below meth c _ _ 0 0 Q (F0 m 125 ls [])
                    have hP : gWd D (rwT k ad) (va_up (va_up (va_up (va_up v 6 w6_28) 7 (v 7)) 16 w16_28) 17 w17_28) (va_up f 9 (u1 c9_7 (((v 7) * 4) + x2) z_27)) g H := ⟨hP.1, (gF_up (V := rwV) (F := rwF) (gR_up (V := rwV) (F := rwF) (gR_up (V := rwV) (F := rwF) (gR_up (V := rwV) (F := rwF) (gR_up (V := rwV) (F := rwF) ⟨hok.1, hok.2⟩ 6 (hP.2.1 6)) 7 (hP.2.1 7)) 16 (hP.2.1 16)) 17 (hP.2.1 17)) 9 (hP.2.2 9))⟩
                    replace p0_28 : w16_26 ≠ 0 → w16_28 ≠ 0 := p0_28
                    replace p1_28 : (f 6) y6_7 ≠ (258 : Int) → w16_28 ≠ 0 := p1_28
                    have rw6_28 : 0 ≤ w6_28 ∧ w6_28 ≤ 700 := hP.2.1 6
                    have rw16_28 : 0 ≤ w16_28 ∧ w16_28 ≤ 5 := hP.2.1 16
                    have rw17_28 : (-1) ≤ w17_28 ∧ w17_28 ≤ 700 := hP.2.1 17
                    refine lv_iinc (v := iI (x2 + 1)) (lv' := [(2, .int (iI (x2 + 1))), (0, .ref (ad 9)), (1, .int (iI (v 7)))]) hx hb dX3_readRound_125 hl (k := 2) rfl (by show iI _ + iI 1 = _; rw [iI_add]) (by decide) rfl (fun ls hl => ?_)
                    refine lv_goto (tgt := 33) hx hb dX3_readRound_128 (by decide) ?_
                    exact ih_33 (x2 + 1) w6_28 w16_28 w17_28 (u1 c9_7 (((v 7) * 4) + x2) z_27) _ _ _ (by omega) (by omega) (fun h => by first | (exfalso; omega) | exact shBack (hI (by omega)) (by omega) (by omega) (by omega)) hP hS (lv_sub hl [1, 2, 0] rfl)
      exact L_7 5 0 w6_5 w16_4 w17_4 (f 9) _ _ _ (by omega) (by omega) (fun h => ⟨hd (by omega), shPart0⟩) hP hS (lv_sub hl [2, 1, 0] rfl)
    · exact g_vret hQ C hr hlocks hP hS dX3_readRound_30 ⟨w6_5, (v 7), w16_4, w17_4, (f 9), rfl, rfl, rfl, rfl, (fun h => by first | (exfalso; omega) | exact shNew (hI (by omega)) (by omega)), (by first | omega | (split <;> omega))⟩
  · refine lv_iconst (v := iI 1) hx hb dX3_readRound_14 rfl ?_
    refine lv_goto (tgt := 19) hx hb dX3_readRound_15 (by decide) ?_
    refine lv_iconst (v := iI 3) hx hb dX3_readRound_19 rfl ?_
    refine g_cv (As := [.int (iI 1), .int (iI 3)]) (rest := []) (n := 2) C hml (c_X3_refuseIf l D k A ad hD (va_up (va_up (va_up (va_up v 6 (v 6)) 7 (v 7)) 16 (v 16)) 17 (v 17)) (va_up f 9 (f 9)) g 1 3 (by decide) (by decide) (show 1 ≤ (3 : Int) ∧ (3 : Int) ≤ 5 from by omega)) mM_X3_66 mI_X3_refuseIf mE_X3_refuseIf mN_X3 mC_X3_refuseIf (by decide +kernel) 9 (ci := 3) rfl rfl hP hS (fun _ h => h) ⟨Nat.le_of_ble_eq_true rfl, Nat.le_of_ble_eq_true rfl⟩ ⟨Nat.zero_le _, Nat.zero_le _⟩ hl.1 rfl rfl (Nat.le_of_ble_eq_true rfl) dX3_readRound_20 (fun r_29 v_29 f_29 g_29 H locs hq_29 hP _ hS => ?_)
    obtain ⟨w16_29, w17_29, rfl, rfl, rfl, rfl, p0_29, p1_29, p2_29⟩ := hq_29
    show W p l e (gRm 4 82) s m args below meth c _ _ 0 0 Q (F0 m 23 ls [])
    have hP : gWd D (rwT k ad) (va_up (va_up (va_up (va_up v 6 (v 6)) 7 (v 7)) 16 w16_29) 17 w17_29) (va_up f 9 (f 9)) g H := ⟨hP.1, (gF_up (V := rwV) (F := rwF) (gR_up (V := rwV) (F := rwF) (gR_up (V := rwV) (F := rwF) (gR_up (V := rwV) (F := rwF) (gR_up (V := rwV) (F := rwF) ⟨hok.1, hok.2⟩ 6 (hP.2.1 6)) 7 (hP.2.1 7)) 16 (hP.2.1 16)) 17 (hP.2.1 17)) 9 (hP.2.2 9))⟩
    replace p0_29 : (1 : Int) ≠ 0 → w16_29 ≠ 0 := p0_29
    replace p1_29 : (v 16) ≠ 0 → w16_29 ≠ 0 := p1_29
    replace p2_29 : (1 : Int) = 0 → w16_29 = (v 16) := p2_29
    have rw16_29 : 0 ≤ w16_29 ∧ w16_29 ≤ 5 := hP.2.1 16
    have rw17_29 : (-1) ≤ w17_29 ∧ w17_29 ≤ 700 := hP.2.1 17
    refine lv_aload_n hx hb dX3_readRound_23 rfl (lv_at hl 1 rfl) ?_
    refine g_cv (As := []) (rest := []) (n := 0) C hml (c_X3_goOn l D k A ad hD (va_up (va_up (va_up (va_up v 6 (v 6)) 7 (v 7)) 16 w16_29) 17 w17_29) (va_up f 9 (f 9)) g) mM_X3_70 mI_X3_goOn mE_X3_goOn mN_X3 mC_X3_goOn (by decide +kernel) 9 (ci := 3) rfl rfl hP hS (fun _ h => h) ⟨Nat.le_of_ble_eq_true rfl, Nat.le_of_ble_eq_true rfl⟩ ⟨Nat.zero_le _, Nat.zero_le _⟩ hl.1 rfl rfl (Nat.le_of_ble_eq_true rfl) dX3_readRound_24 (fun r_30 v_30 f_30 g_30 H locs hq_30 hP _ hS => ?_)
    obtain ⟨z_30, w6_30, rfl, rfl, rfl, rfl, p0_30, p1_30⟩ := hq_30
    show W p l e (gRm 4 82) s m args below meth c _ _ 0 0 Q (F0 m 27 ls [.int (iI z_30)])
    have hP : gWd D (rwT k ad) (va_up (va_up (va_up (va_up v 6 w6_30) 7 (v 7)) 16 w16_29) 17 w17_29) (va_up f 9 (f 9)) g H := ⟨hP.1, (gF_up (V := rwV) (F := rwF) (gR_up (V := rwV) (F := rwF) (gR_up (V := rwV) (F := rwF) (gR_up (V := rwV) (F := rwF) (gR_up (V := rwV) (F := rwF) ⟨hok.1, hok.2⟩ 6 (hP.2.1 6)) 7 (hP.2.1 7)) 16 (hP.2.1 16)) 17 (hP.2.1 17)) 9 (hP.2.2 9))⟩
    replace p0_30 : 0 ≤ z_30 ∧ z_30 ≤ 1 := p0_30
    replace p1_30 : z_30 = 1 ↔ w16_29 = 0 := p1_30
    have rw6_30 : 0 ≤ w6_30 ∧ w6_30 ≤ 700 := hP.2.1 6
    refine gi_zne (tgt := 31) hx hb dX3_readRound_27 (by decide) (by omega) (fun c_31 => ?_) (fun c_31 => ?_)
    · have hn_ : (v 7) ≤ 3 ∧ w16_29 = 0 ∧ (v 16) = 0 := by omega
      refine lv_iconst (v := iI 0) hx hb dX3_readRound_31 rfl ?_
      refine lv_istore_n (lv' := [(2, .int (iI 0)), (1, .int (iI (v 7))), (0, .ref (ad 9))]) hx hb dX3_readRound_32 rfl hl (by decide) rfl (fun ls hl => ?_)
      have L_32 : ∀ (n : Nat) (x2 : Int) (y6_32 : Int) (y16_32 : Int) (y17_32 : Int) (c9_32 : Int → Int) (H : Heap) (locs : List Loc) (ls : Array Slot), 4 - x2 < (n : Int) → (0 ≤ x2 ∧ x2 ≤ 4) → (y16_32 = 0 → shOk (v 7) c9_32 ∧ shPart (v 7) c9_32 x2) → gWd D (rwT k ad) (va_up (va_up (va_up (va_up v 6 y6_32) 7 (v 7)) 16 y16_32) 17 y17_32) (va_up f 9 c9_32) g H → va_S A s.heap H locs → lv_has ls 3 [(0, .ref (ad 9)), (1, .int (iI (v 7))), (2, .int (iI x2))] → W p l e (gRm 4 82) s m args below meth c H locs 0 0 Q (F0 m 33 ls []) := by
        intro n
        induction n with
        | zero =>
          intro x2 y6_32 y16_32 y17_32 c9_32 H locs ls hn_32 i32_0 i32_1 hP hS hl
          have ry6_32 : 0 ≤ y6_32 ∧ y6_32 ≤ 700 := hP.2.1 6
          have ry16_32 : 0 ≤ y16_32 ∧ y16_32 ≤ 5 := hP.2.1 16
          have ry17_32 : (-1) ≤ y17_32 ∧ y17_32 ≤ 700 := hP.2.1 17
          exfalso; omega
        | succ n ih_33 =>
          intro x2 y6_32 y16_32 y17_32 c9_32 H locs ls hn_32 i32_0 i32_1 hP hS hl
          have ry6_32 : 0 ≤ y6_32 ∧ y6_32 ≤ 700 := hP.2.1 6
          have ry16_32 : 0 ≤ y16_32 ∧ y16_32 ≤ 5 := hP.2.1 16
          have ry17_32 : (-1) ≤ y17_32 ∧ y17_32 ≤ 700 := hP.2.1 17
          have hI := i32_1
          refine lv_iload_n hx hb dX3_readRound_33 rfl (lv_at hl 2 rfl) ?_
          refine lv_iconst (v := iI 4) hx hb dX3_readRound_34 rfl ?_
          refine gi_cge (tgt := 131) hx hb dX3_readRound_35 (by decide) (by omega) (by decide) (fun c_33 => ?_) (fun c_33 => ?_)
          · refine lv_aload_n hx hb dX3_readRound_131 rfl (lv_at hl 0 rfl) ?_
            refine rwG_reader_draft C hP mF_X3_21 dX3_readRound_132 ?_
            refine lv_iload_n hx hb dX3_readRound_135 rfl (lv_at hl 1 rfl) ?_
            refine lv_iconst (v := iI 1) hx hb dX3_readRound_136 rfl ?_
            refine gi_add (z := ((v 7) + 1)) hx hb dX3_readRound_137 rfl ?_
            refine rwP_reader_draft_rounds (v1 := (va_up (va_up (va_up (va_up v 6 y6_32) 7 ((v 7) + 1)) 16 y16_32) 17 y17_32)) C hP hD hS mF_X3_100 (by omega) rfl (Or.inr (gF_up (V := rwV) (F := rwF) (gR_up (V := rwV) (F := rwF) (gR_up (V := rwV) (F := rwF) (gR_up (V := rwV) (F := rwF) (gR_up (V := rwV) (F := rwF) ⟨hok.1, hok.2⟩ 6 (hP.2.1 6)) 7 (show 0 ≤ ((v 7) + 1) ∧ ((v 7) + 1) ≤ 4 from by omega)) 16 (hP.2.1 16)) 17 (hP.2.1 17)) 9 (hP.2.2 9))) dX3_readRound_138 (fun H locs hP hS => ?_)
            exact g_vret hQ C hr hlocks hP hS dX3_readRound_141 ⟨y6_32, ((v 7) + 1), y16_32, y17_32, c9_32, rfl, rfl, rfl, rfl, (fun h => by first | (exfalso; omega) | exact shNew (hI (by omega)) (by omega)), (by first | omega | (split <;> omega))⟩
          · refine lv_aload_n hx hb dX3_readRound_38 rfl (lv_at hl 0 rfl) ?_
            refine rwG_reader_fault C hP mF_X3_32 dX3_readRound_39 ?_
            show W p l e (gRm 4 82) s m args below meth c _ _ 0 0 Q (F0 m 42 ls [.int (iI y16_32)])
            have r_34 : 0 ≤ y16_32 ∧ y16_32 ≤ 5 := hP.2.1 16
            refine gi_zne (tgt := 131) hx hb dX3_readRound_42 (by decide) (by omega) (fun c_35 => ?_) (fun c_35 => ?_)
            · refine lv_aload_n hx hb dX3_readRound_131 rfl (lv_at hl 0 rfl) ?_
              refine rwG_reader_draft C hP mF_X3_21 dX3_readRound_132 ?_
              refine lv_iload_n hx hb dX3_readRound_135 rfl (lv_at hl 1 rfl) ?_
              refine lv_iconst (v := iI 1) hx hb dX3_readRound_136 rfl ?_
              refine gi_add (z := ((v 7) + 1)) hx hb dX3_readRound_137 rfl ?_
              refine rwP_reader_draft_rounds (v1 := (va_up (va_up (va_up (va_up v 6 y6_32) 7 ((v 7) + 1)) 16 y16_32) 17 y17_32)) C hP hD hS mF_X3_100 (by omega) rfl (Or.inr (gF_up (V := rwV) (F := rwF) (gR_up (V := rwV) (F := rwF) (gR_up (V := rwV) (F := rwF) (gR_up (V := rwV) (F := rwF) (gR_up (V := rwV) (F := rwF) ⟨hok.1, hok.2⟩ 6 (hP.2.1 6)) 7 (show 0 ≤ ((v 7) + 1) ∧ ((v 7) + 1) ≤ 4 from by omega)) 16 (hP.2.1 16)) 17 (hP.2.1 17)) 9 (hP.2.2 9))) dX3_readRound_138 (fun H locs hP hS => ?_)
              exact g_vret hQ C hr hlocks hP hS dX3_readRound_141 ⟨y6_32, ((v 7) + 1), y16_32, y17_32, c9_32, rfl, rfl, rfl, rfl, (fun h => by first | (exfalso; omega) | exact shNew (hI (by omega)) (by omega)), (by first | omega | (split <;> omega))⟩
            · refine lv_aload_n hx hb dX3_readRound_45 rfl (lv_at hl 0 rfl) ?_
              refine rwG_reader_tokens C hP mF_X3_12 dX3_readRound_46 ?_
              refine g_cv (As := []) (rest := []) (n := 0) C hml (c_X6_kind l D k A ad hD (va_up (va_up (va_up (va_up v 6 y6_32) 7 (v 7)) 16 y16_32) 17 y17_32) (va_up f 9 c9_32) g) mM_X3_56 mI_X6_kind mE_X6_kind mN_X6 mC_X6_kind (by decide +kernel) 10 (ci := 6) rfl rfl hP hS (fun _ h => h) ⟨Nat.le_of_ble_eq_true rfl, Nat.le_of_ble_eq_true rfl⟩ ⟨Nat.zero_le _, Nat.zero_le _⟩ hl.1 rfl rfl (Nat.le_of_ble_eq_true rfl) dX3_readRound_49 (fun r_36 v_36 f_36 g_36 H locs hq_36 hP _ hS => ?_)
              obtain ⟨z_36, rfl, rfl, rfl, rfl, p0_36, p1_36⟩ := hq_36
              show W p l e (gRm 4 82) s m args below meth c _ _ 0 0 Q (F0 m 52 ls [.int (iI z_36)])
              replace p0_36 : z_36 = ((f 6) y6_32) := p0_36
              replace p1_36 : 0 ≤ z_36 ∧ z_36 ≤ 300 := p1_36
              have hz_36 : inR z_36 := (by first | omega | (rw [p0_36]; split <;> omega))
              refine lv_sipush (v := iI 258) hx hb dX3_readRound_52 (by decide) ?_
              refine gi_cne (tgt := 118) hx hb dX3_readRound_55 (by decide) (by omega) (by decide) (fun c_37 => ?_) (fun c_37 => ?_)
              · refine lv_aload_n hx hb dX3_readRound_118 rfl (lv_at hl 0 rfl) ?_
                refine lv_sipush (v := iI 258) hx hb dX3_readRound_119 (by decide) ?_
                refine g_cv (As := [.int (iI 258)]) (rest := []) (n := 1) C hml (c_passE l D k A ad hD (va_up (va_up (va_up (va_up v 6 y6_32) 7 (v 7)) 16 y16_32) 17 y17_32) (va_up f 9 c9_32) g 258 (by decide)) mM_X3_91 mI_X3_pass mE_X3_pass mN_X3 mC_X3_pass (by decide +kernel) 9 (ci := 3) rfl rfl hP hS (fun _ h => h) ⟨Nat.le_of_ble_eq_true rfl, Nat.le_of_ble_eq_true rfl⟩ ⟨Nat.zero_le _, Nat.zero_le _⟩ hl.1 rfl rfl (Nat.le_of_ble_eq_true rfl) dX3_readRound_122 (fun r_38 v_38 f_38 g_38 H locs hq_38 hP _ hS => ?_)
                obtain ⟨w6_38, w16_38, w17_38, rfl, rfl, rfl, rfl, p0_38, p1_38⟩ := hq_38
                show W p l e (gRm 4 82) s m args below meth c _ _ 0 0 Q (F0 m 125 ls [])
                have hP : gWd D (rwT k ad) (va_up (va_up (va_up (va_up v 6 w6_38) 7 (v 7)) 16 w16_38) 17 w17_38) (va_up f 9 c9_32) g H := ⟨hP.1, (gF_up (V := rwV) (F := rwF) (gR_up (V := rwV) (F := rwF) (gR_up (V := rwV) (F := rwF) (gR_up (V := rwV) (F := rwF) (gR_up (V := rwV) (F := rwF) ⟨hok.1, hok.2⟩ 6 (hP.2.1 6)) 7 (hP.2.1 7)) 16 (hP.2.1 16)) 17 (hP.2.1 17)) 9 (hP.2.2 9))⟩
                replace p0_38 : y16_32 ≠ 0 → w16_38 ≠ 0 := p0_38
                replace p1_38 : (f 6) y6_32 ≠ (258 : Int) → w16_38 ≠ 0 := p1_38
                have rw6_38 : 0 ≤ w6_38 ∧ w6_38 ≤ 700 := hP.2.1 6
                have rw16_38 : 0 ≤ w16_38 ∧ w16_38 ≤ 5 := hP.2.1 16
                have rw17_38 : (-1) ≤ w17_38 ∧ w17_38 ≤ 700 := hP.2.1 17
                refine lv_iinc (v := iI (x2 + 1)) (lv' := [(2, .int (iI (x2 + 1))), (0, .ref (ad 9)), (1, .int (iI (v 7)))]) hx hb dX3_readRound_125 hl (k := 2) rfl (by show iI _ + iI 1 = _; rw [iI_add]) (by decide) rfl (fun ls hl => ?_)
                refine lv_goto (tgt := 33) hx hb dX3_readRound_128 (by decide) ?_
                exact ih_33 (x2 + 1) w6_38 w16_38 w17_38 c9_32 _ _ _ (by omega) (by omega) (fun h => by first | (exfalso; omega) | exact shBack (hI (by omega)) (by omega) (by omega) (by omega)) hP hS (lv_sub hl [1, 2, 0] rfl)
              · refine lv_aload_n hx hb dX3_readRound_58 rfl (lv_at hl 0 rfl) ?_
                refine lv_aload_n hx hb dX3_readRound_59 rfl (lv_at hl 0 rfl) ?_
                refine rwG_reader_tokens C hP mF_X3_12 dX3_readRound_60 ?_
                refine g_cv (As := []) (rest := [.ref (ad 9)]) (n := 0) C hml (c_X6_value l D k A ad hD (va_up (va_up (va_up (va_up v 6 y6_32) 7 (v 7)) 16 y16_32) 17 y17_32) (va_up f 9 c9_32) g) mM_X3_103 mI_X6_value mE_X6_value mN_X6 mC_X6_value (by decide +kernel) 10 (ci := 6) rfl rfl hP hS (fun _ h => h) ⟨Nat.le_of_ble_eq_true rfl, Nat.le_of_ble_eq_true rfl⟩ ⟨Nat.zero_le _, Nat.zero_le _⟩ hl.1 rfl rfl (Nat.le_of_ble_eq_true rfl) dX3_readRound_63 (fun r_39 v_39 f_39 g_39 H locs hq_39 hP _ hS => ?_)
                obtain ⟨z_39, rfl, rfl, rfl, rfl, p0_39, p1_39⟩ := hq_39
                show W p l e (gRm 4 82) s m args below meth c _ _ 0 0 Q (F0 m 66 ls [.int (iI z_39), .ref (ad 9)])
                replace p0_39 : z_39 = ((f 8) y6_32) := p0_39
                replace p1_39 : 0 ≤ z_39 ∧ z_39 ≤ 999999 := p1_39
                have hz_39 : inR z_39 := (by first | omega | (rw [p0_39]; split <;> omega))
                refine va_getsN hx hb hE.p0 hS C.2.2.2.1 (va_Nw.use rfl hE.p8) (fun _ h => h) dX3_readRound_66 ?_
                refine lv_iload_n hx hb dX3_readRound_69 rfl (lv_at hl 2 rfl) ?_
                refine va_ti (v := .int (iI (gElo (x2).toNat))) hx hb hE.p1 hS (iI_in (by omega) (by omega) (by decide)) (by show Value.int (iI (gElo _)) = _; rw [gE_cl (by omega) (by omega)]) dX3_readRound_70 ?_
                show W p l e (gRm 4 82) s m args below meth c _ _ 0 0 Q (F0 m 71 ls [.int (iI (gElo (x2).toNat)), .int (iI z_39), .ref (ad 9)])
                have r_40 : 0 ≤ (gElo (x2).toNat) ∧ (gElo (x2).toNat) ≤ 999 := gElo_r _
                refine gi_clt (tgt := 89) hx hb dX3_readRound_71 (by decide) (by omega) (by omega) (fun c_41 => ?_) (fun c_41 => ?_)
                · refine lv_iconst (v := iI 1) hx hb dX3_readRound_89 rfl ?_
                  refine lv_goto (tgt := 94) hx hb dX3_readRound_90 (by decide) ?_
                  refine lv_iconst (v := iI 4) hx hb dX3_readRound_94 rfl ?_
                  refine g_cv (As := [.int (iI 1), .int (iI 4)]) (rest := []) (n := 2) C hml (c_X3_refuseIf l D k A ad hD (va_up (va_up (va_up (va_up v 6 y6_32) 7 (v 7)) 16 y16_32) 17 y17_32) (va_up f 9 c9_32) g 1 4 (by decide) (by decide) (show 1 ≤ (4 : Int) ∧ (4 : Int) ≤ 5 from by omega)) mM_X3_66 mI_X3_refuseIf mE_X3_refuseIf mN_X3 mC_X3_refuseIf (by decide +kernel) 9 (ci := 3) rfl rfl hP hS (fun _ h => h) ⟨Nat.le_of_ble_eq_true rfl, Nat.le_of_ble_eq_true rfl⟩ ⟨Nat.zero_le _, Nat.zero_le _⟩ hl.1 rfl rfl (Nat.le_of_ble_eq_true rfl) dX3_readRound_95 (fun r_42 v_42 f_42 g_42 H locs hq_42 hP _ hS => ?_)
                  obtain ⟨w16_42, w17_42, rfl, rfl, rfl, rfl, p0_42, p1_42, p2_42⟩ := hq_42
                  show W p l e (gRm 4 82) s m args below meth c _ _ 0 0 Q (F0 m 98 ls [])
                  have hP : gWd D (rwT k ad) (va_up (va_up (va_up (va_up v 6 y6_32) 7 (v 7)) 16 w16_42) 17 w17_42) (va_up f 9 c9_32) g H := ⟨hP.1, (gF_up (V := rwV) (F := rwF) (gR_up (V := rwV) (F := rwF) (gR_up (V := rwV) (F := rwF) (gR_up (V := rwV) (F := rwF) (gR_up (V := rwV) (F := rwF) ⟨hok.1, hok.2⟩ 6 (hP.2.1 6)) 7 (hP.2.1 7)) 16 (hP.2.1 16)) 17 (hP.2.1 17)) 9 (hP.2.2 9))⟩
                  replace p0_42 : (1 : Int) ≠ 0 → w16_42 ≠ 0 := p0_42
                  replace p1_42 : y16_32 ≠ 0 → w16_42 ≠ 0 := p1_42
                  replace p2_42 : (1 : Int) = 0 → w16_42 = y16_32 := p2_42
                  have rw16_42 : 0 ≤ w16_42 ∧ w16_42 ≤ 5 := hP.2.1 16
                  have rw17_42 : (-1) ≤ w17_42 ∧ w17_42 ≤ 700 := hP.2.1 17
                  refine lv_aload_n hx hb dX3_readRound_98 rfl (lv_at hl 0 rfl) ?_
                  refine rwG_reader_draft C hP mF_X3_21 dX3_readRound_99 ?_
                  refine rwG_reader_draft_shape C hP mF_X3_113 dX3_readRound_102 ?_
                  refine lv_iload_n hx hb dX3_readRound_105 rfl (lv_at hl 1 rfl) ?_
                  refine lv_iconst (v := iI 4) hx hb dX3_readRound_106 rfl ?_
                  refine gi_mul (z := ((v 7) * 4)) hx hb dX3_readRound_107 rfl ?_
                  refine lv_iload_n hx hb dX3_readRound_108 rfl (lv_at hl 2 rfl) ?_
                  refine gi_add (z := (((v 7) * 4) + x2)) hx hb dX3_readRound_109 rfl ?_
                  refine lv_aload_n hx hb dX3_readRound_110 rfl (lv_at hl 0 rfl) ?_
                  refine rwG_reader_tokens C hP mF_X3_12 dX3_readRound_111 ?_
                  refine g_cv (As := []) (rest := [.int (iI (((v 7) * 4) + x2)), .ref (ad 15)]) (n := 0) C hml (c_X6_value l D k A ad hD (va_up (va_up (va_up (va_up v 6 y6_32) 7 (v 7)) 16 w16_42) 17 w17_42) (va_up f 9 c9_32) g) mM_X3_103 mI_X6_value mE_X6_value mN_X6 mC_X6_value (by decide +kernel) 10 (ci := 6) rfl rfl hP hS (fun _ h => h) ⟨Nat.le_of_ble_eq_true rfl, Nat.le_of_ble_eq_true rfl⟩ ⟨Nat.zero_le _, Nat.zero_le _⟩ hl.1 rfl rfl (Nat.le_of_ble_eq_true rfl) dX3_readRound_114 (fun r_43 v_43 f_43 g_43 H locs hq_43 hP _ hS => ?_)
                  obtain ⟨z_43, rfl, rfl, rfl, rfl, p0_43, p1_43⟩ := hq_43
                  show W p l e (gRm 4 82) s m args below meth c _ _ 0 0 Q (F0 m 117 ls [.int (iI z_43), .int (iI (((v 7) * 4) + x2)), .ref (ad 15)])
                  replace p0_43 : z_43 = ((f 8) y6_32) := p0_43
                  replace p1_43 : 0 ≤ z_43 ∧ z_43 ≤ 999999 := p1_43
                  have hz_43 : inR z_43 := (by first | omega | (rw [p0_43]; split <;> omega))
                  refine rwS_reader_draft_shape (f1 := (va_up f 9 (u1 c9_32 (((v 7) * 4) + x2) z_43))) C hP hD hS (by omega) (by omega) (by omega) rfl (Or.inr (gF_up (V := rwV) (F := rwF) (gR_up (V := rwV) (F := rwF) (gR_up (V := rwV) (F := rwF) (gR_up (V := rwV) (F := rwF) (gR_up (V := rwV) (F := rwF) ⟨hok.1, hok.2⟩ 6 (hP.2.1 6)) 7 (hP.2.1 7)) 16 (hP.2.1 16)) 17 (hP.2.1 17)) 9 (u1_rng (hP.2.2 9) (show 0 ≤ z_43 ∧ z_43 ≤ 999999 from (by omega))))) dX3_readRound_117 (fun H locs hP hS => ?_)
                  refine lv_aload_n hx hb dX3_readRound_118 rfl (lv_at hl 0 rfl) ?_
                  refine lv_sipush (v := iI 258) hx hb dX3_readRound_119 (by decide) ?_
                  refine g_cv (As := [.int (iI 258)]) (rest := []) (n := 1) C hml (c_passE l D k A ad hD (va_up (va_up (va_up (va_up v 6 y6_32) 7 (v 7)) 16 w16_42) 17 w17_42) (va_up f 9 (u1 c9_32 (((v 7) * 4) + x2) z_43)) g 258 (by decide)) mM_X3_91 mI_X3_pass mE_X3_pass mN_X3 mC_X3_pass (by decide +kernel) 9 (ci := 3) rfl rfl hP hS (fun _ h => h) ⟨Nat.le_of_ble_eq_true rfl, Nat.le_of_ble_eq_true rfl⟩ ⟨Nat.zero_le _, Nat.zero_le _⟩ hl.1 rfl rfl (Nat.le_of_ble_eq_true rfl) dX3_readRound_122 (fun r_44 v_44 f_44 g_44 H locs hq_44 hP _ hS => ?_)
                  obtain ⟨w6_44, w16_44, w17_44, rfl, rfl, rfl, rfl, p0_44, p1_44⟩ := hq_44
                  show W p l e (gRm 4 82) s m args below meth c _ _ 0 0 Q (F0 m 125 ls [])
                  have hP : gWd D (rwT k ad) (va_up (va_up (va_up (va_up v 6 w6_44) 7 (v 7)) 16 w16_44) 17 w17_44) (va_up f 9 (u1 c9_32 (((v 7) * 4) + x2) z_43)) g H := ⟨hP.1, (gF_up (V := rwV) (F := rwF) (gR_up (V := rwV) (F := rwF) (gR_up (V := rwV) (F := rwF) (gR_up (V := rwV) (F := rwF) (gR_up (V := rwV) (F := rwF) ⟨hok.1, hok.2⟩ 6 (hP.2.1 6)) 7 (hP.2.1 7)) 16 (hP.2.1 16)) 17 (hP.2.1 17)) 9 (hP.2.2 9))⟩
                  replace p0_44 : w16_42 ≠ 0 → w16_44 ≠ 0 := p0_44
                  replace p1_44 : (f 6) y6_32 ≠ (258 : Int) → w16_44 ≠ 0 := p1_44
                  have rw6_44 : 0 ≤ w6_44 ∧ w6_44 ≤ 700 := hP.2.1 6
                  have rw16_44 : 0 ≤ w16_44 ∧ w16_44 ≤ 5 := hP.2.1 16
                  have rw17_44 : (-1) ≤ w17_44 ∧ w17_44 ≤ 700 := hP.2.1 17
                  refine lv_iinc (v := iI (x2 + 1)) (lv' := [(2, .int (iI (x2 + 1))), (0, .ref (ad 9)), (1, .int (iI (v 7)))]) hx hb dX3_readRound_125 hl (k := 2) rfl (by show iI _ + iI 1 = _; rw [iI_add]) (by decide) rfl (fun ls hl => ?_)
                  refine lv_goto (tgt := 33) hx hb dX3_readRound_128 (by decide) ?_
                  exact ih_33 (x2 + 1) w6_44 w16_44 w17_44 (u1 c9_32 (((v 7) * 4) + x2) z_43) _ _ _ (by omega) (by omega) (fun h => by first | (exfalso; omega) | exact shBack (hI (by omega)) (by omega) (by omega) (by omega)) hP hS (lv_sub hl [1, 2, 0] rfl)
                · refine lv_aload_n hx hb dX3_readRound_74 rfl (lv_at hl 0 rfl) ?_
                  refine rwG_reader_tokens C hP mF_X3_12 dX3_readRound_75 ?_
                  refine g_cv (As := []) (rest := [.ref (ad 9)]) (n := 0) C hml (c_X6_value l D k A ad hD (va_up (va_up (va_up (va_up v 6 y6_32) 7 (v 7)) 16 y16_32) 17 y17_32) (va_up f 9 c9_32) g) mM_X3_103 mI_X6_value mE_X6_value mN_X6 mC_X6_value (by decide +kernel) 10 (ci := 6) rfl rfl hP hS (fun _ h => h) ⟨Nat.le_of_ble_eq_true rfl, Nat.le_of_ble_eq_true rfl⟩ ⟨Nat.zero_le _, Nat.zero_le _⟩ hl.1 rfl rfl (Nat.le_of_ble_eq_true rfl) dX3_readRound_78 (fun r_45 v_45 f_45 g_45 H locs hq_45 hP _ hS => ?_)
                  obtain ⟨z_45, rfl, rfl, rfl, rfl, p0_45, p1_45⟩ := hq_45
                  show W p l e (gRm 4 82) s m args below meth c _ _ 0 0 Q (F0 m 81 ls [.int (iI z_45), .ref (ad 9)])
                  replace p0_45 : z_45 = ((f 8) y6_32) := p0_45
                  replace p1_45 : 0 ≤ z_45 ∧ z_45 ≤ 999999 := p1_45
                  have hz_45 : inR z_45 := (by first | omega | (rw [p0_45]; split <;> omega))
                  refine va_getsN hx hb hE.p2 hS C.2.2.2.1 (va_Nw.use rfl hE.p9) (fun _ h => h) dX3_readRound_81 ?_
                  refine lv_iload_n hx hb dX3_readRound_84 rfl (lv_at hl 2 rfl) ?_
                  refine va_ti (v := .int (iI (gEhi (x2).toNat))) hx hb hE.p3 hS (iI_in (by omega) (by omega) (by decide)) (by show Value.int (iI (gEhi _)) = _; rw [gE_cl (by omega) (by omega)]) dX3_readRound_85 ?_
                  show W p l e (gRm 4 82) s m args below meth c _ _ 0 0 Q (F0 m 86 ls [.int (iI (gEhi (x2).toNat)), .int (iI z_45), .ref (ad 9)])
                  have r_46 : 0 ≤ (gEhi (x2).toNat) ∧ (gEhi (x2).toNat) ≤ 999 := gEhi_r _
                  refine gi_cle (tgt := 93) hx hb dX3_readRound_86 (by decide) (by omega) (by omega) (fun c_47 => ?_) (fun c_47 => ?_)
                  · refine lv_iconst (v := iI 0) hx hb dX3_readRound_93 rfl ?_
                    refine lv_iconst (v := iI 4) hx hb dX3_readRound_94 rfl ?_
                    refine g_cv (As := [.int (iI 0), .int (iI 4)]) (rest := []) (n := 2) C hml (c_X3_refuseIf l D k A ad hD (va_up (va_up (va_up (va_up v 6 y6_32) 7 (v 7)) 16 y16_32) 17 y17_32) (va_up f 9 c9_32) g 0 4 (by decide) (by decide) (show 1 ≤ (4 : Int) ∧ (4 : Int) ≤ 5 from by omega)) mM_X3_66 mI_X3_refuseIf mE_X3_refuseIf mN_X3 mC_X3_refuseIf (by decide +kernel) 9 (ci := 3) rfl rfl hP hS (fun _ h => h) ⟨Nat.le_of_ble_eq_true rfl, Nat.le_of_ble_eq_true rfl⟩ ⟨Nat.zero_le _, Nat.zero_le _⟩ hl.1 rfl rfl (Nat.le_of_ble_eq_true rfl) dX3_readRound_95 (fun r_48 v_48 f_48 g_48 H locs hq_48 hP _ hS => ?_)
                    obtain ⟨w16_48, w17_48, rfl, rfl, rfl, rfl, p0_48, p1_48, p2_48⟩ := hq_48
                    show W p l e (gRm 4 82) s m args below meth c _ _ 0 0 Q (F0 m 98 ls [])
                    have hP : gWd D (rwT k ad) (va_up (va_up (va_up (va_up v 6 y6_32) 7 (v 7)) 16 w16_48) 17 w17_48) (va_up f 9 c9_32) g H := ⟨hP.1, (gF_up (V := rwV) (F := rwF) (gR_up (V := rwV) (F := rwF) (gR_up (V := rwV) (F := rwF) (gR_up (V := rwV) (F := rwF) (gR_up (V := rwV) (F := rwF) ⟨hok.1, hok.2⟩ 6 (hP.2.1 6)) 7 (hP.2.1 7)) 16 (hP.2.1 16)) 17 (hP.2.1 17)) 9 (hP.2.2 9))⟩
                    replace p0_48 : (0 : Int) ≠ 0 → w16_48 ≠ 0 := p0_48
                    replace p1_48 : y16_32 ≠ 0 → w16_48 ≠ 0 := p1_48
                    replace p2_48 : (0 : Int) = 0 → w16_48 = y16_32 := p2_48
                    have rw16_48 : 0 ≤ w16_48 ∧ w16_48 ≤ 5 := hP.2.1 16
                    have rw17_48 : (-1) ≤ w17_48 ∧ w17_48 ≤ 700 := hP.2.1 17
                    refine lv_aload_n hx hb dX3_readRound_98 rfl (lv_at hl 0 rfl) ?_
                    refine rwG_reader_draft C hP mF_X3_21 dX3_readRound_99 ?_
                    refine rwG_reader_draft_shape C hP mF_X3_113 dX3_readRound_102 ?_
                    refine lv_iload_n hx hb dX3_readRound_105 rfl (lv_at hl 1 rfl) ?_
                    refine lv_iconst (v := iI 4) hx hb dX3_readRound_106 rfl ?_
                    refine gi_mul (z := ((v 7) * 4)) hx hb dX3_readRound_107 rfl ?_
                    refine lv_iload_n hx hb dX3_readRound_108 rfl (lv_at hl 2 rfl) ?_
                    refine gi_add (z := (((v 7) * 4) + x2)) hx hb dX3_readRound_109 rfl ?_
                    refine lv_aload_n hx hb dX3_readRound_110 rfl (lv_at hl 0 rfl) ?_
                    refine rwG_reader_tokens C hP mF_X3_12 dX3_readRound_111 ?_
                    refine g_cv (As := []) (rest := [.int (iI (((v 7) * 4) + x2)), .ref (ad 15)]) (n := 0) C hml (c_X6_value l D k A ad hD (va_up (va_up (va_up (va_up v 6 y6_32) 7 (v 7)) 16 w16_48) 17 w17_48) (va_up f 9 c9_32) g) mM_X3_103 mI_X6_value mE_X6_value mN_X6 mC_X6_value (by decide +kernel) 10 (ci := 6) rfl rfl hP hS (fun _ h => h) ⟨Nat.le_of_ble_eq_true rfl, Nat.le_of_ble_eq_true rfl⟩ ⟨Nat.zero_le _, Nat.zero_le _⟩ hl.1 rfl rfl (Nat.le_of_ble_eq_true rfl) dX3_readRound_114 (fun r_49 v_49 f_49 g_49 H locs hq_49 hP _ hS => ?_)
                    obtain ⟨z_49, rfl, rfl, rfl, rfl, p0_49, p1_49⟩ := hq_49
                    show W p l e (gRm 4 82) s m args below meth c _ _ 0 0 Q (F0 m 117 ls [.int (iI z_49), .int (iI (((v 7) * 4) + x2)), .ref (ad 15)])
                    replace p0_49 : z_49 = ((f 8) y6_32) := p0_49
                    replace p1_49 : 0 ≤ z_49 ∧ z_49 ≤ 999999 := p1_49
                    have hz_49 : inR z_49 := (by first | omega | (rw [p0_49]; split <;> omega))
                    refine rwS_reader_draft_shape (f1 := (va_up f 9 (u1 c9_32 (((v 7) * 4) + x2) z_49))) C hP hD hS (by omega) (by omega) (by omega) rfl (Or.inr (gF_up (V := rwV) (F := rwF) (gR_up (V := rwV) (F := rwF) (gR_up (V := rwV) (F := rwF) (gR_up (V := rwV) (F := rwF) (gR_up (V := rwV) (F := rwF) ⟨hok.1, hok.2⟩ 6 (hP.2.1 6)) 7 (hP.2.1 7)) 16 (hP.2.1 16)) 17 (hP.2.1 17)) 9 (u1_rng (hP.2.2 9) (show 0 ≤ z_49 ∧ z_49 ≤ 999999 from (by omega))))) dX3_readRound_117 (fun H locs hP hS => ?_)
                    refine lv_aload_n hx hb dX3_readRound_118 rfl (lv_at hl 0 rfl) ?_
                    refine lv_sipush (v := iI 258) hx hb dX3_readRound_119 (by decide) ?_
                    refine g_cv (As := [.int (iI 258)]) (rest := []) (n := 1) C hml (c_passE l D k A ad hD (va_up (va_up (va_up (va_up v 6 y6_32) 7 (v 7)) 16 w16_48) 17 w17_48) (va_up f 9 (u1 c9_32 (((v 7) * 4) + x2) z_49)) g 258 (by decide)) mM_X3_91 mI_X3_pass mE_X3_pass mN_X3 mC_X3_pass (by decide +kernel) 9 (ci := 3) rfl rfl hP hS (fun _ h => h) ⟨Nat.le_of_ble_eq_true rfl, Nat.le_of_ble_eq_true rfl⟩ ⟨Nat.zero_le _, Nat.zero_le _⟩ hl.1 rfl rfl (Nat.le_of_ble_eq_true rfl) dX3_readRound_122 (fun r_50 v_50 f_50 g_50 H locs hq_50 hP _ hS => ?_)
                    obtain ⟨w6_50, w16_50, w17_50, rfl, rfl, rfl, rfl, p0_50, p1_50⟩ := hq_50
                    show W p l e (gRm 4 82) s m args below meth c _ _ 0 0 Q (F0 m 125 ls [])
                    have hP : gWd D (rwT k ad) (va_up (va_up (va_up (va_up v 6 w6_50) 7 (v 7)) 16 w16_50) 17 w17_50) (va_up f 9 (u1 c9_32 (((v 7) * 4) + x2) z_49)) g H := ⟨hP.1, (gF_up (V := rwV) (F := rwF) (gR_up (V := rwV) (F := rwF) (gR_up (V := rwV) (F := rwF) (gR_up (V := rwV) (F := rwF) (gR_up (V := rwV) (F := rwF) ⟨hok.1, hok.2⟩ 6 (hP.2.1 6)) 7 (hP.2.1 7)) 16 (hP.2.1 16)) 17 (hP.2.1 17)) 9 (hP.2.2 9))⟩
                    replace p0_50 : w16_48 ≠ 0 → w16_50 ≠ 0 := p0_50
                    replace p1_50 : (f 6) y6_32 ≠ (258 : Int) → w16_50 ≠ 0 := p1_50
                    have rw6_50 : 0 ≤ w6_50 ∧ w6_50 ≤ 700 := hP.2.1 6
                    have rw16_50 : 0 ≤ w16_50 ∧ w16_50 ≤ 5 := hP.2.1 16
                    have rw17_50 : (-1) ≤ w17_50 ∧ w17_50 ≤ 700 := hP.2.1 17
                    refine lv_iinc (v := iI (x2 + 1)) (lv' := [(2, .int (iI (x2 + 1))), (0, .ref (ad 9)), (1, .int (iI (v 7)))]) hx hb dX3_readRound_125 hl (k := 2) rfl (by show iI _ + iI 1 = _; rw [iI_add]) (by decide) rfl (fun ls hl => ?_)
                    refine lv_goto (tgt := 33) hx hb dX3_readRound_128 (by decide) ?_
                    exact ih_33 (x2 + 1) w6_50 w16_50 w17_50 (u1 c9_32 (((v 7) * 4) + x2) z_49) _ _ _ (by omega) (by omega) (fun h => by first | (exfalso; omega) | exact shBack (hI (by omega)) (by omega) (by omega) (by omega)) hP hS (lv_sub hl [1, 2, 0] rfl)
                  · refine lv_iconst (v := iI 1) hx hb dX3_readRound_89 rfl ?_
                    refine lv_goto (tgt := 94) hx hb dX3_readRound_90 (by decide) ?_
                    refine lv_iconst (v := iI 4) hx hb dX3_readRound_94 rfl ?_
                    refine g_cv (As := [.int (iI 1), .int (iI 4)]) (rest := []) (n := 2) C hml (c_X3_refuseIf l D k A ad hD (va_up (va_up (va_up (va_up v 6 y6_32) 7 (v 7)) 16 y16_32) 17 y17_32) (va_up f 9 c9_32) g 1 4 (by decide) (by decide) (show 1 ≤ (4 : Int) ∧ (4 : Int) ≤ 5 from by omega)) mM_X3_66 mI_X3_refuseIf mE_X3_refuseIf mN_X3 mC_X3_refuseIf (by decide +kernel) 9 (ci := 3) rfl rfl hP hS (fun _ h => h) ⟨Nat.le_of_ble_eq_true rfl, Nat.le_of_ble_eq_true rfl⟩ ⟨Nat.zero_le _, Nat.zero_le _⟩ hl.1 rfl rfl (Nat.le_of_ble_eq_true rfl) dX3_readRound_95 (fun r_51 v_51 f_51 g_51 H locs hq_51 hP _ hS => ?_)
                    obtain ⟨w16_51, w17_51, rfl, rfl, rfl, rfl, p0_51, p1_51, p2_51⟩ := hq_51
                    show W p l e (gRm 4 82) s m args below meth c _ _ 0 0 Q (F0 m 98 ls [])
                    have hP : gWd D (rwT k ad) (va_up (va_up (va_up (va_up v 6 y6_32) 7 (v 7)) 16 w16_51) 17 w17_51) (va_up f 9 c9_32) g H := ⟨hP.1, (gF_up (V := rwV) (F := rwF) (gR_up (V := rwV) (F := rwF) (gR_up (V := rwV) (F := rwF) (gR_up (V := rwV) (F := rwF) (gR_up (V := rwV) (F := rwF) ⟨hok.1, hok.2⟩ 6 (hP.2.1 6)) 7 (hP.2.1 7)) 16 (hP.2.1 16)) 17 (hP.2.1 17)) 9 (hP.2.2 9))⟩
                    replace p0_51 : (1 : Int) ≠ 0 → w16_51 ≠ 0 := p0_51
                    replace p1_51 : y16_32 ≠ 0 → w16_51 ≠ 0 := p1_51
                    replace p2_51 : (1 : Int) = 0 → w16_51 = y16_32 := p2_51
                    have rw16_51 : 0 ≤ w16_51 ∧ w16_51 ≤ 5 := hP.2.1 16
                    have rw17_51 : (-1) ≤ w17_51 ∧ w17_51 ≤ 700 := hP.2.1 17
                    refine lv_aload_n hx hb dX3_readRound_98 rfl (lv_at hl 0 rfl) ?_
                    refine rwG_reader_draft C hP mF_X3_21 dX3_readRound_99 ?_
                    refine rwG_reader_draft_shape C hP mF_X3_113 dX3_readRound_102 ?_
                    refine lv_iload_n hx hb dX3_readRound_105 rfl (lv_at hl 1 rfl) ?_
                    refine lv_iconst (v := iI 4) hx hb dX3_readRound_106 rfl ?_
                    refine gi_mul (z := ((v 7) * 4)) hx hb dX3_readRound_107 rfl ?_
                    refine lv_iload_n hx hb dX3_readRound_108 rfl (lv_at hl 2 rfl) ?_
                    refine gi_add (z := (((v 7) * 4) + x2)) hx hb dX3_readRound_109 rfl ?_
                    refine lv_aload_n hx hb dX3_readRound_110 rfl (lv_at hl 0 rfl) ?_
                    refine rwG_reader_tokens C hP mF_X3_12 dX3_readRound_111 ?_
                    refine g_cv (As := []) (rest := [.int (iI (((v 7) * 4) + x2)), .ref (ad 15)]) (n := 0) C hml (c_X6_value l D k A ad hD (va_up (va_up (va_up (va_up v 6 y6_32) 7 (v 7)) 16 w16_51) 17 w17_51) (va_up f 9 c9_32) g) mM_X3_103 mI_X6_value mE_X6_value mN_X6 mC_X6_value (by decide +kernel) 10 (ci := 6) rfl rfl hP hS (fun _ h => h) ⟨Nat.le_of_ble_eq_true rfl, Nat.le_of_ble_eq_true rfl⟩ ⟨Nat.zero_le _, Nat.zero_le _⟩ hl.1 rfl rfl (Nat.le_of_ble_eq_true rfl) dX3_readRound_114 (fun r_52 v_52 f_52 g_52 H locs hq_52 hP _ hS => ?_)
                    obtain ⟨z_52, rfl, rfl, rfl, rfl, p0_52, p1_52⟩ := hq_52
                    show W p l e (gRm 4 82) s m args below meth c _ _ 0 0 Q (F0 m 117 ls [.int (iI z_52), .int (iI (((v 7) * 4) + x2)), .ref (ad 15)])
                    replace p0_52 : z_52 = ((f 8) y6_32) := p0_52
                    replace p1_52 : 0 ≤ z_52 ∧ z_52 ≤ 999999 := p1_52
                    have hz_52 : inR z_52 := (by first | omega | (rw [p0_52]; split <;> omega))
                    refine rwS_reader_draft_shape (f1 := (va_up f 9 (u1 c9_32 (((v 7) * 4) + x2) z_52))) C hP hD hS (by omega) (by omega) (by omega) rfl (Or.inr (gF_up (V := rwV) (F := rwF) (gR_up (V := rwV) (F := rwF) (gR_up (V := rwV) (F := rwF) (gR_up (V := rwV) (F := rwF) (gR_up (V := rwV) (F := rwF) ⟨hok.1, hok.2⟩ 6 (hP.2.1 6)) 7 (hP.2.1 7)) 16 (hP.2.1 16)) 17 (hP.2.1 17)) 9 (u1_rng (hP.2.2 9) (show 0 ≤ z_52 ∧ z_52 ≤ 999999 from (by omega))))) dX3_readRound_117 (fun H locs hP hS => ?_)
                    refine lv_aload_n hx hb dX3_readRound_118 rfl (lv_at hl 0 rfl) ?_
                    refine lv_sipush (v := iI 258) hx hb dX3_readRound_119 (by decide) ?_
                    refine g_cv (As := [.int (iI 258)]) (rest := []) (n := 1) C hml (c_passE l D k A ad hD (va_up (va_up (va_up (va_up v 6 y6_32) 7 (v 7)) 16 w16_51) 17 w17_51) (va_up f 9 (u1 c9_32 (((v 7) * 4) + x2) z_52)) g 258 (by decide)) mM_X3_91 mI_X3_pass mE_X3_pass mN_X3 mC_X3_pass (by decide +kernel) 9 (ci := 3) rfl rfl hP hS (fun _ h => h) ⟨Nat.le_of_ble_eq_true rfl, Nat.le_of_ble_eq_true rfl⟩ ⟨Nat.zero_le _, Nat.zero_le _⟩ hl.1 rfl rfl (Nat.le_of_ble_eq_true rfl) dX3_readRound_122 (fun r_53 v_53 f_53 g_53 H locs hq_53 hP _ hS => ?_)
                    obtain ⟨w6_53, w16_53, w17_53, rfl, rfl, rfl, rfl, p0_53, p1_53⟩ := hq_53
                    show W p l e (gRm 4 82) s m args below meth c _ _ 0 0 Q (F0 m 125 ls [])
                    have hP : gWd D (rwT k ad) (va_up (va_up (va_up (va_up v 6 w6_53) 7 (v 7)) 16 w16_53) 17 w17_53) (va_up f 9 (u1 c9_32 (((v 7) * 4) + x2) z_52)) g H := ⟨hP.1, (gF_up (V := rwV) (F := rwF) (gR_up (V := rwV) (F := rwF) (gR_up (V := rwV) (F := rwF) (gR_up (V := rwV) (F := rwF) (gR_up (V := rwV) (F := rwF) ⟨hok.1, hok.2⟩ 6 (hP.2.1 6)) 7 (hP.2.1 7)) 16 (hP.2.1 16)) 17 (hP.2.1 17)) 9 (hP.2.2 9))⟩
                    replace p0_53 : w16_51 ≠ 0 → w16_53 ≠ 0 := p0_53
                    replace p1_53 : (f 6) y6_32 ≠ (258 : Int) → w16_53 ≠ 0 := p1_53
                    have rw6_53 : 0 ≤ w6_53 ∧ w6_53 ≤ 700 := hP.2.1 6
                    have rw16_53 : 0 ≤ w16_53 ∧ w16_53 ≤ 5 := hP.2.1 16
                    have rw17_53 : (-1) ≤ w17_53 ∧ w17_53 ≤ 700 := hP.2.1 17
                    refine lv_iinc (v := iI (x2 + 1)) (lv' := [(2, .int (iI (x2 + 1))), (0, .ref (ad 9)), (1, .int (iI (v 7)))]) hx hb dX3_readRound_125 hl (k := 2) rfl (by show iI _ + iI 1 = _; rw [iI_add]) (by decide) rfl (fun ls hl => ?_)
                    refine lv_goto (tgt := 33) hx hb dX3_readRound_128 (by decide) ?_
                    exact ih_33 (x2 + 1) w6_53 w16_53 w17_53 (u1 c9_32 (((v 7) * 4) + x2) z_52) _ _ _ (by omega) (by omega) (fun h => by first | (exfalso; omega) | exact shBack (hI (by omega)) (by omega) (by omega) (by omega)) hP hS (lv_sub hl [1, 2, 0] rfl)
      exact L_32 5 0 w6_30 w16_29 w17_29 (f 9) _ _ _ (by omega) (by omega) (fun h => ⟨hd (by omega), shPart0⟩) hP hS (lv_sub hl [2, 1, 0] rfl)
    · exact g_vret hQ C hr hlocks hP hS dX3_readRound_30 ⟨w6_30, (v 7), w16_29, w17_29, (f 9), rfl, rfl, rfl, rfl, (fun h => by first | (exfalso; omega) | exact shNew (hI (by omega)) (by omega)), (by first | omega | (split <;> omega))⟩

set_option maxHeartbeats 4000000 in
set_option maxRecDepth 100000 in
theorem c_X3_readLaw (l : Launch) (D : va_G) (k : Nat → ClassId) (A : Nat → Prop) (ad : Nat → Nat) (hD : rwD A k ad) (za : Nat → Nat) (v : gV) (f g : gF) (hd : (v 16) = 0 → shOk (v 7) (f 9)) : GE l D k za A (rwT k ad) yX3_readLaw cX3_readLaw 1 none 5 112 [.ref (ad 9)] v f g (fun r v1 f1 g1 => ∃ (w6 : Int) (w7 : Int) (w8 : Int) (w9 : Int) (w10 : Int) (w11 : Int) (w12 : Int) (w13 : Int) (w14 : Int) (w15 : Int) (w16 : Int) (w17 : Int) (w18 : Int) (w19 : Int) (w20 : Int) (a9_ : Int → Int) (a10_ : Int → Int) (a11_ : Int → Int) (a12_ : Int → Int) (a13_ : Int → Int) (a14_ : Int → Int), r = none ∧ (va_up (va_up (va_up (va_up (va_up (va_up (va_up (va_up (va_up (va_up (va_up (va_up (va_up (va_up (va_up v 6 w6) 7 w7) 8 w8) 9 w9) 10 w10) 11 w11) 12 w12) 13 w13) 14 w14) 15 w15) 16 w16) 17 w17) 18 w18) 19 w19) 20 w20) = v1 ∧ (va_up (va_up (va_up (va_up (va_up (va_up f 9 a9_) 10 a10_) 11 a11_) 12 a12_) 13 a13_) 14 a14_) = f1 ∧ g = g1 ∧ (w16 = 0 → shOk w7 a9_)) := by
  refine GE.of (by decide) (Nat.le_of_ble_eq_true rfl) ?_
  intro p e s m args below meth c Q ls hQ C hml hr hlocks hP hl hE
  have hx := C.1
  have hb := C.2.1
  have hok := hP.2
  have hS : va_S A s.heap s.heap [] := va_S.rf
  have hl : lv_has ls 1 [(0, .ref (ad 9))] := hl
  have hP : gWd D (rwT k ad) (va_up (va_up (va_up (va_up (va_up (va_up (va_up (va_up (va_up (va_up (va_up (va_up (va_up (va_up (va_up v 6 (v 6)) 7 (v 7)) 8 (v 8)) 9 (v 9)) 10 (v 10)) 11 (v 11)) 12 (v 12)) 13 (v 13)) 14 (v 14)) 15 (v 15)) 16 (v 16)) 17 (v 17)) 18 (v 18)) 19 (v 19)) 20 (v 20)) (va_up (va_up (va_up (va_up (va_up (va_up f 9 (f 9)) 10 (f 10)) 11 (f 11)) 12 (f 12)) 13 (f 13)) 14 (f 14)) g s.heap := by rw [va_id, va_id, va_id, va_id, va_id, va_id, va_id, va_id, va_id, va_id, va_id, va_id, va_id, va_id, va_id, va_id, va_id, va_id, va_id, va_id, va_id]; exact hP
  have r_1 : 0 ≤ (v 16) ∧ (v 16) ≤ 5 := hok.1 16
  refine lv_aload_n hx hb dX3_readLaw_0 rfl (lv_at hl 0 rfl) ?_
  refine rwG_reader_tokens C hP mF_X3_12 dX3_readLaw_1 ?_
  refine g_cv (As := []) (rest := []) (n := 0) C hml (c_X6_kind l D k A ad hD (va_up (va_up (va_up (va_up (va_up (va_up (va_up (va_up (va_up (va_up (va_up (va_up (va_up (va_up (va_up v 6 (v 6)) 7 (v 7)) 8 (v 8)) 9 (v 9)) 10 (v 10)) 11 (v 11)) 12 (v 12)) 13 (v 13)) 14 (v 14)) 15 (v 15)) 16 (v 16)) 17 (v 17)) 18 (v 18)) 19 (v 19)) 20 (v 20)) (va_up (va_up (va_up (va_up (va_up (va_up f 9 (f 9)) 10 (f 10)) 11 (f 11)) 12 (f 12)) 13 (f 13)) 14 (f 14)) g) mM_X3_56 mI_X6_kind mE_X6_kind mN_X6 mC_X6_kind (by decide +kernel) 10 (ci := 6) rfl rfl hP hS (fun _ h => h) ⟨Nat.le_of_ble_eq_true rfl, Nat.le_of_ble_eq_true rfl⟩ ⟨Nat.zero_le _, Nat.zero_le _⟩ hl.1 rfl rfl (Nat.le_of_ble_eq_true rfl) dX3_readLaw_4 (fun r_2 v_2 f_2 g_2 H locs hq_2 hP _ hS => ?_)
  obtain ⟨z_2, rfl, rfl, rfl, rfl, p0_2, p1_2⟩ := hq_2
  show W p l e (gRm 5 112) s m args below meth c _ _ 0 0 Q (F0 m 7 ls [.int (iI z_2)])
  replace p0_2 : z_2 = ((f 6) (v 6)) := p0_2
  replace p1_2 : 0 ≤ z_2 ∧ z_2 ≤ 300 := p1_2
  have hz_2 : inR z_2 := (by first | omega | (rw [p0_2]; split <;> omega))
  by_cases c_3_260 : z_2 = 260
  · refine lv_tableIn (off := 29) (tgt := 36) hx hb dX3_readLaw_7 (by rw [c_3_260]; decide) (by rw [c_3_260]; decide) (by rw [c_3_260]; rfl) (by decide) ?_
    refine lv_aload_n hx hb dX3_readLaw_36 rfl (lv_at hl 0 rfl) ?_
    refine g_cvE (As := []) (rest := []) (n := 0) C hE hml (c_X3_readRound l D k A ad hD za (va_up (va_up (va_up (va_up (va_up (va_up (va_up (va_up (va_up (va_up (va_up (va_up (va_up (va_up (va_up v 6 (v 6)) 7 (v 7)) 8 (v 8)) 9 (v 9)) 10 (v 10)) 11 (v 11)) 12 (v 12)) 13 (v 13)) 14 (v 14)) 15 (v 15)) 16 (v 16)) 17 (v 17)) 18 (v 18)) 19 (v 19)) 20 (v 20)) (va_up (va_up (va_up (va_up (va_up (va_up f 9 (f 9)) 10 (f 10)) 11 (f 11)) 12 (f 12)) 13 (f 13)) 14 (f 14)) g (show (v 16) = 0 → shOk (v 7) (f 9) from hd)) mM_X3_63 mI_X3_readRound mE_X3_readRound mN_X3 mC_X3_readRound (by decide +kernel) 9 (ci := 3) rfl rfl hP hS (fun _ h => h) ⟨Nat.le_of_ble_eq_true rfl, Nat.le_of_ble_eq_true rfl⟩ ⟨Nat.zero_le _, Nat.zero_le _⟩ hl.1 rfl rfl (Nat.le_of_ble_eq_true rfl) dX3_readLaw_37 (fun r_4 v_4 f_4 g_4 H locs hq_4 hP _ hS => ?_)
    obtain ⟨w6_4, w7_4, w16_4, w17_4, a9_4, rfl, rfl, rfl, rfl, p0_4, p1_4⟩ := hq_4
    show W p l e (gRm 5 112) s m args below meth c _ _ 0 0 Q (F0 m 40 ls [])
    have hP : gWd D (rwT k ad) (va_up (va_up (va_up (va_up (va_up (va_up (va_up (va_up (va_up (va_up (va_up (va_up (va_up (va_up (va_up v 6 w6_4) 7 w7_4) 8 (v 8)) 9 (v 9)) 10 (v 10)) 11 (v 11)) 12 (v 12)) 13 (v 13)) 14 (v 14)) 15 (v 15)) 16 w16_4) 17 w17_4) 18 (v 18)) 19 (v 19)) 20 (v 20)) (va_up (va_up (va_up (va_up (va_up (va_up f 9 a9_4) 10 (f 10)) 11 (f 11)) 12 (f 12)) 13 (f 13)) 14 (f 14)) g H := ⟨hP.1, (gF_up (V := rwV) (F := rwF) (gF_up (V := rwV) (F := rwF) (gF_up (V := rwV) (F := rwF) (gF_up (V := rwV) (F := rwF) (gF_up (V := rwV) (F := rwF) (gF_up (V := rwV) (F := rwF) (gR_up (V := rwV) (F := rwF) (gR_up (V := rwV) (F := rwF) (gR_up (V := rwV) (F := rwF) (gR_up (V := rwV) (F := rwF) (gR_up (V := rwV) (F := rwF) (gR_up (V := rwV) (F := rwF) (gR_up (V := rwV) (F := rwF) (gR_up (V := rwV) (F := rwF) (gR_up (V := rwV) (F := rwF) (gR_up (V := rwV) (F := rwF) (gR_up (V := rwV) (F := rwF) (gR_up (V := rwV) (F := rwF) (gR_up (V := rwV) (F := rwF) (gR_up (V := rwV) (F := rwF) (gR_up (V := rwV) (F := rwF) ⟨hok.1, hok.2⟩ 6 (hP.2.1 6)) 7 (hP.2.1 7)) 8 (hP.2.1 8)) 9 (hP.2.1 9)) 10 (hP.2.1 10)) 11 (hP.2.1 11)) 12 (hP.2.1 12)) 13 (hP.2.1 13)) 14 (hP.2.1 14)) 15 (hP.2.1 15)) 16 (hP.2.1 16)) 17 (hP.2.1 17)) 18 (hP.2.1 18)) 19 (hP.2.1 19)) 20 (hP.2.1 20)) 9 (hP.2.2 9)) 10 (hP.2.2 10)) 11 (hP.2.2 11)) 12 (hP.2.2 12)) 13 (hP.2.2 13)) 14 (hP.2.2 14))⟩
    replace p0_4 : w16_4 = 0 → shOk w7_4 a9_4 := p0_4
    replace p1_4 : (v 16) ≠ 0 → w16_4 ≠ 0 := p1_4
    have rw6_4 : 0 ≤ w6_4 ∧ w6_4 ≤ 700 := hP.2.1 6
    have rw7_4 : 0 ≤ w7_4 ∧ w7_4 ≤ 4 := hP.2.1 7
    have rw16_4 : 0 ≤ w16_4 ∧ w16_4 ≤ 5 := hP.2.1 16
    have rw17_4 : (-1) ≤ w17_4 ∧ w17_4 ≤ 700 := hP.2.1 17
    have hR := p0_4
    refine lv_goto (tgt := 132) hx hb dX3_readLaw_40 (by decide) ?_
    refine lv_aload_n hx hb dX3_readLaw_132 rfl (lv_at hl 0 rfl) ?_
    refine lv_bipush (v := iI 59) hx hb dX3_readLaw_133 (by decide) ?_
    refine g_cv (As := [.int (iI 59)]) (rest := []) (n := 1) C hml (c_X3_pass l D k A ad hD (va_up (va_up (va_up (va_up (va_up (va_up (va_up (va_up (va_up (va_up (va_up (va_up (va_up (va_up (va_up v 6 w6_4) 7 w7_4) 8 (v 8)) 9 (v 9)) 10 (v 10)) 11 (v 11)) 12 (v 12)) 13 (v 13)) 14 (v 14)) 15 (v 15)) 16 w16_4) 17 w17_4) 18 (v 18)) 19 (v 19)) 20 (v 20)) (va_up (va_up (va_up (va_up (va_up (va_up f 9 a9_4) 10 (f 10)) 11 (f 11)) 12 (f 12)) 13 (f 13)) 14 (f 14)) g 59 (by decide)) mM_X3_91 mI_X3_pass mE_X3_pass mN_X3 mC_X3_pass (by decide +kernel) 9 (ci := 3) rfl rfl hP hS (fun _ h => h) ⟨Nat.le_of_ble_eq_true rfl, Nat.le_of_ble_eq_true rfl⟩ ⟨Nat.zero_le _, Nat.zero_le _⟩ hl.1 rfl rfl (Nat.le_of_ble_eq_true rfl) dX3_readLaw_135 (fun r_5 v_5 f_5 g_5 H locs hq_5 hP _ hS => ?_)
    obtain ⟨w6_5, w16_5, w17_5, rfl, rfl, rfl, rfl, p0_5⟩ := hq_5
    show W p l e (gRm 5 112) s m args below meth c _ _ 0 0 Q (F0 m 138 ls [])
    have hP : gWd D (rwT k ad) (va_up (va_up (va_up (va_up (va_up (va_up (va_up (va_up (va_up (va_up (va_up (va_up (va_up (va_up (va_up v 6 w6_5) 7 w7_4) 8 (v 8)) 9 (v 9)) 10 (v 10)) 11 (v 11)) 12 (v 12)) 13 (v 13)) 14 (v 14)) 15 (v 15)) 16 w16_5) 17 w17_5) 18 (v 18)) 19 (v 19)) 20 (v 20)) (va_up (va_up (va_up (va_up (va_up (va_up f 9 a9_4) 10 (f 10)) 11 (f 11)) 12 (f 12)) 13 (f 13)) 14 (f 14)) g H := ⟨hP.1, (gF_up (V := rwV) (F := rwF) (gF_up (V := rwV) (F := rwF) (gF_up (V := rwV) (F := rwF) (gF_up (V := rwV) (F := rwF) (gF_up (V := rwV) (F := rwF) (gF_up (V := rwV) (F := rwF) (gR_up (V := rwV) (F := rwF) (gR_up (V := rwV) (F := rwF) (gR_up (V := rwV) (F := rwF) (gR_up (V := rwV) (F := rwF) (gR_up (V := rwV) (F := rwF) (gR_up (V := rwV) (F := rwF) (gR_up (V := rwV) (F := rwF) (gR_up (V := rwV) (F := rwF) (gR_up (V := rwV) (F := rwF) (gR_up (V := rwV) (F := rwF) (gR_up (V := rwV) (F := rwF) (gR_up (V := rwV) (F := rwF) (gR_up (V := rwV) (F := rwF) (gR_up (V := rwV) (F := rwF) (gR_up (V := rwV) (F := rwF) ⟨hok.1, hok.2⟩ 6 (hP.2.1 6)) 7 (hP.2.1 7)) 8 (hP.2.1 8)) 9 (hP.2.1 9)) 10 (hP.2.1 10)) 11 (hP.2.1 11)) 12 (hP.2.1 12)) 13 (hP.2.1 13)) 14 (hP.2.1 14)) 15 (hP.2.1 15)) 16 (hP.2.1 16)) 17 (hP.2.1 17)) 18 (hP.2.1 18)) 19 (hP.2.1 19)) 20 (hP.2.1 20)) 9 (hP.2.2 9)) 10 (hP.2.2 10)) 11 (hP.2.2 11)) 12 (hP.2.2 12)) 13 (hP.2.2 13)) 14 (hP.2.2 14))⟩
    replace p0_5 : w16_4 ≠ 0 → w16_5 ≠ 0 := p0_5
    have rw6_5 : 0 ≤ w6_5 ∧ w6_5 ≤ 700 := hP.2.1 6
    have rw16_5 : 0 ≤ w16_5 ∧ w16_5 ≤ 5 := hP.2.1 16
    have rw17_5 : (-1) ≤ w17_5 ∧ w17_5 ≤ 700 := hP.2.1 17
    exact g_vret hQ C hr hlocks hP hS dX3_readLaw_138 ⟨w6_5, w7_4, (v 8), (v 9), (v 10), (v 11), (v 12), (v 13), (v 14), (v 15), w16_5, w17_5, (v 18), (v 19), (v 20), a9_4, (f 10), (f 11), (f 12), (f 13), (f 14), rfl, rfl, rfl, rfl, (fun h => by first | exact hR (by omega) | exact hd (by omega))⟩
  by_cases c_3_261 : z_2 = 261
  · refine lv_tableIn (off := 36) (tgt := 43) hx hb dX3_readLaw_7 (by rw [c_3_261]; decide) (by rw [c_3_261]; decide) (by rw [c_3_261]; rfl) (by decide) ?_
    refine lv_aload_n hx hb dX3_readLaw_43 rfl (lv_at hl 0 rfl) ?_
    refine lv_aload_n hx hb dX3_readLaw_44 rfl (lv_at hl 0 rfl) ?_
    refine rwG_reader_pointsTold C hP mF_X3_39 dX3_readLaw_45 ?_
    show W p l e (gRm 5 112) s m args below meth c _ _ 0 0 Q (F0 m 48 ls [.int (iI (v 18)), .ref (ad 9)])
    have r_6 : 0 ≤ (v 18) ∧ (v 18) ≤ 1 := hok.1 18
    refine lv_iconst (v := iI 5) hx hb dX3_readLaw_48 rfl ?_
    refine g_cv (As := [.int (iI (v 18)), .int (iI 5)]) (rest := []) (n := 2) C hml (c_X3_refuseIf l D k A ad hD (va_up (va_up (va_up (va_up (va_up (va_up (va_up (va_up (va_up (va_up (va_up (va_up (va_up (va_up (va_up v 6 (v 6)) 7 (v 7)) 8 (v 8)) 9 (v 9)) 10 (v 10)) 11 (v 11)) 12 (v 12)) 13 (v 13)) 14 (v 14)) 15 (v 15)) 16 (v 16)) 17 (v 17)) 18 (v 18)) 19 (v 19)) 20 (v 20)) (va_up (va_up (va_up (va_up (va_up (va_up f 9 (f 9)) 10 (f 10)) 11 (f 11)) 12 (f 12)) 13 (f 13)) 14 (f 14)) g (v 18) 5 (by omega) (by decide) (show 1 ≤ (5 : Int) ∧ (5 : Int) ≤ 5 from by omega)) mM_X3_66 mI_X3_refuseIf mE_X3_refuseIf mN_X3 mC_X3_refuseIf (by decide +kernel) 9 (ci := 3) rfl rfl hP hS (fun _ h => h) ⟨Nat.le_of_ble_eq_true rfl, Nat.le_of_ble_eq_true rfl⟩ ⟨Nat.zero_le _, Nat.zero_le _⟩ hl.1 rfl rfl (Nat.le_of_ble_eq_true rfl) dX3_readLaw_49 (fun r_7 v_7 f_7 g_7 H locs hq_7 hP _ hS => ?_)
    obtain ⟨w16_7, w17_7, rfl, rfl, rfl, rfl, p0_7, p1_7, p2_7⟩ := hq_7
    show W p l e (gRm 5 112) s m args below meth c _ _ 0 0 Q (F0 m 52 ls [])
    have hP : gWd D (rwT k ad) (va_up (va_up (va_up (va_up (va_up (va_up (va_up (va_up (va_up (va_up (va_up (va_up (va_up (va_up (va_up v 6 (v 6)) 7 (v 7)) 8 (v 8)) 9 (v 9)) 10 (v 10)) 11 (v 11)) 12 (v 12)) 13 (v 13)) 14 (v 14)) 15 (v 15)) 16 w16_7) 17 w17_7) 18 (v 18)) 19 (v 19)) 20 (v 20)) (va_up (va_up (va_up (va_up (va_up (va_up f 9 (f 9)) 10 (f 10)) 11 (f 11)) 12 (f 12)) 13 (f 13)) 14 (f 14)) g H := ⟨hP.1, (gF_up (V := rwV) (F := rwF) (gF_up (V := rwV) (F := rwF) (gF_up (V := rwV) (F := rwF) (gF_up (V := rwV) (F := rwF) (gF_up (V := rwV) (F := rwF) (gF_up (V := rwV) (F := rwF) (gR_up (V := rwV) (F := rwF) (gR_up (V := rwV) (F := rwF) (gR_up (V := rwV) (F := rwF) (gR_up (V := rwV) (F := rwF) (gR_up (V := rwV) (F := rwF) (gR_up (V := rwV) (F := rwF) (gR_up (V := rwV) (F := rwF) (gR_up (V := rwV) (F := rwF) (gR_up (V := rwV) (F := rwF) (gR_up (V := rwV) (F := rwF) (gR_up (V := rwV) (F := rwF) (gR_up (V := rwV) (F := rwF) (gR_up (V := rwV) (F := rwF) (gR_up (V := rwV) (F := rwF) (gR_up (V := rwV) (F := rwF) ⟨hok.1, hok.2⟩ 6 (hP.2.1 6)) 7 (hP.2.1 7)) 8 (hP.2.1 8)) 9 (hP.2.1 9)) 10 (hP.2.1 10)) 11 (hP.2.1 11)) 12 (hP.2.1 12)) 13 (hP.2.1 13)) 14 (hP.2.1 14)) 15 (hP.2.1 15)) 16 (hP.2.1 16)) 17 (hP.2.1 17)) 18 (hP.2.1 18)) 19 (hP.2.1 19)) 20 (hP.2.1 20)) 9 (hP.2.2 9)) 10 (hP.2.2 10)) 11 (hP.2.2 11)) 12 (hP.2.2 12)) 13 (hP.2.2 13)) 14 (hP.2.2 14))⟩
    replace p0_7 : (v 18) ≠ 0 → w16_7 ≠ 0 := p0_7
    replace p1_7 : (v 16) ≠ 0 → w16_7 ≠ 0 := p1_7
    replace p2_7 : (v 18) = 0 → w16_7 = (v 16) := p2_7
    have rw16_7 : 0 ≤ w16_7 ∧ w16_7 ≤ 5 := hP.2.1 16
    have rw17_7 : (-1) ≤ w17_7 ∧ w17_7 ≤ 700 := hP.2.1 17
    refine lv_aload_n hx hb dX3_readLaw_52 rfl (lv_at hl 0 rfl) ?_
    refine lv_iconst (v := iI 1) hx hb dX3_readLaw_53 rfl ?_
    refine rwP_reader_pointsTold (v1 := (va_up (va_up (va_up (va_up (va_up (va_up (va_up (va_up (va_up (va_up (va_up (va_up (va_up (va_up (va_up v 6 (v 6)) 7 (v 7)) 8 (v 8)) 9 (v 9)) 10 (v 10)) 11 (v 11)) 12 (v 12)) 13 (v 13)) 14 (v 14)) 15 (v 15)) 16 w16_7) 17 w17_7) 18 1) 19 (v 19)) 20 (v 20))) C hP hD hS mF_X3_39 (by decide) (by decide) rfl (Or.inr (gF_up (V := rwV) (F := rwF) (gF_up (V := rwV) (F := rwF) (gF_up (V := rwV) (F := rwF) (gF_up (V := rwV) (F := rwF) (gF_up (V := rwV) (F := rwF) (gF_up (V := rwV) (F := rwF) (gR_up (V := rwV) (F := rwF) (gR_up (V := rwV) (F := rwF) (gR_up (V := rwV) (F := rwF) (gR_up (V := rwV) (F := rwF) (gR_up (V := rwV) (F := rwF) (gR_up (V := rwV) (F := rwF) (gR_up (V := rwV) (F := rwF) (gR_up (V := rwV) (F := rwF) (gR_up (V := rwV) (F := rwF) (gR_up (V := rwV) (F := rwF) (gR_up (V := rwV) (F := rwF) (gR_up (V := rwV) (F := rwF) (gR_up (V := rwV) (F := rwF) (gR_up (V := rwV) (F := rwF) (gR_up (V := rwV) (F := rwF) ⟨hok.1, hok.2⟩ 6 (hP.2.1 6)) 7 (hP.2.1 7)) 8 (hP.2.1 8)) 9 (hP.2.1 9)) 10 (hP.2.1 10)) 11 (hP.2.1 11)) 12 (hP.2.1 12)) 13 (hP.2.1 13)) 14 (hP.2.1 14)) 15 (hP.2.1 15)) 16 (hP.2.1 16)) 17 (hP.2.1 17)) 18 (show 0 ≤ 1 ∧ 1 ≤ 1 from by decide)) 19 (hP.2.1 19)) 20 (hP.2.1 20)) 9 (hP.2.2 9)) 10 (hP.2.2 10)) 11 (hP.2.2 11)) 12 (hP.2.2 12)) 13 (hP.2.2 13)) 14 (hP.2.2 14))) dX3_readLaw_54 (fun H locs hP hS => ?_)
    refine lv_aload_n hx hb dX3_readLaw_57 rfl (lv_at hl 0 rfl) ?_
    refine g_cv (As := []) (rest := []) (n := 0) C hml (c_X3_goOn l D k A ad hD (va_up (va_up (va_up (va_up (va_up (va_up (va_up (va_up (va_up (va_up (va_up (va_up (va_up (va_up (va_up v 6 (v 6)) 7 (v 7)) 8 (v 8)) 9 (v 9)) 10 (v 10)) 11 (v 11)) 12 (v 12)) 13 (v 13)) 14 (v 14)) 15 (v 15)) 16 w16_7) 17 w17_7) 18 1) 19 (v 19)) 20 (v 20)) (va_up (va_up (va_up (va_up (va_up (va_up f 9 (f 9)) 10 (f 10)) 11 (f 11)) 12 (f 12)) 13 (f 13)) 14 (f 14)) g) mM_X3_70 mI_X3_goOn mE_X3_goOn mN_X3 mC_X3_goOn (by decide +kernel) 9 (ci := 3) rfl rfl hP hS (fun _ h => h) ⟨Nat.le_of_ble_eq_true rfl, Nat.le_of_ble_eq_true rfl⟩ ⟨Nat.zero_le _, Nat.zero_le _⟩ hl.1 rfl rfl (Nat.le_of_ble_eq_true rfl) dX3_readLaw_58 (fun r_8 v_8 f_8 g_8 H locs hq_8 hP _ hS => ?_)
    obtain ⟨z_8, w6_8, rfl, rfl, rfl, rfl, p0_8, p1_8⟩ := hq_8
    show W p l e (gRm 5 112) s m args below meth c _ _ 0 0 Q (F0 m 61 ls [.int (iI z_8)])
    have hP : gWd D (rwT k ad) (va_up (va_up (va_up (va_up (va_up (va_up (va_up (va_up (va_up (va_up (va_up (va_up (va_up (va_up (va_up v 6 w6_8) 7 (v 7)) 8 (v 8)) 9 (v 9)) 10 (v 10)) 11 (v 11)) 12 (v 12)) 13 (v 13)) 14 (v 14)) 15 (v 15)) 16 w16_7) 17 w17_7) 18 1) 19 (v 19)) 20 (v 20)) (va_up (va_up (va_up (va_up (va_up (va_up f 9 (f 9)) 10 (f 10)) 11 (f 11)) 12 (f 12)) 13 (f 13)) 14 (f 14)) g H := ⟨hP.1, (gF_up (V := rwV) (F := rwF) (gF_up (V := rwV) (F := rwF) (gF_up (V := rwV) (F := rwF) (gF_up (V := rwV) (F := rwF) (gF_up (V := rwV) (F := rwF) (gF_up (V := rwV) (F := rwF) (gR_up (V := rwV) (F := rwF) (gR_up (V := rwV) (F := rwF) (gR_up (V := rwV) (F := rwF) (gR_up (V := rwV) (F := rwF) (gR_up (V := rwV) (F := rwF) (gR_up (V := rwV) (F := rwF) (gR_up (V := rwV) (F := rwF) (gR_up (V := rwV) (F := rwF) (gR_up (V := rwV) (F := rwF) (gR_up (V := rwV) (F := rwF) (gR_up (V := rwV) (F := rwF) (gR_up (V := rwV) (F := rwF) (gR_up (V := rwV) (F := rwF) (gR_up (V := rwV) (F := rwF) (gR_up (V := rwV) (F := rwF) ⟨hok.1, hok.2⟩ 6 (hP.2.1 6)) 7 (hP.2.1 7)) 8 (hP.2.1 8)) 9 (hP.2.1 9)) 10 (hP.2.1 10)) 11 (hP.2.1 11)) 12 (hP.2.1 12)) 13 (hP.2.1 13)) 14 (hP.2.1 14)) 15 (hP.2.1 15)) 16 (hP.2.1 16)) 17 (hP.2.1 17)) 18 (hP.2.1 18)) 19 (hP.2.1 19)) 20 (hP.2.1 20)) 9 (hP.2.2 9)) 10 (hP.2.2 10)) 11 (hP.2.2 11)) 12 (hP.2.2 12)) 13 (hP.2.2 13)) 14 (hP.2.2 14))⟩
    replace p0_8 : 0 ≤ z_8 ∧ z_8 ≤ 1 := p0_8
    replace p1_8 : z_8 = 1 ↔ w16_7 = 0 := p1_8
    have rw6_8 : 0 ≤ w6_8 ∧ w6_8 ≤ 700 := hP.2.1 6
    refine gi_zeq (tgt := 132) hx hb dX3_readLaw_61 (by decide) (by omega) (fun c_9 => ?_) (fun c_9 => ?_)
    · refine lv_aload_n hx hb dX3_readLaw_132 rfl (lv_at hl 0 rfl) ?_
      refine lv_bipush (v := iI 59) hx hb dX3_readLaw_133 (by decide) ?_
      refine g_cv (As := [.int (iI 59)]) (rest := []) (n := 1) C hml (c_X3_pass l D k A ad hD (va_up (va_up (va_up (va_up (va_up (va_up (va_up (va_up (va_up (va_up (va_up (va_up (va_up (va_up (va_up v 6 w6_8) 7 (v 7)) 8 (v 8)) 9 (v 9)) 10 (v 10)) 11 (v 11)) 12 (v 12)) 13 (v 13)) 14 (v 14)) 15 (v 15)) 16 w16_7) 17 w17_7) 18 1) 19 (v 19)) 20 (v 20)) (va_up (va_up (va_up (va_up (va_up (va_up f 9 (f 9)) 10 (f 10)) 11 (f 11)) 12 (f 12)) 13 (f 13)) 14 (f 14)) g 59 (by decide)) mM_X3_91 mI_X3_pass mE_X3_pass mN_X3 mC_X3_pass (by decide +kernel) 9 (ci := 3) rfl rfl hP hS (fun _ h => h) ⟨Nat.le_of_ble_eq_true rfl, Nat.le_of_ble_eq_true rfl⟩ ⟨Nat.zero_le _, Nat.zero_le _⟩ hl.1 rfl rfl (Nat.le_of_ble_eq_true rfl) dX3_readLaw_135 (fun r_10 v_10 f_10 g_10 H locs hq_10 hP _ hS => ?_)
      obtain ⟨w6_10, w16_10, w17_10, rfl, rfl, rfl, rfl, p0_10⟩ := hq_10
      show W p l e (gRm 5 112) s m args below meth c _ _ 0 0 Q (F0 m 138 ls [])
      have hP : gWd D (rwT k ad) (va_up (va_up (va_up (va_up (va_up (va_up (va_up (va_up (va_up (va_up (va_up (va_up (va_up (va_up (va_up v 6 w6_10) 7 (v 7)) 8 (v 8)) 9 (v 9)) 10 (v 10)) 11 (v 11)) 12 (v 12)) 13 (v 13)) 14 (v 14)) 15 (v 15)) 16 w16_10) 17 w17_10) 18 1) 19 (v 19)) 20 (v 20)) (va_up (va_up (va_up (va_up (va_up (va_up f 9 (f 9)) 10 (f 10)) 11 (f 11)) 12 (f 12)) 13 (f 13)) 14 (f 14)) g H := ⟨hP.1, (gF_up (V := rwV) (F := rwF) (gF_up (V := rwV) (F := rwF) (gF_up (V := rwV) (F := rwF) (gF_up (V := rwV) (F := rwF) (gF_up (V := rwV) (F := rwF) (gF_up (V := rwV) (F := rwF) (gR_up (V := rwV) (F := rwF) (gR_up (V := rwV) (F := rwF) (gR_up (V := rwV) (F := rwF) (gR_up (V := rwV) (F := rwF) (gR_up (V := rwV) (F := rwF) (gR_up (V := rwV) (F := rwF) (gR_up (V := rwV) (F := rwF) (gR_up (V := rwV) (F := rwF) (gR_up (V := rwV) (F := rwF) (gR_up (V := rwV) (F := rwF) (gR_up (V := rwV) (F := rwF) (gR_up (V := rwV) (F := rwF) (gR_up (V := rwV) (F := rwF) (gR_up (V := rwV) (F := rwF) (gR_up (V := rwV) (F := rwF) ⟨hok.1, hok.2⟩ 6 (hP.2.1 6)) 7 (hP.2.1 7)) 8 (hP.2.1 8)) 9 (hP.2.1 9)) 10 (hP.2.1 10)) 11 (hP.2.1 11)) 12 (hP.2.1 12)) 13 (hP.2.1 13)) 14 (hP.2.1 14)) 15 (hP.2.1 15)) 16 (hP.2.1 16)) 17 (hP.2.1 17)) 18 (hP.2.1 18)) 19 (hP.2.1 19)) 20 (hP.2.1 20)) 9 (hP.2.2 9)) 10 (hP.2.2 10)) 11 (hP.2.2 11)) 12 (hP.2.2 12)) 13 (hP.2.2 13)) 14 (hP.2.2 14))⟩
      replace p0_10 : w16_7 ≠ 0 → w16_10 ≠ 0 := p0_10
      have rw6_10 : 0 ≤ w6_10 ∧ w6_10 ≤ 700 := hP.2.1 6
      have rw16_10 : 0 ≤ w16_10 ∧ w16_10 ≤ 5 := hP.2.1 16
      have rw17_10 : (-1) ≤ w17_10 ∧ w17_10 ≤ 700 := hP.2.1 17
      exact g_vret hQ C hr hlocks hP hS dX3_readLaw_138 ⟨w6_10, (v 7), (v 8), (v 9), (v 10), (v 11), (v 12), (v 13), (v 14), (v 15), w16_10, w17_10, 1, (v 19), (v 20), (f 9), (f 10), (f 11), (f 12), (f 13), (f 14), rfl, rfl, rfl, rfl, (fun h => by first | exact hR (by omega) | exact hd (by omega))⟩
    · refine lv_aload_n hx hb dX3_readLaw_64 rfl (lv_at hl 0 rfl) ?_
      refine lv_aload_n hx hb dX3_readLaw_65 rfl (lv_at hl 0 rfl) ?_
      refine rwG_reader_expression C hP mF_X3_28 dX3_readLaw_66 ?_
      refine lv_aload_n hx hb dX3_readLaw_69 rfl (lv_at hl 0 rfl) ?_
      refine rwG_reader_tokens C hP mF_X3_12 dX3_readLaw_70 ?_
      refine lv_aload_n hx hb dX3_readLaw_73 rfl (lv_at hl 0 rfl) ?_
      refine rwG_reader_draft C hP mF_X3_21 dX3_readLaw_74 ?_
      refine g_cv (As := [.ref (ad 10), .ref (ad 14)]) (rest := [.ref (ad 9)]) (n := 2) C hml (c_X1_read l D k A ad hD (va_up (va_up (va_up (va_up (va_up (va_up (va_up (va_up (va_up (va_up (va_up (va_up (va_up (va_up (va_up v 6 w6_8) 7 (v 7)) 8 (v 8)) 9 (v 9)) 10 (v 10)) 11 (v 11)) 12 (v 12)) 13 (v 13)) 14 (v 14)) 15 (v 15)) 16 w16_7) 17 w17_7) 18 1) 19 (v 19)) 20 (v 20)) (va_up (va_up (va_up (va_up (va_up (va_up f 9 (f 9)) 10 (f 10)) 11 (f 11)) 12 (f 12)) 13 (f 13)) 14 (f 14)) g) mM_X3_74 mI_X1_read mE_X1_read mN_X1 mC_X1_read (by decide +kernel) 21 (ci := 1) rfl rfl hP hS (fun _ h => h) ⟨Nat.le_of_ble_eq_true rfl, Nat.le_of_ble_eq_true rfl⟩ ⟨Nat.zero_le _, Nat.zero_le _⟩ hl.1 rfl rfl (Nat.le_of_ble_eq_true rfl) dX3_readLaw_77 (fun r_11 v_11 f_11 g_11 H locs hq_11 hP _ hS => ?_)
      obtain ⟨z_11, w6_11, w8_11, w11_11, w12_11, w13_11, w14_11, w15_11, a14_11, a10_11, a11_11, rfl, rfl, rfl, rfl, p0_11⟩ := hq_11
      show W p l e (gRm 5 112) s m args below meth c _ _ 0 0 Q (F0 m 80 ls [.int (iI z_11), .ref (ad 9)])
      have hP : gWd D (rwT k ad) (va_up (va_up (va_up (va_up (va_up (va_up (va_up (va_up (va_up (va_up (va_up (va_up (va_up (va_up (va_up v 6 w6_11) 7 (v 7)) 8 w8_11) 9 (v 9)) 10 (v 10)) 11 w11_11) 12 w12_11) 13 w13_11) 14 w14_11) 15 w15_11) 16 w16_7) 17 w17_7) 18 1) 19 (v 19)) 20 (v 20)) (va_up (va_up (va_up (va_up (va_up (va_up f 9 (f 9)) 10 a10_11) 11 a11_11) 12 (f 12)) 13 (f 13)) 14 a14_11) g H := ⟨hP.1, (gF_up (V := rwV) (F := rwF) (gF_up (V := rwV) (F := rwF) (gF_up (V := rwV) (F := rwF) (gF_up (V := rwV) (F := rwF) (gF_up (V := rwV) (F := rwF) (gF_up (V := rwV) (F := rwF) (gR_up (V := rwV) (F := rwF) (gR_up (V := rwV) (F := rwF) (gR_up (V := rwV) (F := rwF) (gR_up (V := rwV) (F := rwF) (gR_up (V := rwV) (F := rwF) (gR_up (V := rwV) (F := rwF) (gR_up (V := rwV) (F := rwF) (gR_up (V := rwV) (F := rwF) (gR_up (V := rwV) (F := rwF) (gR_up (V := rwV) (F := rwF) (gR_up (V := rwV) (F := rwF) (gR_up (V := rwV) (F := rwF) (gR_up (V := rwV) (F := rwF) (gR_up (V := rwV) (F := rwF) (gR_up (V := rwV) (F := rwF) ⟨hok.1, hok.2⟩ 6 (hP.2.1 6)) 7 (hP.2.1 7)) 8 (hP.2.1 8)) 9 (hP.2.1 9)) 10 (hP.2.1 10)) 11 (hP.2.1 11)) 12 (hP.2.1 12)) 13 (hP.2.1 13)) 14 (hP.2.1 14)) 15 (hP.2.1 15)) 16 (hP.2.1 16)) 17 (hP.2.1 17)) 18 (hP.2.1 18)) 19 (hP.2.1 19)) 20 (hP.2.1 20)) 9 (hP.2.2 9)) 10 (hP.2.2 10)) 11 (hP.2.2 11)) 12 (hP.2.2 12)) 13 (hP.2.2 13)) 14 (hP.2.2 14))⟩
      replace p0_11 : 0 ≤ z_11 ∧ z_11 ≤ 5 := p0_11
      have rw6_11 : 0 ≤ w6_11 ∧ w6_11 ≤ 700 := hP.2.1 6
      have rw8_11 : 0 ≤ w8_11 ∧ w8_11 ≤ 40 := hP.2.1 8
      have rw11_11 : 0 ≤ w11_11 ∧ w11_11 ≤ 27 := hP.2.1 11
      have rw12_11 : (-2147483648) ≤ w12_11 ∧ w12_11 ≤ 2147483647 := hP.2.1 12
      have rw13_11 : (-2147483648) ≤ w13_11 ∧ w13_11 ≤ 2147483647 := hP.2.1 13
      have rw14_11 : (-2147483648) ≤ w14_11 ∧ w14_11 ≤ 2147483647 := hP.2.1 14
      have rw15_11 : 0 ≤ w15_11 ∧ w15_11 ≤ 5 := hP.2.1 15
      refine g_cv (As := [.int (iI z_11)]) (rest := []) (n := 1) C hml (c_X3_note l D k A ad hD (va_up (va_up (va_up (va_up (va_up (va_up (va_up (va_up (va_up (va_up (va_up (va_up (va_up (va_up (va_up v 6 w6_11) 7 (v 7)) 8 w8_11) 9 (v 9)) 10 (v 10)) 11 w11_11) 12 w12_11) 13 w13_11) 14 w14_11) 15 w15_11) 16 w16_7) 17 w17_7) 18 1) 19 (v 19)) 20 (v 20)) (va_up (va_up (va_up (va_up (va_up (va_up f 9 (f 9)) 10 a10_11) 11 a11_11) 12 (f 12)) 13 (f 13)) 14 a14_11) g z_11 (by omega) (show 0 ≤ z_11 ∧ z_11 ≤ 5 from by omega)) mM_X3_78 mI_X3_note mE_X3_note mN_X3 mC_X3_note (by decide +kernel) 9 (ci := 3) rfl rfl hP hS (fun _ h => h) ⟨Nat.le_of_ble_eq_true rfl, Nat.le_of_ble_eq_true rfl⟩ ⟨Nat.zero_le _, Nat.zero_le _⟩ hl.1 rfl rfl (Nat.le_of_ble_eq_true rfl) dX3_readLaw_80 (fun r_12 v_12 f_12 g_12 H locs hq_12 hP _ hS => ?_)
      obtain ⟨w16_12, w17_12, rfl, rfl, rfl, rfl, p0_12, p1_12, p2_12⟩ := hq_12
      show W p l e (gRm 5 112) s m args below meth c _ _ 0 0 Q (F0 m 83 ls [])
      have hP : gWd D (rwT k ad) (va_up (va_up (va_up (va_up (va_up (va_up (va_up (va_up (va_up (va_up (va_up (va_up (va_up (va_up (va_up v 6 w6_11) 7 (v 7)) 8 w8_11) 9 (v 9)) 10 (v 10)) 11 w11_11) 12 w12_11) 13 w13_11) 14 w14_11) 15 w15_11) 16 w16_12) 17 w17_12) 18 1) 19 (v 19)) 20 (v 20)) (va_up (va_up (va_up (va_up (va_up (va_up f 9 (f 9)) 10 a10_11) 11 a11_11) 12 (f 12)) 13 (f 13)) 14 a14_11) g H := ⟨hP.1, (gF_up (V := rwV) (F := rwF) (gF_up (V := rwV) (F := rwF) (gF_up (V := rwV) (F := rwF) (gF_up (V := rwV) (F := rwF) (gF_up (V := rwV) (F := rwF) (gF_up (V := rwV) (F := rwF) (gR_up (V := rwV) (F := rwF) (gR_up (V := rwV) (F := rwF) (gR_up (V := rwV) (F := rwF) (gR_up (V := rwV) (F := rwF) (gR_up (V := rwV) (F := rwF) (gR_up (V := rwV) (F := rwF) (gR_up (V := rwV) (F := rwF) (gR_up (V := rwV) (F := rwF) (gR_up (V := rwV) (F := rwF) (gR_up (V := rwV) (F := rwF) (gR_up (V := rwV) (F := rwF) (gR_up (V := rwV) (F := rwF) (gR_up (V := rwV) (F := rwF) (gR_up (V := rwV) (F := rwF) (gR_up (V := rwV) (F := rwF) ⟨hok.1, hok.2⟩ 6 (hP.2.1 6)) 7 (hP.2.1 7)) 8 (hP.2.1 8)) 9 (hP.2.1 9)) 10 (hP.2.1 10)) 11 (hP.2.1 11)) 12 (hP.2.1 12)) 13 (hP.2.1 13)) 14 (hP.2.1 14)) 15 (hP.2.1 15)) 16 (hP.2.1 16)) 17 (hP.2.1 17)) 18 (hP.2.1 18)) 19 (hP.2.1 19)) 20 (hP.2.1 20)) 9 (hP.2.2 9)) 10 (hP.2.2 10)) 11 (hP.2.2 11)) 12 (hP.2.2 12)) 13 (hP.2.2 13)) 14 (hP.2.2 14))⟩
      replace p0_12 : z_11 ≠ 0 → w16_12 ≠ 0 := p0_12
      replace p1_12 : w16_7 ≠ 0 → w16_12 ≠ 0 := p1_12
      replace p2_12 : z_11 = 0 → w16_12 = w16_7 := p2_12
      have rw16_12 : 0 ≤ w16_12 ∧ w16_12 ≤ 5 := hP.2.1 16
      have rw17_12 : (-1) ≤ w17_12 ∧ w17_12 ≤ 700 := hP.2.1 17
      refine lv_goto (tgt := 132) hx hb dX3_readLaw_83 (by decide) ?_
      refine lv_aload_n hx hb dX3_readLaw_132 rfl (lv_at hl 0 rfl) ?_
      refine lv_bipush (v := iI 59) hx hb dX3_readLaw_133 (by decide) ?_
      refine g_cv (As := [.int (iI 59)]) (rest := []) (n := 1) C hml (c_X3_pass l D k A ad hD (va_up (va_up (va_up (va_up (va_up (va_up (va_up (va_up (va_up (va_up (va_up (va_up (va_up (va_up (va_up v 6 w6_11) 7 (v 7)) 8 w8_11) 9 (v 9)) 10 (v 10)) 11 w11_11) 12 w12_11) 13 w13_11) 14 w14_11) 15 w15_11) 16 w16_12) 17 w17_12) 18 1) 19 (v 19)) 20 (v 20)) (va_up (va_up (va_up (va_up (va_up (va_up f 9 (f 9)) 10 a10_11) 11 a11_11) 12 (f 12)) 13 (f 13)) 14 a14_11) g 59 (by decide)) mM_X3_91 mI_X3_pass mE_X3_pass mN_X3 mC_X3_pass (by decide +kernel) 9 (ci := 3) rfl rfl hP hS (fun _ h => h) ⟨Nat.le_of_ble_eq_true rfl, Nat.le_of_ble_eq_true rfl⟩ ⟨Nat.zero_le _, Nat.zero_le _⟩ hl.1 rfl rfl (Nat.le_of_ble_eq_true rfl) dX3_readLaw_135 (fun r_13 v_13 f_13 g_13 H locs hq_13 hP _ hS => ?_)
      obtain ⟨w6_13, w16_13, w17_13, rfl, rfl, rfl, rfl, p0_13⟩ := hq_13
      show W p l e (gRm 5 112) s m args below meth c _ _ 0 0 Q (F0 m 138 ls [])
      have hP : gWd D (rwT k ad) (va_up (va_up (va_up (va_up (va_up (va_up (va_up (va_up (va_up (va_up (va_up (va_up (va_up (va_up (va_up v 6 w6_13) 7 (v 7)) 8 w8_11) 9 (v 9)) 10 (v 10)) 11 w11_11) 12 w12_11) 13 w13_11) 14 w14_11) 15 w15_11) 16 w16_13) 17 w17_13) 18 1) 19 (v 19)) 20 (v 20)) (va_up (va_up (va_up (va_up (va_up (va_up f 9 (f 9)) 10 a10_11) 11 a11_11) 12 (f 12)) 13 (f 13)) 14 a14_11) g H := ⟨hP.1, (gF_up (V := rwV) (F := rwF) (gF_up (V := rwV) (F := rwF) (gF_up (V := rwV) (F := rwF) (gF_up (V := rwV) (F := rwF) (gF_up (V := rwV) (F := rwF) (gF_up (V := rwV) (F := rwF) (gR_up (V := rwV) (F := rwF) (gR_up (V := rwV) (F := rwF) (gR_up (V := rwV) (F := rwF) (gR_up (V := rwV) (F := rwF) (gR_up (V := rwV) (F := rwF) (gR_up (V := rwV) (F := rwF) (gR_up (V := rwV) (F := rwF) (gR_up (V := rwV) (F := rwF) (gR_up (V := rwV) (F := rwF) (gR_up (V := rwV) (F := rwF) (gR_up (V := rwV) (F := rwF) (gR_up (V := rwV) (F := rwF) (gR_up (V := rwV) (F := rwF) (gR_up (V := rwV) (F := rwF) (gR_up (V := rwV) (F := rwF) ⟨hok.1, hok.2⟩ 6 (hP.2.1 6)) 7 (hP.2.1 7)) 8 (hP.2.1 8)) 9 (hP.2.1 9)) 10 (hP.2.1 10)) 11 (hP.2.1 11)) 12 (hP.2.1 12)) 13 (hP.2.1 13)) 14 (hP.2.1 14)) 15 (hP.2.1 15)) 16 (hP.2.1 16)) 17 (hP.2.1 17)) 18 (hP.2.1 18)) 19 (hP.2.1 19)) 20 (hP.2.1 20)) 9 (hP.2.2 9)) 10 (hP.2.2 10)) 11 (hP.2.2 11)) 12 (hP.2.2 12)) 13 (hP.2.2 13)) 14 (hP.2.2 14))⟩
      replace p0_13 : w16_12 ≠ 0 → w16_13 ≠ 0 := p0_13
      have rw6_13 : 0 ≤ w6_13 ∧ w6_13 ≤ 700 := hP.2.1 6
      have rw16_13 : 0 ≤ w16_13 ∧ w16_13 ≤ 5 := hP.2.1 16
      have rw17_13 : (-1) ≤ w17_13 ∧ w17_13 ≤ 700 := hP.2.1 17
      exact g_vret hQ C hr hlocks hP hS dX3_readLaw_138 ⟨w6_13, (v 7), w8_11, (v 9), (v 10), w11_11, w12_11, w13_11, w14_11, w15_11, w16_13, w17_13, 1, (v 19), (v 20), (f 9), a10_11, a11_11, (f 12), (f 13), a14_11, rfl, rfl, rfl, rfl, (fun h => by first | exact hR (by omega) | exact hd (by omega))⟩
  by_cases c_3_262 : z_2 = 262
  · refine lv_tableIn (off := 79) (tgt := 86) hx hb dX3_readLaw_7 (by rw [c_3_262]; decide) (by rw [c_3_262]; decide) (by rw [c_3_262]; rfl) (by decide) ?_
    refine lv_aload_n hx hb dX3_readLaw_86 rfl (lv_at hl 0 rfl) ?_
    refine lv_aload_n hx hb dX3_readLaw_87 rfl (lv_at hl 0 rfl) ?_
    refine rwG_reader_keysTold C hP mF_X3_43 dX3_readLaw_88 ?_
    show W p l e (gRm 5 112) s m args below meth c _ _ 0 0 Q (F0 m 91 ls [.int (iI (v 19)), .ref (ad 9)])
    have r_14 : 0 ≤ (v 19) ∧ (v 19) ≤ 1 := hok.1 19
    refine lv_iconst (v := iI 5) hx hb dX3_readLaw_91 rfl ?_
    refine g_cv (As := [.int (iI (v 19)), .int (iI 5)]) (rest := []) (n := 2) C hml (c_X3_refuseIf l D k A ad hD (va_up (va_up (va_up (va_up (va_up (va_up (va_up (va_up (va_up (va_up (va_up (va_up (va_up (va_up (va_up v 6 (v 6)) 7 (v 7)) 8 (v 8)) 9 (v 9)) 10 (v 10)) 11 (v 11)) 12 (v 12)) 13 (v 13)) 14 (v 14)) 15 (v 15)) 16 (v 16)) 17 (v 17)) 18 (v 18)) 19 (v 19)) 20 (v 20)) (va_up (va_up (va_up (va_up (va_up (va_up f 9 (f 9)) 10 (f 10)) 11 (f 11)) 12 (f 12)) 13 (f 13)) 14 (f 14)) g (v 19) 5 (by omega) (by decide) (show 1 ≤ (5 : Int) ∧ (5 : Int) ≤ 5 from by omega)) mM_X3_66 mI_X3_refuseIf mE_X3_refuseIf mN_X3 mC_X3_refuseIf (by decide +kernel) 9 (ci := 3) rfl rfl hP hS (fun _ h => h) ⟨Nat.le_of_ble_eq_true rfl, Nat.le_of_ble_eq_true rfl⟩ ⟨Nat.zero_le _, Nat.zero_le _⟩ hl.1 rfl rfl (Nat.le_of_ble_eq_true rfl) dX3_readLaw_92 (fun r_15 v_15 f_15 g_15 H locs hq_15 hP _ hS => ?_)
    obtain ⟨w16_15, w17_15, rfl, rfl, rfl, rfl, p0_15, p1_15, p2_15⟩ := hq_15
    show W p l e (gRm 5 112) s m args below meth c _ _ 0 0 Q (F0 m 95 ls [])
    have hP : gWd D (rwT k ad) (va_up (va_up (va_up (va_up (va_up (va_up (va_up (va_up (va_up (va_up (va_up (va_up (va_up (va_up (va_up v 6 (v 6)) 7 (v 7)) 8 (v 8)) 9 (v 9)) 10 (v 10)) 11 (v 11)) 12 (v 12)) 13 (v 13)) 14 (v 14)) 15 (v 15)) 16 w16_15) 17 w17_15) 18 (v 18)) 19 (v 19)) 20 (v 20)) (va_up (va_up (va_up (va_up (va_up (va_up f 9 (f 9)) 10 (f 10)) 11 (f 11)) 12 (f 12)) 13 (f 13)) 14 (f 14)) g H := ⟨hP.1, (gF_up (V := rwV) (F := rwF) (gF_up (V := rwV) (F := rwF) (gF_up (V := rwV) (F := rwF) (gF_up (V := rwV) (F := rwF) (gF_up (V := rwV) (F := rwF) (gF_up (V := rwV) (F := rwF) (gR_up (V := rwV) (F := rwF) (gR_up (V := rwV) (F := rwF) (gR_up (V := rwV) (F := rwF) (gR_up (V := rwV) (F := rwF) (gR_up (V := rwV) (F := rwF) (gR_up (V := rwV) (F := rwF) (gR_up (V := rwV) (F := rwF) (gR_up (V := rwV) (F := rwF) (gR_up (V := rwV) (F := rwF) (gR_up (V := rwV) (F := rwF) (gR_up (V := rwV) (F := rwF) (gR_up (V := rwV) (F := rwF) (gR_up (V := rwV) (F := rwF) (gR_up (V := rwV) (F := rwF) (gR_up (V := rwV) (F := rwF) ⟨hok.1, hok.2⟩ 6 (hP.2.1 6)) 7 (hP.2.1 7)) 8 (hP.2.1 8)) 9 (hP.2.1 9)) 10 (hP.2.1 10)) 11 (hP.2.1 11)) 12 (hP.2.1 12)) 13 (hP.2.1 13)) 14 (hP.2.1 14)) 15 (hP.2.1 15)) 16 (hP.2.1 16)) 17 (hP.2.1 17)) 18 (hP.2.1 18)) 19 (hP.2.1 19)) 20 (hP.2.1 20)) 9 (hP.2.2 9)) 10 (hP.2.2 10)) 11 (hP.2.2 11)) 12 (hP.2.2 12)) 13 (hP.2.2 13)) 14 (hP.2.2 14))⟩
    replace p0_15 : (v 19) ≠ 0 → w16_15 ≠ 0 := p0_15
    replace p1_15 : (v 16) ≠ 0 → w16_15 ≠ 0 := p1_15
    replace p2_15 : (v 19) = 0 → w16_15 = (v 16) := p2_15
    have rw16_15 : 0 ≤ w16_15 ∧ w16_15 ≤ 5 := hP.2.1 16
    have rw17_15 : (-1) ≤ w17_15 ∧ w17_15 ≤ 700 := hP.2.1 17
    refine lv_aload_n hx hb dX3_readLaw_95 rfl (lv_at hl 0 rfl) ?_
    refine lv_iconst (v := iI 1) hx hb dX3_readLaw_96 rfl ?_
    refine rwP_reader_keysTold (v1 := (va_up (va_up (va_up (va_up (va_up (va_up (va_up (va_up (va_up (va_up (va_up (va_up (va_up (va_up (va_up v 6 (v 6)) 7 (v 7)) 8 (v 8)) 9 (v 9)) 10 (v 10)) 11 (v 11)) 12 (v 12)) 13 (v 13)) 14 (v 14)) 15 (v 15)) 16 w16_15) 17 w17_15) 18 (v 18)) 19 1) 20 (v 20))) C hP hD hS mF_X3_43 (by decide) (by decide) rfl (Or.inr (gF_up (V := rwV) (F := rwF) (gF_up (V := rwV) (F := rwF) (gF_up (V := rwV) (F := rwF) (gF_up (V := rwV) (F := rwF) (gF_up (V := rwV) (F := rwF) (gF_up (V := rwV) (F := rwF) (gR_up (V := rwV) (F := rwF) (gR_up (V := rwV) (F := rwF) (gR_up (V := rwV) (F := rwF) (gR_up (V := rwV) (F := rwF) (gR_up (V := rwV) (F := rwF) (gR_up (V := rwV) (F := rwF) (gR_up (V := rwV) (F := rwF) (gR_up (V := rwV) (F := rwF) (gR_up (V := rwV) (F := rwF) (gR_up (V := rwV) (F := rwF) (gR_up (V := rwV) (F := rwF) (gR_up (V := rwV) (F := rwF) (gR_up (V := rwV) (F := rwF) (gR_up (V := rwV) (F := rwF) (gR_up (V := rwV) (F := rwF) ⟨hok.1, hok.2⟩ 6 (hP.2.1 6)) 7 (hP.2.1 7)) 8 (hP.2.1 8)) 9 (hP.2.1 9)) 10 (hP.2.1 10)) 11 (hP.2.1 11)) 12 (hP.2.1 12)) 13 (hP.2.1 13)) 14 (hP.2.1 14)) 15 (hP.2.1 15)) 16 (hP.2.1 16)) 17 (hP.2.1 17)) 18 (hP.2.1 18)) 19 (show 0 ≤ 1 ∧ 1 ≤ 1 from by decide)) 20 (hP.2.1 20)) 9 (hP.2.2 9)) 10 (hP.2.2 10)) 11 (hP.2.2 11)) 12 (hP.2.2 12)) 13 (hP.2.2 13)) 14 (hP.2.2 14))) dX3_readLaw_97 (fun H locs hP hS => ?_)
    refine lv_aload_n hx hb dX3_readLaw_100 rfl (lv_at hl 0 rfl) ?_
    refine g_cv (As := []) (rest := []) (n := 0) C hml (c_X3_readKeys l D k A ad hD (va_up (va_up (va_up (va_up (va_up (va_up (va_up (va_up (va_up (va_up (va_up (va_up (va_up (va_up (va_up v 6 (v 6)) 7 (v 7)) 8 (v 8)) 9 (v 9)) 10 (v 10)) 11 (v 11)) 12 (v 12)) 13 (v 13)) 14 (v 14)) 15 (v 15)) 16 w16_15) 17 w17_15) 18 (v 18)) 19 1) 20 (v 20)) (va_up (va_up (va_up (va_up (va_up (va_up f 9 (f 9)) 10 (f 10)) 11 (f 11)) 12 (f 12)) 13 (f 13)) 14 (f 14)) g) mM_X3_82 mI_X3_readKeys mE_X3_readKeys mN_X3 mC_X3_readKeys (by decide +kernel) 9 (ci := 3) rfl rfl hP hS (fun _ h => h) ⟨Nat.le_of_ble_eq_true rfl, Nat.le_of_ble_eq_true rfl⟩ ⟨Nat.zero_le _, Nat.zero_le _⟩ hl.1 rfl rfl (Nat.le_of_ble_eq_true rfl) dX3_readLaw_101 (fun r_16 v_16 f_16 g_16 H locs hq_16 hP _ hS => ?_)
    obtain ⟨w6_16, w9_16, w16_16, w17_16, a12_16, a13_16, rfl, rfl, rfl, rfl, p0_16⟩ := hq_16
    show W p l e (gRm 5 112) s m args below meth c _ _ 0 0 Q (F0 m 104 ls [])
    have hP : gWd D (rwT k ad) (va_up (va_up (va_up (va_up (va_up (va_up (va_up (va_up (va_up (va_up (va_up (va_up (va_up (va_up (va_up v 6 w6_16) 7 (v 7)) 8 (v 8)) 9 w9_16) 10 (v 10)) 11 (v 11)) 12 (v 12)) 13 (v 13)) 14 (v 14)) 15 (v 15)) 16 w16_16) 17 w17_16) 18 (v 18)) 19 1) 20 (v 20)) (va_up (va_up (va_up (va_up (va_up (va_up f 9 (f 9)) 10 (f 10)) 11 (f 11)) 12 a12_16) 13 a13_16) 14 (f 14)) g H := ⟨hP.1, (gF_up (V := rwV) (F := rwF) (gF_up (V := rwV) (F := rwF) (gF_up (V := rwV) (F := rwF) (gF_up (V := rwV) (F := rwF) (gF_up (V := rwV) (F := rwF) (gF_up (V := rwV) (F := rwF) (gR_up (V := rwV) (F := rwF) (gR_up (V := rwV) (F := rwF) (gR_up (V := rwV) (F := rwF) (gR_up (V := rwV) (F := rwF) (gR_up (V := rwV) (F := rwF) (gR_up (V := rwV) (F := rwF) (gR_up (V := rwV) (F := rwF) (gR_up (V := rwV) (F := rwF) (gR_up (V := rwV) (F := rwF) (gR_up (V := rwV) (F := rwF) (gR_up (V := rwV) (F := rwF) (gR_up (V := rwV) (F := rwF) (gR_up (V := rwV) (F := rwF) (gR_up (V := rwV) (F := rwF) (gR_up (V := rwV) (F := rwF) ⟨hok.1, hok.2⟩ 6 (hP.2.1 6)) 7 (hP.2.1 7)) 8 (hP.2.1 8)) 9 (hP.2.1 9)) 10 (hP.2.1 10)) 11 (hP.2.1 11)) 12 (hP.2.1 12)) 13 (hP.2.1 13)) 14 (hP.2.1 14)) 15 (hP.2.1 15)) 16 (hP.2.1 16)) 17 (hP.2.1 17)) 18 (hP.2.1 18)) 19 (hP.2.1 19)) 20 (hP.2.1 20)) 9 (hP.2.2 9)) 10 (hP.2.2 10)) 11 (hP.2.2 11)) 12 (hP.2.2 12)) 13 (hP.2.2 13)) 14 (hP.2.2 14))⟩
    replace p0_16 : w16_15 ≠ 0 → w16_16 ≠ 0 := p0_16
    have rw6_16 : 0 ≤ w6_16 ∧ w6_16 ≤ 700 := hP.2.1 6
    have rw9_16 : 0 ≤ w9_16 ∧ w9_16 ≤ 4 := hP.2.1 9
    have rw16_16 : 0 ≤ w16_16 ∧ w16_16 ≤ 5 := hP.2.1 16
    have rw17_16 : (-1) ≤ w17_16 ∧ w17_16 ≤ 700 := hP.2.1 17
    refine lv_goto (tgt := 132) hx hb dX3_readLaw_104 (by decide) ?_
    refine lv_aload_n hx hb dX3_readLaw_132 rfl (lv_at hl 0 rfl) ?_
    refine lv_bipush (v := iI 59) hx hb dX3_readLaw_133 (by decide) ?_
    refine g_cv (As := [.int (iI 59)]) (rest := []) (n := 1) C hml (c_X3_pass l D k A ad hD (va_up (va_up (va_up (va_up (va_up (va_up (va_up (va_up (va_up (va_up (va_up (va_up (va_up (va_up (va_up v 6 w6_16) 7 (v 7)) 8 (v 8)) 9 w9_16) 10 (v 10)) 11 (v 11)) 12 (v 12)) 13 (v 13)) 14 (v 14)) 15 (v 15)) 16 w16_16) 17 w17_16) 18 (v 18)) 19 1) 20 (v 20)) (va_up (va_up (va_up (va_up (va_up (va_up f 9 (f 9)) 10 (f 10)) 11 (f 11)) 12 a12_16) 13 a13_16) 14 (f 14)) g 59 (by decide)) mM_X3_91 mI_X3_pass mE_X3_pass mN_X3 mC_X3_pass (by decide +kernel) 9 (ci := 3) rfl rfl hP hS (fun _ h => h) ⟨Nat.le_of_ble_eq_true rfl, Nat.le_of_ble_eq_true rfl⟩ ⟨Nat.zero_le _, Nat.zero_le _⟩ hl.1 rfl rfl (Nat.le_of_ble_eq_true rfl) dX3_readLaw_135 (fun r_17 v_17 f_17 g_17 H locs hq_17 hP _ hS => ?_)
    obtain ⟨w6_17, w16_17, w17_17, rfl, rfl, rfl, rfl, p0_17⟩ := hq_17
    show W p l e (gRm 5 112) s m args below meth c _ _ 0 0 Q (F0 m 138 ls [])
    have hP : gWd D (rwT k ad) (va_up (va_up (va_up (va_up (va_up (va_up (va_up (va_up (va_up (va_up (va_up (va_up (va_up (va_up (va_up v 6 w6_17) 7 (v 7)) 8 (v 8)) 9 w9_16) 10 (v 10)) 11 (v 11)) 12 (v 12)) 13 (v 13)) 14 (v 14)) 15 (v 15)) 16 w16_17) 17 w17_17) 18 (v 18)) 19 1) 20 (v 20)) (va_up (va_up (va_up (va_up (va_up (va_up f 9 (f 9)) 10 (f 10)) 11 (f 11)) 12 a12_16) 13 a13_16) 14 (f 14)) g H := ⟨hP.1, (gF_up (V := rwV) (F := rwF) (gF_up (V := rwV) (F := rwF) (gF_up (V := rwV) (F := rwF) (gF_up (V := rwV) (F := rwF) (gF_up (V := rwV) (F := rwF) (gF_up (V := rwV) (F := rwF) (gR_up (V := rwV) (F := rwF) (gR_up (V := rwV) (F := rwF) (gR_up (V := rwV) (F := rwF) (gR_up (V := rwV) (F := rwF) (gR_up (V := rwV) (F := rwF) (gR_up (V := rwV) (F := rwF) (gR_up (V := rwV) (F := rwF) (gR_up (V := rwV) (F := rwF) (gR_up (V := rwV) (F := rwF) (gR_up (V := rwV) (F := rwF) (gR_up (V := rwV) (F := rwF) (gR_up (V := rwV) (F := rwF) (gR_up (V := rwV) (F := rwF) (gR_up (V := rwV) (F := rwF) (gR_up (V := rwV) (F := rwF) ⟨hok.1, hok.2⟩ 6 (hP.2.1 6)) 7 (hP.2.1 7)) 8 (hP.2.1 8)) 9 (hP.2.1 9)) 10 (hP.2.1 10)) 11 (hP.2.1 11)) 12 (hP.2.1 12)) 13 (hP.2.1 13)) 14 (hP.2.1 14)) 15 (hP.2.1 15)) 16 (hP.2.1 16)) 17 (hP.2.1 17)) 18 (hP.2.1 18)) 19 (hP.2.1 19)) 20 (hP.2.1 20)) 9 (hP.2.2 9)) 10 (hP.2.2 10)) 11 (hP.2.2 11)) 12 (hP.2.2 12)) 13 (hP.2.2 13)) 14 (hP.2.2 14))⟩
    replace p0_17 : w16_16 ≠ 0 → w16_17 ≠ 0 := p0_17
    have rw6_17 : 0 ≤ w6_17 ∧ w6_17 ≤ 700 := hP.2.1 6
    have rw16_17 : 0 ≤ w16_17 ∧ w16_17 ≤ 5 := hP.2.1 16
    have rw17_17 : (-1) ≤ w17_17 ∧ w17_17 ≤ 700 := hP.2.1 17
    exact g_vret hQ C hr hlocks hP hS dX3_readLaw_138 ⟨w6_17, (v 7), (v 8), w9_16, (v 10), (v 11), (v 12), (v 13), (v 14), (v 15), w16_17, w17_17, (v 18), 1, (v 20), (f 9), (f 10), (f 11), a12_16, a13_16, (f 14), rfl, rfl, rfl, rfl, (fun h => by first | exact hR (by omega) | exact hd (by omega))⟩
  by_cases c_3_263 : z_2 = 263
  · refine lv_tableIn (off := 100) (tgt := 107) hx hb dX3_readLaw_7 (by rw [c_3_263]; decide) (by rw [c_3_263]; decide) (by rw [c_3_263]; rfl) (by decide) ?_
    refine lv_aload_n hx hb dX3_readLaw_107 rfl (lv_at hl 0 rfl) ?_
    refine lv_aload_n hx hb dX3_readLaw_108 rfl (lv_at hl 0 rfl) ?_
    refine rwG_reader_tiesTold C hP mF_X3_46 dX3_readLaw_109 ?_
    show W p l e (gRm 5 112) s m args below meth c _ _ 0 0 Q (F0 m 112 ls [.int (iI (v 20)), .ref (ad 9)])
    have r_18 : 0 ≤ (v 20) ∧ (v 20) ≤ 1 := hok.1 20
    refine lv_iconst (v := iI 5) hx hb dX3_readLaw_112 rfl ?_
    refine g_cv (As := [.int (iI (v 20)), .int (iI 5)]) (rest := []) (n := 2) C hml (c_X3_refuseIf l D k A ad hD (va_up (va_up (va_up (va_up (va_up (va_up (va_up (va_up (va_up (va_up (va_up (va_up (va_up (va_up (va_up v 6 (v 6)) 7 (v 7)) 8 (v 8)) 9 (v 9)) 10 (v 10)) 11 (v 11)) 12 (v 12)) 13 (v 13)) 14 (v 14)) 15 (v 15)) 16 (v 16)) 17 (v 17)) 18 (v 18)) 19 (v 19)) 20 (v 20)) (va_up (va_up (va_up (va_up (va_up (va_up f 9 (f 9)) 10 (f 10)) 11 (f 11)) 12 (f 12)) 13 (f 13)) 14 (f 14)) g (v 20) 5 (by omega) (by decide) (show 1 ≤ (5 : Int) ∧ (5 : Int) ≤ 5 from by omega)) mM_X3_66 mI_X3_refuseIf mE_X3_refuseIf mN_X3 mC_X3_refuseIf (by decide +kernel) 9 (ci := 3) rfl rfl hP hS (fun _ h => h) ⟨Nat.le_of_ble_eq_true rfl, Nat.le_of_ble_eq_true rfl⟩ ⟨Nat.zero_le _, Nat.zero_le _⟩ hl.1 rfl rfl (Nat.le_of_ble_eq_true rfl) dX3_readLaw_113 (fun r_19 v_19 f_19 g_19 H locs hq_19 hP _ hS => ?_)
    obtain ⟨w16_19, w17_19, rfl, rfl, rfl, rfl, p0_19, p1_19, p2_19⟩ := hq_19
    show W p l e (gRm 5 112) s m args below meth c _ _ 0 0 Q (F0 m 116 ls [])
    have hP : gWd D (rwT k ad) (va_up (va_up (va_up (va_up (va_up (va_up (va_up (va_up (va_up (va_up (va_up (va_up (va_up (va_up (va_up v 6 (v 6)) 7 (v 7)) 8 (v 8)) 9 (v 9)) 10 (v 10)) 11 (v 11)) 12 (v 12)) 13 (v 13)) 14 (v 14)) 15 (v 15)) 16 w16_19) 17 w17_19) 18 (v 18)) 19 (v 19)) 20 (v 20)) (va_up (va_up (va_up (va_up (va_up (va_up f 9 (f 9)) 10 (f 10)) 11 (f 11)) 12 (f 12)) 13 (f 13)) 14 (f 14)) g H := ⟨hP.1, (gF_up (V := rwV) (F := rwF) (gF_up (V := rwV) (F := rwF) (gF_up (V := rwV) (F := rwF) (gF_up (V := rwV) (F := rwF) (gF_up (V := rwV) (F := rwF) (gF_up (V := rwV) (F := rwF) (gR_up (V := rwV) (F := rwF) (gR_up (V := rwV) (F := rwF) (gR_up (V := rwV) (F := rwF) (gR_up (V := rwV) (F := rwF) (gR_up (V := rwV) (F := rwF) (gR_up (V := rwV) (F := rwF) (gR_up (V := rwV) (F := rwF) (gR_up (V := rwV) (F := rwF) (gR_up (V := rwV) (F := rwF) (gR_up (V := rwV) (F := rwF) (gR_up (V := rwV) (F := rwF) (gR_up (V := rwV) (F := rwF) (gR_up (V := rwV) (F := rwF) (gR_up (V := rwV) (F := rwF) (gR_up (V := rwV) (F := rwF) ⟨hok.1, hok.2⟩ 6 (hP.2.1 6)) 7 (hP.2.1 7)) 8 (hP.2.1 8)) 9 (hP.2.1 9)) 10 (hP.2.1 10)) 11 (hP.2.1 11)) 12 (hP.2.1 12)) 13 (hP.2.1 13)) 14 (hP.2.1 14)) 15 (hP.2.1 15)) 16 (hP.2.1 16)) 17 (hP.2.1 17)) 18 (hP.2.1 18)) 19 (hP.2.1 19)) 20 (hP.2.1 20)) 9 (hP.2.2 9)) 10 (hP.2.2 10)) 11 (hP.2.2 11)) 12 (hP.2.2 12)) 13 (hP.2.2 13)) 14 (hP.2.2 14))⟩
    replace p0_19 : (v 20) ≠ 0 → w16_19 ≠ 0 := p0_19
    replace p1_19 : (v 16) ≠ 0 → w16_19 ≠ 0 := p1_19
    replace p2_19 : (v 20) = 0 → w16_19 = (v 16) := p2_19
    have rw16_19 : 0 ≤ w16_19 ∧ w16_19 ≤ 5 := hP.2.1 16
    have rw17_19 : (-1) ≤ w17_19 ∧ w17_19 ≤ 700 := hP.2.1 17
    refine lv_aload_n hx hb dX3_readLaw_116 rfl (lv_at hl 0 rfl) ?_
    refine lv_iconst (v := iI 1) hx hb dX3_readLaw_117 rfl ?_
    refine rwP_reader_tiesTold (v1 := (va_up (va_up (va_up (va_up (va_up (va_up (va_up (va_up (va_up (va_up (va_up (va_up (va_up (va_up (va_up v 6 (v 6)) 7 (v 7)) 8 (v 8)) 9 (v 9)) 10 (v 10)) 11 (v 11)) 12 (v 12)) 13 (v 13)) 14 (v 14)) 15 (v 15)) 16 w16_19) 17 w17_19) 18 (v 18)) 19 (v 19)) 20 1)) C hP hD hS mF_X3_46 (by decide) (by decide) rfl (Or.inr (gF_up (V := rwV) (F := rwF) (gF_up (V := rwV) (F := rwF) (gF_up (V := rwV) (F := rwF) (gF_up (V := rwV) (F := rwF) (gF_up (V := rwV) (F := rwF) (gF_up (V := rwV) (F := rwF) (gR_up (V := rwV) (F := rwF) (gR_up (V := rwV) (F := rwF) (gR_up (V := rwV) (F := rwF) (gR_up (V := rwV) (F := rwF) (gR_up (V := rwV) (F := rwF) (gR_up (V := rwV) (F := rwF) (gR_up (V := rwV) (F := rwF) (gR_up (V := rwV) (F := rwF) (gR_up (V := rwV) (F := rwF) (gR_up (V := rwV) (F := rwF) (gR_up (V := rwV) (F := rwF) (gR_up (V := rwV) (F := rwF) (gR_up (V := rwV) (F := rwF) (gR_up (V := rwV) (F := rwF) (gR_up (V := rwV) (F := rwF) ⟨hok.1, hok.2⟩ 6 (hP.2.1 6)) 7 (hP.2.1 7)) 8 (hP.2.1 8)) 9 (hP.2.1 9)) 10 (hP.2.1 10)) 11 (hP.2.1 11)) 12 (hP.2.1 12)) 13 (hP.2.1 13)) 14 (hP.2.1 14)) 15 (hP.2.1 15)) 16 (hP.2.1 16)) 17 (hP.2.1 17)) 18 (hP.2.1 18)) 19 (hP.2.1 19)) 20 (show 0 ≤ 1 ∧ 1 ≤ 1 from by decide)) 9 (hP.2.2 9)) 10 (hP.2.2 10)) 11 (hP.2.2 11)) 12 (hP.2.2 12)) 13 (hP.2.2 13)) 14 (hP.2.2 14))) dX3_readLaw_118 (fun H locs hP hS => ?_)
    refine lv_aload_n hx hb dX3_readLaw_121 rfl (lv_at hl 0 rfl) ?_
    refine g_cv (As := []) (rest := []) (n := 0) C hml (c_X3_readTies l D k A ad hD (va_up (va_up (va_up (va_up (va_up (va_up (va_up (va_up (va_up (va_up (va_up (va_up (va_up (va_up (va_up v 6 (v 6)) 7 (v 7)) 8 (v 8)) 9 (v 9)) 10 (v 10)) 11 (v 11)) 12 (v 12)) 13 (v 13)) 14 (v 14)) 15 (v 15)) 16 w16_19) 17 w17_19) 18 (v 18)) 19 (v 19)) 20 1) (va_up (va_up (va_up (va_up (va_up (va_up f 9 (f 9)) 10 (f 10)) 11 (f 11)) 12 (f 12)) 13 (f 13)) 14 (f 14)) g) mM_X3_85 mI_X3_readTies mE_X3_readTies mN_X3 mC_X3_readTies (by decide +kernel) 9 (ci := 3) rfl rfl hP hS (fun _ h => h) ⟨Nat.le_of_ble_eq_true rfl, Nat.le_of_ble_eq_true rfl⟩ ⟨Nat.zero_le _, Nat.zero_le _⟩ hl.1 rfl rfl (Nat.le_of_ble_eq_true rfl) dX3_readLaw_122 (fun r_20 v_20 f_20 g_20 H locs hq_20 hP _ hS => ?_)
    obtain ⟨w6_20, w10_20, w16_20, w17_20, rfl, rfl, rfl, rfl, p0_20⟩ := hq_20
    show W p l e (gRm 5 112) s m args below meth c _ _ 0 0 Q (F0 m 125 ls [])
    have hP : gWd D (rwT k ad) (va_up (va_up (va_up (va_up (va_up (va_up (va_up (va_up (va_up (va_up (va_up (va_up (va_up (va_up (va_up v 6 w6_20) 7 (v 7)) 8 (v 8)) 9 (v 9)) 10 w10_20) 11 (v 11)) 12 (v 12)) 13 (v 13)) 14 (v 14)) 15 (v 15)) 16 w16_20) 17 w17_20) 18 (v 18)) 19 (v 19)) 20 1) (va_up (va_up (va_up (va_up (va_up (va_up f 9 (f 9)) 10 (f 10)) 11 (f 11)) 12 (f 12)) 13 (f 13)) 14 (f 14)) g H := ⟨hP.1, (gF_up (V := rwV) (F := rwF) (gF_up (V := rwV) (F := rwF) (gF_up (V := rwV) (F := rwF) (gF_up (V := rwV) (F := rwF) (gF_up (V := rwV) (F := rwF) (gF_up (V := rwV) (F := rwF) (gR_up (V := rwV) (F := rwF) (gR_up (V := rwV) (F := rwF) (gR_up (V := rwV) (F := rwF) (gR_up (V := rwV) (F := rwF) (gR_up (V := rwV) (F := rwF) (gR_up (V := rwV) (F := rwF) (gR_up (V := rwV) (F := rwF) (gR_up (V := rwV) (F := rwF) (gR_up (V := rwV) (F := rwF) (gR_up (V := rwV) (F := rwF) (gR_up (V := rwV) (F := rwF) (gR_up (V := rwV) (F := rwF) (gR_up (V := rwV) (F := rwF) (gR_up (V := rwV) (F := rwF) (gR_up (V := rwV) (F := rwF) ⟨hok.1, hok.2⟩ 6 (hP.2.1 6)) 7 (hP.2.1 7)) 8 (hP.2.1 8)) 9 (hP.2.1 9)) 10 (hP.2.1 10)) 11 (hP.2.1 11)) 12 (hP.2.1 12)) 13 (hP.2.1 13)) 14 (hP.2.1 14)) 15 (hP.2.1 15)) 16 (hP.2.1 16)) 17 (hP.2.1 17)) 18 (hP.2.1 18)) 19 (hP.2.1 19)) 20 (hP.2.1 20)) 9 (hP.2.2 9)) 10 (hP.2.2 10)) 11 (hP.2.2 11)) 12 (hP.2.2 12)) 13 (hP.2.2 13)) 14 (hP.2.2 14))⟩
    replace p0_20 : w16_19 ≠ 0 → w16_20 ≠ 0 := p0_20
    have rw6_20 : 0 ≤ w6_20 ∧ w6_20 ≤ 700 := hP.2.1 6
    have rw10_20 : 0 ≤ w10_20 ∧ w10_20 ≤ 1 := hP.2.1 10
    have rw16_20 : 0 ≤ w16_20 ∧ w16_20 ≤ 5 := hP.2.1 16
    have rw17_20 : (-1) ≤ w17_20 ∧ w17_20 ≤ 700 := hP.2.1 17
    refine lv_goto (tgt := 132) hx hb dX3_readLaw_125 (by decide) ?_
    refine lv_aload_n hx hb dX3_readLaw_132 rfl (lv_at hl 0 rfl) ?_
    refine lv_bipush (v := iI 59) hx hb dX3_readLaw_133 (by decide) ?_
    refine g_cv (As := [.int (iI 59)]) (rest := []) (n := 1) C hml (c_X3_pass l D k A ad hD (va_up (va_up (va_up (va_up (va_up (va_up (va_up (va_up (va_up (va_up (va_up (va_up (va_up (va_up (va_up v 6 w6_20) 7 (v 7)) 8 (v 8)) 9 (v 9)) 10 w10_20) 11 (v 11)) 12 (v 12)) 13 (v 13)) 14 (v 14)) 15 (v 15)) 16 w16_20) 17 w17_20) 18 (v 18)) 19 (v 19)) 20 1) (va_up (va_up (va_up (va_up (va_up (va_up f 9 (f 9)) 10 (f 10)) 11 (f 11)) 12 (f 12)) 13 (f 13)) 14 (f 14)) g 59 (by decide)) mM_X3_91 mI_X3_pass mE_X3_pass mN_X3 mC_X3_pass (by decide +kernel) 9 (ci := 3) rfl rfl hP hS (fun _ h => h) ⟨Nat.le_of_ble_eq_true rfl, Nat.le_of_ble_eq_true rfl⟩ ⟨Nat.zero_le _, Nat.zero_le _⟩ hl.1 rfl rfl (Nat.le_of_ble_eq_true rfl) dX3_readLaw_135 (fun r_21 v_21 f_21 g_21 H locs hq_21 hP _ hS => ?_)
    obtain ⟨w6_21, w16_21, w17_21, rfl, rfl, rfl, rfl, p0_21⟩ := hq_21
    show W p l e (gRm 5 112) s m args below meth c _ _ 0 0 Q (F0 m 138 ls [])
    have hP : gWd D (rwT k ad) (va_up (va_up (va_up (va_up (va_up (va_up (va_up (va_up (va_up (va_up (va_up (va_up (va_up (va_up (va_up v 6 w6_21) 7 (v 7)) 8 (v 8)) 9 (v 9)) 10 w10_20) 11 (v 11)) 12 (v 12)) 13 (v 13)) 14 (v 14)) 15 (v 15)) 16 w16_21) 17 w17_21) 18 (v 18)) 19 (v 19)) 20 1) (va_up (va_up (va_up (va_up (va_up (va_up f 9 (f 9)) 10 (f 10)) 11 (f 11)) 12 (f 12)) 13 (f 13)) 14 (f 14)) g H := ⟨hP.1, (gF_up (V := rwV) (F := rwF) (gF_up (V := rwV) (F := rwF) (gF_up (V := rwV) (F := rwF) (gF_up (V := rwV) (F := rwF) (gF_up (V := rwV) (F := rwF) (gF_up (V := rwV) (F := rwF) (gR_up (V := rwV) (F := rwF) (gR_up (V := rwV) (F := rwF) (gR_up (V := rwV) (F := rwF) (gR_up (V := rwV) (F := rwF) (gR_up (V := rwV) (F := rwF) (gR_up (V := rwV) (F := rwF) (gR_up (V := rwV) (F := rwF) (gR_up (V := rwV) (F := rwF) (gR_up (V := rwV) (F := rwF) (gR_up (V := rwV) (F := rwF) (gR_up (V := rwV) (F := rwF) (gR_up (V := rwV) (F := rwF) (gR_up (V := rwV) (F := rwF) (gR_up (V := rwV) (F := rwF) (gR_up (V := rwV) (F := rwF) ⟨hok.1, hok.2⟩ 6 (hP.2.1 6)) 7 (hP.2.1 7)) 8 (hP.2.1 8)) 9 (hP.2.1 9)) 10 (hP.2.1 10)) 11 (hP.2.1 11)) 12 (hP.2.1 12)) 13 (hP.2.1 13)) 14 (hP.2.1 14)) 15 (hP.2.1 15)) 16 (hP.2.1 16)) 17 (hP.2.1 17)) 18 (hP.2.1 18)) 19 (hP.2.1 19)) 20 (hP.2.1 20)) 9 (hP.2.2 9)) 10 (hP.2.2 10)) 11 (hP.2.2 11)) 12 (hP.2.2 12)) 13 (hP.2.2 13)) 14 (hP.2.2 14))⟩
    replace p0_21 : w16_20 ≠ 0 → w16_21 ≠ 0 := p0_21
    have rw6_21 : 0 ≤ w6_21 ∧ w6_21 ≤ 700 := hP.2.1 6
    have rw16_21 : 0 ≤ w16_21 ∧ w16_21 ≤ 5 := hP.2.1 16
    have rw17_21 : (-1) ≤ w17_21 ∧ w17_21 ≤ 700 := hP.2.1 17
    exact g_vret hQ C hr hlocks hP hS dX3_readLaw_138 ⟨w6_21, (v 7), (v 8), (v 9), w10_20, (v 11), (v 12), (v 13), (v 14), (v 15), w16_21, w17_21, (v 18), (v 19), 1, (f 9), (f 10), (f 11), (f 12), (f 13), (f 14), rfl, rfl, rfl, rfl, (fun h => by first | exact hR (by omega) | exact hd (by omega))⟩
  refine lv_tableOut (tgt := 128) hx hb dX3_readLaw_7 (by rw [iI_toInt (by omega)]; omega) (by decide) ?_
  refine lv_aload_n hx hb dX3_readLaw_128 rfl (lv_at hl 0 rfl) ?_
  refine g_cv (As := []) (rest := []) (n := 0) C hml (c_X3_refuseToken l D k A ad hD (va_up (va_up (va_up (va_up (va_up (va_up (va_up (va_up (va_up (va_up (va_up (va_up (va_up (va_up (va_up v 6 (v 6)) 7 (v 7)) 8 (v 8)) 9 (v 9)) 10 (v 10)) 11 (v 11)) 12 (v 12)) 13 (v 13)) 14 (v 14)) 15 (v 15)) 16 (v 16)) 17 (v 17)) 18 (v 18)) 19 (v 19)) 20 (v 20)) (va_up (va_up (va_up (va_up (va_up (va_up f 9 (f 9)) 10 (f 10)) 11 (f 11)) 12 (f 12)) 13 (f 13)) 14 (f 14)) g) mM_X3_88 mI_X3_refuseToken mE_X3_refuseToken mN_X3 mC_X3_refuseToken (by decide +kernel) 9 (ci := 3) rfl rfl hP hS (fun _ h => h) ⟨Nat.le_of_ble_eq_true rfl, Nat.le_of_ble_eq_true rfl⟩ ⟨Nat.zero_le _, Nat.zero_le _⟩ hl.1 rfl rfl (Nat.le_of_ble_eq_true rfl) dX3_readLaw_129 (fun r_22 v_22 f_22 g_22 H locs hq_22 hP _ hS => ?_)
  obtain ⟨w16_22, w17_22, rfl, rfl, rfl, rfl, p0_22⟩ := hq_22
  show W p l e (gRm 5 112) s m args below meth c _ _ 0 0 Q (F0 m 132 ls [])
  have hP : gWd D (rwT k ad) (va_up (va_up (va_up (va_up (va_up (va_up (va_up (va_up (va_up (va_up (va_up (va_up (va_up (va_up (va_up v 6 (v 6)) 7 (v 7)) 8 (v 8)) 9 (v 9)) 10 (v 10)) 11 (v 11)) 12 (v 12)) 13 (v 13)) 14 (v 14)) 15 (v 15)) 16 w16_22) 17 w17_22) 18 (v 18)) 19 (v 19)) 20 (v 20)) (va_up (va_up (va_up (va_up (va_up (va_up f 9 (f 9)) 10 (f 10)) 11 (f 11)) 12 (f 12)) 13 (f 13)) 14 (f 14)) g H := ⟨hP.1, (gF_up (V := rwV) (F := rwF) (gF_up (V := rwV) (F := rwF) (gF_up (V := rwV) (F := rwF) (gF_up (V := rwV) (F := rwF) (gF_up (V := rwV) (F := rwF) (gF_up (V := rwV) (F := rwF) (gR_up (V := rwV) (F := rwF) (gR_up (V := rwV) (F := rwF) (gR_up (V := rwV) (F := rwF) (gR_up (V := rwV) (F := rwF) (gR_up (V := rwV) (F := rwF) (gR_up (V := rwV) (F := rwF) (gR_up (V := rwV) (F := rwF) (gR_up (V := rwV) (F := rwF) (gR_up (V := rwV) (F := rwF) (gR_up (V := rwV) (F := rwF) (gR_up (V := rwV) (F := rwF) (gR_up (V := rwV) (F := rwF) (gR_up (V := rwV) (F := rwF) (gR_up (V := rwV) (F := rwF) (gR_up (V := rwV) (F := rwF) ⟨hok.1, hok.2⟩ 6 (hP.2.1 6)) 7 (hP.2.1 7)) 8 (hP.2.1 8)) 9 (hP.2.1 9)) 10 (hP.2.1 10)) 11 (hP.2.1 11)) 12 (hP.2.1 12)) 13 (hP.2.1 13)) 14 (hP.2.1 14)) 15 (hP.2.1 15)) 16 (hP.2.1 16)) 17 (hP.2.1 17)) 18 (hP.2.1 18)) 19 (hP.2.1 19)) 20 (hP.2.1 20)) 9 (hP.2.2 9)) 10 (hP.2.2 10)) 11 (hP.2.2 11)) 12 (hP.2.2 12)) 13 (hP.2.2 13)) 14 (hP.2.2 14))⟩
  replace p0_22 : w16_22 ≠ 0 := p0_22
  have rw16_22 : 0 ≤ w16_22 ∧ w16_22 ≤ 5 := hP.2.1 16
  have rw17_22 : (-1) ≤ w17_22 ∧ w17_22 ≤ 700 := hP.2.1 17
  refine lv_aload_n hx hb dX3_readLaw_132 rfl (lv_at hl 0 rfl) ?_
  refine lv_bipush (v := iI 59) hx hb dX3_readLaw_133 (by decide) ?_
  refine g_cv (As := [.int (iI 59)]) (rest := []) (n := 1) C hml (c_X3_pass l D k A ad hD (va_up (va_up (va_up (va_up (va_up (va_up (va_up (va_up (va_up (va_up (va_up (va_up (va_up (va_up (va_up v 6 (v 6)) 7 (v 7)) 8 (v 8)) 9 (v 9)) 10 (v 10)) 11 (v 11)) 12 (v 12)) 13 (v 13)) 14 (v 14)) 15 (v 15)) 16 w16_22) 17 w17_22) 18 (v 18)) 19 (v 19)) 20 (v 20)) (va_up (va_up (va_up (va_up (va_up (va_up f 9 (f 9)) 10 (f 10)) 11 (f 11)) 12 (f 12)) 13 (f 13)) 14 (f 14)) g 59 (by decide)) mM_X3_91 mI_X3_pass mE_X3_pass mN_X3 mC_X3_pass (by decide +kernel) 9 (ci := 3) rfl rfl hP hS (fun _ h => h) ⟨Nat.le_of_ble_eq_true rfl, Nat.le_of_ble_eq_true rfl⟩ ⟨Nat.zero_le _, Nat.zero_le _⟩ hl.1 rfl rfl (Nat.le_of_ble_eq_true rfl) dX3_readLaw_135 (fun r_23 v_23 f_23 g_23 H locs hq_23 hP _ hS => ?_)
  obtain ⟨w6_23, w16_23, w17_23, rfl, rfl, rfl, rfl, p0_23⟩ := hq_23
  show W p l e (gRm 5 112) s m args below meth c _ _ 0 0 Q (F0 m 138 ls [])
  have hP : gWd D (rwT k ad) (va_up (va_up (va_up (va_up (va_up (va_up (va_up (va_up (va_up (va_up (va_up (va_up (va_up (va_up (va_up v 6 w6_23) 7 (v 7)) 8 (v 8)) 9 (v 9)) 10 (v 10)) 11 (v 11)) 12 (v 12)) 13 (v 13)) 14 (v 14)) 15 (v 15)) 16 w16_23) 17 w17_23) 18 (v 18)) 19 (v 19)) 20 (v 20)) (va_up (va_up (va_up (va_up (va_up (va_up f 9 (f 9)) 10 (f 10)) 11 (f 11)) 12 (f 12)) 13 (f 13)) 14 (f 14)) g H := ⟨hP.1, (gF_up (V := rwV) (F := rwF) (gF_up (V := rwV) (F := rwF) (gF_up (V := rwV) (F := rwF) (gF_up (V := rwV) (F := rwF) (gF_up (V := rwV) (F := rwF) (gF_up (V := rwV) (F := rwF) (gR_up (V := rwV) (F := rwF) (gR_up (V := rwV) (F := rwF) (gR_up (V := rwV) (F := rwF) (gR_up (V := rwV) (F := rwF) (gR_up (V := rwV) (F := rwF) (gR_up (V := rwV) (F := rwF) (gR_up (V := rwV) (F := rwF) (gR_up (V := rwV) (F := rwF) (gR_up (V := rwV) (F := rwF) (gR_up (V := rwV) (F := rwF) (gR_up (V := rwV) (F := rwF) (gR_up (V := rwV) (F := rwF) (gR_up (V := rwV) (F := rwF) (gR_up (V := rwV) (F := rwF) (gR_up (V := rwV) (F := rwF) ⟨hok.1, hok.2⟩ 6 (hP.2.1 6)) 7 (hP.2.1 7)) 8 (hP.2.1 8)) 9 (hP.2.1 9)) 10 (hP.2.1 10)) 11 (hP.2.1 11)) 12 (hP.2.1 12)) 13 (hP.2.1 13)) 14 (hP.2.1 14)) 15 (hP.2.1 15)) 16 (hP.2.1 16)) 17 (hP.2.1 17)) 18 (hP.2.1 18)) 19 (hP.2.1 19)) 20 (hP.2.1 20)) 9 (hP.2.2 9)) 10 (hP.2.2 10)) 11 (hP.2.2 11)) 12 (hP.2.2 12)) 13 (hP.2.2 13)) 14 (hP.2.2 14))⟩
  replace p0_23 : w16_22 ≠ 0 → w16_23 ≠ 0 := p0_23
  have rw6_23 : 0 ≤ w6_23 ∧ w6_23 ≤ 700 := hP.2.1 6
  have rw16_23 : 0 ≤ w16_23 ∧ w16_23 ≤ 5 := hP.2.1 16
  have rw17_23 : (-1) ≤ w17_23 ∧ w17_23 ≤ 700 := hP.2.1 17
  exact g_vret hQ C hr hlocks hP hS dX3_readLaw_138 ⟨w6_23, (v 7), (v 8), (v 9), (v 10), (v 11), (v 12), (v 13), (v 14), (v 15), w16_23, w17_23, (v 18), (v 19), (v 20), (f 9), (f 10), (f 11), (f 12), (f 13), (f 14), rfl, rfl, rfl, rfl, (fun h => by first | exact hR (by omega) | exact hd (by omega))⟩

set_option maxHeartbeats 4000000 in
set_option maxRecDepth 100000 in
theorem c_X3_read (l : Launch) (D : va_G) (k : Nat → ClassId) (A : Nat → Prop) (ad : Nat → Nat) (hD : rwD A k ad) (za : Nat → Nat) (v : gV) (f g : gF) (a2 : Int) (h_a2 : inR a2) (h2 : 0 ≤ a2 ∧ a2 ≤ 700) : GE l D k za A (rwT k ad) yX3_read cX3_read 4 none 7 161 [.ref (ad 9), .ref (ad 1), .int (iI a2)] v f g (fun r v1 f1 g1 => ∃ (w5 : Int) (w6 : Int) (w7 : Int) (w8 : Int) (w9 : Int) (w10 : Int) (w11 : Int) (w12 : Int) (w13 : Int) (w14 : Int) (w15 : Int) (w16 : Int) (w17 : Int) (w18 : Int) (w19 : Int) (w20 : Int) (a6_ : Int → Int) (a7_ : Int → Int) (a8_ : Int → Int) (a9_ : Int → Int) (a10_ : Int → Int) (a11_ : Int → Int) (a12_ : Int → Int) (a13_ : Int → Int) (a14_ : Int → Int), r = none ∧ (va_up (va_up (va_up (va_up (va_up (va_up (va_up (va_up (va_up (va_up (va_up (va_up (va_up (va_up (va_up (va_up v 5 w5) 6 w6) 7 w7) 8 w8) 9 w9) 10 w10) 11 w11) 12 w12) 13 w13) 14 w14) 15 w15) 16 w16) 17 w17) 18 w18) 19 w19) 20 w20) = v1 ∧ (va_up (va_up (va_up (va_up (va_up (va_up (va_up (va_up (va_up f 6 a6_) 7 a7_) 8 a8_) 9 a9_) 10 a10_) 11 a11_) 12 a12_) 13 a13_) 14 a14_) = f1 ∧ g = g1 ∧ (w16 = 0 → shOk w7 a9_)) := by
  refine GE.of (by decide) (Nat.le_of_ble_eq_true rfl) ?_
  intro p e s m args below meth c Q ls hQ C hml hr hlocks hP hl hE
  have hx := C.1
  have hb := C.2.1
  have hok := hP.2
  have hS : va_S A s.heap s.heap [] := va_S.rf
  have hl : lv_has ls 4 [(0, .ref (ad 9)), (1, .ref (ad 1)), (2, .int (iI a2))] := hl
  have hP : gWd D (rwT k ad) (va_up (va_up (va_up (va_up (va_up (va_up (va_up (va_up (va_up (va_up (va_up (va_up (va_up (va_up (va_up (va_up v 5 (v 5)) 6 (v 6)) 7 (v 7)) 8 (v 8)) 9 (v 9)) 10 (v 10)) 11 (v 11)) 12 (v 12)) 13 (v 13)) 14 (v 14)) 15 (v 15)) 16 (v 16)) 17 (v 17)) 18 (v 18)) 19 (v 19)) 20 (v 20)) (va_up (va_up (va_up (va_up (va_up (va_up (va_up (va_up (va_up f 6 (f 6)) 7 (f 7)) 8 (f 8)) 9 (f 9)) 10 (f 10)) 11 (f 11)) 12 (f 12)) 13 (f 13)) 14 (f 14)) g s.heap := by rw [va_id, va_id, va_id, va_id, va_id, va_id, va_id, va_id, va_id, va_id, va_id, va_id, va_id, va_id, va_id, va_id, va_id, va_id, va_id, va_id, va_id, va_id, va_id, va_id, va_id]; exact hP
  refine lv_aload_n hx hb dX3_read_0 rfl (lv_at hl 0 rfl) ?_
  refine lv_iconst (v := iI 0) hx hb dX3_read_1 rfl ?_
  refine rwP_reader_fault (v1 := (va_up (va_up (va_up (va_up (va_up (va_up (va_up (va_up (va_up (va_up (va_up (va_up (va_up (va_up (va_up (va_up v 5 (v 5)) 6 (v 6)) 7 (v 7)) 8 (v 8)) 9 (v 9)) 10 (v 10)) 11 (v 11)) 12 (v 12)) 13 (v 13)) 14 (v 14)) 15 (v 15)) 16 0) 17 (v 17)) 18 (v 18)) 19 (v 19)) 20 (v 20))) C hP hD hS mF_X3_32 (by decide) rfl (Or.inr (gF_up (V := rwV) (F := rwF) (gF_up (V := rwV) (F := rwF) (gF_up (V := rwV) (F := rwF) (gF_up (V := rwV) (F := rwF) (gF_up (V := rwV) (F := rwF) (gF_up (V := rwV) (F := rwF) (gF_up (V := rwV) (F := rwF) (gF_up (V := rwV) (F := rwF) (gF_up (V := rwV) (F := rwF) (gR_up (V := rwV) (F := rwF) (gR_up (V := rwV) (F := rwF) (gR_up (V := rwV) (F := rwF) (gR_up (V := rwV) (F := rwF) (gR_up (V := rwV) (F := rwF) (gR_up (V := rwV) (F := rwF) (gR_up (V := rwV) (F := rwF) (gR_up (V := rwV) (F := rwF) (gR_up (V := rwV) (F := rwF) (gR_up (V := rwV) (F := rwF) (gR_up (V := rwV) (F := rwF) (gR_up (V := rwV) (F := rwF) (gR_up (V := rwV) (F := rwF) (gR_up (V := rwV) (F := rwF) (gR_up (V := rwV) (F := rwF) (gR_up (V := rwV) (F := rwF) ⟨hok.1, hok.2⟩ 5 (hP.2.1 5)) 6 (hP.2.1 6)) 7 (hP.2.1 7)) 8 (hP.2.1 8)) 9 (hP.2.1 9)) 10 (hP.2.1 10)) 11 (hP.2.1 11)) 12 (hP.2.1 12)) 13 (hP.2.1 13)) 14 (hP.2.1 14)) 15 (hP.2.1 15)) 16 (show 0 ≤ 0 ∧ 0 ≤ 5 from by decide)) 17 (hP.2.1 17)) 18 (hP.2.1 18)) 19 (hP.2.1 19)) 20 (hP.2.1 20)) 6 (hP.2.2 6)) 7 (hP.2.2 7)) 8 (hP.2.2 8)) 9 (hP.2.2 9)) 10 (hP.2.2 10)) 11 (hP.2.2 11)) 12 (hP.2.2 12)) 13 (hP.2.2 13)) 14 (hP.2.2 14))) dX3_read_2 (fun H locs hP hS => ?_)
  refine lv_aload_n hx hb dX3_read_5 rfl (lv_at hl 0 rfl) ?_
  refine lv_iconst (v := iI (-1)) hx hb dX3_read_6 rfl ?_
  refine rwP_reader_faultPlace (v1 := (va_up (va_up (va_up (va_up (va_up (va_up (va_up (va_up (va_up (va_up (va_up (va_up (va_up (va_up (va_up (va_up v 5 (v 5)) 6 (v 6)) 7 (v 7)) 8 (v 8)) 9 (v 9)) 10 (v 10)) 11 (v 11)) 12 (v 12)) 13 (v 13)) 14 (v 14)) 15 (v 15)) 16 0) 17 (-1)) 18 (v 18)) 19 (v 19)) 20 (v 20))) C hP hD hS mF_X3_36 (by decide) rfl (Or.inr (gF_up (V := rwV) (F := rwF) (gF_up (V := rwV) (F := rwF) (gF_up (V := rwV) (F := rwF) (gF_up (V := rwV) (F := rwF) (gF_up (V := rwV) (F := rwF) (gF_up (V := rwV) (F := rwF) (gF_up (V := rwV) (F := rwF) (gF_up (V := rwV) (F := rwF) (gF_up (V := rwV) (F := rwF) (gR_up (V := rwV) (F := rwF) (gR_up (V := rwV) (F := rwF) (gR_up (V := rwV) (F := rwF) (gR_up (V := rwV) (F := rwF) (gR_up (V := rwV) (F := rwF) (gR_up (V := rwV) (F := rwF) (gR_up (V := rwV) (F := rwF) (gR_up (V := rwV) (F := rwF) (gR_up (V := rwV) (F := rwF) (gR_up (V := rwV) (F := rwF) (gR_up (V := rwV) (F := rwF) (gR_up (V := rwV) (F := rwF) (gR_up (V := rwV) (F := rwF) (gR_up (V := rwV) (F := rwF) (gR_up (V := rwV) (F := rwF) (gR_up (V := rwV) (F := rwF) ⟨hok.1, hok.2⟩ 5 (hP.2.1 5)) 6 (hP.2.1 6)) 7 (hP.2.1 7)) 8 (hP.2.1 8)) 9 (hP.2.1 9)) 10 (hP.2.1 10)) 11 (hP.2.1 11)) 12 (hP.2.1 12)) 13 (hP.2.1 13)) 14 (hP.2.1 14)) 15 (hP.2.1 15)) 16 (hP.2.1 16)) 17 (show (-1) ≤ (-1) ∧ (-1) ≤ 700 from by decide)) 18 (hP.2.1 18)) 19 (hP.2.1 19)) 20 (hP.2.1 20)) 6 (hP.2.2 6)) 7 (hP.2.2 7)) 8 (hP.2.2 8)) 9 (hP.2.2 9)) 10 (hP.2.2 10)) 11 (hP.2.2 11)) 12 (hP.2.2 12)) 13 (hP.2.2 13)) 14 (hP.2.2 14))) dX3_read_7 (fun H locs hP hS => ?_)
  refine lv_aload_n hx hb dX3_read_10 rfl (lv_at hl 0 rfl) ?_
  refine lv_iconst (v := iI 0) hx hb dX3_read_11 rfl ?_
  refine rwP_reader_pointsTold (v1 := (va_up (va_up (va_up (va_up (va_up (va_up (va_up (va_up (va_up (va_up (va_up (va_up (va_up (va_up (va_up (va_up v 5 (v 5)) 6 (v 6)) 7 (v 7)) 8 (v 8)) 9 (v 9)) 10 (v 10)) 11 (v 11)) 12 (v 12)) 13 (v 13)) 14 (v 14)) 15 (v 15)) 16 0) 17 (-1)) 18 0) 19 (v 19)) 20 (v 20))) C hP hD hS mF_X3_39 (by decide) (by decide) rfl (Or.inr (gF_up (V := rwV) (F := rwF) (gF_up (V := rwV) (F := rwF) (gF_up (V := rwV) (F := rwF) (gF_up (V := rwV) (F := rwF) (gF_up (V := rwV) (F := rwF) (gF_up (V := rwV) (F := rwF) (gF_up (V := rwV) (F := rwF) (gF_up (V := rwV) (F := rwF) (gF_up (V := rwV) (F := rwF) (gR_up (V := rwV) (F := rwF) (gR_up (V := rwV) (F := rwF) (gR_up (V := rwV) (F := rwF) (gR_up (V := rwV) (F := rwF) (gR_up (V := rwV) (F := rwF) (gR_up (V := rwV) (F := rwF) (gR_up (V := rwV) (F := rwF) (gR_up (V := rwV) (F := rwF) (gR_up (V := rwV) (F := rwF) (gR_up (V := rwV) (F := rwF) (gR_up (V := rwV) (F := rwF) (gR_up (V := rwV) (F := rwF) (gR_up (V := rwV) (F := rwF) (gR_up (V := rwV) (F := rwF) (gR_up (V := rwV) (F := rwF) (gR_up (V := rwV) (F := rwF) ⟨hok.1, hok.2⟩ 5 (hP.2.1 5)) 6 (hP.2.1 6)) 7 (hP.2.1 7)) 8 (hP.2.1 8)) 9 (hP.2.1 9)) 10 (hP.2.1 10)) 11 (hP.2.1 11)) 12 (hP.2.1 12)) 13 (hP.2.1 13)) 14 (hP.2.1 14)) 15 (hP.2.1 15)) 16 (hP.2.1 16)) 17 (hP.2.1 17)) 18 (show 0 ≤ 0 ∧ 0 ≤ 1 from by decide)) 19 (hP.2.1 19)) 20 (hP.2.1 20)) 6 (hP.2.2 6)) 7 (hP.2.2 7)) 8 (hP.2.2 8)) 9 (hP.2.2 9)) 10 (hP.2.2 10)) 11 (hP.2.2 11)) 12 (hP.2.2 12)) 13 (hP.2.2 13)) 14 (hP.2.2 14))) dX3_read_12 (fun H locs hP hS => ?_)
  refine lv_aload_n hx hb dX3_read_15 rfl (lv_at hl 0 rfl) ?_
  refine lv_iconst (v := iI 0) hx hb dX3_read_16 rfl ?_
  refine rwP_reader_keysTold (v1 := (va_up (va_up (va_up (va_up (va_up (va_up (va_up (va_up (va_up (va_up (va_up (va_up (va_up (va_up (va_up (va_up v 5 (v 5)) 6 (v 6)) 7 (v 7)) 8 (v 8)) 9 (v 9)) 10 (v 10)) 11 (v 11)) 12 (v 12)) 13 (v 13)) 14 (v 14)) 15 (v 15)) 16 0) 17 (-1)) 18 0) 19 0) 20 (v 20))) C hP hD hS mF_X3_43 (by decide) (by decide) rfl (Or.inr (gF_up (V := rwV) (F := rwF) (gF_up (V := rwV) (F := rwF) (gF_up (V := rwV) (F := rwF) (gF_up (V := rwV) (F := rwF) (gF_up (V := rwV) (F := rwF) (gF_up (V := rwV) (F := rwF) (gF_up (V := rwV) (F := rwF) (gF_up (V := rwV) (F := rwF) (gF_up (V := rwV) (F := rwF) (gR_up (V := rwV) (F := rwF) (gR_up (V := rwV) (F := rwF) (gR_up (V := rwV) (F := rwF) (gR_up (V := rwV) (F := rwF) (gR_up (V := rwV) (F := rwF) (gR_up (V := rwV) (F := rwF) (gR_up (V := rwV) (F := rwF) (gR_up (V := rwV) (F := rwF) (gR_up (V := rwV) (F := rwF) (gR_up (V := rwV) (F := rwF) (gR_up (V := rwV) (F := rwF) (gR_up (V := rwV) (F := rwF) (gR_up (V := rwV) (F := rwF) (gR_up (V := rwV) (F := rwF) (gR_up (V := rwV) (F := rwF) (gR_up (V := rwV) (F := rwF) ⟨hok.1, hok.2⟩ 5 (hP.2.1 5)) 6 (hP.2.1 6)) 7 (hP.2.1 7)) 8 (hP.2.1 8)) 9 (hP.2.1 9)) 10 (hP.2.1 10)) 11 (hP.2.1 11)) 12 (hP.2.1 12)) 13 (hP.2.1 13)) 14 (hP.2.1 14)) 15 (hP.2.1 15)) 16 (hP.2.1 16)) 17 (hP.2.1 17)) 18 (hP.2.1 18)) 19 (show 0 ≤ 0 ∧ 0 ≤ 1 from by decide)) 20 (hP.2.1 20)) 6 (hP.2.2 6)) 7 (hP.2.2 7)) 8 (hP.2.2 8)) 9 (hP.2.2 9)) 10 (hP.2.2 10)) 11 (hP.2.2 11)) 12 (hP.2.2 12)) 13 (hP.2.2 13)) 14 (hP.2.2 14))) dX3_read_17 (fun H locs hP hS => ?_)
  refine lv_aload_n hx hb dX3_read_20 rfl (lv_at hl 0 rfl) ?_
  refine lv_iconst (v := iI 0) hx hb dX3_read_21 rfl ?_
  refine rwP_reader_tiesTold (v1 := (va_up (va_up (va_up (va_up (va_up (va_up (va_up (va_up (va_up (va_up (va_up (va_up (va_up (va_up (va_up (va_up v 5 (v 5)) 6 (v 6)) 7 (v 7)) 8 (v 8)) 9 (v 9)) 10 (v 10)) 11 (v 11)) 12 (v 12)) 13 (v 13)) 14 (v 14)) 15 (v 15)) 16 0) 17 (-1)) 18 0) 19 0) 20 0)) C hP hD hS mF_X3_46 (by decide) (by decide) rfl (Or.inr (gF_up (V := rwV) (F := rwF) (gF_up (V := rwV) (F := rwF) (gF_up (V := rwV) (F := rwF) (gF_up (V := rwV) (F := rwF) (gF_up (V := rwV) (F := rwF) (gF_up (V := rwV) (F := rwF) (gF_up (V := rwV) (F := rwF) (gF_up (V := rwV) (F := rwF) (gF_up (V := rwV) (F := rwF) (gR_up (V := rwV) (F := rwF) (gR_up (V := rwV) (F := rwF) (gR_up (V := rwV) (F := rwF) (gR_up (V := rwV) (F := rwF) (gR_up (V := rwV) (F := rwF) (gR_up (V := rwV) (F := rwF) (gR_up (V := rwV) (F := rwF) (gR_up (V := rwV) (F := rwF) (gR_up (V := rwV) (F := rwF) (gR_up (V := rwV) (F := rwF) (gR_up (V := rwV) (F := rwF) (gR_up (V := rwV) (F := rwF) (gR_up (V := rwV) (F := rwF) (gR_up (V := rwV) (F := rwF) (gR_up (V := rwV) (F := rwF) (gR_up (V := rwV) (F := rwF) ⟨hok.1, hok.2⟩ 5 (hP.2.1 5)) 6 (hP.2.1 6)) 7 (hP.2.1 7)) 8 (hP.2.1 8)) 9 (hP.2.1 9)) 10 (hP.2.1 10)) 11 (hP.2.1 11)) 12 (hP.2.1 12)) 13 (hP.2.1 13)) 14 (hP.2.1 14)) 15 (hP.2.1 15)) 16 (hP.2.1 16)) 17 (hP.2.1 17)) 18 (hP.2.1 18)) 19 (hP.2.1 19)) 20 (show 0 ≤ 0 ∧ 0 ≤ 1 from by decide)) 6 (hP.2.2 6)) 7 (hP.2.2 7)) 8 (hP.2.2 8)) 9 (hP.2.2 9)) 10 (hP.2.2 10)) 11 (hP.2.2 11)) 12 (hP.2.2 12)) 13 (hP.2.2 13)) 14 (hP.2.2 14))) dX3_read_22 (fun H locs hP hS => ?_)
  refine lv_aload_n hx hb dX3_read_25 rfl (lv_at hl 0 rfl) ?_
  refine rwG_reader_draft C hP mF_X3_21 dX3_read_26 ?_
  refine g_cv (As := []) (rest := []) (n := 0) C hml (c_X4_setUntold l D k A ad hD (va_up (va_up (va_up (va_up (va_up (va_up (va_up (va_up (va_up (va_up (va_up (va_up (va_up (va_up (va_up (va_up v 5 (v 5)) 6 (v 6)) 7 (v 7)) 8 (v 8)) 9 (v 9)) 10 (v 10)) 11 (v 11)) 12 (v 12)) 13 (v 13)) 14 (v 14)) 15 (v 15)) 16 0) 17 (-1)) 18 0) 19 0) 20 0) (va_up (va_up (va_up (va_up (va_up (va_up (va_up (va_up (va_up f 6 (f 6)) 7 (f 7)) 8 (f 8)) 9 (f 9)) 10 (f 10)) 11 (f 11)) 12 (f 12)) 13 (f 13)) 14 (f 14)) g) mM_X3_49 mI_X4_setUntold mE_X4_setUntold mN_X4 mC_X4_setUntold (by decide +kernel) 14 (ci := 4) rfl rfl hP hS (fun _ h => h) ⟨Nat.le_of_ble_eq_true rfl, Nat.le_of_ble_eq_true rfl⟩ ⟨Nat.zero_le _, Nat.zero_le _⟩ hl.1 rfl rfl (Nat.le_of_ble_eq_true rfl) dX3_read_29 (fun r_1 v_1 f_1 g_1 H locs hq_1 hP _ hS => ?_)
  obtain ⟨w8_1, w9_1, a10_1, a11_1, a12_1, a13_1, rfl, rfl, rfl, rfl⟩ := hq_1
  show W p l e (gRm 7 161) s m args below meth c _ _ 0 0 Q (F0 m 32 ls [])
  have hP : gWd D (rwT k ad) (va_up (va_up (va_up (va_up (va_up (va_up (va_up (va_up (va_up (va_up (va_up (va_up (va_up (va_up (va_up (va_up v 5 (v 5)) 6 (v 6)) 7 0) 8 w8_1) 9 w9_1) 10 0) 11 (v 11)) 12 (v 12)) 13 (v 13)) 14 (v 14)) 15 (v 15)) 16 0) 17 (-1)) 18 0) 19 0) 20 0) (va_up (va_up (va_up (va_up (va_up (va_up (va_up (va_up (va_up f 6 (f 6)) 7 (f 7)) 8 (f 8)) 9 (f 9)) 10 a10_1) 11 a11_1) 12 a12_1) 13 a13_1) 14 (f 14)) g H := ⟨hP.1, (gF_up (V := rwV) (F := rwF) (gF_up (V := rwV) (F := rwF) (gF_up (V := rwV) (F := rwF) (gF_up (V := rwV) (F := rwF) (gF_up (V := rwV) (F := rwF) (gF_up (V := rwV) (F := rwF) (gF_up (V := rwV) (F := rwF) (gF_up (V := rwV) (F := rwF) (gF_up (V := rwV) (F := rwF) (gR_up (V := rwV) (F := rwF) (gR_up (V := rwV) (F := rwF) (gR_up (V := rwV) (F := rwF) (gR_up (V := rwV) (F := rwF) (gR_up (V := rwV) (F := rwF) (gR_up (V := rwV) (F := rwF) (gR_up (V := rwV) (F := rwF) (gR_up (V := rwV) (F := rwF) (gR_up (V := rwV) (F := rwF) (gR_up (V := rwV) (F := rwF) (gR_up (V := rwV) (F := rwF) (gR_up (V := rwV) (F := rwF) (gR_up (V := rwV) (F := rwF) (gR_up (V := rwV) (F := rwF) (gR_up (V := rwV) (F := rwF) (gR_up (V := rwV) (F := rwF) ⟨hok.1, hok.2⟩ 5 (hP.2.1 5)) 6 (hP.2.1 6)) 7 (hP.2.1 7)) 8 (hP.2.1 8)) 9 (hP.2.1 9)) 10 (hP.2.1 10)) 11 (hP.2.1 11)) 12 (hP.2.1 12)) 13 (hP.2.1 13)) 14 (hP.2.1 14)) 15 (hP.2.1 15)) 16 (hP.2.1 16)) 17 (hP.2.1 17)) 18 (hP.2.1 18)) 19 (hP.2.1 19)) 20 (hP.2.1 20)) 6 (hP.2.2 6)) 7 (hP.2.2 7)) 8 (hP.2.2 8)) 9 (hP.2.2 9)) 10 (hP.2.2 10)) 11 (hP.2.2 11)) 12 (hP.2.2 12)) 13 (hP.2.2 13)) 14 (hP.2.2 14))⟩
  have rw8_1 : 0 ≤ w8_1 ∧ w8_1 ≤ 40 := hP.2.1 8
  have rw9_1 : 0 ≤ w9_1 ∧ w9_1 ≤ 4 := hP.2.1 9
  refine lv_aload_n hx hb dX3_read_32 rfl (lv_at hl 0 rfl) ?_
  refine rwG_reader_tokens C hP mF_X3_12 dX3_read_33 ?_
  refine lv_aload_n hx hb dX3_read_36 rfl (lv_at hl 1 rfl) ?_
  refine lv_iload_n hx hb dX3_read_37 rfl (lv_at hl 2 rfl) ?_
  refine g_cvE (As := [.ref (ad 1), .int (iI a2)]) (rest := []) (n := 2) C hE hml (c_X6_split l D k A ad hD za (va_up (va_up (va_up (va_up (va_up (va_up (va_up (va_up (va_up (va_up (va_up (va_up (va_up (va_up (va_up (va_up v 5 (v 5)) 6 (v 6)) 7 0) 8 w8_1) 9 w9_1) 10 0) 11 (v 11)) 12 (v 12)) 13 (v 13)) 14 (v 14)) 15 (v 15)) 16 0) 17 (-1)) 18 0) 19 0) 20 0) (va_up (va_up (va_up (va_up (va_up (va_up (va_up (va_up (va_up f 6 (f 6)) 7 (f 7)) 8 (f 8)) 9 (f 9)) 10 a10_1) 11 a11_1) 12 a12_1) 13 a13_1) 14 (f 14)) g a2 (by omega) (show 0 ≤ a2 ∧ a2 ≤ 700 from by omega)) mM_X3_52 mI_X6_split mE_X6_split mN_X6 mC_X6_split (by decide +kernel) 10 (ci := 6) rfl rfl hP hS (fun _ h => h) ⟨Nat.le_of_ble_eq_true rfl, Nat.le_of_ble_eq_true rfl⟩ ⟨Nat.zero_le _, Nat.zero_le _⟩ hl.1 rfl rfl (Nat.le_of_ble_eq_true rfl) dX3_read_38 (fun r_2 v_2 f_2 g_2 H locs hq_2 hP _ hS => ?_)
  obtain ⟨w6_2, w5_2, a6_2, a7_2, a8_2, rfl, rfl, rfl, rfl⟩ := hq_2
  show W p l e (gRm 7 161) s m args below meth c _ _ 0 0 Q (F0 m 41 ls [])
  have hP : gWd D (rwT k ad) (va_up (va_up (va_up (va_up (va_up (va_up (va_up (va_up (va_up (va_up (va_up (va_up (va_up (va_up (va_up (va_up v 5 w5_2) 6 w6_2) 7 0) 8 w8_1) 9 w9_1) 10 0) 11 (v 11)) 12 (v 12)) 13 (v 13)) 14 (v 14)) 15 (v 15)) 16 0) 17 (-1)) 18 0) 19 0) 20 0) (va_up (va_up (va_up (va_up (va_up (va_up (va_up (va_up (va_up f 6 a6_2) 7 a7_2) 8 a8_2) 9 (f 9)) 10 a10_1) 11 a11_1) 12 a12_1) 13 a13_1) 14 (f 14)) g H := ⟨hP.1, (gF_up (V := rwV) (F := rwF) (gF_up (V := rwV) (F := rwF) (gF_up (V := rwV) (F := rwF) (gF_up (V := rwV) (F := rwF) (gF_up (V := rwV) (F := rwF) (gF_up (V := rwV) (F := rwF) (gF_up (V := rwV) (F := rwF) (gF_up (V := rwV) (F := rwF) (gF_up (V := rwV) (F := rwF) (gR_up (V := rwV) (F := rwF) (gR_up (V := rwV) (F := rwF) (gR_up (V := rwV) (F := rwF) (gR_up (V := rwV) (F := rwF) (gR_up (V := rwV) (F := rwF) (gR_up (V := rwV) (F := rwF) (gR_up (V := rwV) (F := rwF) (gR_up (V := rwV) (F := rwF) (gR_up (V := rwV) (F := rwF) (gR_up (V := rwV) (F := rwF) (gR_up (V := rwV) (F := rwF) (gR_up (V := rwV) (F := rwF) (gR_up (V := rwV) (F := rwF) (gR_up (V := rwV) (F := rwF) (gR_up (V := rwV) (F := rwF) (gR_up (V := rwV) (F := rwF) ⟨hok.1, hok.2⟩ 5 (hP.2.1 5)) 6 (hP.2.1 6)) 7 (hP.2.1 7)) 8 (hP.2.1 8)) 9 (hP.2.1 9)) 10 (hP.2.1 10)) 11 (hP.2.1 11)) 12 (hP.2.1 12)) 13 (hP.2.1 13)) 14 (hP.2.1 14)) 15 (hP.2.1 15)) 16 (hP.2.1 16)) 17 (hP.2.1 17)) 18 (hP.2.1 18)) 19 (hP.2.1 19)) 20 (hP.2.1 20)) 6 (hP.2.2 6)) 7 (hP.2.2 7)) 8 (hP.2.2 8)) 9 (hP.2.2 9)) 10 (hP.2.2 10)) 11 (hP.2.2 11)) 12 (hP.2.2 12)) 13 (hP.2.2 13)) 14 (hP.2.2 14))⟩
  have rw6_2 : 0 ≤ w6_2 ∧ w6_2 ≤ 700 := hP.2.1 6
  have rw5_2 : 0 ≤ w5_2 ∧ w5_2 ≤ 701 := hP.2.1 5
  refine lv_iconst (v := iI 0) hx hb dX3_read_41 rfl ?_
  refine lv_istore_n (lv' := [(3, .int (iI 0)), (0, .ref (ad 9)), (1, .ref (ad 1)), (2, .int (iI a2))]) hx hb dX3_read_42 rfl hl (by decide) rfl (fun ls hl => ?_)
  have L_3 : ∀ (n : Nat) (x3 : Int) (y6_3 : Int) (y7_3 : Int) (y8_3 : Int) (y9_3 : Int) (y10_3 : Int) (y11_3 : Int) (y12_3 : Int) (y13_3 : Int) (y14_3 : Int) (y15_3 : Int) (y16_3 : Int) (y17_3 : Int) (y18_3 : Int) (y19_3 : Int) (y20_3 : Int) (c9_3 : Int → Int) (c10_3 : Int → Int) (c11_3 : Int → Int) (c12_3 : Int → Int) (c13_3 : Int → Int) (c14_3 : Int → Int) (H : Heap) (locs : List Loc) (ls : Array Slot), 701 - x3 < (n : Int) → (0 ≤ x3 ∧ x3 ≤ 701) → (y16_3 = 0 → shOk y7_3 c9_3) → gWd D (rwT k ad) (va_up (va_up (va_up (va_up (va_up (va_up (va_up (va_up (va_up (va_up (va_up (va_up (va_up (va_up (va_up (va_up v 5 w5_2) 6 y6_3) 7 y7_3) 8 y8_3) 9 y9_3) 10 y10_3) 11 y11_3) 12 y12_3) 13 y13_3) 14 y14_3) 15 y15_3) 16 y16_3) 17 y17_3) 18 y18_3) 19 y19_3) 20 y20_3) (va_up (va_up (va_up (va_up (va_up (va_up (va_up (va_up (va_up f 6 a6_2) 7 a7_2) 8 a8_2) 9 c9_3) 10 c10_3) 11 c11_3) 12 c12_3) 13 c13_3) 14 c14_3) g H → va_S A s.heap H locs → lv_has ls 4 [(0, .ref (ad 9)), (1, .ref (ad 1)), (2, .int (iI a2)), (3, .int (iI x3))] → W p l e (gRm 7 161) s m args below meth c H locs 0 0 Q (F0 m 43 ls []) := by
    intro n
    induction n with
    | zero =>
      intro x3 y6_3 y7_3 y8_3 y9_3 y10_3 y11_3 y12_3 y13_3 y14_3 y15_3 y16_3 y17_3 y18_3 y19_3 y20_3 c9_3 c10_3 c11_3 c12_3 c13_3 c14_3 H locs ls hn_3 i3_0 i3_1 hP hS hl
      have ry6_3 : 0 ≤ y6_3 ∧ y6_3 ≤ 700 := hP.2.1 6
      have ry7_3 : 0 ≤ y7_3 ∧ y7_3 ≤ 4 := hP.2.1 7
      have ry8_3 : 0 ≤ y8_3 ∧ y8_3 ≤ 40 := hP.2.1 8
      have ry9_3 : 0 ≤ y9_3 ∧ y9_3 ≤ 4 := hP.2.1 9
      have ry10_3 : 0 ≤ y10_3 ∧ y10_3 ≤ 1 := hP.2.1 10
      have ry11_3 : 0 ≤ y11_3 ∧ y11_3 ≤ 27 := hP.2.1 11
      have ry12_3 : (-2147483648) ≤ y12_3 ∧ y12_3 ≤ 2147483647 := hP.2.1 12
      have ry13_3 : (-2147483648) ≤ y13_3 ∧ y13_3 ≤ 2147483647 := hP.2.1 13
      have ry14_3 : (-2147483648) ≤ y14_3 ∧ y14_3 ≤ 2147483647 := hP.2.1 14
      have ry15_3 : 0 ≤ y15_3 ∧ y15_3 ≤ 5 := hP.2.1 15
      have ry16_3 : 0 ≤ y16_3 ∧ y16_3 ≤ 5 := hP.2.1 16
      have ry17_3 : (-1) ≤ y17_3 ∧ y17_3 ≤ 700 := hP.2.1 17
      have ry18_3 : 0 ≤ y18_3 ∧ y18_3 ≤ 1 := hP.2.1 18
      have ry19_3 : 0 ≤ y19_3 ∧ y19_3 ≤ 1 := hP.2.1 19
      have ry20_3 : 0 ≤ y20_3 ∧ y20_3 ≤ 1 := hP.2.1 20
      exfalso; omega
    | succ n ih_43 =>
      intro x3 y6_3 y7_3 y8_3 y9_3 y10_3 y11_3 y12_3 y13_3 y14_3 y15_3 y16_3 y17_3 y18_3 y19_3 y20_3 c9_3 c10_3 c11_3 c12_3 c13_3 c14_3 H locs ls hn_3 i3_0 i3_1 hP hS hl
      have ry6_3 : 0 ≤ y6_3 ∧ y6_3 ≤ 700 := hP.2.1 6
      have ry7_3 : 0 ≤ y7_3 ∧ y7_3 ≤ 4 := hP.2.1 7
      have ry8_3 : 0 ≤ y8_3 ∧ y8_3 ≤ 40 := hP.2.1 8
      have ry9_3 : 0 ≤ y9_3 ∧ y9_3 ≤ 4 := hP.2.1 9
      have ry10_3 : 0 ≤ y10_3 ∧ y10_3 ≤ 1 := hP.2.1 10
      have ry11_3 : 0 ≤ y11_3 ∧ y11_3 ≤ 27 := hP.2.1 11
      have ry12_3 : (-2147483648) ≤ y12_3 ∧ y12_3 ≤ 2147483647 := hP.2.1 12
      have ry13_3 : (-2147483648) ≤ y13_3 ∧ y13_3 ≤ 2147483647 := hP.2.1 13
      have ry14_3 : (-2147483648) ≤ y14_3 ∧ y14_3 ≤ 2147483647 := hP.2.1 14
      have ry15_3 : 0 ≤ y15_3 ∧ y15_3 ≤ 5 := hP.2.1 15
      have ry16_3 : 0 ≤ y16_3 ∧ y16_3 ≤ 5 := hP.2.1 16
      have ry17_3 : (-1) ≤ y17_3 ∧ y17_3 ≤ 700 := hP.2.1 17
      have ry18_3 : 0 ≤ y18_3 ∧ y18_3 ≤ 1 := hP.2.1 18
      have ry19_3 : 0 ≤ y19_3 ∧ y19_3 ≤ 1 := hP.2.1 19
      have ry20_3 : 0 ≤ y20_3 ∧ y20_3 ≤ 1 := hP.2.1 20
      have hI := i3_1
      refine lv_iload_n hx hb dX3_read_43 rfl (lv_at hl 3 rfl) ?_
      refine lv_sipush (v := iI 700) hx hb dX3_read_44 (by decide) ?_
      refine gi_cgt (tgt := 80) hx hb dX3_read_47 (by decide) (by omega) (by decide) (fun c_4 => ?_) (fun c_4 => ?_)
      · exact g_vret hQ C hr hlocks hP hS dX3_read_80 ⟨w5_2, y6_3, y7_3, y8_3, y9_3, y10_3, y11_3, y12_3, y13_3, y14_3, y15_3, y16_3, y17_3, y18_3, y19_3, y20_3, a6_2, a7_2, a8_2, c9_3, c10_3, c11_3, c12_3, c13_3, c14_3, rfl, rfl, rfl, rfl, hI⟩
      · refine lv_aload_n hx hb dX3_read_50 rfl (lv_at hl 0 rfl) ?_
        refine rwG_reader_fault C hP mF_X3_32 dX3_read_51 ?_
        show W p l e (gRm 7 161) s m args below meth c _ _ 0 0 Q (F0 m 54 ls [.int (iI y16_3)])
        have r_5 : 0 ≤ y16_3 ∧ y16_3 ≤ 5 := hP.2.1 16
        refine gi_zne (tgt := 80) hx hb dX3_read_54 (by decide) (by omega) (fun c_6 => ?_) (fun c_6 => ?_)
        · exact g_vret hQ C hr hlocks hP hS dX3_read_80 ⟨w5_2, y6_3, y7_3, y8_3, y9_3, y10_3, y11_3, y12_3, y13_3, y14_3, y15_3, y16_3, y17_3, y18_3, y19_3, y20_3, a6_2, a7_2, a8_2, c9_3, c10_3, c11_3, c12_3, c13_3, c14_3, rfl, rfl, rfl, rfl, hI⟩
        · refine lv_aload_n hx hb dX3_read_57 rfl (lv_at hl 0 rfl) ?_
          refine rwG_reader_tokens C hP mF_X3_12 dX3_read_58 ?_
          refine g_cv (As := []) (rest := []) (n := 0) C hml (c_X6_kind l D k A ad hD (va_up (va_up (va_up (va_up (va_up (va_up (va_up (va_up (va_up (va_up (va_up (va_up (va_up (va_up (va_up (va_up v 5 w5_2) 6 y6_3) 7 y7_3) 8 y8_3) 9 y9_3) 10 y10_3) 11 y11_3) 12 y12_3) 13 y13_3) 14 y14_3) 15 y15_3) 16 y16_3) 17 y17_3) 18 y18_3) 19 y19_3) 20 y20_3) (va_up (va_up (va_up (va_up (va_up (va_up (va_up (va_up (va_up f 6 a6_2) 7 a7_2) 8 a8_2) 9 c9_3) 10 c10_3) 11 c11_3) 12 c12_3) 13 c13_3) 14 c14_3) g) mM_X3_56 mI_X6_kind mE_X6_kind mN_X6 mC_X6_kind (by decide +kernel) 10 (ci := 6) rfl rfl hP hS (fun _ h => h) ⟨Nat.le_of_ble_eq_true rfl, Nat.le_of_ble_eq_true rfl⟩ ⟨Nat.zero_le _, Nat.zero_le _⟩ hl.1 rfl rfl (Nat.le_of_ble_eq_true rfl) dX3_read_61 (fun r_7 v_7 f_7 g_7 H locs hq_7 hP _ hS => ?_)
          obtain ⟨z_7, rfl, rfl, rfl, rfl, p0_7, p1_7⟩ := hq_7
          show W p l e (gRm 7 161) s m args below meth c _ _ 0 0 Q (F0 m 64 ls [.int (iI z_7)])
          replace p0_7 : z_7 = (a6_2 y6_3) := p0_7
          replace p1_7 : 0 ≤ z_7 ∧ z_7 ≤ 300 := p1_7
          have hz_7 : inR z_7 := (by first | omega | (rw [p0_7]; split <;> omega))
          refine lv_sipush (v := iI 256) hx hb dX3_read_64 (by decide) ?_
          refine gi_ceq (tgt := 80) hx hb dX3_read_67 (by decide) (by omega) (by decide) (fun c_8 => ?_) (fun c_8 => ?_)
          · exact g_vret hQ C hr hlocks hP hS dX3_read_80 ⟨w5_2, y6_3, y7_3, y8_3, y9_3, y10_3, y11_3, y12_3, y13_3, y14_3, y15_3, y16_3, y17_3, y18_3, y19_3, y20_3, a6_2, a7_2, a8_2, c9_3, c10_3, c11_3, c12_3, c13_3, c14_3, rfl, rfl, rfl, rfl, hI⟩
          · refine lv_aload_n hx hb dX3_read_70 rfl (lv_at hl 0 rfl) ?_
            refine g_cvE (As := []) (rest := []) (n := 0) C hE hml (c_X3_readLaw l D k A ad hD za (va_up (va_up (va_up (va_up (va_up (va_up (va_up (va_up (va_up (va_up (va_up (va_up (va_up (va_up (va_up (va_up v 5 w5_2) 6 y6_3) 7 y7_3) 8 y8_3) 9 y9_3) 10 y10_3) 11 y11_3) 12 y12_3) 13 y13_3) 14 y14_3) 15 y15_3) 16 y16_3) 17 y17_3) 18 y18_3) 19 y19_3) 20 y20_3) (va_up (va_up (va_up (va_up (va_up (va_up (va_up (va_up (va_up f 6 a6_2) 7 a7_2) 8 a8_2) 9 c9_3) 10 c10_3) 11 c11_3) 12 c12_3) 13 c13_3) 14 c14_3) g (show y16_3 = 0 → shOk y7_3 c9_3 from hI)) mM_X3_60 mI_X3_readLaw mE_X3_readLaw mN_X3 mC_X3_readLaw (by decide +kernel) 9 (ci := 3) rfl rfl hP hS (fun _ h => h) ⟨Nat.le_of_ble_eq_true rfl, Nat.le_of_ble_eq_true rfl⟩ ⟨Nat.zero_le _, Nat.zero_le _⟩ hl.1 rfl rfl (Nat.le_of_ble_eq_true rfl) dX3_read_71 (fun r_9 v_9 f_9 g_9 H locs hq_9 hP _ hS => ?_)
            obtain ⟨w6_9, w7_9, w8_9, w9_9, w10_9, w11_9, w12_9, w13_9, w14_9, w15_9, w16_9, w17_9, w18_9, w19_9, w20_9, a9_9, a10_9, a11_9, a12_9, a13_9, a14_9, rfl, rfl, rfl, rfl, p0_9⟩ := hq_9
            show W p l e (gRm 7 161) s m args below meth c _ _ 0 0 Q (F0 m 74 ls [])
            have hP : gWd D (rwT k ad) (va_up (va_up (va_up (va_up (va_up (va_up (va_up (va_up (va_up (va_up (va_up (va_up (va_up (va_up (va_up (va_up v 5 w5_2) 6 w6_9) 7 w7_9) 8 w8_9) 9 w9_9) 10 w10_9) 11 w11_9) 12 w12_9) 13 w13_9) 14 w14_9) 15 w15_9) 16 w16_9) 17 w17_9) 18 w18_9) 19 w19_9) 20 w20_9) (va_up (va_up (va_up (va_up (va_up (va_up (va_up (va_up (va_up f 6 a6_2) 7 a7_2) 8 a8_2) 9 a9_9) 10 a10_9) 11 a11_9) 12 a12_9) 13 a13_9) 14 a14_9) g H := ⟨hP.1, (gF_up (V := rwV) (F := rwF) (gF_up (V := rwV) (F := rwF) (gF_up (V := rwV) (F := rwF) (gF_up (V := rwV) (F := rwF) (gF_up (V := rwV) (F := rwF) (gF_up (V := rwV) (F := rwF) (gF_up (V := rwV) (F := rwF) (gF_up (V := rwV) (F := rwF) (gF_up (V := rwV) (F := rwF) (gR_up (V := rwV) (F := rwF) (gR_up (V := rwV) (F := rwF) (gR_up (V := rwV) (F := rwF) (gR_up (V := rwV) (F := rwF) (gR_up (V := rwV) (F := rwF) (gR_up (V := rwV) (F := rwF) (gR_up (V := rwV) (F := rwF) (gR_up (V := rwV) (F := rwF) (gR_up (V := rwV) (F := rwF) (gR_up (V := rwV) (F := rwF) (gR_up (V := rwV) (F := rwF) (gR_up (V := rwV) (F := rwF) (gR_up (V := rwV) (F := rwF) (gR_up (V := rwV) (F := rwF) (gR_up (V := rwV) (F := rwF) (gR_up (V := rwV) (F := rwF) ⟨hok.1, hok.2⟩ 5 (hP.2.1 5)) 6 (hP.2.1 6)) 7 (hP.2.1 7)) 8 (hP.2.1 8)) 9 (hP.2.1 9)) 10 (hP.2.1 10)) 11 (hP.2.1 11)) 12 (hP.2.1 12)) 13 (hP.2.1 13)) 14 (hP.2.1 14)) 15 (hP.2.1 15)) 16 (hP.2.1 16)) 17 (hP.2.1 17)) 18 (hP.2.1 18)) 19 (hP.2.1 19)) 20 (hP.2.1 20)) 6 (hP.2.2 6)) 7 (hP.2.2 7)) 8 (hP.2.2 8)) 9 (hP.2.2 9)) 10 (hP.2.2 10)) 11 (hP.2.2 11)) 12 (hP.2.2 12)) 13 (hP.2.2 13)) 14 (hP.2.2 14))⟩
            replace p0_9 : w16_9 = 0 → shOk w7_9 a9_9 := p0_9
            have rw6_9 : 0 ≤ w6_9 ∧ w6_9 ≤ 700 := hP.2.1 6
            have rw7_9 : 0 ≤ w7_9 ∧ w7_9 ≤ 4 := hP.2.1 7
            have rw8_9 : 0 ≤ w8_9 ∧ w8_9 ≤ 40 := hP.2.1 8
            have rw9_9 : 0 ≤ w9_9 ∧ w9_9 ≤ 4 := hP.2.1 9
            have rw10_9 : 0 ≤ w10_9 ∧ w10_9 ≤ 1 := hP.2.1 10
            have rw11_9 : 0 ≤ w11_9 ∧ w11_9 ≤ 27 := hP.2.1 11
            have rw12_9 : (-2147483648) ≤ w12_9 ∧ w12_9 ≤ 2147483647 := hP.2.1 12
            have rw13_9 : (-2147483648) ≤ w13_9 ∧ w13_9 ≤ 2147483647 := hP.2.1 13
            have rw14_9 : (-2147483648) ≤ w14_9 ∧ w14_9 ≤ 2147483647 := hP.2.1 14
            have rw15_9 : 0 ≤ w15_9 ∧ w15_9 ≤ 5 := hP.2.1 15
            have rw16_9 : 0 ≤ w16_9 ∧ w16_9 ≤ 5 := hP.2.1 16
            have rw17_9 : (-1) ≤ w17_9 ∧ w17_9 ≤ 700 := hP.2.1 17
            have rw18_9 : 0 ≤ w18_9 ∧ w18_9 ≤ 1 := hP.2.1 18
            have rw19_9 : 0 ≤ w19_9 ∧ w19_9 ≤ 1 := hP.2.1 19
            have rw20_9 : 0 ≤ w20_9 ∧ w20_9 ≤ 1 := hP.2.1 20
            have hL := p0_9
            refine lv_iinc (v := iI (x3 + 1)) (lv' := [(3, .int (iI (x3 + 1))), (0, .ref (ad 9)), (1, .ref (ad 1)), (2, .int (iI a2))]) hx hb dX3_read_74 hl (k := 3) rfl (by show iI _ + iI 1 = _; rw [iI_add]) (by decide) rfl (fun ls hl => ?_)
            refine lv_goto (tgt := 43) hx hb dX3_read_77 (by decide) ?_
            exact ih_43 (x3 + 1) w6_9 w7_9 w8_9 w9_9 w10_9 w11_9 w12_9 w13_9 w14_9 w15_9 w16_9 w17_9 w18_9 w19_9 w20_9 a9_9 a10_9 a11_9 a12_9 a13_9 a14_9 _ _ _ (by omega) (by omega) hL hP hS (lv_sub hl [1, 2, 3, 0] rfl)
  exact L_3 702 0 w6_2 0 w8_1 w9_1 0 (v 11) (v 12) (v 13) (v 14) (v 15) 0 (-1) 0 0 0 (f 9) a10_1 a11_1 a12_1 a13_1 (f 14) _ _ _ (by omega) (by omega) (fun _ => sh00) hP hS (lv_sub hl [1, 2, 3, 0] rfl)
