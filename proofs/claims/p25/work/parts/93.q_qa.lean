section
/-! what a text tells: numbers of a round, keys, ties, by the places of their words -/
def tXi (B : Int → Int) (n : Int) : Nat → Int → Int
  | 0, p => p
  | k + 1, p => tX B n (tXi B n k p)
def kyP (B : Int → Int) (n : Int) : Nat → Int → Int
  | 0, p => p
  | k + 1, p => tX B n (tX B n (tX B n (kyP B n k p)))
def kyN (B : Int → Int) (n : Int) : Nat → Int → Int
  | 0, _ => 0
  | k + 1, p => if tK B n (tX B n (tX B n p)) = 44 then 1 + kyN B n k (tX B n (tX B n (tX B n p))) else 1
theorem tXi_s {B : Int → Int} {n x p : Int} (h : 0 ≤ x) : tXi B n (x + 1).toNat p = tX B n (tXi B n x.toNat p) := by
  obtain ⟨j, rfl⟩ : ∃ j : Nat, x = (j : Int) := ⟨x.toNat, by omega⟩
  rw [show ((j : Int) + 1).toNat = j + 1 by omega, show ((j : Int)).toNat = j by omega]
  rfl
theorem kyP_s {B : Int → Int} {n x p : Int} (h : 0 ≤ x) : kyP B n (x + 1).toNat p = tX B n (tX B n (tX B n (kyP B n x.toNat p))) := by
  obtain ⟨j, rfl⟩ : ∃ j : Nat, x = (j : Int) := ⟨x.toNat, by omega⟩
  rw [show ((j : Int) + 1).toNat = j + 1 by omega, show ((j : Int)).toNat = j by omega]
  rfl
theorem kyN_go {B : Int → Int} {n x p : Int} (h : x < 4) (hk : tK B n (tX B n (tX B n p)) = 44) : kyN B n (4 - x).toNat p = 1 + kyN B n (4 - (x + 1)).toNat (tX B n (tX B n (tX B n p))) := by
  rw [show (4 - x).toNat = (4 - (x + 1)).toNat + 1 by omega]
  conv => lhs; unfold kyN
  rw [if_pos hk]
theorem kyN_end {B : Int → Int} {n x p : Int} (h : x < 4) (hk : tK B n (tX B n (tX B n p)) ≠ 44) : kyN B n (4 - x).toNat p = 1 := by
  rw [show (4 - x).toNat = (4 - (x + 1)).toNat + 1 by omega]
  unfold kyN
  rw [if_neg hk]
def shC (B : Int → Int) (n p : Int) (sh : Int → Int) (r : Int) : Prop := ∀ i, 0 ≤ i → i < 4 → sh (r * 4 + i) = tV B n (tXi B n i.toNat p)
def kyC (B : Int → Int) (n p : Int) (kk kd : Int → Int) (m : Int) : Prop := ∀ j, 0 ≤ j → j < m → kk j = tK B n (tX B n (kyP B n j.toNat p)) - 268 ∧ kd j = (if tK B n (kyP B n j.toNat p) = 267 then 1 else 0)
theorem kyC_put {B : Int → Int} {n p x a b : Int} {kk kd : Int → Int} (h : kyC B n p kk kd x) (h0 : 0 ≤ x) (ha : a = tK B n (tX B n (kyP B n x.toNat p)) - 268) (hb : b = (if tK B n (kyP B n x.toNat p) = 267 then 1 else 0)) : kyC B n p (u1 kk x a) (u1 kd x b) (x + 1) := fun j j0 j1 => by
  by_cases e : j = x
  · rw [e, u1_s, u1_s]; exact ⟨ha, hb⟩
  · rw [u1_n e, u1_n e]; exact h j j0 (by omega)
theorem ky1_ok {B : Int → Int} {n c p : Int} (h : (ky1 B n c p).1 = 0) : (ky1 B n c p).2 = tX B n (tX B n p) ∧ (tK B n p = 266 ∨ tK B n p = 267) ∧ (268 ≤ tK B n (tX B n p) ∧ tK B n (tX B n p) ≤ 271) := by
  have hf := fk_rng B n p
  have hf2 := fk_rng B n (tX B n p)
  by_cases h1 : tK B n p ≠ 266 ∧ tK B n p ≠ 267
  · rw [ky1_a h1] at h; have h : fk B n p = 0 := h; omega
  · by_cases h2 : 4 ≤ c
    · rw [ky1_b (by omega) h2] at h; have h : (3 : Int) = 0 := h; exact absurd h (by decide)
    · by_cases h3 : tK B n (tX B n p) < 268 ∨ 271 < tK B n (tX B n p)
      · rw [ky1_c (by omega) (by omega) h3] at h; have h : fk B n (tX B n p) = 0 := h; omega
      · rw [ky1_d (by omega) (by omega) (by omega)]
        exact ⟨rfl, by omega, by omega⟩
end

section
set_option maxHeartbeats 4000000 in
set_option maxRecDepth 100000 in
theorem q_e_La_readRound (l : Launch) (D : va_G) (k : Nat → ClassId) (A : Nat → Prop) (ad : Nat → Nat) (hD : rwD A k ad) (za : Nat → Nat) (v : gV) (f g : gF) (nn : Int) (pp : Int) (hc : tAt (f 0) nn (f 6) (f 7) (f 8) (v 5) (v 6) pp) (hf : (v 16) = 0) (hk : (tK (f 0) nn pp) ≠ 256 ∧ (tK (f 0) nn pp) ≠ 257) (hd : shOk (v 7) (f 9)) : GE l D k za A (rwT k ad) yX3_readRound cX3_readRound 3 none 4 82 [.ref (ad 9)] v f g (fun r v1 f1 g1 => ∃ (w6 : Int) (w7 : Int) (w16 : Int) (w17 : Int) (a9_ : Int → Int), r = none ∧ (va_up (va_up (va_up (va_up v 6 w6) 7 w7) 16 w16) 17 w17) = v1 ∧ (va_up f 9 a9_) = f1 ∧ g = g1 ∧ (oX (f 0) nn (f 6) (f 7) (f 8) (v 5) (if 4 ≤ (v 7) then ((3 : Int), pp) else rnd (f 0) nn 4 0 (tX (f 0) nn pp)) w16 w17 (v 17) w6) ∧ (w16 = 0 → w7 = (v 7) + 1) ∧ (w16 = 0 → shOk w7 a9_) ∧ (w16 = 0 → shC (f 0) nn (tX (f 0) nn pp) a9_ (v 7)) ∧ (∀ e, e < (v 7) * 4 → a9_ e = (f 9) e)) := by
  refine GE.of (by decide) (Nat.le_of_ble_eq_true rfl) ?_
  intro p e s m args below meth c Q ls hQ C hml hr hlocks hP hl hE
  have hx := C.1
  have hb := C.2.1
  have hok := hP.2
  have hS : va_S A s.heap s.heap [] := va_S.rf
  have hl : lv_has ls 3 [(0, .ref (ad 9))] := hl
  have hP : gWd D (rwT k ad) (va_up (va_up (va_up (va_up v 6 (v 6)) 7 (v 7)) 16 (v 16)) 17 (v 17)) (va_up f 9 (f 9)) g s.heap := by rw [va_id, va_id, va_id, va_id, va_id]; exact hP
  have r_1 : 0 ≤ (v 7) ∧ (v 7) ≤ 4 := hok.1 7
  have r_2 : 0 ≤ (v 16) ∧ (v 16) ≤ 5 := hok.1 16
  refine lv_aload_n hx hb dX3_readRound_0 rfl (lv_at hl 0 rfl) ?_
  refine rwG_reader_draft C hP mF_X3_21 dX3_readRound_1 ?_
  refine rwG_reader_draft_rounds C hP mF_X3_100 dX3_readRound_4 ?_
  show W p l e (gRm 4 82) s m args below meth c _ _ 0 0 Q (F0 m 7 ls [.int (iI (v 7))])
  refine lv_istore_n (lv' := [(1, .int (iI (v 7))), (0, .ref (ad 9))]) hx hb dX3_readRound_7 rfl hl (by decide) rfl (fun ls hl => ?_)
  refine lv_aload_n hx hb dX3_readRound_8 rfl (lv_at hl 1 rfl) ?_
  refine lv_iload_n hx hb dX3_readRound_9 rfl (lv_at hl 0 rfl) ?_
  refine lv_iconst (v := iI 4) hx hb dX3_readRound_10 rfl ?_
  refine gi_clt (tgt := 18) hx hb dX3_readRound_11 (by decide) (by omega) (by decide) (fun c_3 => ?_) (fun c_3 => ?_)
  · refine lv_iconst (v := iI 0) hx hb dX3_readRound_18 rfl ?_
    refine lv_iconst (v := iI 3) hx hb dX3_readRound_19 rfl ?_
    refine g_cv (As := [.int (iI 0), .int (iI 3)]) (rest := []) (n := 2) C hml (e_La_refuseIf l D k A ad hD (va_up (va_up (va_up (va_up v 6 (v 6)) 7 (v 7)) 16 (v 16)) 17 (v 17)) (va_up f 9 (f 9)) g 0 3 nn pp (by decide) (by decide) (show tAt (f 0) nn (f 6) (f 7) (f 8) (v 5) (v 6) pp from hc) (show 1 ≤ (3 : Int) ∧ (3 : Int) ≤ 5 from by omega)) mM_X3_66 mI_X3_refuseIf mE_X3_refuseIf mN_X3 mC_X3_refuseIf (by decide +kernel) 9 (ci := 3) rfl rfl hP hS (fun _ h => h) ⟨Nat.le_of_ble_eq_true rfl, Nat.le_of_ble_eq_true rfl⟩ ⟨Nat.zero_le _, Nat.zero_le _⟩ hl.1 rfl rfl (Nat.le_of_ble_eq_true rfl) dX3_readRound_20 (fun r_4 v_4 f_4 g_4 H locs hq_4 hP _ hS => ?_)
    obtain ⟨w16_4, w17_4, rfl, rfl, rfl, rfl, p0_4, p1_4⟩ := hq_4
    show W p l e (gRm 4 82) s m args below meth c _ _ 0 0 Q (F0 m 23 ls [])
    have hP : gWd D (rwT k ad) (va_up (va_up (va_up (va_up v 6 (v 6)) 7 (v 7)) 16 w16_4) 17 w17_4) (va_up f 9 (f 9)) g H := ⟨hP.1, (gF_up (V := rwV) (F := rwF) (gR_up (V := rwV) (F := rwF) (gR_up (V := rwV) (F := rwF) (gR_up (V := rwV) (F := rwF) (gR_up (V := rwV) (F := rwF) ⟨hok.1, hok.2⟩ 6 (hP.2.1 6)) 7 (hP.2.1 7)) 16 (hP.2.1 16)) 17 (hP.2.1 17)) 9 (hP.2.2 9))⟩
    replace p0_4 : (0 : Int) = 0 ∨ (v 16) ≠ 0 → w16_4 = (v 16) ∧ w17_4 = (v 17) := p0_4
    replace p1_4 : (0 : Int) ≠ 0 → (v 16) = 0 → w16_4 = (3 : Int) ∧ w17_4 = pp := p1_4
    have rw16_4 : 0 ≤ w16_4 ∧ w16_4 ≤ 5 := hP.2.1 16
    have rw17_4 : (-1) ≤ w17_4 ∧ w17_4 ≤ 700 := hP.2.1 17
    first | replace p0_4 := p0_4 (by omega) | clear p0_4
    first | replace p1_4 := p1_4 (by omega) (by omega) | clear p1_4
    refine lv_aload_n hx hb dX3_readRound_23 rfl (lv_at hl 1 rfl) ?_
    refine g_cv (As := []) (rest := []) (n := 0) C hml (e_La_goOn l D k A ad hD (va_up (va_up (va_up (va_up v 6 (v 6)) 7 (v 7)) 16 w16_4) 17 w17_4) (va_up f 9 (f 9)) g nn pp (show tAt (f 0) nn (f 6) (f 7) (f 8) (v 5) (v 6) pp from hc)) mM_X3_70 mI_X3_goOn mE_X3_goOn mN_X3 mC_X3_goOn (by decide +kernel) 9 (ci := 3) rfl rfl hP hS (fun _ h => h) ⟨Nat.le_of_ble_eq_true rfl, Nat.le_of_ble_eq_true rfl⟩ ⟨Nat.zero_le _, Nat.zero_le _⟩ hl.1 rfl rfl (Nat.le_of_ble_eq_true rfl) dX3_readRound_24 (fun r_5 v_5 f_5 g_5 H locs hq_5 hP _ hS => ?_)
    obtain ⟨z_5, w6_5, rfl, rfl, rfl, rfl, p0_5, p1_5, p2_5, p3_5⟩ := hq_5
    show W p l e (gRm 4 82) s m args below meth c _ _ 0 0 Q (F0 m 27 ls [.int (iI z_5)])
    have hP : gWd D (rwT k ad) (va_up (va_up (va_up (va_up v 6 w6_5) 7 (v 7)) 16 w16_4) 17 w17_4) (va_up f 9 (f 9)) g H := ⟨hP.1, (gF_up (V := rwV) (F := rwF) (gR_up (V := rwV) (F := rwF) (gR_up (V := rwV) (F := rwF) (gR_up (V := rwV) (F := rwF) (gR_up (V := rwV) (F := rwF) ⟨hok.1, hok.2⟩ 6 (hP.2.1 6)) 7 (hP.2.1 7)) 16 (hP.2.1 16)) 17 (hP.2.1 17)) 9 (hP.2.2 9))⟩
    replace p0_5 : 0 ≤ z_5 ∧ z_5 ≤ 1 := p0_5
    replace p1_5 : z_5 = 1 ↔ w16_4 = 0 := p1_5
    replace p2_5 : w16_4 ≠ 0 → w6_5 = (v 6) := p2_5
    replace p3_5 : w16_4 = 0 → (tK (f 0) nn pp) ≠ 256 → (tK (f 0) nn pp) ≠ 257 → tAt (f 0) nn (f 6) (f 7) (f 8) (v 5) w6_5 (tX (f 0) nn pp) := p3_5
    have rw6_5 : 0 ≤ w6_5 ∧ w6_5 ≤ 700 := hP.2.1 6
    first | replace p2_5 := p2_5 (by omega) | clear p2_5
    try have hc2 := p3_5 (by omega) (by omega) (by omega)
    clear p3_5
    refine gi_zne (tgt := 31) hx hb dX3_readRound_27 (by decide) (by omega) (fun c_6 => ?_) (fun c_6 => ?_)
    · have v_5 := p1_5.mp (show z_5 = 1 by omega)
      clear p1_5
      have hn_ : (v 7) ≤ 3 ∧ w16_4 = 0 := by omega
      refine lv_iconst (v := iI 0) hx hb dX3_readRound_31 rfl ?_
      refine lv_istore_n (lv' := [(2, .int (iI 0)), (1, .int (iI (v 7))), (0, .ref (ad 9))]) hx hb dX3_readRound_32 rfl hl (by decide) rfl (fun ls hl => ?_)
      have L_7 : ∀ (n : Nat) (x2 : Int) (qq : Int) (y6_7 : Int) (y16_7 : Int) (y17_7 : Int) (c9_7 : Int → Int) (H : Heap) (locs : List Loc) (ls : Array Slot), 4 - x2 < (n : Int) → (0 ≤ x2 ∧ x2 ≤ 4) → (tAt (f 0) nn (f 6) (f 7) (f 8) (v 5) y6_7 qq) → (y16_7 = 0 → y17_7 = (v 17)) → (y16_7 = 0 → rnd (f 0) nn (4 - x2).toNat x2 qq = (rnd (f 0) nn 4 0 (tX (f 0) nn pp))) → (y16_7 ≠ 0 → oX (f 0) nn (f 6) (f 7) (f 8) (v 5) (rnd (f 0) nn 4 0 (tX (f 0) nn pp)) y16_7 y17_7 (v 17) y6_7) → (y16_7 = 0 → shOk (v 7) c9_7 ∧ shPart (v 7) c9_7 x2) → (y16_7 = 0 → qq = tXi (f 0) nn x2.toNat (tX (f 0) nn pp)) → (y16_7 = 0 → ∀ i, 0 ≤ i → i < x2 → c9_7 ((v 7) * 4 + i) = tV (f 0) nn (tXi (f 0) nn i.toNat (tX (f 0) nn pp))) → (∀ e, e < (v 7) * 4 → c9_7 e = (f 9) e) → gWd D (rwT k ad) (va_up (va_up (va_up (va_up v 6 y6_7) 7 (v 7)) 16 y16_7) 17 y17_7) (va_up f 9 c9_7) g H → va_S A s.heap H locs → lv_has ls 3 [(0, .ref (ad 9)), (1, .int (iI (v 7))), (2, .int (iI x2))] → W p l e (gRm 4 82) s m args below meth c H locs 0 0 Q (F0 m 33 ls []) := by
        intro n
        induction n with
        | zero =>
          intro x2 qq y6_7 y16_7 y17_7 c9_7 H locs ls hn_7 i7_0 i7_1 i7_2 i7_3 i7_4 i7_5 i7_6 i7_7 i7_8 hP hS hl
          have ry6_7 : 0 ≤ y6_7 ∧ y6_7 ≤ 700 := hP.2.1 6
          have ry16_7 : 0 ≤ y16_7 ∧ y16_7 ≤ 5 := hP.2.1 16
          have ry17_7 : (-1) ≤ y17_7 ∧ y17_7 ≤ 700 := hP.2.1 17
          exfalso; omega
        | succ n ih_33 =>
          intro x2 qq y6_7 y16_7 y17_7 c9_7 H locs ls hn_7 i7_0 i7_1 i7_2 i7_3 i7_4 i7_5 i7_6 i7_7 i7_8 hP hS hl
          have ry6_7 : 0 ≤ y6_7 ∧ y6_7 ≤ 700 := hP.2.1 6
          have ry16_7 : 0 ≤ y16_7 ∧ y16_7 ≤ 5 := hP.2.1 16
          have ry17_7 : (-1) ≤ y17_7 ∧ y17_7 ≤ 700 := hP.2.1 17
          have hC1 := Bx.mk i7_6
          have hC2 := Bx.mk i7_7
          have hC3 := Bx.mk i7_8
          clear i7_6 i7_7 i7_8
          have hJ1 := i7_1
          have hJ2 := i7_2
          have hJ3 := i7_3
          have hJ4 := i7_4
          have hI := i7_5
          have hfk := fk_rng (f 0) nn qq
          refine lv_iload_n hx hb dX3_readRound_33 rfl (lv_at hl 2 rfl) ?_
          refine lv_iconst (v := iI 4) hx hb dX3_readRound_34 rfl ?_
          refine gi_cge (tgt := 131) hx hb dX3_readRound_35 (by decide) (by omega) (by decide) (fun c_8 => ?_) (fun c_8 => ?_)
          · refine lv_aload_n hx hb dX3_readRound_131 rfl (lv_at hl 0 rfl) ?_
            refine rwG_reader_draft C hP mF_X3_21 dX3_readRound_132 ?_
            refine lv_iload_n hx hb dX3_readRound_135 rfl (lv_at hl 1 rfl) ?_
            refine lv_iconst (v := iI 1) hx hb dX3_readRound_136 rfl ?_
            refine gi_add (z := ((v 7) + 1)) hx hb dX3_readRound_137 rfl ?_
            refine rwP_reader_draft_rounds (v1 := (va_up (va_up (va_up (va_up v 6 y6_7) 7 ((v 7) + 1)) 16 y16_7) 17 y17_7)) C hP hD hS mF_X3_100 (by omega) rfl (Or.inr (gF_up (V := rwV) (F := rwF) (gR_up (V := rwV) (F := rwF) (gR_up (V := rwV) (F := rwF) (gR_up (V := rwV) (F := rwF) (gR_up (V := rwV) (F := rwF) ⟨hok.1, hok.2⟩ 6 (hP.2.1 6)) 7 (show 0 ≤ ((v 7) + 1) ∧ ((v 7) + 1) ≤ 4 from by omega)) 16 (hP.2.1 16)) 17 (hP.2.1 17)) 9 (hP.2.2 9))) dX3_readRound_138 (fun H locs hP hS => ?_)
            exact g_vret hQ C hr hlocks hP hS dX3_readRound_141 ⟨y6_7, ((v 7) + 1), y16_7, y17_7, c9_7, rfl, rfl, rfl, rfl, (by first | exact oX_bad (by rw [if_pos (by omega)]) (by decide) (by omega) (by omega) (tAt_eq hc (by omega)) | (rw [if_neg (by omega)]; first | exact hJ4 (by omega) | exact (if h0 : y16_7 = 0 then oX_ok (by rw [← hJ3 h0, show (4 - x2).toNat = 0 by omega]; rfl) h0 (hJ2 h0) hJ1 else hJ4 h0))), (by first | omega | (split <;> omega)), (fun h => by first | (exfalso; omega) | exact shNew (hI (by omega)) (by omega)), (fun h => by first | (exfalso; omega) | (have h9 := hC2.get (by omega); rw [show x2 = 4 by omega] at h9; exact h9)), (fun e he => by first | rfl | exact hC3.get e he)⟩
          · refine lv_aload_n hx hb dX3_readRound_38 rfl (lv_at hl 0 rfl) ?_
            refine rwG_reader_fault C hP mF_X3_32 dX3_readRound_39 ?_
            show W p l e (gRm 4 82) s m args below meth c _ _ 0 0 Q (F0 m 42 ls [.int (iI y16_7)])
            have r_9 : 0 ≤ y16_7 ∧ y16_7 ≤ 5 := hP.2.1 16
            refine gi_zne (tgt := 131) hx hb dX3_readRound_42 (by decide) (by omega) (fun c_10 => ?_) (fun c_10 => ?_)
            · refine lv_aload_n hx hb dX3_readRound_131 rfl (lv_at hl 0 rfl) ?_
              refine rwG_reader_draft C hP mF_X3_21 dX3_readRound_132 ?_
              refine lv_iload_n hx hb dX3_readRound_135 rfl (lv_at hl 1 rfl) ?_
              refine lv_iconst (v := iI 1) hx hb dX3_readRound_136 rfl ?_
              refine gi_add (z := ((v 7) + 1)) hx hb dX3_readRound_137 rfl ?_
              refine rwP_reader_draft_rounds (v1 := (va_up (va_up (va_up (va_up v 6 y6_7) 7 ((v 7) + 1)) 16 y16_7) 17 y17_7)) C hP hD hS mF_X3_100 (by omega) rfl (Or.inr (gF_up (V := rwV) (F := rwF) (gR_up (V := rwV) (F := rwF) (gR_up (V := rwV) (F := rwF) (gR_up (V := rwV) (F := rwF) (gR_up (V := rwV) (F := rwF) ⟨hok.1, hok.2⟩ 6 (hP.2.1 6)) 7 (show 0 ≤ ((v 7) + 1) ∧ ((v 7) + 1) ≤ 4 from by omega)) 16 (hP.2.1 16)) 17 (hP.2.1 17)) 9 (hP.2.2 9))) dX3_readRound_138 (fun H locs hP hS => ?_)
              exact g_vret hQ C hr hlocks hP hS dX3_readRound_141 ⟨y6_7, ((v 7) + 1), y16_7, y17_7, c9_7, rfl, rfl, rfl, rfl, (by first | exact oX_bad (by rw [if_pos (by omega)]) (by decide) (by omega) (by omega) (tAt_eq hc (by omega)) | (rw [if_neg (by omega)]; first | exact hJ4 (by omega) | exact (if h0 : y16_7 = 0 then oX_ok (by rw [← hJ3 h0, show (4 - x2).toNat = 0 by omega]; rfl) h0 (hJ2 h0) hJ1 else hJ4 h0))), (by first | omega | (split <;> omega)), (fun h => by first | (exfalso; omega) | exact shNew (hI (by omega)) (by omega)), (fun h => by first | (exfalso; omega) | (have h9 := hC2.get (by omega); rw [show x2 = 4 by omega] at h9; exact h9)), (fun e he => by first | rfl | exact hC3.get e he)⟩
            · refine lv_aload_n hx hb dX3_readRound_45 rfl (lv_at hl 0 rfl) ?_
              refine rwG_reader_tokens C hP mF_X3_12 dX3_readRound_46 ?_
              refine g_cv (As := []) (rest := []) (n := 0) C hml (e_To_kind l D k A ad hD (va_up (va_up (va_up (va_up v 6 y6_7) 7 (v 7)) 16 y16_7) 17 y17_7) (va_up f 9 c9_7) g nn qq (show tAt (f 0) nn (f 6) (f 7) (f 8) (v 5) y6_7 qq from hJ1)) mM_X3_56 mI_X6_kind mE_X6_kind mN_X6 mC_X6_kind (by decide +kernel) 10 (ci := 6) rfl rfl hP hS (fun _ h => h) ⟨Nat.le_of_ble_eq_true rfl, Nat.le_of_ble_eq_true rfl⟩ ⟨Nat.zero_le _, Nat.zero_le _⟩ hl.1 rfl rfl (Nat.le_of_ble_eq_true rfl) dX3_readRound_49 (fun r_11 v_11 f_11 g_11 H locs hq_11 hP _ hS => ?_)
              obtain ⟨z_11, rfl, rfl, rfl, rfl, p0_11, p1_11⟩ := hq_11
              show W p l e (gRm 4 82) s m args below meth c _ _ 0 0 Q (F0 m 52 ls [.int (iI z_11)])
              replace p0_11 : z_11 = (tK (f 0) nn qq) := p0_11
              replace p1_11 : 40 ≤ z_11 ∧ z_11 ≤ 277 := p1_11
              have hz_11 : inR z_11 := (by first | omega | (rw [p0_11]; split <;> omega))
              have hK2 := p0_11
              refine lv_sipush (v := iI 258) hx hb dX3_readRound_52 (by decide) ?_
              refine gi_cne (tgt := 118) hx hb dX3_readRound_55 (by decide) (by omega) (by decide) (fun c_12 => ?_) (fun c_12 => ?_)
              · refine lv_aload_n hx hb dX3_readRound_118 rfl (lv_at hl 0 rfl) ?_
                refine lv_sipush (v := iI 258) hx hb dX3_readRound_119 (by decide) ?_
                refine g_cv (As := [.int (iI 258)]) (rest := []) (n := 1) C hml (e_La_pass l D k A ad hD (va_up (va_up (va_up (va_up v 6 y6_7) 7 (v 7)) 16 y16_7) 17 y17_7) (va_up f 9 c9_7) g 258 nn qq (by decide) (show tAt (f 0) nn (f 6) (f 7) (f 8) (v 5) y6_7 qq from hJ1) (show (258 : Int) ≠ 256 ∧ (258 : Int) ≠ 257 from by omega)) mM_X3_91 mI_X3_pass mE_X3_pass mN_X3 mC_X3_pass (by decide +kernel) 9 (ci := 3) rfl rfl hP hS (fun _ h => h) ⟨Nat.le_of_ble_eq_true rfl, Nat.le_of_ble_eq_true rfl⟩ ⟨Nat.zero_le _, Nat.zero_le _⟩ hl.1 rfl rfl (Nat.le_of_ble_eq_true rfl) dX3_readRound_122 (fun r_13 v_13 f_13 g_13 H locs hq_13 hP _ hS => ?_)
                obtain ⟨w6_13, w16_13, w17_13, rfl, rfl, rfl, rfl, p0_13, p1_13, p2_13, p3_13⟩ := hq_13
                show W p l e (gRm 4 82) s m args below meth c _ _ 0 0 Q (F0 m 125 ls [])
                have hP : gWd D (rwT k ad) (va_up (va_up (va_up (va_up v 6 w6_13) 7 (v 7)) 16 w16_13) 17 w17_13) (va_up f 9 c9_7) g H := ⟨hP.1, (gF_up (V := rwV) (F := rwF) (gR_up (V := rwV) (F := rwF) (gR_up (V := rwV) (F := rwF) (gR_up (V := rwV) (F := rwF) (gR_up (V := rwV) (F := rwF) ⟨hok.1, hok.2⟩ 6 (hP.2.1 6)) 7 (hP.2.1 7)) 16 (hP.2.1 16)) 17 (hP.2.1 17)) 9 (hP.2.2 9))⟩
                replace p0_13 : y16_7 = 0 → (tK (f 0) nn qq) = (258 : Int) → w16_13 = 0 ∧ w17_13 = y17_7 := p0_13
                replace p1_13 : y16_7 = 0 → (tK (f 0) nn qq) ≠ (258 : Int) → w16_13 = (fk (f 0) nn qq) ∧ w17_13 = qq ∧ w6_13 = y6_7 := p1_13
                replace p2_13 : y16_7 ≠ 0 → w16_13 = y16_7 ∧ w17_13 = y17_7 ∧ w6_13 = y6_7 := p2_13
                replace p3_13 : y16_7 = 0 → (tK (f 0) nn qq) = (258 : Int) → tAt (f 0) nn (f 6) (f 7) (f 8) (v 5) w6_13 (tX (f 0) nn qq) := p3_13
                have rw6_13 : 0 ≤ w6_13 ∧ w6_13 ≤ 700 := hP.2.1 6
                have rw16_13 : 0 ≤ w16_13 ∧ w16_13 ≤ 5 := hP.2.1 16
                have rw17_13 : (-1) ≤ w17_13 ∧ w17_13 ≤ 700 := hP.2.1 17
                first | replace p0_13 := p0_13 (by omega) (by omega) | clear p0_13
                first | replace p1_13 := p1_13 (by omega) (by omega) | clear p1_13
                first | replace p2_13 := p2_13 (by omega) | clear p2_13
                try have hP3 := p3_13 (by omega) (by omega)
                clear p3_13
                refine lv_iinc (v := iI (x2 + 1)) (lv' := [(2, .int (iI (x2 + 1))), (0, .ref (ad 9)), (1, .int (iI (v 7)))]) hx hb dX3_readRound_125 hl (k := 2) rfl (by show iI _ + iI 1 = _; rw [iI_add]) (by decide) rfl (fun ls hl => ?_)
                refine lv_goto (tgt := 33) hx hb dX3_readRound_128 (by decide) ?_
                exact ih_33 (x2 + 1) (qq) w6_13 w16_13 w17_13 c9_7 _ _ _ (by omega) (by omega) (by first | exact hP3 | exact tAt_eq hJ1 (by omega)) (by omega) (by first | (intro h; exfalso; omega) | exact fun h => (by rw [← hJ3 (by omega), show (4 - x2).toNat = (4 - (x2 + 1)).toNat + 1 by omega]; exact (rnd_c (by omega) (by omega)).symm)) (by first | (intro h; exfalso; omega) | exact fun h => oX_bad (by rw [← hJ3 (by omega), show (4 - x2).toNat = (4 - (x2 + 1)).toNat + 1 by omega]; exact rnd_a (by omega)) (by omega) (by omega) (by omega) (tAt_eq hJ1 (by omega)) | exact fun h => oX_bad (by rw [← hJ3 (by omega), show (4 - x2).toNat = (4 - (x2 + 1)).toNat + 1 by omega]; exact rnd_b (by omega) (by omega)) (by decide) (by omega) (by omega) (tAt_eq hJ1 (by omega))) (fun h => by first | (exfalso; omega) | exact shBack (hI (by omega)) (by omega) (by omega) (by omega)) (by first | (intro h; exfalso; omega) | exact fun h => (by rw [tXi_s (by omega), ← hC1.get (by omega)])) (fun h => by first | (exfalso; omega) | exact kr_s (K := fun i => tV (f 0) nn (tXi (f 0) nn i.toNat (tX (f 0) nn pp))) (hC2.get (by omega)) (by omega) (by rw [hVal]; show _ = tV (f 0) nn (tXi (f 0) nn x2.toNat (tX (f 0) nn pp)); rw [← hC1.get (by omega)])) (fun e he => by first | exact hC3.get e he | (rw [u1_n (by omega)]; exact hC3.get e he)) hP hS (lv_sub hl [1, 2, 0] rfl)
              · refine lv_aload_n hx hb dX3_readRound_58 rfl (lv_at hl 0 rfl) ?_
                refine lv_aload_n hx hb dX3_readRound_59 rfl (lv_at hl 0 rfl) ?_
                refine rwG_reader_tokens C hP mF_X3_12 dX3_readRound_60 ?_
                refine g_cv (As := []) (rest := [.ref (ad 9)]) (n := 0) C hml (e_To_value l D k A ad hD (va_up (va_up (va_up (va_up v 6 y6_7) 7 (v 7)) 16 y16_7) 17 y17_7) (va_up f 9 c9_7) g nn qq (show tAt (f 0) nn (f 6) (f 7) (f 8) (v 5) y6_7 qq from hJ1)) mM_X3_103 mI_X6_value mE_X6_value mN_X6 mC_X6_value (by decide +kernel) 10 (ci := 6) rfl rfl hP hS (fun _ h => h) ⟨Nat.le_of_ble_eq_true rfl, Nat.le_of_ble_eq_true rfl⟩ ⟨Nat.zero_le _, Nat.zero_le _⟩ hl.1 rfl rfl (Nat.le_of_ble_eq_true rfl) dX3_readRound_63 (fun r_14 v_14 f_14 g_14 H locs hq_14 hP _ hS => ?_)
                obtain ⟨z_14, rfl, rfl, rfl, rfl, p0_14, p1_14⟩ := hq_14
                show W p l e (gRm 4 82) s m args below meth c _ _ 0 0 Q (F0 m 66 ls [.int (iI z_14), .ref (ad 9)])
                replace p0_14 : z_14 = (tV (f 0) nn qq) := p0_14
                replace p1_14 : 0 ≤ z_14 ∧ z_14 ≤ 999999 := p1_14
                have hz_14 : inR z_14 := (by first | omega | (rw [p0_14]; split <;> omega))
                refine va_getsN hx hb hE.p0 hS C.2.2.2.1 (va_Nw.use rfl hE.p8) (fun _ h => h) dX3_readRound_66 ?_
                refine lv_iload_n hx hb dX3_readRound_69 rfl (lv_at hl 2 rfl) ?_
                refine va_ti (v := .int (iI (gElo (x2).toNat))) hx hb hE.p1 hS (iI_in (by omega) (by omega) (by decide)) (by show Value.int (iI (gElo _)) = _; rw [gE_cl (by omega) (by omega)]) dX3_readRound_70 ?_
                show W p l e (gRm 4 82) s m args below meth c _ _ 0 0 Q (F0 m 71 ls [.int (iI (gElo (x2).toNat)), .int (iI z_14), .ref (ad 9)])
                have r_15 : 0 ≤ (gElo (x2).toNat) ∧ (gElo (x2).toNat) ≤ 999 := gElo_r _
                refine gi_clt (tgt := 89) hx hb dX3_readRound_71 (by decide) (by omega) (by omega) (fun c_16 => ?_) (fun c_16 => ?_)
                · refine lv_iconst (v := iI 1) hx hb dX3_readRound_89 rfl ?_
                  refine lv_goto (tgt := 94) hx hb dX3_readRound_90 (by decide) ?_
                  refine lv_iconst (v := iI 4) hx hb dX3_readRound_94 rfl ?_
                  refine g_cv (As := [.int (iI 1), .int (iI 4)]) (rest := []) (n := 2) C hml (e_La_refuseIf l D k A ad hD (va_up (va_up (va_up (va_up v 6 y6_7) 7 (v 7)) 16 y16_7) 17 y17_7) (va_up f 9 c9_7) g 1 4 nn qq (by decide) (by decide) (show tAt (f 0) nn (f 6) (f 7) (f 8) (v 5) y6_7 qq from hJ1) (show 1 ≤ (4 : Int) ∧ (4 : Int) ≤ 5 from by omega)) mM_X3_66 mI_X3_refuseIf mE_X3_refuseIf mN_X3 mC_X3_refuseIf (by decide +kernel) 9 (ci := 3) rfl rfl hP hS (fun _ h => h) ⟨Nat.le_of_ble_eq_true rfl, Nat.le_of_ble_eq_true rfl⟩ ⟨Nat.zero_le _, Nat.zero_le _⟩ hl.1 rfl rfl (Nat.le_of_ble_eq_true rfl) dX3_readRound_95 (fun r_17 v_17 f_17 g_17 H locs hq_17 hP _ hS => ?_)
                  obtain ⟨w16_17, w17_17, rfl, rfl, rfl, rfl, p0_17, p1_17⟩ := hq_17
                  show W p l e (gRm 4 82) s m args below meth c _ _ 0 0 Q (F0 m 98 ls [])
                  have hP : gWd D (rwT k ad) (va_up (va_up (va_up (va_up v 6 y6_7) 7 (v 7)) 16 w16_17) 17 w17_17) (va_up f 9 c9_7) g H := ⟨hP.1, (gF_up (V := rwV) (F := rwF) (gR_up (V := rwV) (F := rwF) (gR_up (V := rwV) (F := rwF) (gR_up (V := rwV) (F := rwF) (gR_up (V := rwV) (F := rwF) ⟨hok.1, hok.2⟩ 6 (hP.2.1 6)) 7 (hP.2.1 7)) 16 (hP.2.1 16)) 17 (hP.2.1 17)) 9 (hP.2.2 9))⟩
                  replace p0_17 : (1 : Int) = 0 ∨ y16_7 ≠ 0 → w16_17 = y16_7 ∧ w17_17 = y17_7 := p0_17
                  replace p1_17 : (1 : Int) ≠ 0 → y16_7 = 0 → w16_17 = (4 : Int) ∧ w17_17 = qq := p1_17
                  have rw16_17 : 0 ≤ w16_17 ∧ w16_17 ≤ 5 := hP.2.1 16
                  have rw17_17 : (-1) ≤ w17_17 ∧ w17_17 ≤ 700 := hP.2.1 17
                  first | replace p0_17 := p0_17 (by omega) | clear p0_17
                  first | replace p1_17 := p1_17 (by omega) (by omega) | clear p1_17
                  refine lv_aload_n hx hb dX3_readRound_98 rfl (lv_at hl 0 rfl) ?_
                  refine rwG_reader_draft C hP mF_X3_21 dX3_readRound_99 ?_
                  refine rwG_reader_draft_shape C hP mF_X3_113 dX3_readRound_102 ?_
                  refine lv_iload_n hx hb dX3_readRound_105 rfl (lv_at hl 1 rfl) ?_
                  refine lv_iconst (v := iI 4) hx hb dX3_readRound_106 rfl ?_
                  refine gi_mul (z := ((v 7) * 4)) hx hb dX3_readRound_107 rfl ?_
                  refine lv_iload_n hx hb dX3_readRound_108 rfl (lv_at hl 2 rfl) ?_
                  refine gi_add (z := (((v 7) * 4) + x2)) hx hb dX3_readRound_109 rfl ?_
                  refine lv_aload_n hx hb dX3_readRound_110 rfl (lv_at hl 0 rfl) ?_
                  refine rwG_reader_tokens C hP mF_X3_12 dX3_readRound_111 ?_
                  refine g_cv (As := []) (rest := [.int (iI (((v 7) * 4) + x2)), .ref (ad 15)]) (n := 0) C hml (e_To_value l D k A ad hD (va_up (va_up (va_up (va_up v 6 y6_7) 7 (v 7)) 16 w16_17) 17 w17_17) (va_up f 9 c9_7) g nn qq (show tAt (f 0) nn (f 6) (f 7) (f 8) (v 5) y6_7 qq from hJ1)) mM_X3_103 mI_X6_value mE_X6_value mN_X6 mC_X6_value (by decide +kernel) 10 (ci := 6) rfl rfl hP hS (fun _ h => h) ⟨Nat.le_of_ble_eq_true rfl, Nat.le_of_ble_eq_true rfl⟩ ⟨Nat.zero_le _, Nat.zero_le _⟩ hl.1 rfl rfl (Nat.le_of_ble_eq_true rfl) dX3_readRound_114 (fun r_18 v_18 f_18 g_18 H locs hq_18 hP _ hS => ?_)
                  obtain ⟨z_18, rfl, rfl, rfl, rfl, p0_18, p1_18⟩ := hq_18
                  show W p l e (gRm 4 82) s m args below meth c _ _ 0 0 Q (F0 m 117 ls [.int (iI z_18), .int (iI (((v 7) * 4) + x2)), .ref (ad 15)])
                  replace p0_18 : z_18 = (tV (f 0) nn qq) := p0_18
                  replace p1_18 : 0 ≤ z_18 ∧ z_18 ≤ 999999 := p1_18
                  have hz_18 : inR z_18 := (by first | omega | (rw [p0_18]; split <;> omega))
                  have hVal := p0_18
                  refine rwS_reader_draft_shape (f1 := (va_up f 9 (u1 c9_7 (((v 7) * 4) + x2) z_18))) C hP hD hS (by omega) (by omega) (by omega) rfl (Or.inr (gF_up (V := rwV) (F := rwF) (gR_up (V := rwV) (F := rwF) (gR_up (V := rwV) (F := rwF) (gR_up (V := rwV) (F := rwF) (gR_up (V := rwV) (F := rwF) ⟨hok.1, hok.2⟩ 6 (hP.2.1 6)) 7 (hP.2.1 7)) 16 (hP.2.1 16)) 17 (hP.2.1 17)) 9 (u1_rng (hP.2.2 9) (show 0 ≤ z_18 ∧ z_18 ≤ 999999 from (by omega))))) dX3_readRound_117 (fun H locs hP hS => ?_)
                  refine lv_aload_n hx hb dX3_readRound_118 rfl (lv_at hl 0 rfl) ?_
                  refine lv_sipush (v := iI 258) hx hb dX3_readRound_119 (by decide) ?_
                  refine g_cv (As := [.int (iI 258)]) (rest := []) (n := 1) C hml (e_La_pass l D k A ad hD (va_up (va_up (va_up (va_up v 6 y6_7) 7 (v 7)) 16 w16_17) 17 w17_17) (va_up f 9 (u1 c9_7 (((v 7) * 4) + x2) z_18)) g 258 nn qq (by decide) (show tAt (f 0) nn (f 6) (f 7) (f 8) (v 5) y6_7 qq from hJ1) (show (258 : Int) ≠ 256 ∧ (258 : Int) ≠ 257 from by omega)) mM_X3_91 mI_X3_pass mE_X3_pass mN_X3 mC_X3_pass (by decide +kernel) 9 (ci := 3) rfl rfl hP hS (fun _ h => h) ⟨Nat.le_of_ble_eq_true rfl, Nat.le_of_ble_eq_true rfl⟩ ⟨Nat.zero_le _, Nat.zero_le _⟩ hl.1 rfl rfl (Nat.le_of_ble_eq_true rfl) dX3_readRound_122 (fun r_19 v_19 f_19 g_19 H locs hq_19 hP _ hS => ?_)
                  obtain ⟨w6_19, w16_19, w17_19, rfl, rfl, rfl, rfl, p0_19, p1_19, p2_19, p3_19⟩ := hq_19
                  show W p l e (gRm 4 82) s m args below meth c _ _ 0 0 Q (F0 m 125 ls [])
                  have hP : gWd D (rwT k ad) (va_up (va_up (va_up (va_up v 6 w6_19) 7 (v 7)) 16 w16_19) 17 w17_19) (va_up f 9 (u1 c9_7 (((v 7) * 4) + x2) z_18)) g H := ⟨hP.1, (gF_up (V := rwV) (F := rwF) (gR_up (V := rwV) (F := rwF) (gR_up (V := rwV) (F := rwF) (gR_up (V := rwV) (F := rwF) (gR_up (V := rwV) (F := rwF) ⟨hok.1, hok.2⟩ 6 (hP.2.1 6)) 7 (hP.2.1 7)) 16 (hP.2.1 16)) 17 (hP.2.1 17)) 9 (hP.2.2 9))⟩
                  replace p0_19 : w16_17 = 0 → (tK (f 0) nn qq) = (258 : Int) → w16_19 = 0 ∧ w17_19 = w17_17 := p0_19
                  replace p1_19 : w16_17 = 0 → (tK (f 0) nn qq) ≠ (258 : Int) → w16_19 = (fk (f 0) nn qq) ∧ w17_19 = qq ∧ w6_19 = y6_7 := p1_19
                  replace p2_19 : w16_17 ≠ 0 → w16_19 = w16_17 ∧ w17_19 = w17_17 ∧ w6_19 = y6_7 := p2_19
                  replace p3_19 : w16_17 = 0 → (tK (f 0) nn qq) = (258 : Int) → tAt (f 0) nn (f 6) (f 7) (f 8) (v 5) w6_19 (tX (f 0) nn qq) := p3_19
                  have rw6_19 : 0 ≤ w6_19 ∧ w6_19 ≤ 700 := hP.2.1 6
                  have rw16_19 : 0 ≤ w16_19 ∧ w16_19 ≤ 5 := hP.2.1 16
                  have rw17_19 : (-1) ≤ w17_19 ∧ w17_19 ≤ 700 := hP.2.1 17
                  first | replace p0_19 := p0_19 (by omega) (by omega) | clear p0_19
                  first | replace p1_19 := p1_19 (by omega) (by omega) | clear p1_19
                  first | replace p2_19 := p2_19 (by omega) | clear p2_19
                  try have hP3 := p3_19 (by omega) (by omega)
                  clear p3_19
                  refine lv_iinc (v := iI (x2 + 1)) (lv' := [(2, .int (iI (x2 + 1))), (0, .ref (ad 9)), (1, .int (iI (v 7)))]) hx hb dX3_readRound_125 hl (k := 2) rfl (by show iI _ + iI 1 = _; rw [iI_add]) (by decide) rfl (fun ls hl => ?_)
                  refine lv_goto (tgt := 33) hx hb dX3_readRound_128 (by decide) ?_
                  exact ih_33 (x2 + 1) (qq) w6_19 w16_19 w17_19 (u1 c9_7 (((v 7) * 4) + x2) z_18) _ _ _ (by omega) (by omega) (by first | exact hP3 | exact tAt_eq hJ1 (by omega)) (by omega) (by first | (intro h; exfalso; omega) | exact fun h => (by rw [← hJ3 (by omega), show (4 - x2).toNat = (4 - (x2 + 1)).toNat + 1 by omega]; exact (rnd_c (by omega) (by omega)).symm)) (by first | (intro h; exfalso; omega) | exact fun h => oX_bad (by rw [← hJ3 (by omega), show (4 - x2).toNat = (4 - (x2 + 1)).toNat + 1 by omega]; exact rnd_a (by omega)) (by omega) (by omega) (by omega) (tAt_eq hJ1 (by omega)) | exact fun h => oX_bad (by rw [← hJ3 (by omega), show (4 - x2).toNat = (4 - (x2 + 1)).toNat + 1 by omega]; exact rnd_b (by omega) (by omega)) (by decide) (by omega) (by omega) (tAt_eq hJ1 (by omega))) (fun h => by first | (exfalso; omega) | exact shBack (hI (by omega)) (by omega) (by omega) (by omega)) (by first | (intro h; exfalso; omega) | exact fun h => (by rw [tXi_s (by omega), ← hC1.get (by omega)])) (fun h => by first | (exfalso; omega) | exact kr_s (K := fun i => tV (f 0) nn (tXi (f 0) nn i.toNat (tX (f 0) nn pp))) (hC2.get (by omega)) (by omega) (by rw [hVal]; show _ = tV (f 0) nn (tXi (f 0) nn x2.toNat (tX (f 0) nn pp)); rw [← hC1.get (by omega)])) (fun e he => by first | exact hC3.get e he | (rw [u1_n (by omega)]; exact hC3.get e he)) hP hS (lv_sub hl [1, 2, 0] rfl)
                · refine lv_aload_n hx hb dX3_readRound_74 rfl (lv_at hl 0 rfl) ?_
                  refine rwG_reader_tokens C hP mF_X3_12 dX3_readRound_75 ?_
                  refine g_cv (As := []) (rest := [.ref (ad 9)]) (n := 0) C hml (e_To_value l D k A ad hD (va_up (va_up (va_up (va_up v 6 y6_7) 7 (v 7)) 16 y16_7) 17 y17_7) (va_up f 9 c9_7) g nn qq (show tAt (f 0) nn (f 6) (f 7) (f 8) (v 5) y6_7 qq from hJ1)) mM_X3_103 mI_X6_value mE_X6_value mN_X6 mC_X6_value (by decide +kernel) 10 (ci := 6) rfl rfl hP hS (fun _ h => h) ⟨Nat.le_of_ble_eq_true rfl, Nat.le_of_ble_eq_true rfl⟩ ⟨Nat.zero_le _, Nat.zero_le _⟩ hl.1 rfl rfl (Nat.le_of_ble_eq_true rfl) dX3_readRound_78 (fun r_20 v_20 f_20 g_20 H locs hq_20 hP _ hS => ?_)
                  obtain ⟨z_20, rfl, rfl, rfl, rfl, p0_20, p1_20⟩ := hq_20
                  show W p l e (gRm 4 82) s m args below meth c _ _ 0 0 Q (F0 m 81 ls [.int (iI z_20), .ref (ad 9)])
                  replace p0_20 : z_20 = (tV (f 0) nn qq) := p0_20
                  replace p1_20 : 0 ≤ z_20 ∧ z_20 ≤ 999999 := p1_20
                  have hz_20 : inR z_20 := (by first | omega | (rw [p0_20]; split <;> omega))
                  refine va_getsN hx hb hE.p2 hS C.2.2.2.1 (va_Nw.use rfl hE.p9) (fun _ h => h) dX3_readRound_81 ?_
                  refine lv_iload_n hx hb dX3_readRound_84 rfl (lv_at hl 2 rfl) ?_
                  refine va_ti (v := .int (iI (gEhi (x2).toNat))) hx hb hE.p3 hS (iI_in (by omega) (by omega) (by decide)) (by show Value.int (iI (gEhi _)) = _; rw [gE_cl (by omega) (by omega)]) dX3_readRound_85 ?_
                  show W p l e (gRm 4 82) s m args below meth c _ _ 0 0 Q (F0 m 86 ls [.int (iI (gEhi (x2).toNat)), .int (iI z_20), .ref (ad 9)])
                  have r_21 : 0 ≤ (gEhi (x2).toNat) ∧ (gEhi (x2).toNat) ≤ 999 := gEhi_r _
                  refine gi_cle (tgt := 93) hx hb dX3_readRound_86 (by decide) (by omega) (by omega) (fun c_22 => ?_) (fun c_22 => ?_)
                  · refine lv_iconst (v := iI 0) hx hb dX3_readRound_93 rfl ?_
                    refine lv_iconst (v := iI 4) hx hb dX3_readRound_94 rfl ?_
                    refine g_cv (As := [.int (iI 0), .int (iI 4)]) (rest := []) (n := 2) C hml (e_La_refuseIf l D k A ad hD (va_up (va_up (va_up (va_up v 6 y6_7) 7 (v 7)) 16 y16_7) 17 y17_7) (va_up f 9 c9_7) g 0 4 nn qq (by decide) (by decide) (show tAt (f 0) nn (f 6) (f 7) (f 8) (v 5) y6_7 qq from hJ1) (show 1 ≤ (4 : Int) ∧ (4 : Int) ≤ 5 from by omega)) mM_X3_66 mI_X3_refuseIf mE_X3_refuseIf mN_X3 mC_X3_refuseIf (by decide +kernel) 9 (ci := 3) rfl rfl hP hS (fun _ h => h) ⟨Nat.le_of_ble_eq_true rfl, Nat.le_of_ble_eq_true rfl⟩ ⟨Nat.zero_le _, Nat.zero_le _⟩ hl.1 rfl rfl (Nat.le_of_ble_eq_true rfl) dX3_readRound_95 (fun r_23 v_23 f_23 g_23 H locs hq_23 hP _ hS => ?_)
                    obtain ⟨w16_23, w17_23, rfl, rfl, rfl, rfl, p0_23, p1_23⟩ := hq_23
                    show W p l e (gRm 4 82) s m args below meth c _ _ 0 0 Q (F0 m 98 ls [])
                    have hP : gWd D (rwT k ad) (va_up (va_up (va_up (va_up v 6 y6_7) 7 (v 7)) 16 w16_23) 17 w17_23) (va_up f 9 c9_7) g H := ⟨hP.1, (gF_up (V := rwV) (F := rwF) (gR_up (V := rwV) (F := rwF) (gR_up (V := rwV) (F := rwF) (gR_up (V := rwV) (F := rwF) (gR_up (V := rwV) (F := rwF) ⟨hok.1, hok.2⟩ 6 (hP.2.1 6)) 7 (hP.2.1 7)) 16 (hP.2.1 16)) 17 (hP.2.1 17)) 9 (hP.2.2 9))⟩
                    replace p0_23 : (0 : Int) = 0 ∨ y16_7 ≠ 0 → w16_23 = y16_7 ∧ w17_23 = y17_7 := p0_23
                    replace p1_23 : (0 : Int) ≠ 0 → y16_7 = 0 → w16_23 = (4 : Int) ∧ w17_23 = qq := p1_23
                    have rw16_23 : 0 ≤ w16_23 ∧ w16_23 ≤ 5 := hP.2.1 16
                    have rw17_23 : (-1) ≤ w17_23 ∧ w17_23 ≤ 700 := hP.2.1 17
                    first | replace p0_23 := p0_23 (by omega) | clear p0_23
                    first | replace p1_23 := p1_23 (by omega) (by omega) | clear p1_23
                    refine lv_aload_n hx hb dX3_readRound_98 rfl (lv_at hl 0 rfl) ?_
                    refine rwG_reader_draft C hP mF_X3_21 dX3_readRound_99 ?_
                    refine rwG_reader_draft_shape C hP mF_X3_113 dX3_readRound_102 ?_
                    refine lv_iload_n hx hb dX3_readRound_105 rfl (lv_at hl 1 rfl) ?_
                    refine lv_iconst (v := iI 4) hx hb dX3_readRound_106 rfl ?_
                    refine gi_mul (z := ((v 7) * 4)) hx hb dX3_readRound_107 rfl ?_
                    refine lv_iload_n hx hb dX3_readRound_108 rfl (lv_at hl 2 rfl) ?_
                    refine gi_add (z := (((v 7) * 4) + x2)) hx hb dX3_readRound_109 rfl ?_
                    refine lv_aload_n hx hb dX3_readRound_110 rfl (lv_at hl 0 rfl) ?_
                    refine rwG_reader_tokens C hP mF_X3_12 dX3_readRound_111 ?_
                    refine g_cv (As := []) (rest := [.int (iI (((v 7) * 4) + x2)), .ref (ad 15)]) (n := 0) C hml (e_To_value l D k A ad hD (va_up (va_up (va_up (va_up v 6 y6_7) 7 (v 7)) 16 w16_23) 17 w17_23) (va_up f 9 c9_7) g nn qq (show tAt (f 0) nn (f 6) (f 7) (f 8) (v 5) y6_7 qq from hJ1)) mM_X3_103 mI_X6_value mE_X6_value mN_X6 mC_X6_value (by decide +kernel) 10 (ci := 6) rfl rfl hP hS (fun _ h => h) ⟨Nat.le_of_ble_eq_true rfl, Nat.le_of_ble_eq_true rfl⟩ ⟨Nat.zero_le _, Nat.zero_le _⟩ hl.1 rfl rfl (Nat.le_of_ble_eq_true rfl) dX3_readRound_114 (fun r_24 v_24 f_24 g_24 H locs hq_24 hP _ hS => ?_)
                    obtain ⟨z_24, rfl, rfl, rfl, rfl, p0_24, p1_24⟩ := hq_24
                    show W p l e (gRm 4 82) s m args below meth c _ _ 0 0 Q (F0 m 117 ls [.int (iI z_24), .int (iI (((v 7) * 4) + x2)), .ref (ad 15)])
                    replace p0_24 : z_24 = (tV (f 0) nn qq) := p0_24
                    replace p1_24 : 0 ≤ z_24 ∧ z_24 ≤ 999999 := p1_24
                    have hz_24 : inR z_24 := (by first | omega | (rw [p0_24]; split <;> omega))
                    have hVal := p0_24
                    refine rwS_reader_draft_shape (f1 := (va_up f 9 (u1 c9_7 (((v 7) * 4) + x2) z_24))) C hP hD hS (by omega) (by omega) (by omega) rfl (Or.inr (gF_up (V := rwV) (F := rwF) (gR_up (V := rwV) (F := rwF) (gR_up (V := rwV) (F := rwF) (gR_up (V := rwV) (F := rwF) (gR_up (V := rwV) (F := rwF) ⟨hok.1, hok.2⟩ 6 (hP.2.1 6)) 7 (hP.2.1 7)) 16 (hP.2.1 16)) 17 (hP.2.1 17)) 9 (u1_rng (hP.2.2 9) (show 0 ≤ z_24 ∧ z_24 ≤ 999999 from (by omega))))) dX3_readRound_117 (fun H locs hP hS => ?_)
                    refine lv_aload_n hx hb dX3_readRound_118 rfl (lv_at hl 0 rfl) ?_
                    refine lv_sipush (v := iI 258) hx hb dX3_readRound_119 (by decide) ?_
                    refine g_cv (As := [.int (iI 258)]) (rest := []) (n := 1) C hml (e_La_pass l D k A ad hD (va_up (va_up (va_up (va_up v 6 y6_7) 7 (v 7)) 16 w16_23) 17 w17_23) (va_up f 9 (u1 c9_7 (((v 7) * 4) + x2) z_24)) g 258 nn qq (by decide) (show tAt (f 0) nn (f 6) (f 7) (f 8) (v 5) y6_7 qq from hJ1) (show (258 : Int) ≠ 256 ∧ (258 : Int) ≠ 257 from by omega)) mM_X3_91 mI_X3_pass mE_X3_pass mN_X3 mC_X3_pass (by decide +kernel) 9 (ci := 3) rfl rfl hP hS (fun _ h => h) ⟨Nat.le_of_ble_eq_true rfl, Nat.le_of_ble_eq_true rfl⟩ ⟨Nat.zero_le _, Nat.zero_le _⟩ hl.1 rfl rfl (Nat.le_of_ble_eq_true rfl) dX3_readRound_122 (fun r_25 v_25 f_25 g_25 H locs hq_25 hP _ hS => ?_)
                    obtain ⟨w6_25, w16_25, w17_25, rfl, rfl, rfl, rfl, p0_25, p1_25, p2_25, p3_25⟩ := hq_25
                    show W p l e (gRm 4 82) s m args below meth c _ _ 0 0 Q (F0 m 125 ls [])
                    have hP : gWd D (rwT k ad) (va_up (va_up (va_up (va_up v 6 w6_25) 7 (v 7)) 16 w16_25) 17 w17_25) (va_up f 9 (u1 c9_7 (((v 7) * 4) + x2) z_24)) g H := ⟨hP.1, (gF_up (V := rwV) (F := rwF) (gR_up (V := rwV) (F := rwF) (gR_up (V := rwV) (F := rwF) (gR_up (V := rwV) (F := rwF) (gR_up (V := rwV) (F := rwF) ⟨hok.1, hok.2⟩ 6 (hP.2.1 6)) 7 (hP.2.1 7)) 16 (hP.2.1 16)) 17 (hP.2.1 17)) 9 (hP.2.2 9))⟩
                    replace p0_25 : w16_23 = 0 → (tK (f 0) nn qq) = (258 : Int) → w16_25 = 0 ∧ w17_25 = w17_23 := p0_25
                    replace p1_25 : w16_23 = 0 → (tK (f 0) nn qq) ≠ (258 : Int) → w16_25 = (fk (f 0) nn qq) ∧ w17_25 = qq ∧ w6_25 = y6_7 := p1_25
                    replace p2_25 : w16_23 ≠ 0 → w16_25 = w16_23 ∧ w17_25 = w17_23 ∧ w6_25 = y6_7 := p2_25
                    replace p3_25 : w16_23 = 0 → (tK (f 0) nn qq) = (258 : Int) → tAt (f 0) nn (f 6) (f 7) (f 8) (v 5) w6_25 (tX (f 0) nn qq) := p3_25
                    have rw6_25 : 0 ≤ w6_25 ∧ w6_25 ≤ 700 := hP.2.1 6
                    have rw16_25 : 0 ≤ w16_25 ∧ w16_25 ≤ 5 := hP.2.1 16
                    have rw17_25 : (-1) ≤ w17_25 ∧ w17_25 ≤ 700 := hP.2.1 17
                    first | replace p0_25 := p0_25 (by omega) (by omega) | clear p0_25
                    first | replace p1_25 := p1_25 (by omega) (by omega) | clear p1_25
                    first | replace p2_25 := p2_25 (by omega) | clear p2_25
                    try have hP3 := p3_25 (by omega) (by omega)
                    clear p3_25
                    refine lv_iinc (v := iI (x2 + 1)) (lv' := [(2, .int (iI (x2 + 1))), (0, .ref (ad 9)), (1, .int (iI (v 7)))]) hx hb dX3_readRound_125 hl (k := 2) rfl (by show iI _ + iI 1 = _; rw [iI_add]) (by decide) rfl (fun ls hl => ?_)
                    refine lv_goto (tgt := 33) hx hb dX3_readRound_128 (by decide) ?_
                    exact ih_33 (x2 + 1) ((tX (f 0) nn qq)) w6_25 w16_25 w17_25 (u1 c9_7 (((v 7) * 4) + x2) z_24) _ _ _ (by omega) (by omega) (by first | exact hP3 | exact tAt_eq hJ1 (by omega)) (by omega) (by first | (intro h; exfalso; omega) | exact fun h => (by rw [← hJ3 (by omega), show (4 - x2).toNat = (4 - (x2 + 1)).toNat + 1 by omega]; exact (rnd_c (by omega) (by omega)).symm)) (by first | (intro h; exfalso; omega) | exact fun h => oX_bad (by rw [← hJ3 (by omega), show (4 - x2).toNat = (4 - (x2 + 1)).toNat + 1 by omega]; exact rnd_a (by omega)) (by omega) (by omega) (by omega) (tAt_eq hJ1 (by omega)) | exact fun h => oX_bad (by rw [← hJ3 (by omega), show (4 - x2).toNat = (4 - (x2 + 1)).toNat + 1 by omega]; exact rnd_b (by omega) (by omega)) (by decide) (by omega) (by omega) (tAt_eq hJ1 (by omega))) (fun h => by first | (exfalso; omega) | exact shBack (hI (by omega)) (by omega) (by omega) (by omega)) (by first | (intro h; exfalso; omega) | exact fun h => (by rw [tXi_s (by omega), ← hC1.get (by omega)])) (fun h => by first | (exfalso; omega) | exact kr_s (K := fun i => tV (f 0) nn (tXi (f 0) nn i.toNat (tX (f 0) nn pp))) (hC2.get (by omega)) (by omega) (by rw [hVal]; show _ = tV (f 0) nn (tXi (f 0) nn x2.toNat (tX (f 0) nn pp)); rw [← hC1.get (by omega)])) (fun e he => by first | exact hC3.get e he | (rw [u1_n (by omega)]; exact hC3.get e he)) hP hS (lv_sub hl [1, 2, 0] rfl)
                  · refine lv_iconst (v := iI 1) hx hb dX3_readRound_89 rfl ?_
                    refine lv_goto (tgt := 94) hx hb dX3_readRound_90 (by decide) ?_
                    refine lv_iconst (v := iI 4) hx hb dX3_readRound_94 rfl ?_
                    refine g_cv (As := [.int (iI 1), .int (iI 4)]) (rest := []) (n := 2) C hml (e_La_refuseIf l D k A ad hD (va_up (va_up (va_up (va_up v 6 y6_7) 7 (v 7)) 16 y16_7) 17 y17_7) (va_up f 9 c9_7) g 1 4 nn qq (by decide) (by decide) (show tAt (f 0) nn (f 6) (f 7) (f 8) (v 5) y6_7 qq from hJ1) (show 1 ≤ (4 : Int) ∧ (4 : Int) ≤ 5 from by omega)) mM_X3_66 mI_X3_refuseIf mE_X3_refuseIf mN_X3 mC_X3_refuseIf (by decide +kernel) 9 (ci := 3) rfl rfl hP hS (fun _ h => h) ⟨Nat.le_of_ble_eq_true rfl, Nat.le_of_ble_eq_true rfl⟩ ⟨Nat.zero_le _, Nat.zero_le _⟩ hl.1 rfl rfl (Nat.le_of_ble_eq_true rfl) dX3_readRound_95 (fun r_26 v_26 f_26 g_26 H locs hq_26 hP _ hS => ?_)
                    obtain ⟨w16_26, w17_26, rfl, rfl, rfl, rfl, p0_26, p1_26⟩ := hq_26
                    show W p l e (gRm 4 82) s m args below meth c _ _ 0 0 Q (F0 m 98 ls [])
                    have hP : gWd D (rwT k ad) (va_up (va_up (va_up (va_up v 6 y6_7) 7 (v 7)) 16 w16_26) 17 w17_26) (va_up f 9 c9_7) g H := ⟨hP.1, (gF_up (V := rwV) (F := rwF) (gR_up (V := rwV) (F := rwF) (gR_up (V := rwV) (F := rwF) (gR_up (V := rwV) (F := rwF) (gR_up (V := rwV) (F := rwF) ⟨hok.1, hok.2⟩ 6 (hP.2.1 6)) 7 (hP.2.1 7)) 16 (hP.2.1 16)) 17 (hP.2.1 17)) 9 (hP.2.2 9))⟩
                    replace p0_26 : (1 : Int) = 0 ∨ y16_7 ≠ 0 → w16_26 = y16_7 ∧ w17_26 = y17_7 := p0_26
                    replace p1_26 : (1 : Int) ≠ 0 → y16_7 = 0 → w16_26 = (4 : Int) ∧ w17_26 = qq := p1_26
                    have rw16_26 : 0 ≤ w16_26 ∧ w16_26 ≤ 5 := hP.2.1 16
                    have rw17_26 : (-1) ≤ w17_26 ∧ w17_26 ≤ 700 := hP.2.1 17
                    first | replace p0_26 := p0_26 (by omega) | clear p0_26
                    first | replace p1_26 := p1_26 (by omega) (by omega) | clear p1_26
                    refine lv_aload_n hx hb dX3_readRound_98 rfl (lv_at hl 0 rfl) ?_
                    refine rwG_reader_draft C hP mF_X3_21 dX3_readRound_99 ?_
                    refine rwG_reader_draft_shape C hP mF_X3_113 dX3_readRound_102 ?_
                    refine lv_iload_n hx hb dX3_readRound_105 rfl (lv_at hl 1 rfl) ?_
                    refine lv_iconst (v := iI 4) hx hb dX3_readRound_106 rfl ?_
                    refine gi_mul (z := ((v 7) * 4)) hx hb dX3_readRound_107 rfl ?_
                    refine lv_iload_n hx hb dX3_readRound_108 rfl (lv_at hl 2 rfl) ?_
                    refine gi_add (z := (((v 7) * 4) + x2)) hx hb dX3_readRound_109 rfl ?_
                    refine lv_aload_n hx hb dX3_readRound_110 rfl (lv_at hl 0 rfl) ?_
                    refine rwG_reader_tokens C hP mF_X3_12 dX3_readRound_111 ?_
                    refine g_cv (As := []) (rest := [.int (iI (((v 7) * 4) + x2)), .ref (ad 15)]) (n := 0) C hml (e_To_value l D k A ad hD (va_up (va_up (va_up (va_up v 6 y6_7) 7 (v 7)) 16 w16_26) 17 w17_26) (va_up f 9 c9_7) g nn qq (show tAt (f 0) nn (f 6) (f 7) (f 8) (v 5) y6_7 qq from hJ1)) mM_X3_103 mI_X6_value mE_X6_value mN_X6 mC_X6_value (by decide +kernel) 10 (ci := 6) rfl rfl hP hS (fun _ h => h) ⟨Nat.le_of_ble_eq_true rfl, Nat.le_of_ble_eq_true rfl⟩ ⟨Nat.zero_le _, Nat.zero_le _⟩ hl.1 rfl rfl (Nat.le_of_ble_eq_true rfl) dX3_readRound_114 (fun r_27 v_27 f_27 g_27 H locs hq_27 hP _ hS => ?_)
                    obtain ⟨z_27, rfl, rfl, rfl, rfl, p0_27, p1_27⟩ := hq_27
                    show W p l e (gRm 4 82) s m args below meth c _ _ 0 0 Q (F0 m 117 ls [.int (iI z_27), .int (iI (((v 7) * 4) + x2)), .ref (ad 15)])
                    replace p0_27 : z_27 = (tV (f 0) nn qq) := p0_27
                    replace p1_27 : 0 ≤ z_27 ∧ z_27 ≤ 999999 := p1_27
                    have hz_27 : inR z_27 := (by first | omega | (rw [p0_27]; split <;> omega))
                    have hVal := p0_27
                    refine rwS_reader_draft_shape (f1 := (va_up f 9 (u1 c9_7 (((v 7) * 4) + x2) z_27))) C hP hD hS (by omega) (by omega) (by omega) rfl (Or.inr (gF_up (V := rwV) (F := rwF) (gR_up (V := rwV) (F := rwF) (gR_up (V := rwV) (F := rwF) (gR_up (V := rwV) (F := rwF) (gR_up (V := rwV) (F := rwF) ⟨hok.1, hok.2⟩ 6 (hP.2.1 6)) 7 (hP.2.1 7)) 16 (hP.2.1 16)) 17 (hP.2.1 17)) 9 (u1_rng (hP.2.2 9) (show 0 ≤ z_27 ∧ z_27 ≤ 999999 from (by omega))))) dX3_readRound_117 (fun H locs hP hS => ?_)
                    refine lv_aload_n hx hb dX3_readRound_118 rfl (lv_at hl 0 rfl) ?_
                    refine lv_sipush (v := iI 258) hx hb dX3_readRound_119 (by decide) ?_
                    refine g_cv (As := [.int (iI 258)]) (rest := []) (n := 1) C hml (e_La_pass l D k A ad hD (va_up (va_up (va_up (va_up v 6 y6_7) 7 (v 7)) 16 w16_26) 17 w17_26) (va_up f 9 (u1 c9_7 (((v 7) * 4) + x2) z_27)) g 258 nn qq (by decide) (show tAt (f 0) nn (f 6) (f 7) (f 8) (v 5) y6_7 qq from hJ1) (show (258 : Int) ≠ 256 ∧ (258 : Int) ≠ 257 from by omega)) mM_X3_91 mI_X3_pass mE_X3_pass mN_X3 mC_X3_pass (by decide +kernel) 9 (ci := 3) rfl rfl hP hS (fun _ h => h) ⟨Nat.le_of_ble_eq_true rfl, Nat.le_of_ble_eq_true rfl⟩ ⟨Nat.zero_le _, Nat.zero_le _⟩ hl.1 rfl rfl (Nat.le_of_ble_eq_true rfl) dX3_readRound_122 (fun r_28 v_28 f_28 g_28 H locs hq_28 hP _ hS => ?_)
                    obtain ⟨w6_28, w16_28, w17_28, rfl, rfl, rfl, rfl, p0_28, p1_28, p2_28, p3_28⟩ := hq_28
                    show W p l e (gRm 4 82) s m args below meth c _ _ 0 0 Q (F0 m 125 ls [])
                    have hP : gWd D (rwT k ad) (va_up (va_up (va_up (va_up v 6 w6_28) 7 (v 7)) 16 w16_28) 17 w17_28) (va_up f 9 (u1 c9_7 (((v 7) * 4) + x2) z_27)) g H := ⟨hP.1, (gF_up (V := rwV) (F := rwF) (gR_up (V := rwV) (F := rwF) (gR_up (V := rwV) (F := rwF) (gR_up (V := rwV) (F := rwF) (gR_up (V := rwV) (F := rwF) ⟨hok.1, hok.2⟩ 6 (hP.2.1 6)) 7 (hP.2.1 7)) 16 (hP.2.1 16)) 17 (hP.2.1 17)) 9 (hP.2.2 9))⟩
                    replace p0_28 : w16_26 = 0 → (tK (f 0) nn qq) = (258 : Int) → w16_28 = 0 ∧ w17_28 = w17_26 := p0_28
                    replace p1_28 : w16_26 = 0 → (tK (f 0) nn qq) ≠ (258 : Int) → w16_28 = (fk (f 0) nn qq) ∧ w17_28 = qq ∧ w6_28 = y6_7 := p1_28
                    replace p2_28 : w16_26 ≠ 0 → w16_28 = w16_26 ∧ w17_28 = w17_26 ∧ w6_28 = y6_7 := p2_28
                    replace p3_28 : w16_26 = 0 → (tK (f 0) nn qq) = (258 : Int) → tAt (f 0) nn (f 6) (f 7) (f 8) (v 5) w6_28 (tX (f 0) nn qq) := p3_28
                    have rw6_28 : 0 ≤ w6_28 ∧ w6_28 ≤ 700 := hP.2.1 6
                    have rw16_28 : 0 ≤ w16_28 ∧ w16_28 ≤ 5 := hP.2.1 16
                    have rw17_28 : (-1) ≤ w17_28 ∧ w17_28 ≤ 700 := hP.2.1 17
                    first | replace p0_28 := p0_28 (by omega) (by omega) | clear p0_28
                    first | replace p1_28 := p1_28 (by omega) (by omega) | clear p1_28
                    first | replace p2_28 := p2_28 (by omega) | clear p2_28
                    try have hP3 := p3_28 (by omega) (by omega)
                    clear p3_28
                    refine lv_iinc (v := iI (x2 + 1)) (lv' := [(2, .int (iI (x2 + 1))), (0, .ref (ad 9)), (1, .int (iI (v 7)))]) hx hb dX3_readRound_125 hl (k := 2) rfl (by show iI _ + iI 1 = _; rw [iI_add]) (by decide) rfl (fun ls hl => ?_)
                    refine lv_goto (tgt := 33) hx hb dX3_readRound_128 (by decide) ?_
                    exact ih_33 (x2 + 1) (qq) w6_28 w16_28 w17_28 (u1 c9_7 (((v 7) * 4) + x2) z_27) _ _ _ (by omega) (by omega) (by first | exact hP3 | exact tAt_eq hJ1 (by omega)) (by omega) (by first | (intro h; exfalso; omega) | exact fun h => (by rw [← hJ3 (by omega), show (4 - x2).toNat = (4 - (x2 + 1)).toNat + 1 by omega]; exact (rnd_c (by omega) (by omega)).symm)) (by first | (intro h; exfalso; omega) | exact fun h => oX_bad (by rw [← hJ3 (by omega), show (4 - x2).toNat = (4 - (x2 + 1)).toNat + 1 by omega]; exact rnd_a (by omega)) (by omega) (by omega) (by omega) (tAt_eq hJ1 (by omega)) | exact fun h => oX_bad (by rw [← hJ3 (by omega), show (4 - x2).toNat = (4 - (x2 + 1)).toNat + 1 by omega]; exact rnd_b (by omega) (by omega)) (by decide) (by omega) (by omega) (tAt_eq hJ1 (by omega))) (fun h => by first | (exfalso; omega) | exact shBack (hI (by omega)) (by omega) (by omega) (by omega)) (by first | (intro h; exfalso; omega) | exact fun h => (by rw [tXi_s (by omega), ← hC1.get (by omega)])) (fun h => by first | (exfalso; omega) | exact kr_s (K := fun i => tV (f 0) nn (tXi (f 0) nn i.toNat (tX (f 0) nn pp))) (hC2.get (by omega)) (by omega) (by rw [hVal]; show _ = tV (f 0) nn (tXi (f 0) nn x2.toNat (tX (f 0) nn pp)); rw [← hC1.get (by omega)])) (fun e he => by first | exact hC3.get e he | (rw [u1_n (by omega)]; exact hC3.get e he)) hP hS (lv_sub hl [1, 2, 0] rfl)
      exact L_7 5 0 ((tX (f 0) nn pp)) w6_5 w16_4 w17_4 (f 9) _ _ _ (by omega) (by omega) hc2 (by omega) (fun _ => rfl) (fun h => absurd (show w16_4 = 0 by omega) h) (fun h => ⟨hd, shPart0⟩) (fun _ => rfl) (fun _ i h0 h1 => by omega) (fun e _ => rfl) hP hS (lv_sub hl [2, 1, 0] rfl)
    · exfalso; omega
  · refine lv_iconst (v := iI 1) hx hb dX3_readRound_14 rfl ?_
    refine lv_goto (tgt := 19) hx hb dX3_readRound_15 (by decide) ?_
    refine lv_iconst (v := iI 3) hx hb dX3_readRound_19 rfl ?_
    refine g_cv (As := [.int (iI 1), .int (iI 3)]) (rest := []) (n := 2) C hml (e_La_refuseIf l D k A ad hD (va_up (va_up (va_up (va_up v 6 (v 6)) 7 (v 7)) 16 (v 16)) 17 (v 17)) (va_up f 9 (f 9)) g 1 3 nn pp (by decide) (by decide) (show tAt (f 0) nn (f 6) (f 7) (f 8) (v 5) (v 6) pp from hc) (show 1 ≤ (3 : Int) ∧ (3 : Int) ≤ 5 from by omega)) mM_X3_66 mI_X3_refuseIf mE_X3_refuseIf mN_X3 mC_X3_refuseIf (by decide +kernel) 9 (ci := 3) rfl rfl hP hS (fun _ h => h) ⟨Nat.le_of_ble_eq_true rfl, Nat.le_of_ble_eq_true rfl⟩ ⟨Nat.zero_le _, Nat.zero_le _⟩ hl.1 rfl rfl (Nat.le_of_ble_eq_true rfl) dX3_readRound_20 (fun r_29 v_29 f_29 g_29 H locs hq_29 hP _ hS => ?_)
    obtain ⟨w16_29, w17_29, rfl, rfl, rfl, rfl, p0_29, p1_29⟩ := hq_29
    show W p l e (gRm 4 82) s m args below meth c _ _ 0 0 Q (F0 m 23 ls [])
    have hP : gWd D (rwT k ad) (va_up (va_up (va_up (va_up v 6 (v 6)) 7 (v 7)) 16 w16_29) 17 w17_29) (va_up f 9 (f 9)) g H := ⟨hP.1, (gF_up (V := rwV) (F := rwF) (gR_up (V := rwV) (F := rwF) (gR_up (V := rwV) (F := rwF) (gR_up (V := rwV) (F := rwF) (gR_up (V := rwV) (F := rwF) ⟨hok.1, hok.2⟩ 6 (hP.2.1 6)) 7 (hP.2.1 7)) 16 (hP.2.1 16)) 17 (hP.2.1 17)) 9 (hP.2.2 9))⟩
    replace p0_29 : (1 : Int) = 0 ∨ (v 16) ≠ 0 → w16_29 = (v 16) ∧ w17_29 = (v 17) := p0_29
    replace p1_29 : (1 : Int) ≠ 0 → (v 16) = 0 → w16_29 = (3 : Int) ∧ w17_29 = pp := p1_29
    have rw16_29 : 0 ≤ w16_29 ∧ w16_29 ≤ 5 := hP.2.1 16
    have rw17_29 : (-1) ≤ w17_29 ∧ w17_29 ≤ 700 := hP.2.1 17
    first | replace p0_29 := p0_29 (by omega) | clear p0_29
    first | replace p1_29 := p1_29 (by omega) (by omega) | clear p1_29
    refine lv_aload_n hx hb dX3_readRound_23 rfl (lv_at hl 1 rfl) ?_
    refine g_cv (As := []) (rest := []) (n := 0) C hml (e_La_goOn l D k A ad hD (va_up (va_up (va_up (va_up v 6 (v 6)) 7 (v 7)) 16 w16_29) 17 w17_29) (va_up f 9 (f 9)) g nn pp (show tAt (f 0) nn (f 6) (f 7) (f 8) (v 5) (v 6) pp from hc)) mM_X3_70 mI_X3_goOn mE_X3_goOn mN_X3 mC_X3_goOn (by decide +kernel) 9 (ci := 3) rfl rfl hP hS (fun _ h => h) ⟨Nat.le_of_ble_eq_true rfl, Nat.le_of_ble_eq_true rfl⟩ ⟨Nat.zero_le _, Nat.zero_le _⟩ hl.1 rfl rfl (Nat.le_of_ble_eq_true rfl) dX3_readRound_24 (fun r_30 v_30 f_30 g_30 H locs hq_30 hP _ hS => ?_)
    obtain ⟨z_30, w6_30, rfl, rfl, rfl, rfl, p0_30, p1_30, p2_30, p3_30⟩ := hq_30
    show W p l e (gRm 4 82) s m args below meth c _ _ 0 0 Q (F0 m 27 ls [.int (iI z_30)])
    have hP : gWd D (rwT k ad) (va_up (va_up (va_up (va_up v 6 w6_30) 7 (v 7)) 16 w16_29) 17 w17_29) (va_up f 9 (f 9)) g H := ⟨hP.1, (gF_up (V := rwV) (F := rwF) (gR_up (V := rwV) (F := rwF) (gR_up (V := rwV) (F := rwF) (gR_up (V := rwV) (F := rwF) (gR_up (V := rwV) (F := rwF) ⟨hok.1, hok.2⟩ 6 (hP.2.1 6)) 7 (hP.2.1 7)) 16 (hP.2.1 16)) 17 (hP.2.1 17)) 9 (hP.2.2 9))⟩
    replace p0_30 : 0 ≤ z_30 ∧ z_30 ≤ 1 := p0_30
    replace p1_30 : z_30 = 1 ↔ w16_29 = 0 := p1_30
    replace p2_30 : w16_29 ≠ 0 → w6_30 = (v 6) := p2_30
    replace p3_30 : w16_29 = 0 → (tK (f 0) nn pp) ≠ 256 → (tK (f 0) nn pp) ≠ 257 → tAt (f 0) nn (f 6) (f 7) (f 8) (v 5) w6_30 (tX (f 0) nn pp) := p3_30
    have rw6_30 : 0 ≤ w6_30 ∧ w6_30 ≤ 700 := hP.2.1 6
    first | replace p2_30 := p2_30 (by omega) | clear p2_30
    try have hc2 := p3_30 (by omega) (by omega) (by omega)
    clear p3_30
    refine gi_zne (tgt := 31) hx hb dX3_readRound_27 (by decide) (by omega) (fun c_31 => ?_) (fun c_31 => ?_)
    · exfalso; omega
    · have v_30 := mt p1_30.mpr (show ¬ z_30 = 1 by omega)
      clear p1_30
      exact g_vret hQ C hr hlocks hP hS dX3_readRound_30 ⟨w6_30, (v 7), w16_29, w17_29, (f 9), rfl, rfl, rfl, rfl, (by first | exact oX_bad (by rw [if_pos (by omega)]) (by decide) (by omega) (by omega) (tAt_eq hc (by omega)) | (rw [if_neg (by omega)]; first | exact hJ4 (by omega) | exact (if h0 : w16_29 = 0 then oX_ok (by rw [← hJ3 h0, show (4 - x2).toNat = 0 by omega]; rfl) h0 (hJ2 h0) hJ1 else hJ4 h0))), (by first | omega | (split <;> omega)), (fun h => by first | (exfalso; omega) | exact shNew (hI (by omega)) (by omega)), (fun h => by first | (exfalso; omega) | (have h9 := hC2.get (by omega); rw [show x2 = 4 by omega] at h9; exact h9)), (fun e he => by first | rfl | exact hC3.get e he)⟩

set_option maxHeartbeats 4000000 in
set_option maxRecDepth 100000 in
theorem q_e_La_addKey (l : Launch) (D : va_G) (k : Nat → ClassId) (A : Nat → Prop) (ad : Nat → Nat) (hD : rwD A k ad) (v : gV) (f g : gF) (a1 : Int) (a2 : Int) (h_a1 : inR a1) (h_a2 : inR a2) (h1 : 0 ≤ a1 ∧ a1 ≤ 3) : GM l D k A (rwT k ad) yX4_addKey cX4_addKey 3 none 0 0 [.ref (ad 14), .int (iI a1), .int (iI a2)] v f g (fun r v1 f1 g1 => ∃ (w9 : Int) (a12_ : Int → Int) (a13_ : Int → Int), r = none ∧ (va_up v 9 w9) = v1 ∧ (va_up (va_up f 12 a12_) 13 a13_) = f1 ∧ g = g1 ∧ ((v 9) < 4 → w9 = (v 9) + 1) ∧ ((v 9) < 4 → a12_ = u1 (f 12) (v 9) a1 ∧ a13_ = u1 (f 13) (v 9) (if a2 = 0 then 0 else 1))) := by
  refine GM.of (by decide) (Nat.le_of_ble_eq_true rfl) ?_
  intro p e s m args below meth c Q ls hQ C hml hr hlocks hP hl
  have hx := C.1
  have hb := C.2.1
  have hok := hP.2
  have hS : va_S A s.heap s.heap [] := va_S.rf
  have hl : lv_has ls 3 [(0, .ref (ad 14)), (1, .int (iI a1)), (2, .int (iI a2))] := hl
  have hP : gWd D (rwT k ad) (va_up v 9 (v 9)) (va_up (va_up f 12 (f 12)) 13 (f 13)) g s.heap := by rw [va_id, va_id, va_id]; exact hP
  refine lv_aload_n hx hb dX4_addKey_0 rfl (lv_at hl 0 rfl) ?_
  refine rwG_reader_draft_keys C hP mF_X4_42 dX4_addKey_1 ?_
  show W p l e (gRm 0 0) s m args below meth c _ _ 0 0 Q (F0 m 4 ls [.int (iI (v 9))])
  have r_1 : 0 ≤ (v 9) ∧ (v 9) ≤ 4 := hok.1 9
  refine lv_iconst (v := iI 4) hx hb dX4_addKey_4 rfl ?_
  refine gi_cge (tgt := 46) hx hb dX4_addKey_5 (by decide) (by omega) (by decide) (fun c_2 => ?_) (fun c_2 => ?_)
  · exact g_vret hQ C hr hlocks hP hS dX4_addKey_46 ⟨(v 9), (f 12), (f 13), rfl, rfl, rfl, rfl, (by first | omega | (split <;> omega)), (by first | (intro h; exfalso; omega) | exact fun _ => ⟨rfl, by first | rw [if_pos (by omega)] | rw [if_neg (by omega)]⟩)⟩
  · refine lv_aload_n hx hb dX4_addKey_8 rfl (lv_at hl 0 rfl) ?_
    refine rwG_reader_draft_keyKind C hP mF_X4_21 dX4_addKey_9 ?_
    refine lv_aload_n hx hb dX4_addKey_12 rfl (lv_at hl 0 rfl) ?_
    refine rwG_reader_draft_keys C hP mF_X4_42 dX4_addKey_13 ?_
    show W p l e (gRm 0 0) s m args below meth c _ _ 0 0 Q (F0 m 16 ls [.int (iI (v 9)), .ref (ad 18)])
    refine lv_iload_n hx hb dX4_addKey_16 rfl (lv_at hl 1 rfl) ?_
    refine rwS_reader_draft_keyKind (f1 := (va_up (va_up f 12 (u1 (f 12) (v 9) a1)) 13 (f 13))) C hP hD hS (by omega) (by omega) (by omega) rfl (Or.inr (gF_up (V := rwV) (F := rwF) (gF_up (V := rwV) (F := rwF) (gR_up (V := rwV) (F := rwF) ⟨hok.1, hok.2⟩ 9 (hP.2.1 9)) 12 (u1_rng (hP.2.2 12) (show 0 ≤ a1 ∧ a1 ≤ 3 from (by omega)))) 13 (hP.2.2 13))) dX4_addKey_17 (fun H locs hP hS => ?_)
    refine lv_aload_n hx hb dX4_addKey_18 rfl (lv_at hl 0 rfl) ?_
    refine rwG_reader_draft_keyDown C hP mF_X4_24 dX4_addKey_19 ?_
    refine lv_aload_n hx hb dX4_addKey_22 rfl (lv_at hl 0 rfl) ?_
    refine rwG_reader_draft_keys C hP mF_X4_42 dX4_addKey_23 ?_
    show W p l e (gRm 0 0) s m args below meth c _ _ 0 0 Q (F0 m 26 ls [.int (iI (v 9)), .ref (ad 19)])
    refine lv_iload_n hx hb dX4_addKey_26 rfl (lv_at hl 2 rfl) ?_
    refine gi_zeq (tgt := 34) hx hb dX4_addKey_27 (by decide) (by omega) (fun c_3 => ?_) (fun c_3 => ?_)
    · refine lv_iconst (v := iI 0) hx hb dX4_addKey_34 rfl ?_
      refine rwS_reader_draft_keyDown (f1 := (va_up (va_up f 12 (u1 (f 12) (v 9) a1)) 13 (u1 (f 13) (v 9) 0))) C hP hD hS (by omega) (by omega) (by decide) rfl (Or.inr (gF_up (V := rwV) (F := rwF) (gF_up (V := rwV) (F := rwF) (gR_up (V := rwV) (F := rwF) ⟨hok.1, hok.2⟩ 9 (hP.2.1 9)) 12 (hP.2.2 12)) 13 (u1_rng (hP.2.2 13) (show 0 ≤ 0 ∧ 0 ≤ 1 from (by decide))))) dX4_addKey_35 (fun H locs hP hS => ?_)
      refine lv_aload_n hx hb dX4_addKey_36 rfl (lv_at hl 0 rfl) ?_
      refine lv_dup hx hb dX4_addKey_37 rfl ?_
      refine rwG_reader_draft_keys C hP mF_X4_42 dX4_addKey_38 ?_
      show W p l e (gRm 0 0) s m args below meth c _ _ 0 0 Q (F0 m 41 ls [.int (iI (v 9)), .ref (ad 14)])
      refine lv_iconst (v := iI 1) hx hb dX4_addKey_41 rfl ?_
      refine gi_add (z := ((v 9) + 1)) hx hb dX4_addKey_42 rfl ?_
      refine rwP_reader_draft_keys (v1 := (va_up v 9 ((v 9) + 1))) C hP hD hS mF_X4_42 (by omega) rfl (Or.inr (gF_up (V := rwV) (F := rwF) (gF_up (V := rwV) (F := rwF) (gR_up (V := rwV) (F := rwF) ⟨hok.1, hok.2⟩ 9 (show 0 ≤ ((v 9) + 1) ∧ ((v 9) + 1) ≤ 4 from by omega)) 12 (hP.2.2 12)) 13 (hP.2.2 13))) dX4_addKey_43 (fun H locs hP hS => ?_)
      exact g_vret hQ C hr hlocks hP hS dX4_addKey_46 ⟨((v 9) + 1), (u1 (f 12) (v 9) a1), (u1 (f 13) (v 9) 0), rfl, rfl, rfl, rfl, (by first | omega | (split <;> omega)), (by first | (intro h; exfalso; omega) | exact fun _ => ⟨rfl, by first | rw [if_pos (by omega)] | rw [if_neg (by omega)]⟩)⟩
    · refine lv_iconst (v := iI 1) hx hb dX4_addKey_30 rfl ?_
      refine lv_goto (tgt := 35) hx hb dX4_addKey_31 (by decide) ?_
      refine rwS_reader_draft_keyDown (f1 := (va_up (va_up f 12 (u1 (f 12) (v 9) a1)) 13 (u1 (f 13) (v 9) 1))) C hP hD hS (by omega) (by omega) (by decide) rfl (Or.inr (gF_up (V := rwV) (F := rwF) (gF_up (V := rwV) (F := rwF) (gR_up (V := rwV) (F := rwF) ⟨hok.1, hok.2⟩ 9 (hP.2.1 9)) 12 (hP.2.2 12)) 13 (u1_rng (hP.2.2 13) (show 0 ≤ 1 ∧ 1 ≤ 1 from (by decide))))) dX4_addKey_35 (fun H locs hP hS => ?_)
      refine lv_aload_n hx hb dX4_addKey_36 rfl (lv_at hl 0 rfl) ?_
      refine lv_dup hx hb dX4_addKey_37 rfl ?_
      refine rwG_reader_draft_keys C hP mF_X4_42 dX4_addKey_38 ?_
      show W p l e (gRm 0 0) s m args below meth c _ _ 0 0 Q (F0 m 41 ls [.int (iI (v 9)), .ref (ad 14)])
      refine lv_iconst (v := iI 1) hx hb dX4_addKey_41 rfl ?_
      refine gi_add (z := ((v 9) + 1)) hx hb dX4_addKey_42 rfl ?_
      refine rwP_reader_draft_keys (v1 := (va_up v 9 ((v 9) + 1))) C hP hD hS mF_X4_42 (by omega) rfl (Or.inr (gF_up (V := rwV) (F := rwF) (gF_up (V := rwV) (F := rwF) (gR_up (V := rwV) (F := rwF) ⟨hok.1, hok.2⟩ 9 (show 0 ≤ ((v 9) + 1) ∧ ((v 9) + 1) ≤ 4 from by omega)) 12 (hP.2.2 12)) 13 (hP.2.2 13))) dX4_addKey_43 (fun H locs hP hS => ?_)
      exact g_vret hQ C hr hlocks hP hS dX4_addKey_46 ⟨((v 9) + 1), (u1 (f 12) (v 9) a1), (u1 (f 13) (v 9) 1), rfl, rfl, rfl, rfl, (by first | omega | (split <;> omega)), (by first | (intro h; exfalso; omega) | exact fun _ => ⟨rfl, by first | rw [if_pos (by omega)] | rw [if_neg (by omega)]⟩)⟩

set_option maxHeartbeats 4000000 in
set_option maxRecDepth 100000 in
theorem q_e_La_readKey (l : Launch) (D : va_G) (k : Nat → ClassId) (A : Nat → Prop) (ad : Nat → Nat) (hD : rwD A k ad) (v : gV) (f g : gF) (nn : Int) (pp : Int) (hc : tAt (f 0) nn (f 6) (f 7) (f 8) (v 5) (v 6) pp) (hf : (v 16) = 0) : GM l D k A (rwT k ad) yX3_readKey cX3_readKey 3 none 3 63 [.ref (ad 9)] v f g (fun r v1 f1 g1 => ∃ (w6 : Int) (w9 : Int) (w16 : Int) (w17 : Int) (a12_ : Int → Int) (a13_ : Int → Int), r = none ∧ (va_up (va_up (va_up (va_up v 6 w6) 9 w9) 16 w16) 17 w17) = v1 ∧ (va_up (va_up f 12 a12_) 13 a13_) = f1 ∧ g = g1 ∧ (oX (f 0) nn (f 6) (f 7) (f 8) (v 5) (ky1 (f 0) nn (v 9) pp) w16 w17 (v 17) w6) ∧ (w16 = 0 → w9 = (v 9) + 1) ∧ (w16 = 0 → a12_ = u1 (f 12) (v 9) (tK (f 0) nn (tX (f 0) nn pp) - 268) ∧ a13_ = u1 (f 13) (v 9) (if (tK (f 0) nn pp) = 267 then 1 else 0))) := by
  refine GM.of (by decide) (Nat.le_of_ble_eq_true rfl) ?_
  intro p e s m args below meth c Q ls hQ C hml hr hlocks hP hl
  have hx := C.1
  have hb := C.2.1
  have hok := hP.2
  have hS : va_S A s.heap s.heap [] := va_S.rf
  have hl : lv_has ls 3 [(0, .ref (ad 9))] := hl
  have hP : gWd D (rwT k ad) (va_up (va_up (va_up (va_up v 6 (v 6)) 9 (v 9)) 16 (v 16)) 17 (v 17)) (va_up (va_up f 12 (f 12)) 13 (f 13)) g s.heap := by rw [va_id, va_id, va_id, va_id, va_id, va_id]; exact hP
  have hfk := fk_rng (f 0) nn pp
  have hfk2 := fk_rng (f 0) nn (tX (f 0) nn pp)
  have hkr := tK_rng (f 0) nn (tX (f 0) nn pp)
  have r_1 : 0 ≤ (v 16) ∧ (v 16) ≤ 5 := hok.1 16
  have r_2 : 0 ≤ (v 9) ∧ (v 9) ≤ 4 := hok.1 9
  refine lv_aload_n hx hb dX3_readKey_0 rfl (lv_at hl 0 rfl) ?_
  refine rwG_reader_tokens C hP mF_X3_12 dX3_readKey_1 ?_
  refine g_cv (As := []) (rest := []) (n := 0) C hml (e_To_kind l D k A ad hD (va_up (va_up (va_up (va_up v 6 (v 6)) 9 (v 9)) 16 (v 16)) 17 (v 17)) (va_up (va_up f 12 (f 12)) 13 (f 13)) g nn pp (show tAt (f 0) nn (f 6) (f 7) (f 8) (v 5) (v 6) pp from hc)) mM_X3_56 mI_X6_kind mE_X6_kind mN_X6 mC_X6_kind (by decide +kernel) 10 (ci := 6) rfl rfl hP hS (fun _ h => h) ⟨Nat.le_of_ble_eq_true rfl, Nat.le_of_ble_eq_true rfl⟩ ⟨Nat.zero_le _, Nat.zero_le _⟩ hl.1 rfl rfl (Nat.le_of_ble_eq_true rfl) dX3_readKey_4 (fun r_3 v_3 f_3 g_3 H locs hq_3 hP _ hS => ?_)
  obtain ⟨z_3, rfl, rfl, rfl, rfl, p0_3, p1_3⟩ := hq_3
  show W p l e (gRm 3 63) s m args below meth c _ _ 0 0 Q (F0 m 7 ls [.int (iI z_3)])
  replace p0_3 : z_3 = (tK (f 0) nn pp) := p0_3
  replace p1_3 : 40 ≤ z_3 ∧ z_3 ≤ 277 := p1_3
  have hz_3 : inR z_3 := (by first | omega | (rw [p0_3]; split <;> omega))
  have hK4 := p0_3
  refine lv_sipush (v := iI 267) hx hb dX3_readKey_7 (by decide) ?_
  refine gi_cne (tgt := 17) hx hb dX3_readKey_10 (by decide) (by omega) (by decide) (fun c_4 => ?_) (fun c_4 => ?_)
  · refine lv_iconst (v := iI 0) hx hb dX3_readKey_17 rfl ?_
    refine lv_istore_n (lv' := [(1, .int (iI 0)), (0, .ref (ad 9))]) hx hb dX3_readKey_18 rfl hl (by decide) rfl (fun ls hl => ?_)
    refine lv_iload_n hx hb dX3_readKey_19 rfl (lv_at hl 0 rfl) ?_
    refine gi_zne (tgt := 40) hx hb dX3_readKey_20 (by decide) (by decide) (fun c_5 => ?_) (fun c_5 => ?_)
    · exfalso; omega
    · refine lv_aload_n hx hb dX3_readKey_23 rfl (lv_at hl 1 rfl) ?_
      refine rwG_reader_tokens C hP mF_X3_12 dX3_readKey_24 ?_
      refine g_cv (As := []) (rest := []) (n := 0) C hml (e_To_kind l D k A ad hD (va_up (va_up (va_up (va_up v 6 (v 6)) 9 (v 9)) 16 (v 16)) 17 (v 17)) (va_up (va_up f 12 (f 12)) 13 (f 13)) g nn pp (show tAt (f 0) nn (f 6) (f 7) (f 8) (v 5) (v 6) pp from hc)) mM_X3_56 mI_X6_kind mE_X6_kind mN_X6 mC_X6_kind (by decide +kernel) 10 (ci := 6) rfl rfl hP hS (fun _ h => h) ⟨Nat.le_of_ble_eq_true rfl, Nat.le_of_ble_eq_true rfl⟩ ⟨Nat.zero_le _, Nat.zero_le _⟩ hl.1 rfl rfl (Nat.le_of_ble_eq_true rfl) dX3_readKey_27 (fun r_6 v_6 f_6 g_6 H locs hq_6 hP _ hS => ?_)
      obtain ⟨z_6, rfl, rfl, rfl, rfl, p0_6, p1_6⟩ := hq_6
      show W p l e (gRm 3 63) s m args below meth c _ _ 0 0 Q (F0 m 30 ls [.int (iI z_6)])
      replace p0_6 : z_6 = (tK (f 0) nn pp) := p0_6
      replace p1_6 : 40 ≤ z_6 ∧ z_6 ≤ 277 := p1_6
      have hz_6 : inR z_6 := (by first | omega | (rw [p0_6]; split <;> omega))
      refine lv_sipush (v := iI 266) hx hb dX3_readKey_30 (by decide) ?_
      refine gi_ceq (tgt := 40) hx hb dX3_readKey_33 (by decide) (by omega) (by decide) (fun c_7 => ?_) (fun c_7 => ?_)
      · refine lv_aload_n hx hb dX3_readKey_40 rfl (lv_at hl 1 rfl) ?_
        refine lv_aload_n hx hb dX3_readKey_41 rfl (lv_at hl 1 rfl) ?_
        refine rwG_reader_draft C hP mF_X3_21 dX3_readKey_42 ?_
        refine rwG_reader_draft_keys C hP mF_X3_116 dX3_readKey_45 ?_
        show W p l e (gRm 3 63) s m args below meth c _ _ 0 0 Q (F0 m 48 ls [.int (iI (v 9)), .ref (ad 9)])
        refine lv_iconst (v := iI 4) hx hb dX3_readKey_48 rfl ?_
        refine gi_clt (tgt := 56) hx hb dX3_readKey_49 (by decide) (by omega) (by decide) (fun c_8 => ?_) (fun c_8 => ?_)
        · refine lv_iconst (v := iI 0) hx hb dX3_readKey_56 rfl ?_
          refine lv_iconst (v := iI 3) hx hb dX3_readKey_57 rfl ?_
          refine g_cv (As := [.int (iI 0), .int (iI 3)]) (rest := []) (n := 2) C hml (e_La_refuseIf l D k A ad hD (va_up (va_up (va_up (va_up v 6 (v 6)) 9 (v 9)) 16 (v 16)) 17 (v 17)) (va_up (va_up f 12 (f 12)) 13 (f 13)) g 0 3 nn pp (by decide) (by decide) (show tAt (f 0) nn (f 6) (f 7) (f 8) (v 5) (v 6) pp from hc) (show 1 ≤ (3 : Int) ∧ (3 : Int) ≤ 5 from by omega)) mM_X3_66 mI_X3_refuseIf mE_X3_refuseIf mN_X3 mC_X3_refuseIf (by decide +kernel) 9 (ci := 3) rfl rfl hP hS (fun _ h => h) ⟨Nat.le_of_ble_eq_true rfl, Nat.le_of_ble_eq_true rfl⟩ ⟨Nat.zero_le _, Nat.zero_le _⟩ hl.1 rfl rfl (Nat.le_of_ble_eq_true rfl) dX3_readKey_58 (fun r_9 v_9 f_9 g_9 H locs hq_9 hP _ hS => ?_)
          obtain ⟨w16_9, w17_9, rfl, rfl, rfl, rfl, p0_9, p1_9⟩ := hq_9
          show W p l e (gRm 3 63) s m args below meth c _ _ 0 0 Q (F0 m 61 ls [])
          have hP : gWd D (rwT k ad) (va_up (va_up (va_up (va_up v 6 (v 6)) 9 (v 9)) 16 w16_9) 17 w17_9) (va_up (va_up f 12 (f 12)) 13 (f 13)) g H := ⟨hP.1, (gF_up (V := rwV) (F := rwF) (gF_up (V := rwV) (F := rwF) (gR_up (V := rwV) (F := rwF) (gR_up (V := rwV) (F := rwF) (gR_up (V := rwV) (F := rwF) (gR_up (V := rwV) (F := rwF) ⟨hok.1, hok.2⟩ 6 (hP.2.1 6)) 9 (hP.2.1 9)) 16 (hP.2.1 16)) 17 (hP.2.1 17)) 12 (hP.2.2 12)) 13 (hP.2.2 13))⟩
          replace p0_9 : (0 : Int) = 0 ∨ (v 16) ≠ 0 → w16_9 = (v 16) ∧ w17_9 = (v 17) := p0_9
          replace p1_9 : (0 : Int) ≠ 0 → (v 16) = 0 → w16_9 = (3 : Int) ∧ w17_9 = pp := p1_9
          have rw16_9 : 0 ≤ w16_9 ∧ w16_9 ≤ 5 := hP.2.1 16
          have rw17_9 : (-1) ≤ w17_9 ∧ w17_9 ≤ 700 := hP.2.1 17
          first | replace p0_9 := p0_9 (by omega) | clear p0_9
          first | replace p1_9 := p1_9 (by omega) (by omega) | clear p1_9
          refine lv_aload_n hx hb dX3_readKey_61 rfl (lv_at hl 1 rfl) ?_
          refine g_cv (As := []) (rest := []) (n := 0) C hml (e_La_goOn l D k A ad hD (va_up (va_up (va_up (va_up v 6 (v 6)) 9 (v 9)) 16 w16_9) 17 w17_9) (va_up (va_up f 12 (f 12)) 13 (f 13)) g nn pp (show tAt (f 0) nn (f 6) (f 7) (f 8) (v 5) (v 6) pp from hc)) mM_X3_70 mI_X3_goOn mE_X3_goOn mN_X3 mC_X3_goOn (by decide +kernel) 9 (ci := 3) rfl rfl hP hS (fun _ h => h) ⟨Nat.le_of_ble_eq_true rfl, Nat.le_of_ble_eq_true rfl⟩ ⟨Nat.zero_le _, Nat.zero_le _⟩ hl.1 rfl rfl (Nat.le_of_ble_eq_true rfl) dX3_readKey_62 (fun r_10 v_10 f_10 g_10 H locs hq_10 hP _ hS => ?_)
          obtain ⟨z_10, w6_10, rfl, rfl, rfl, rfl, p0_10, p1_10, p2_10, p3_10⟩ := hq_10
          show W p l e (gRm 3 63) s m args below meth c _ _ 0 0 Q (F0 m 65 ls [.int (iI z_10)])
          have hP : gWd D (rwT k ad) (va_up (va_up (va_up (va_up v 6 w6_10) 9 (v 9)) 16 w16_9) 17 w17_9) (va_up (va_up f 12 (f 12)) 13 (f 13)) g H := ⟨hP.1, (gF_up (V := rwV) (F := rwF) (gF_up (V := rwV) (F := rwF) (gR_up (V := rwV) (F := rwF) (gR_up (V := rwV) (F := rwF) (gR_up (V := rwV) (F := rwF) (gR_up (V := rwV) (F := rwF) ⟨hok.1, hok.2⟩ 6 (hP.2.1 6)) 9 (hP.2.1 9)) 16 (hP.2.1 16)) 17 (hP.2.1 17)) 12 (hP.2.2 12)) 13 (hP.2.2 13))⟩
          replace p0_10 : 0 ≤ z_10 ∧ z_10 ≤ 1 := p0_10
          replace p1_10 : z_10 = 1 ↔ w16_9 = 0 := p1_10
          replace p2_10 : w16_9 ≠ 0 → w6_10 = (v 6) := p2_10
          replace p3_10 : w16_9 = 0 → (tK (f 0) nn pp) ≠ 256 → (tK (f 0) nn pp) ≠ 257 → tAt (f 0) nn (f 6) (f 7) (f 8) (v 5) w6_10 (tX (f 0) nn pp) := p3_10
          have rw6_10 : 0 ≤ w6_10 ∧ w6_10 ≤ 700 := hP.2.1 6
          first | replace p2_10 := p2_10 (by omega) | clear p2_10
          try have hc2 := p3_10 (by omega) (by omega) (by omega)
          clear p3_10
          refine gi_zne (tgt := 69) hx hb dX3_readKey_65 (by decide) (by omega) (fun c_11 => ?_) (fun c_11 => ?_)
          · have v_10 := p1_10.mp (show z_10 = 1 by omega)
            clear p1_10
            refine lv_aload_n hx hb dX3_readKey_69 rfl (lv_at hl 1 rfl) ?_
            refine rwG_reader_tokens C hP mF_X3_12 dX3_readKey_70 ?_
            refine g_cv (As := []) (rest := []) (n := 0) C hml (e_To_kind l D k A ad hD (va_up (va_up (va_up (va_up v 6 w6_10) 9 (v 9)) 16 w16_9) 17 w17_9) (va_up (va_up f 12 (f 12)) 13 (f 13)) g nn (tX (f 0) nn pp) (show tAt (f 0) nn (f 6) (f 7) (f 8) (v 5) w6_10 (tX (f 0) nn pp) from hc2)) mM_X3_56 mI_X6_kind mE_X6_kind mN_X6 mC_X6_kind (by decide +kernel) 10 (ci := 6) rfl rfl hP hS (fun _ h => h) ⟨Nat.le_of_ble_eq_true rfl, Nat.le_of_ble_eq_true rfl⟩ ⟨Nat.zero_le _, Nat.zero_le _⟩ hl.1 rfl rfl (Nat.le_of_ble_eq_true rfl) dX3_readKey_73 (fun r_12 v_12 f_12 g_12 H locs hq_12 hP _ hS => ?_)
            obtain ⟨z_12, rfl, rfl, rfl, rfl, p0_12, p1_12⟩ := hq_12
            show W p l e (gRm 3 63) s m args below meth c _ _ 0 0 Q (F0 m 76 ls [.int (iI z_12)])
            replace p0_12 : z_12 = (tK (f 0) nn (tX (f 0) nn pp)) := p0_12
            replace p1_12 : 40 ≤ z_12 ∧ z_12 ≤ 277 := p1_12
            have hz_12 : inR z_12 := (by first | omega | (rw [p0_12]; split <;> omega))
            have hK73 := p0_12
            refine lv_sipush (v := iI 268) hx hb dX3_readKey_76 (by decide) ?_
            refine gi_sub (z := (z_12 - 268)) hx hb dX3_readKey_79 rfl ?_
            refine lv_istore_n (lv' := [(2, .int (iI (z_12 - 268))), (1, .int (iI 0)), (0, .ref (ad 9))]) hx hb dX3_readKey_80 rfl hl (by decide) rfl (fun ls hl => ?_)
            refine lv_iload_n hx hb dX3_readKey_81 rfl (lv_at hl 0 rfl) ?_
            refine gi_zlt (tgt := 90) hx hb dX3_readKey_82 (by decide) (by omega) (fun c_13 => ?_) (fun c_13 => ?_)
            · refine lv_aload_n hx hb dX3_readKey_90 rfl (lv_at hl 2 rfl) ?_
              refine g_cv (As := []) (rest := []) (n := 0) C hml (e_La_refuseToken l D k A ad hD (va_up (va_up (va_up (va_up v 6 w6_10) 9 (v 9)) 16 w16_9) 17 w17_9) (va_up (va_up f 12 (f 12)) 13 (f 13)) g nn (tX (f 0) nn pp) (show tAt (f 0) nn (f 6) (f 7) (f 8) (v 5) w6_10 (tX (f 0) nn pp) from hc2)) mM_X3_88 mI_X3_refuseToken mE_X3_refuseToken mN_X3 mC_X3_refuseToken (by decide +kernel) 9 (ci := 3) rfl rfl hP hS (fun _ h => h) ⟨Nat.le_of_ble_eq_true rfl, Nat.le_of_ble_eq_true rfl⟩ ⟨Nat.zero_le _, Nat.zero_le _⟩ hl.1 rfl rfl (Nat.le_of_ble_eq_true rfl) dX3_readKey_91 (fun r_14 v_14 f_14 g_14 H locs hq_14 hP _ hS => ?_)
              obtain ⟨w16_14, w17_14, rfl, rfl, rfl, rfl, p0_14, p1_14⟩ := hq_14
              show W p l e (gRm 3 63) s m args below meth c _ _ 0 0 Q (F0 m 94 ls [])
              have hP : gWd D (rwT k ad) (va_up (va_up (va_up (va_up v 6 w6_10) 9 (v 9)) 16 w16_14) 17 w17_14) (va_up (va_up f 12 (f 12)) 13 (f 13)) g H := ⟨hP.1, (gF_up (V := rwV) (F := rwF) (gF_up (V := rwV) (F := rwF) (gR_up (V := rwV) (F := rwF) (gR_up (V := rwV) (F := rwF) (gR_up (V := rwV) (F := rwF) (gR_up (V := rwV) (F := rwF) ⟨hok.1, hok.2⟩ 6 (hP.2.1 6)) 9 (hP.2.1 9)) 16 (hP.2.1 16)) 17 (hP.2.1 17)) 12 (hP.2.2 12)) 13 (hP.2.2 13))⟩
              replace p0_14 : w16_9 = 0 → w16_14 = (fk (f 0) nn (tX (f 0) nn pp)) ∧ w17_14 = (tX (f 0) nn pp) := p0_14
              replace p1_14 : w16_9 ≠ 0 → w16_14 = w16_9 ∧ w17_14 = w17_9 := p1_14
              have rw16_14 : 0 ≤ w16_14 ∧ w16_14 ≤ 5 := hP.2.1 16
              have rw17_14 : (-1) ≤ w17_14 ∧ w17_14 ≤ 700 := hP.2.1 17
              first | replace p0_14 := p0_14 (by omega) | clear p0_14
              first | replace p1_14 := p1_14 (by omega) | clear p1_14
              refine lv_goto (tgt := 106) hx hb dX3_readKey_94 (by decide) ?_
              refine lv_aload_n hx hb dX3_readKey_106 rfl (lv_at hl 2 rfl) ?_
              refine g_cv (As := []) (rest := []) (n := 0) C hml (e_La_goOn l D k A ad hD (va_up (va_up (va_up (va_up v 6 w6_10) 9 (v 9)) 16 w16_14) 17 w17_14) (va_up (va_up f 12 (f 12)) 13 (f 13)) g nn (tX (f 0) nn pp) (show tAt (f 0) nn (f 6) (f 7) (f 8) (v 5) w6_10 (tX (f 0) nn pp) from hc2)) mM_X3_70 mI_X3_goOn mE_X3_goOn mN_X3 mC_X3_goOn (by decide +kernel) 9 (ci := 3) rfl rfl hP hS (fun _ h => h) ⟨Nat.le_of_ble_eq_true rfl, Nat.le_of_ble_eq_true rfl⟩ ⟨Nat.zero_le _, Nat.zero_le _⟩ hl.1 rfl rfl (Nat.le_of_ble_eq_true rfl) dX3_readKey_107 (fun r_15 v_15 f_15 g_15 H locs hq_15 hP _ hS => ?_)
              obtain ⟨z_15, w6_15, rfl, rfl, rfl, rfl, p0_15, p1_15, p2_15, p3_15⟩ := hq_15
              show W p l e (gRm 3 63) s m args below meth c _ _ 0 0 Q (F0 m 110 ls [.int (iI z_15)])
              have hP : gWd D (rwT k ad) (va_up (va_up (va_up (va_up v 6 w6_15) 9 (v 9)) 16 w16_14) 17 w17_14) (va_up (va_up f 12 (f 12)) 13 (f 13)) g H := ⟨hP.1, (gF_up (V := rwV) (F := rwF) (gF_up (V := rwV) (F := rwF) (gR_up (V := rwV) (F := rwF) (gR_up (V := rwV) (F := rwF) (gR_up (V := rwV) (F := rwF) (gR_up (V := rwV) (F := rwF) ⟨hok.1, hok.2⟩ 6 (hP.2.1 6)) 9 (hP.2.1 9)) 16 (hP.2.1 16)) 17 (hP.2.1 17)) 12 (hP.2.2 12)) 13 (hP.2.2 13))⟩
              replace p0_15 : 0 ≤ z_15 ∧ z_15 ≤ 1 := p0_15
              replace p1_15 : z_15 = 1 ↔ w16_14 = 0 := p1_15
              replace p2_15 : w16_14 ≠ 0 → w6_15 = w6_10 := p2_15
              replace p3_15 : w16_14 = 0 → (tK (f 0) nn (tX (f 0) nn pp)) ≠ 256 → (tK (f 0) nn (tX (f 0) nn pp)) ≠ 257 → tAt (f 0) nn (f 6) (f 7) (f 8) (v 5) w6_15 (tX (f 0) nn (tX (f 0) nn pp)) := p3_15
              have rw6_15 : 0 ≤ w6_15 ∧ w6_15 ≤ 700 := hP.2.1 6
              first | replace p2_15 := p2_15 (by omega) | clear p2_15
              try have hH3 := p3_15 (by omega) (by omega) (by omega)
              clear p3_15
              refine lv_pop hx hb dX3_readKey_110 rfl ?_
              exact g_vret hQ C hr hlocks hP hS dX3_readKey_111 ⟨w6_15, (v 9), w16_14, w17_14, (f 12), (f 13), rfl, rfl, rfl, rfl, (by first | exact oX_ok (ky1_d (by omega) (by omega) (by omega)) (by omega) (by omega) hH3 | exact oX_bad (ky1_a (by omega)) (by omega) (by omega) (by omega) (tAt_eq hc (by omega)) | exact oX_bad (ky1_b (by omega) (by omega)) (by decide) (by omega) (by omega) (tAt_eq hc (by omega)) | exact oX_bad (ky1_c (by omega) (by omega) (by omega)) (by omega) (by omega) (by omega) (tAt_eq hc2 (by omega))), (by first | omega | (split <;> omega)), (by first | (intro h; exfalso; omega) | exact fun h => (by have h9 := hAK.get (by omega); rw [h9.1, h9.2]; refine ⟨by congr 1 <;> omega, ?_⟩; congr 1; first | (rw [if_neg (by omega), if_pos (by omega)]) | (rw [if_pos (by omega), if_neg (by omega)]) | (rw [if_pos rfl, if_neg (by omega)])))⟩
            · refine lv_iload_n hx hb dX3_readKey_85 rfl (lv_at hl 0 rfl) ?_
              refine lv_iconst (v := iI 3) hx hb dX3_readKey_86 rfl ?_
              refine gi_cle (tgt := 97) hx hb dX3_readKey_87 (by decide) (by omega) (by decide) (fun c_16 => ?_) (fun c_16 => ?_)
              · refine lv_aload_n hx hb dX3_readKey_97 rfl (lv_at hl 2 rfl) ?_
                refine rwG_reader_draft C hP mF_X3_21 dX3_readKey_98 ?_
                refine lv_iload_n hx hb dX3_readKey_101 rfl (lv_at hl 0 rfl) ?_
                refine lv_iload_n hx hb dX3_readKey_102 rfl (lv_at hl 1 rfl) ?_
                refine g_cv (As := [.int (iI (z_12 - 268)), .int (iI 0)]) (rest := []) (n := 2) C hml (q_e_La_addKey l D k A ad hD (va_up (va_up (va_up (va_up v 6 w6_10) 9 (v 9)) 16 w16_9) 17 w17_9) (va_up (va_up f 12 (f 12)) 13 (f 13)) g (z_12 - 268) 0 (by omega) (by decide) (show 0 ≤ (z_12 - 268) ∧ (z_12 - 268) ≤ 3 from by omega)) mM_X3_122 mI_X4_addKey mE_X4_addKey mN_X4 mC_X4_addKey (by decide +kernel) 14 (ci := 4) rfl rfl hP hS (fun _ h => h) ⟨Nat.le_of_ble_eq_true rfl, Nat.le_of_ble_eq_true rfl⟩ ⟨Nat.zero_le _, Nat.zero_le _⟩ hl.1 rfl rfl (Nat.le_of_ble_eq_true rfl) dX3_readKey_103 (fun r_17 v_17 f_17 g_17 H locs hq_17 hP _ hS => ?_)
                obtain ⟨w9_17, a12_17, a13_17, rfl, rfl, rfl, rfl, p0_17, p1_17⟩ := hq_17
                show W p l e (gRm 3 63) s m args below meth c _ _ 0 0 Q (F0 m 106 ls [])
                have hP : gWd D (rwT k ad) (va_up (va_up (va_up (va_up v 6 w6_10) 9 w9_17) 16 w16_9) 17 w17_9) (va_up (va_up f 12 a12_17) 13 a13_17) g H := ⟨hP.1, (gF_up (V := rwV) (F := rwF) (gF_up (V := rwV) (F := rwF) (gR_up (V := rwV) (F := rwF) (gR_up (V := rwV) (F := rwF) (gR_up (V := rwV) (F := rwF) (gR_up (V := rwV) (F := rwF) ⟨hok.1, hok.2⟩ 6 (hP.2.1 6)) 9 (hP.2.1 9)) 16 (hP.2.1 16)) 17 (hP.2.1 17)) 12 (hP.2.2 12)) 13 (hP.2.2 13))⟩
                replace p0_17 : (v 9) < 4 → w9_17 = (v 9) + 1 := p0_17
                replace p1_17 : (v 9) < 4 → a12_17 = u1 (f 12) (v 9) (z_12 - 268) ∧ a13_17 = u1 (f 13) (v 9) (if (0 : Int) = 0 then 0 else 1) := p1_17
                have rw9_17 : 0 ≤ w9_17 ∧ w9_17 ≤ 4 := hP.2.1 9
                first | replace p0_17 := p0_17 (by omega) | clear p0_17
                have hAK := Bx.mk p1_17
                clear p1_17
                refine lv_aload_n hx hb dX3_readKey_106 rfl (lv_at hl 2 rfl) ?_
                refine g_cv (As := []) (rest := []) (n := 0) C hml (e_La_goOn l D k A ad hD (va_up (va_up (va_up (va_up v 6 w6_10) 9 w9_17) 16 w16_9) 17 w17_9) (va_up (va_up f 12 a12_17) 13 a13_17) g nn (tX (f 0) nn pp) (show tAt (f 0) nn (f 6) (f 7) (f 8) (v 5) w6_10 (tX (f 0) nn pp) from hc2)) mM_X3_70 mI_X3_goOn mE_X3_goOn mN_X3 mC_X3_goOn (by decide +kernel) 9 (ci := 3) rfl rfl hP hS (fun _ h => h) ⟨Nat.le_of_ble_eq_true rfl, Nat.le_of_ble_eq_true rfl⟩ ⟨Nat.zero_le _, Nat.zero_le _⟩ hl.1 rfl rfl (Nat.le_of_ble_eq_true rfl) dX3_readKey_107 (fun r_18 v_18 f_18 g_18 H locs hq_18 hP _ hS => ?_)
                obtain ⟨z_18, w6_18, rfl, rfl, rfl, rfl, p0_18, p1_18, p2_18, p3_18⟩ := hq_18
                show W p l e (gRm 3 63) s m args below meth c _ _ 0 0 Q (F0 m 110 ls [.int (iI z_18)])
                have hP : gWd D (rwT k ad) (va_up (va_up (va_up (va_up v 6 w6_18) 9 w9_17) 16 w16_9) 17 w17_9) (va_up (va_up f 12 a12_17) 13 a13_17) g H := ⟨hP.1, (gF_up (V := rwV) (F := rwF) (gF_up (V := rwV) (F := rwF) (gR_up (V := rwV) (F := rwF) (gR_up (V := rwV) (F := rwF) (gR_up (V := rwV) (F := rwF) (gR_up (V := rwV) (F := rwF) ⟨hok.1, hok.2⟩ 6 (hP.2.1 6)) 9 (hP.2.1 9)) 16 (hP.2.1 16)) 17 (hP.2.1 17)) 12 (hP.2.2 12)) 13 (hP.2.2 13))⟩
                replace p0_18 : 0 ≤ z_18 ∧ z_18 ≤ 1 := p0_18
                replace p1_18 : z_18 = 1 ↔ w16_9 = 0 := p1_18
                replace p2_18 : w16_9 ≠ 0 → w6_18 = w6_10 := p2_18
                replace p3_18 : w16_9 = 0 → (tK (f 0) nn (tX (f 0) nn pp)) ≠ 256 → (tK (f 0) nn (tX (f 0) nn pp)) ≠ 257 → tAt (f 0) nn (f 6) (f 7) (f 8) (v 5) w6_18 (tX (f 0) nn (tX (f 0) nn pp)) := p3_18
                have rw6_18 : 0 ≤ w6_18 ∧ w6_18 ≤ 700 := hP.2.1 6
                first | replace p2_18 := p2_18 (by omega) | clear p2_18
                try have hH3 := p3_18 (by omega) (by omega) (by omega)
                clear p3_18
                refine lv_pop hx hb dX3_readKey_110 rfl ?_
                exact g_vret hQ C hr hlocks hP hS dX3_readKey_111 ⟨w6_18, w9_17, w16_9, w17_9, a12_17, a13_17, rfl, rfl, rfl, rfl, (by first | exact oX_ok (ky1_d (by omega) (by omega) (by omega)) (by omega) (by omega) hH3 | exact oX_bad (ky1_a (by omega)) (by omega) (by omega) (by omega) (tAt_eq hc (by omega)) | exact oX_bad (ky1_b (by omega) (by omega)) (by decide) (by omega) (by omega) (tAt_eq hc (by omega)) | exact oX_bad (ky1_c (by omega) (by omega) (by omega)) (by omega) (by omega) (by omega) (tAt_eq hc2 (by omega))), (by first | omega | (split <;> omega)), (by first | (intro h; exfalso; omega) | exact fun h => (by have h9 := hAK.get (by omega); rw [h9.1, h9.2]; refine ⟨by congr 1 <;> omega, ?_⟩; congr 1; first | (rw [if_neg (by omega), if_pos (by omega)]) | (rw [if_pos (by omega), if_neg (by omega)]) | (rw [if_pos rfl, if_neg (by omega)])))⟩
              · refine lv_aload_n hx hb dX3_readKey_90 rfl (lv_at hl 2 rfl) ?_
                refine g_cv (As := []) (rest := []) (n := 0) C hml (e_La_refuseToken l D k A ad hD (va_up (va_up (va_up (va_up v 6 w6_10) 9 (v 9)) 16 w16_9) 17 w17_9) (va_up (va_up f 12 (f 12)) 13 (f 13)) g nn (tX (f 0) nn pp) (show tAt (f 0) nn (f 6) (f 7) (f 8) (v 5) w6_10 (tX (f 0) nn pp) from hc2)) mM_X3_88 mI_X3_refuseToken mE_X3_refuseToken mN_X3 mC_X3_refuseToken (by decide +kernel) 9 (ci := 3) rfl rfl hP hS (fun _ h => h) ⟨Nat.le_of_ble_eq_true rfl, Nat.le_of_ble_eq_true rfl⟩ ⟨Nat.zero_le _, Nat.zero_le _⟩ hl.1 rfl rfl (Nat.le_of_ble_eq_true rfl) dX3_readKey_91 (fun r_19 v_19 f_19 g_19 H locs hq_19 hP _ hS => ?_)
                obtain ⟨w16_19, w17_19, rfl, rfl, rfl, rfl, p0_19, p1_19⟩ := hq_19
                show W p l e (gRm 3 63) s m args below meth c _ _ 0 0 Q (F0 m 94 ls [])
                have hP : gWd D (rwT k ad) (va_up (va_up (va_up (va_up v 6 w6_10) 9 (v 9)) 16 w16_19) 17 w17_19) (va_up (va_up f 12 (f 12)) 13 (f 13)) g H := ⟨hP.1, (gF_up (V := rwV) (F := rwF) (gF_up (V := rwV) (F := rwF) (gR_up (V := rwV) (F := rwF) (gR_up (V := rwV) (F := rwF) (gR_up (V := rwV) (F := rwF) (gR_up (V := rwV) (F := rwF) ⟨hok.1, hok.2⟩ 6 (hP.2.1 6)) 9 (hP.2.1 9)) 16 (hP.2.1 16)) 17 (hP.2.1 17)) 12 (hP.2.2 12)) 13 (hP.2.2 13))⟩
                replace p0_19 : w16_9 = 0 → w16_19 = (fk (f 0) nn (tX (f 0) nn pp)) ∧ w17_19 = (tX (f 0) nn pp) := p0_19
                replace p1_19 : w16_9 ≠ 0 → w16_19 = w16_9 ∧ w17_19 = w17_9 := p1_19
                have rw16_19 : 0 ≤ w16_19 ∧ w16_19 ≤ 5 := hP.2.1 16
                have rw17_19 : (-1) ≤ w17_19 ∧ w17_19 ≤ 700 := hP.2.1 17
                first | replace p0_19 := p0_19 (by omega) | clear p0_19
                first | replace p1_19 := p1_19 (by omega) | clear p1_19
                refine lv_goto (tgt := 106) hx hb dX3_readKey_94 (by decide) ?_
                refine lv_aload_n hx hb dX3_readKey_106 rfl (lv_at hl 2 rfl) ?_
                refine g_cv (As := []) (rest := []) (n := 0) C hml (e_La_goOn l D k A ad hD (va_up (va_up (va_up (va_up v 6 w6_10) 9 (v 9)) 16 w16_19) 17 w17_19) (va_up (va_up f 12 (f 12)) 13 (f 13)) g nn (tX (f 0) nn pp) (show tAt (f 0) nn (f 6) (f 7) (f 8) (v 5) w6_10 (tX (f 0) nn pp) from hc2)) mM_X3_70 mI_X3_goOn mE_X3_goOn mN_X3 mC_X3_goOn (by decide +kernel) 9 (ci := 3) rfl rfl hP hS (fun _ h => h) ⟨Nat.le_of_ble_eq_true rfl, Nat.le_of_ble_eq_true rfl⟩ ⟨Nat.zero_le _, Nat.zero_le _⟩ hl.1 rfl rfl (Nat.le_of_ble_eq_true rfl) dX3_readKey_107 (fun r_20 v_20 f_20 g_20 H locs hq_20 hP _ hS => ?_)
                obtain ⟨z_20, w6_20, rfl, rfl, rfl, rfl, p0_20, p1_20, p2_20, p3_20⟩ := hq_20
                show W p l e (gRm 3 63) s m args below meth c _ _ 0 0 Q (F0 m 110 ls [.int (iI z_20)])
                have hP : gWd D (rwT k ad) (va_up (va_up (va_up (va_up v 6 w6_20) 9 (v 9)) 16 w16_19) 17 w17_19) (va_up (va_up f 12 (f 12)) 13 (f 13)) g H := ⟨hP.1, (gF_up (V := rwV) (F := rwF) (gF_up (V := rwV) (F := rwF) (gR_up (V := rwV) (F := rwF) (gR_up (V := rwV) (F := rwF) (gR_up (V := rwV) (F := rwF) (gR_up (V := rwV) (F := rwF) ⟨hok.1, hok.2⟩ 6 (hP.2.1 6)) 9 (hP.2.1 9)) 16 (hP.2.1 16)) 17 (hP.2.1 17)) 12 (hP.2.2 12)) 13 (hP.2.2 13))⟩
                replace p0_20 : 0 ≤ z_20 ∧ z_20 ≤ 1 := p0_20
                replace p1_20 : z_20 = 1 ↔ w16_19 = 0 := p1_20
                replace p2_20 : w16_19 ≠ 0 → w6_20 = w6_10 := p2_20
                replace p3_20 : w16_19 = 0 → (tK (f 0) nn (tX (f 0) nn pp)) ≠ 256 → (tK (f 0) nn (tX (f 0) nn pp)) ≠ 257 → tAt (f 0) nn (f 6) (f 7) (f 8) (v 5) w6_20 (tX (f 0) nn (tX (f 0) nn pp)) := p3_20
                have rw6_20 : 0 ≤ w6_20 ∧ w6_20 ≤ 700 := hP.2.1 6
                first | replace p2_20 := p2_20 (by omega) | clear p2_20
                try have hH3 := p3_20 (by omega) (by omega) (by omega)
                clear p3_20
                refine lv_pop hx hb dX3_readKey_110 rfl ?_
                exact g_vret hQ C hr hlocks hP hS dX3_readKey_111 ⟨w6_20, (v 9), w16_19, w17_19, (f 12), (f 13), rfl, rfl, rfl, rfl, (by first | exact oX_ok (ky1_d (by omega) (by omega) (by omega)) (by omega) (by omega) hH3 | exact oX_bad (ky1_a (by omega)) (by omega) (by omega) (by omega) (tAt_eq hc (by omega)) | exact oX_bad (ky1_b (by omega) (by omega)) (by decide) (by omega) (by omega) (tAt_eq hc (by omega)) | exact oX_bad (ky1_c (by omega) (by omega) (by omega)) (by omega) (by omega) (by omega) (tAt_eq hc2 (by omega))), (by first | omega | (split <;> omega)), (by first | (intro h; exfalso; omega) | exact fun h => (by have h9 := hAK.get (by omega); rw [h9.1, h9.2]; refine ⟨by congr 1 <;> omega, ?_⟩; congr 1; first | (rw [if_neg (by omega), if_pos (by omega)]) | (rw [if_pos (by omega), if_neg (by omega)]) | (rw [if_pos rfl, if_neg (by omega)])))⟩
          · exfalso; omega
        · refine lv_iconst (v := iI 1) hx hb dX3_readKey_52 rfl ?_
          refine lv_goto (tgt := 57) hx hb dX3_readKey_53 (by decide) ?_
          refine lv_iconst (v := iI 3) hx hb dX3_readKey_57 rfl ?_
          refine g_cv (As := [.int (iI 1), .int (iI 3)]) (rest := []) (n := 2) C hml (e_La_refuseIf l D k A ad hD (va_up (va_up (va_up (va_up v 6 (v 6)) 9 (v 9)) 16 (v 16)) 17 (v 17)) (va_up (va_up f 12 (f 12)) 13 (f 13)) g 1 3 nn pp (by decide) (by decide) (show tAt (f 0) nn (f 6) (f 7) (f 8) (v 5) (v 6) pp from hc) (show 1 ≤ (3 : Int) ∧ (3 : Int) ≤ 5 from by omega)) mM_X3_66 mI_X3_refuseIf mE_X3_refuseIf mN_X3 mC_X3_refuseIf (by decide +kernel) 9 (ci := 3) rfl rfl hP hS (fun _ h => h) ⟨Nat.le_of_ble_eq_true rfl, Nat.le_of_ble_eq_true rfl⟩ ⟨Nat.zero_le _, Nat.zero_le _⟩ hl.1 rfl rfl (Nat.le_of_ble_eq_true rfl) dX3_readKey_58 (fun r_21 v_21 f_21 g_21 H locs hq_21 hP _ hS => ?_)
          obtain ⟨w16_21, w17_21, rfl, rfl, rfl, rfl, p0_21, p1_21⟩ := hq_21
          show W p l e (gRm 3 63) s m args below meth c _ _ 0 0 Q (F0 m 61 ls [])
          have hP : gWd D (rwT k ad) (va_up (va_up (va_up (va_up v 6 (v 6)) 9 (v 9)) 16 w16_21) 17 w17_21) (va_up (va_up f 12 (f 12)) 13 (f 13)) g H := ⟨hP.1, (gF_up (V := rwV) (F := rwF) (gF_up (V := rwV) (F := rwF) (gR_up (V := rwV) (F := rwF) (gR_up (V := rwV) (F := rwF) (gR_up (V := rwV) (F := rwF) (gR_up (V := rwV) (F := rwF) ⟨hok.1, hok.2⟩ 6 (hP.2.1 6)) 9 (hP.2.1 9)) 16 (hP.2.1 16)) 17 (hP.2.1 17)) 12 (hP.2.2 12)) 13 (hP.2.2 13))⟩
          replace p0_21 : (1 : Int) = 0 ∨ (v 16) ≠ 0 → w16_21 = (v 16) ∧ w17_21 = (v 17) := p0_21
          replace p1_21 : (1 : Int) ≠ 0 → (v 16) = 0 → w16_21 = (3 : Int) ∧ w17_21 = pp := p1_21
          have rw16_21 : 0 ≤ w16_21 ∧ w16_21 ≤ 5 := hP.2.1 16
          have rw17_21 : (-1) ≤ w17_21 ∧ w17_21 ≤ 700 := hP.2.1 17
          first | replace p0_21 := p0_21 (by omega) | clear p0_21
          first | replace p1_21 := p1_21 (by omega) (by omega) | clear p1_21
          refine lv_aload_n hx hb dX3_readKey_61 rfl (lv_at hl 1 rfl) ?_
          refine g_cv (As := []) (rest := []) (n := 0) C hml (e_La_goOn l D k A ad hD (va_up (va_up (va_up (va_up v 6 (v 6)) 9 (v 9)) 16 w16_21) 17 w17_21) (va_up (va_up f 12 (f 12)) 13 (f 13)) g nn pp (show tAt (f 0) nn (f 6) (f 7) (f 8) (v 5) (v 6) pp from hc)) mM_X3_70 mI_X3_goOn mE_X3_goOn mN_X3 mC_X3_goOn (by decide +kernel) 9 (ci := 3) rfl rfl hP hS (fun _ h => h) ⟨Nat.le_of_ble_eq_true rfl, Nat.le_of_ble_eq_true rfl⟩ ⟨Nat.zero_le _, Nat.zero_le _⟩ hl.1 rfl rfl (Nat.le_of_ble_eq_true rfl) dX3_readKey_62 (fun r_22 v_22 f_22 g_22 H locs hq_22 hP _ hS => ?_)
          obtain ⟨z_22, w6_22, rfl, rfl, rfl, rfl, p0_22, p1_22, p2_22, p3_22⟩ := hq_22
          show W p l e (gRm 3 63) s m args below meth c _ _ 0 0 Q (F0 m 65 ls [.int (iI z_22)])
          have hP : gWd D (rwT k ad) (va_up (va_up (va_up (va_up v 6 w6_22) 9 (v 9)) 16 w16_21) 17 w17_21) (va_up (va_up f 12 (f 12)) 13 (f 13)) g H := ⟨hP.1, (gF_up (V := rwV) (F := rwF) (gF_up (V := rwV) (F := rwF) (gR_up (V := rwV) (F := rwF) (gR_up (V := rwV) (F := rwF) (gR_up (V := rwV) (F := rwF) (gR_up (V := rwV) (F := rwF) ⟨hok.1, hok.2⟩ 6 (hP.2.1 6)) 9 (hP.2.1 9)) 16 (hP.2.1 16)) 17 (hP.2.1 17)) 12 (hP.2.2 12)) 13 (hP.2.2 13))⟩
          replace p0_22 : 0 ≤ z_22 ∧ z_22 ≤ 1 := p0_22
          replace p1_22 : z_22 = 1 ↔ w16_21 = 0 := p1_22
          replace p2_22 : w16_21 ≠ 0 → w6_22 = (v 6) := p2_22
          replace p3_22 : w16_21 = 0 → (tK (f 0) nn pp) ≠ 256 → (tK (f 0) nn pp) ≠ 257 → tAt (f 0) nn (f 6) (f 7) (f 8) (v 5) w6_22 (tX (f 0) nn pp) := p3_22
          have rw6_22 : 0 ≤ w6_22 ∧ w6_22 ≤ 700 := hP.2.1 6
          first | replace p2_22 := p2_22 (by omega) | clear p2_22
          try have hc2 := p3_22 (by omega) (by omega) (by omega)
          clear p3_22
          refine gi_zne (tgt := 69) hx hb dX3_readKey_65 (by decide) (by omega) (fun c_23 => ?_) (fun c_23 => ?_)
          · exfalso; omega
          · have v_22 := mt p1_22.mpr (show ¬ z_22 = 1 by omega)
            clear p1_22
            exact g_vret hQ C hr hlocks hP hS dX3_readKey_68 ⟨w6_22, (v 9), w16_21, w17_21, (f 12), (f 13), rfl, rfl, rfl, rfl, (by first | exact oX_ok (ky1_d (by omega) (by omega) (by omega)) (by omega) (by omega) hH3 | exact oX_bad (ky1_a (by omega)) (by omega) (by omega) (by omega) (tAt_eq hc (by omega)) | exact oX_bad (ky1_b (by omega) (by omega)) (by decide) (by omega) (by omega) (tAt_eq hc (by omega)) | exact oX_bad (ky1_c (by omega) (by omega) (by omega)) (by omega) (by omega) (by omega) (tAt_eq hc2 (by omega))), (by first | omega | (split <;> omega)), (by first | (intro h; exfalso; omega) | exact fun h => (by have h9 := hAK.get (by omega); rw [h9.1, h9.2]; refine ⟨by congr 1 <;> omega, ?_⟩; congr 1; first | (rw [if_neg (by omega), if_pos (by omega)]) | (rw [if_pos (by omega), if_neg (by omega)]) | (rw [if_pos rfl, if_neg (by omega)])))⟩
      · refine lv_aload_n hx hb dX3_readKey_36 rfl (lv_at hl 1 rfl) ?_
        refine g_cv (As := []) (rest := []) (n := 0) C hml (e_La_refuseToken l D k A ad hD (va_up (va_up (va_up (va_up v 6 (v 6)) 9 (v 9)) 16 (v 16)) 17 (v 17)) (va_up (va_up f 12 (f 12)) 13 (f 13)) g nn pp (show tAt (f 0) nn (f 6) (f 7) (f 8) (v 5) (v 6) pp from hc)) mM_X3_88 mI_X3_refuseToken mE_X3_refuseToken mN_X3 mC_X3_refuseToken (by decide +kernel) 9 (ci := 3) rfl rfl hP hS (fun _ h => h) ⟨Nat.le_of_ble_eq_true rfl, Nat.le_of_ble_eq_true rfl⟩ ⟨Nat.zero_le _, Nat.zero_le _⟩ hl.1 rfl rfl (Nat.le_of_ble_eq_true rfl) dX3_readKey_37 (fun r_24 v_24 f_24 g_24 H locs hq_24 hP _ hS => ?_)
        obtain ⟨w16_24, w17_24, rfl, rfl, rfl, rfl, p0_24, p1_24⟩ := hq_24
        show W p l e (gRm 3 63) s m args below meth c _ _ 0 0 Q (F0 m 40 ls [])
        have hP : gWd D (rwT k ad) (va_up (va_up (va_up (va_up v 6 (v 6)) 9 (v 9)) 16 w16_24) 17 w17_24) (va_up (va_up f 12 (f 12)) 13 (f 13)) g H := ⟨hP.1, (gF_up (V := rwV) (F := rwF) (gF_up (V := rwV) (F := rwF) (gR_up (V := rwV) (F := rwF) (gR_up (V := rwV) (F := rwF) (gR_up (V := rwV) (F := rwF) (gR_up (V := rwV) (F := rwF) ⟨hok.1, hok.2⟩ 6 (hP.2.1 6)) 9 (hP.2.1 9)) 16 (hP.2.1 16)) 17 (hP.2.1 17)) 12 (hP.2.2 12)) 13 (hP.2.2 13))⟩
        replace p0_24 : (v 16) = 0 → w16_24 = (fk (f 0) nn pp) ∧ w17_24 = pp := p0_24
        replace p1_24 : (v 16) ≠ 0 → w16_24 = (v 16) ∧ w17_24 = (v 17) := p1_24
        have rw16_24 : 0 ≤ w16_24 ∧ w16_24 ≤ 5 := hP.2.1 16
        have rw17_24 : (-1) ≤ w17_24 ∧ w17_24 ≤ 700 := hP.2.1 17
        first | replace p0_24 := p0_24 (by omega) | clear p0_24
        first | replace p1_24 := p1_24 (by omega) | clear p1_24
        refine lv_aload_n hx hb dX3_readKey_40 rfl (lv_at hl 1 rfl) ?_
        refine lv_aload_n hx hb dX3_readKey_41 rfl (lv_at hl 1 rfl) ?_
        refine rwG_reader_draft C hP mF_X3_21 dX3_readKey_42 ?_
        refine rwG_reader_draft_keys C hP mF_X3_116 dX3_readKey_45 ?_
        show W p l e (gRm 3 63) s m args below meth c _ _ 0 0 Q (F0 m 48 ls [.int (iI (v 9)), .ref (ad 9)])
        refine lv_iconst (v := iI 4) hx hb dX3_readKey_48 rfl ?_
        refine gi_clt (tgt := 56) hx hb dX3_readKey_49 (by decide) (by omega) (by decide) (fun c_25 => ?_) (fun c_25 => ?_)
        · refine lv_iconst (v := iI 0) hx hb dX3_readKey_56 rfl ?_
          refine lv_iconst (v := iI 3) hx hb dX3_readKey_57 rfl ?_
          refine g_cv (As := [.int (iI 0), .int (iI 3)]) (rest := []) (n := 2) C hml (e_La_refuseIf l D k A ad hD (va_up (va_up (va_up (va_up v 6 (v 6)) 9 (v 9)) 16 w16_24) 17 w17_24) (va_up (va_up f 12 (f 12)) 13 (f 13)) g 0 3 nn pp (by decide) (by decide) (show tAt (f 0) nn (f 6) (f 7) (f 8) (v 5) (v 6) pp from hc) (show 1 ≤ (3 : Int) ∧ (3 : Int) ≤ 5 from by omega)) mM_X3_66 mI_X3_refuseIf mE_X3_refuseIf mN_X3 mC_X3_refuseIf (by decide +kernel) 9 (ci := 3) rfl rfl hP hS (fun _ h => h) ⟨Nat.le_of_ble_eq_true rfl, Nat.le_of_ble_eq_true rfl⟩ ⟨Nat.zero_le _, Nat.zero_le _⟩ hl.1 rfl rfl (Nat.le_of_ble_eq_true rfl) dX3_readKey_58 (fun r_26 v_26 f_26 g_26 H locs hq_26 hP _ hS => ?_)
          obtain ⟨w16_26, w17_26, rfl, rfl, rfl, rfl, p0_26, p1_26⟩ := hq_26
          show W p l e (gRm 3 63) s m args below meth c _ _ 0 0 Q (F0 m 61 ls [])
          have hP : gWd D (rwT k ad) (va_up (va_up (va_up (va_up v 6 (v 6)) 9 (v 9)) 16 w16_26) 17 w17_26) (va_up (va_up f 12 (f 12)) 13 (f 13)) g H := ⟨hP.1, (gF_up (V := rwV) (F := rwF) (gF_up (V := rwV) (F := rwF) (gR_up (V := rwV) (F := rwF) (gR_up (V := rwV) (F := rwF) (gR_up (V := rwV) (F := rwF) (gR_up (V := rwV) (F := rwF) ⟨hok.1, hok.2⟩ 6 (hP.2.1 6)) 9 (hP.2.1 9)) 16 (hP.2.1 16)) 17 (hP.2.1 17)) 12 (hP.2.2 12)) 13 (hP.2.2 13))⟩
          replace p0_26 : (0 : Int) = 0 ∨ w16_24 ≠ 0 → w16_26 = w16_24 ∧ w17_26 = w17_24 := p0_26
          replace p1_26 : (0 : Int) ≠ 0 → w16_24 = 0 → w16_26 = (3 : Int) ∧ w17_26 = pp := p1_26
          have rw16_26 : 0 ≤ w16_26 ∧ w16_26 ≤ 5 := hP.2.1 16
          have rw17_26 : (-1) ≤ w17_26 ∧ w17_26 ≤ 700 := hP.2.1 17
          first | replace p0_26 := p0_26 (by omega) | clear p0_26
          first | replace p1_26 := p1_26 (by omega) (by omega) | clear p1_26
          refine lv_aload_n hx hb dX3_readKey_61 rfl (lv_at hl 1 rfl) ?_
          refine g_cv (As := []) (rest := []) (n := 0) C hml (e_La_goOn l D k A ad hD (va_up (va_up (va_up (va_up v 6 (v 6)) 9 (v 9)) 16 w16_26) 17 w17_26) (va_up (va_up f 12 (f 12)) 13 (f 13)) g nn pp (show tAt (f 0) nn (f 6) (f 7) (f 8) (v 5) (v 6) pp from hc)) mM_X3_70 mI_X3_goOn mE_X3_goOn mN_X3 mC_X3_goOn (by decide +kernel) 9 (ci := 3) rfl rfl hP hS (fun _ h => h) ⟨Nat.le_of_ble_eq_true rfl, Nat.le_of_ble_eq_true rfl⟩ ⟨Nat.zero_le _, Nat.zero_le _⟩ hl.1 rfl rfl (Nat.le_of_ble_eq_true rfl) dX3_readKey_62 (fun r_27 v_27 f_27 g_27 H locs hq_27 hP _ hS => ?_)
          obtain ⟨z_27, w6_27, rfl, rfl, rfl, rfl, p0_27, p1_27, p2_27, p3_27⟩ := hq_27
          show W p l e (gRm 3 63) s m args below meth c _ _ 0 0 Q (F0 m 65 ls [.int (iI z_27)])
          have hP : gWd D (rwT k ad) (va_up (va_up (va_up (va_up v 6 w6_27) 9 (v 9)) 16 w16_26) 17 w17_26) (va_up (va_up f 12 (f 12)) 13 (f 13)) g H := ⟨hP.1, (gF_up (V := rwV) (F := rwF) (gF_up (V := rwV) (F := rwF) (gR_up (V := rwV) (F := rwF) (gR_up (V := rwV) (F := rwF) (gR_up (V := rwV) (F := rwF) (gR_up (V := rwV) (F := rwF) ⟨hok.1, hok.2⟩ 6 (hP.2.1 6)) 9 (hP.2.1 9)) 16 (hP.2.1 16)) 17 (hP.2.1 17)) 12 (hP.2.2 12)) 13 (hP.2.2 13))⟩
          replace p0_27 : 0 ≤ z_27 ∧ z_27 ≤ 1 := p0_27
          replace p1_27 : z_27 = 1 ↔ w16_26 = 0 := p1_27
          replace p2_27 : w16_26 ≠ 0 → w6_27 = (v 6) := p2_27
          replace p3_27 : w16_26 = 0 → (tK (f 0) nn pp) ≠ 256 → (tK (f 0) nn pp) ≠ 257 → tAt (f 0) nn (f 6) (f 7) (f 8) (v 5) w6_27 (tX (f 0) nn pp) := p3_27
          have rw6_27 : 0 ≤ w6_27 ∧ w6_27 ≤ 700 := hP.2.1 6
          first | replace p2_27 := p2_27 (by omega) | clear p2_27
          try have hc2 := p3_27 (by omega) (by omega) (by omega)
          clear p3_27
          refine gi_zne (tgt := 69) hx hb dX3_readKey_65 (by decide) (by omega) (fun c_28 => ?_) (fun c_28 => ?_)
          · exfalso; omega
          · have v_27 := mt p1_27.mpr (show ¬ z_27 = 1 by omega)
            clear p1_27
            exact g_vret hQ C hr hlocks hP hS dX3_readKey_68 ⟨w6_27, (v 9), w16_26, w17_26, (f 12), (f 13), rfl, rfl, rfl, rfl, (by first | exact oX_ok (ky1_d (by omega) (by omega) (by omega)) (by omega) (by omega) hH3 | exact oX_bad (ky1_a (by omega)) (by omega) (by omega) (by omega) (tAt_eq hc (by omega)) | exact oX_bad (ky1_b (by omega) (by omega)) (by decide) (by omega) (by omega) (tAt_eq hc (by omega)) | exact oX_bad (ky1_c (by omega) (by omega) (by omega)) (by omega) (by omega) (by omega) (tAt_eq hc2 (by omega))), (by first | omega | (split <;> omega)), (by first | (intro h; exfalso; omega) | exact fun h => (by have h9 := hAK.get (by omega); rw [h9.1, h9.2]; refine ⟨by congr 1 <;> omega, ?_⟩; congr 1; first | (rw [if_neg (by omega), if_pos (by omega)]) | (rw [if_pos (by omega), if_neg (by omega)]) | (rw [if_pos rfl, if_neg (by omega)])))⟩
        · refine lv_iconst (v := iI 1) hx hb dX3_readKey_52 rfl ?_
          refine lv_goto (tgt := 57) hx hb dX3_readKey_53 (by decide) ?_
          refine lv_iconst (v := iI 3) hx hb dX3_readKey_57 rfl ?_
          refine g_cv (As := [.int (iI 1), .int (iI 3)]) (rest := []) (n := 2) C hml (e_La_refuseIf l D k A ad hD (va_up (va_up (va_up (va_up v 6 (v 6)) 9 (v 9)) 16 w16_24) 17 w17_24) (va_up (va_up f 12 (f 12)) 13 (f 13)) g 1 3 nn pp (by decide) (by decide) (show tAt (f 0) nn (f 6) (f 7) (f 8) (v 5) (v 6) pp from hc) (show 1 ≤ (3 : Int) ∧ (3 : Int) ≤ 5 from by omega)) mM_X3_66 mI_X3_refuseIf mE_X3_refuseIf mN_X3 mC_X3_refuseIf (by decide +kernel) 9 (ci := 3) rfl rfl hP hS (fun _ h => h) ⟨Nat.le_of_ble_eq_true rfl, Nat.le_of_ble_eq_true rfl⟩ ⟨Nat.zero_le _, Nat.zero_le _⟩ hl.1 rfl rfl (Nat.le_of_ble_eq_true rfl) dX3_readKey_58 (fun r_29 v_29 f_29 g_29 H locs hq_29 hP _ hS => ?_)
          obtain ⟨w16_29, w17_29, rfl, rfl, rfl, rfl, p0_29, p1_29⟩ := hq_29
          show W p l e (gRm 3 63) s m args below meth c _ _ 0 0 Q (F0 m 61 ls [])
          have hP : gWd D (rwT k ad) (va_up (va_up (va_up (va_up v 6 (v 6)) 9 (v 9)) 16 w16_29) 17 w17_29) (va_up (va_up f 12 (f 12)) 13 (f 13)) g H := ⟨hP.1, (gF_up (V := rwV) (F := rwF) (gF_up (V := rwV) (F := rwF) (gR_up (V := rwV) (F := rwF) (gR_up (V := rwV) (F := rwF) (gR_up (V := rwV) (F := rwF) (gR_up (V := rwV) (F := rwF) ⟨hok.1, hok.2⟩ 6 (hP.2.1 6)) 9 (hP.2.1 9)) 16 (hP.2.1 16)) 17 (hP.2.1 17)) 12 (hP.2.2 12)) 13 (hP.2.2 13))⟩
          replace p0_29 : (1 : Int) = 0 ∨ w16_24 ≠ 0 → w16_29 = w16_24 ∧ w17_29 = w17_24 := p0_29
          replace p1_29 : (1 : Int) ≠ 0 → w16_24 = 0 → w16_29 = (3 : Int) ∧ w17_29 = pp := p1_29
          have rw16_29 : 0 ≤ w16_29 ∧ w16_29 ≤ 5 := hP.2.1 16
          have rw17_29 : (-1) ≤ w17_29 ∧ w17_29 ≤ 700 := hP.2.1 17
          first | replace p0_29 := p0_29 (by omega) | clear p0_29
          first | replace p1_29 := p1_29 (by omega) (by omega) | clear p1_29
          refine lv_aload_n hx hb dX3_readKey_61 rfl (lv_at hl 1 rfl) ?_
          refine g_cv (As := []) (rest := []) (n := 0) C hml (e_La_goOn l D k A ad hD (va_up (va_up (va_up (va_up v 6 (v 6)) 9 (v 9)) 16 w16_29) 17 w17_29) (va_up (va_up f 12 (f 12)) 13 (f 13)) g nn pp (show tAt (f 0) nn (f 6) (f 7) (f 8) (v 5) (v 6) pp from hc)) mM_X3_70 mI_X3_goOn mE_X3_goOn mN_X3 mC_X3_goOn (by decide +kernel) 9 (ci := 3) rfl rfl hP hS (fun _ h => h) ⟨Nat.le_of_ble_eq_true rfl, Nat.le_of_ble_eq_true rfl⟩ ⟨Nat.zero_le _, Nat.zero_le _⟩ hl.1 rfl rfl (Nat.le_of_ble_eq_true rfl) dX3_readKey_62 (fun r_30 v_30 f_30 g_30 H locs hq_30 hP _ hS => ?_)
          obtain ⟨z_30, w6_30, rfl, rfl, rfl, rfl, p0_30, p1_30, p2_30, p3_30⟩ := hq_30
          show W p l e (gRm 3 63) s m args below meth c _ _ 0 0 Q (F0 m 65 ls [.int (iI z_30)])
          have hP : gWd D (rwT k ad) (va_up (va_up (va_up (va_up v 6 w6_30) 9 (v 9)) 16 w16_29) 17 w17_29) (va_up (va_up f 12 (f 12)) 13 (f 13)) g H := ⟨hP.1, (gF_up (V := rwV) (F := rwF) (gF_up (V := rwV) (F := rwF) (gR_up (V := rwV) (F := rwF) (gR_up (V := rwV) (F := rwF) (gR_up (V := rwV) (F := rwF) (gR_up (V := rwV) (F := rwF) ⟨hok.1, hok.2⟩ 6 (hP.2.1 6)) 9 (hP.2.1 9)) 16 (hP.2.1 16)) 17 (hP.2.1 17)) 12 (hP.2.2 12)) 13 (hP.2.2 13))⟩
          replace p0_30 : 0 ≤ z_30 ∧ z_30 ≤ 1 := p0_30
          replace p1_30 : z_30 = 1 ↔ w16_29 = 0 := p1_30
          replace p2_30 : w16_29 ≠ 0 → w6_30 = (v 6) := p2_30
          replace p3_30 : w16_29 = 0 → (tK (f 0) nn pp) ≠ 256 → (tK (f 0) nn pp) ≠ 257 → tAt (f 0) nn (f 6) (f 7) (f 8) (v 5) w6_30 (tX (f 0) nn pp) := p3_30
          have rw6_30 : 0 ≤ w6_30 ∧ w6_30 ≤ 700 := hP.2.1 6
          first | replace p2_30 := p2_30 (by omega) | clear p2_30
          try have hc2 := p3_30 (by omega) (by omega) (by omega)
          clear p3_30
          refine gi_zne (tgt := 69) hx hb dX3_readKey_65 (by decide) (by omega) (fun c_31 => ?_) (fun c_31 => ?_)
          · exfalso; omega
          · have v_30 := mt p1_30.mpr (show ¬ z_30 = 1 by omega)
            clear p1_30
            exact g_vret hQ C hr hlocks hP hS dX3_readKey_68 ⟨w6_30, (v 9), w16_29, w17_29, (f 12), (f 13), rfl, rfl, rfl, rfl, (by first | exact oX_ok (ky1_d (by omega) (by omega) (by omega)) (by omega) (by omega) hH3 | exact oX_bad (ky1_a (by omega)) (by omega) (by omega) (by omega) (tAt_eq hc (by omega)) | exact oX_bad (ky1_b (by omega) (by omega)) (by decide) (by omega) (by omega) (tAt_eq hc (by omega)) | exact oX_bad (ky1_c (by omega) (by omega) (by omega)) (by omega) (by omega) (by omega) (tAt_eq hc2 (by omega))), (by first | omega | (split <;> omega)), (by first | (intro h; exfalso; omega) | exact fun h => (by have h9 := hAK.get (by omega); rw [h9.1, h9.2]; refine ⟨by congr 1 <;> omega, ?_⟩; congr 1; first | (rw [if_neg (by omega), if_pos (by omega)]) | (rw [if_pos (by omega), if_neg (by omega)]) | (rw [if_pos rfl, if_neg (by omega)])))⟩
  · refine lv_iconst (v := iI 1) hx hb dX3_readKey_13 rfl ?_
    refine lv_goto (tgt := 18) hx hb dX3_readKey_14 (by decide) ?_
    refine lv_istore_n (lv' := [(1, .int (iI 1)), (0, .ref (ad 9))]) hx hb dX3_readKey_18 rfl hl (by decide) rfl (fun ls hl => ?_)
    refine lv_iload_n hx hb dX3_readKey_19 rfl (lv_at hl 0 rfl) ?_
    refine gi_zne (tgt := 40) hx hb dX3_readKey_20 (by decide) (by decide) (fun c_32 => ?_) (fun c_32 => ?_)
    · refine lv_aload_n hx hb dX3_readKey_40 rfl (lv_at hl 1 rfl) ?_
      refine lv_aload_n hx hb dX3_readKey_41 rfl (lv_at hl 1 rfl) ?_
      refine rwG_reader_draft C hP mF_X3_21 dX3_readKey_42 ?_
      refine rwG_reader_draft_keys C hP mF_X3_116 dX3_readKey_45 ?_
      show W p l e (gRm 3 63) s m args below meth c _ _ 0 0 Q (F0 m 48 ls [.int (iI (v 9)), .ref (ad 9)])
      refine lv_iconst (v := iI 4) hx hb dX3_readKey_48 rfl ?_
      refine gi_clt (tgt := 56) hx hb dX3_readKey_49 (by decide) (by omega) (by decide) (fun c_33 => ?_) (fun c_33 => ?_)
      · refine lv_iconst (v := iI 0) hx hb dX3_readKey_56 rfl ?_
        refine lv_iconst (v := iI 3) hx hb dX3_readKey_57 rfl ?_
        refine g_cv (As := [.int (iI 0), .int (iI 3)]) (rest := []) (n := 2) C hml (e_La_refuseIf l D k A ad hD (va_up (va_up (va_up (va_up v 6 (v 6)) 9 (v 9)) 16 (v 16)) 17 (v 17)) (va_up (va_up f 12 (f 12)) 13 (f 13)) g 0 3 nn pp (by decide) (by decide) (show tAt (f 0) nn (f 6) (f 7) (f 8) (v 5) (v 6) pp from hc) (show 1 ≤ (3 : Int) ∧ (3 : Int) ≤ 5 from by omega)) mM_X3_66 mI_X3_refuseIf mE_X3_refuseIf mN_X3 mC_X3_refuseIf (by decide +kernel) 9 (ci := 3) rfl rfl hP hS (fun _ h => h) ⟨Nat.le_of_ble_eq_true rfl, Nat.le_of_ble_eq_true rfl⟩ ⟨Nat.zero_le _, Nat.zero_le _⟩ hl.1 rfl rfl (Nat.le_of_ble_eq_true rfl) dX3_readKey_58 (fun r_34 v_34 f_34 g_34 H locs hq_34 hP _ hS => ?_)
        obtain ⟨w16_34, w17_34, rfl, rfl, rfl, rfl, p0_34, p1_34⟩ := hq_34
        show W p l e (gRm 3 63) s m args below meth c _ _ 0 0 Q (F0 m 61 ls [])
        have hP : gWd D (rwT k ad) (va_up (va_up (va_up (va_up v 6 (v 6)) 9 (v 9)) 16 w16_34) 17 w17_34) (va_up (va_up f 12 (f 12)) 13 (f 13)) g H := ⟨hP.1, (gF_up (V := rwV) (F := rwF) (gF_up (V := rwV) (F := rwF) (gR_up (V := rwV) (F := rwF) (gR_up (V := rwV) (F := rwF) (gR_up (V := rwV) (F := rwF) (gR_up (V := rwV) (F := rwF) ⟨hok.1, hok.2⟩ 6 (hP.2.1 6)) 9 (hP.2.1 9)) 16 (hP.2.1 16)) 17 (hP.2.1 17)) 12 (hP.2.2 12)) 13 (hP.2.2 13))⟩
        replace p0_34 : (0 : Int) = 0 ∨ (v 16) ≠ 0 → w16_34 = (v 16) ∧ w17_34 = (v 17) := p0_34
        replace p1_34 : (0 : Int) ≠ 0 → (v 16) = 0 → w16_34 = (3 : Int) ∧ w17_34 = pp := p1_34
        have rw16_34 : 0 ≤ w16_34 ∧ w16_34 ≤ 5 := hP.2.1 16
        have rw17_34 : (-1) ≤ w17_34 ∧ w17_34 ≤ 700 := hP.2.1 17
        first | replace p0_34 := p0_34 (by omega) | clear p0_34
        first | replace p1_34 := p1_34 (by omega) (by omega) | clear p1_34
        refine lv_aload_n hx hb dX3_readKey_61 rfl (lv_at hl 1 rfl) ?_
        refine g_cv (As := []) (rest := []) (n := 0) C hml (e_La_goOn l D k A ad hD (va_up (va_up (va_up (va_up v 6 (v 6)) 9 (v 9)) 16 w16_34) 17 w17_34) (va_up (va_up f 12 (f 12)) 13 (f 13)) g nn pp (show tAt (f 0) nn (f 6) (f 7) (f 8) (v 5) (v 6) pp from hc)) mM_X3_70 mI_X3_goOn mE_X3_goOn mN_X3 mC_X3_goOn (by decide +kernel) 9 (ci := 3) rfl rfl hP hS (fun _ h => h) ⟨Nat.le_of_ble_eq_true rfl, Nat.le_of_ble_eq_true rfl⟩ ⟨Nat.zero_le _, Nat.zero_le _⟩ hl.1 rfl rfl (Nat.le_of_ble_eq_true rfl) dX3_readKey_62 (fun r_35 v_35 f_35 g_35 H locs hq_35 hP _ hS => ?_)
        obtain ⟨z_35, w6_35, rfl, rfl, rfl, rfl, p0_35, p1_35, p2_35, p3_35⟩ := hq_35
        show W p l e (gRm 3 63) s m args below meth c _ _ 0 0 Q (F0 m 65 ls [.int (iI z_35)])
        have hP : gWd D (rwT k ad) (va_up (va_up (va_up (va_up v 6 w6_35) 9 (v 9)) 16 w16_34) 17 w17_34) (va_up (va_up f 12 (f 12)) 13 (f 13)) g H := ⟨hP.1, (gF_up (V := rwV) (F := rwF) (gF_up (V := rwV) (F := rwF) (gR_up (V := rwV) (F := rwF) (gR_up (V := rwV) (F := rwF) (gR_up (V := rwV) (F := rwF) (gR_up (V := rwV) (F := rwF) ⟨hok.1, hok.2⟩ 6 (hP.2.1 6)) 9 (hP.2.1 9)) 16 (hP.2.1 16)) 17 (hP.2.1 17)) 12 (hP.2.2 12)) 13 (hP.2.2 13))⟩
        replace p0_35 : 0 ≤ z_35 ∧ z_35 ≤ 1 := p0_35
        replace p1_35 : z_35 = 1 ↔ w16_34 = 0 := p1_35
        replace p2_35 : w16_34 ≠ 0 → w6_35 = (v 6) := p2_35
        replace p3_35 : w16_34 = 0 → (tK (f 0) nn pp) ≠ 256 → (tK (f 0) nn pp) ≠ 257 → tAt (f 0) nn (f 6) (f 7) (f 8) (v 5) w6_35 (tX (f 0) nn pp) := p3_35
        have rw6_35 : 0 ≤ w6_35 ∧ w6_35 ≤ 700 := hP.2.1 6
        first | replace p2_35 := p2_35 (by omega) | clear p2_35
        try have hc2 := p3_35 (by omega) (by omega) (by omega)
        clear p3_35
        refine gi_zne (tgt := 69) hx hb dX3_readKey_65 (by decide) (by omega) (fun c_36 => ?_) (fun c_36 => ?_)
        · have v_35 := p1_35.mp (show z_35 = 1 by omega)
          clear p1_35
          refine lv_aload_n hx hb dX3_readKey_69 rfl (lv_at hl 1 rfl) ?_
          refine rwG_reader_tokens C hP mF_X3_12 dX3_readKey_70 ?_
          refine g_cv (As := []) (rest := []) (n := 0) C hml (e_To_kind l D k A ad hD (va_up (va_up (va_up (va_up v 6 w6_35) 9 (v 9)) 16 w16_34) 17 w17_34) (va_up (va_up f 12 (f 12)) 13 (f 13)) g nn (tX (f 0) nn pp) (show tAt (f 0) nn (f 6) (f 7) (f 8) (v 5) w6_35 (tX (f 0) nn pp) from hc2)) mM_X3_56 mI_X6_kind mE_X6_kind mN_X6 mC_X6_kind (by decide +kernel) 10 (ci := 6) rfl rfl hP hS (fun _ h => h) ⟨Nat.le_of_ble_eq_true rfl, Nat.le_of_ble_eq_true rfl⟩ ⟨Nat.zero_le _, Nat.zero_le _⟩ hl.1 rfl rfl (Nat.le_of_ble_eq_true rfl) dX3_readKey_73 (fun r_37 v_37 f_37 g_37 H locs hq_37 hP _ hS => ?_)
          obtain ⟨z_37, rfl, rfl, rfl, rfl, p0_37, p1_37⟩ := hq_37
          show W p l e (gRm 3 63) s m args below meth c _ _ 0 0 Q (F0 m 76 ls [.int (iI z_37)])
          replace p0_37 : z_37 = (tK (f 0) nn (tX (f 0) nn pp)) := p0_37
          replace p1_37 : 40 ≤ z_37 ∧ z_37 ≤ 277 := p1_37
          have hz_37 : inR z_37 := (by first | omega | (rw [p0_37]; split <;> omega))
          have hK73 := p0_37
          refine lv_sipush (v := iI 268) hx hb dX3_readKey_76 (by decide) ?_
          refine gi_sub (z := (z_37 - 268)) hx hb dX3_readKey_79 rfl ?_
          refine lv_istore_n (lv' := [(2, .int (iI (z_37 - 268))), (1, .int (iI 1)), (0, .ref (ad 9))]) hx hb dX3_readKey_80 rfl hl (by decide) rfl (fun ls hl => ?_)
          refine lv_iload_n hx hb dX3_readKey_81 rfl (lv_at hl 0 rfl) ?_
          refine gi_zlt (tgt := 90) hx hb dX3_readKey_82 (by decide) (by omega) (fun c_38 => ?_) (fun c_38 => ?_)
          · refine lv_aload_n hx hb dX3_readKey_90 rfl (lv_at hl 2 rfl) ?_
            refine g_cv (As := []) (rest := []) (n := 0) C hml (e_La_refuseToken l D k A ad hD (va_up (va_up (va_up (va_up v 6 w6_35) 9 (v 9)) 16 w16_34) 17 w17_34) (va_up (va_up f 12 (f 12)) 13 (f 13)) g nn (tX (f 0) nn pp) (show tAt (f 0) nn (f 6) (f 7) (f 8) (v 5) w6_35 (tX (f 0) nn pp) from hc2)) mM_X3_88 mI_X3_refuseToken mE_X3_refuseToken mN_X3 mC_X3_refuseToken (by decide +kernel) 9 (ci := 3) rfl rfl hP hS (fun _ h => h) ⟨Nat.le_of_ble_eq_true rfl, Nat.le_of_ble_eq_true rfl⟩ ⟨Nat.zero_le _, Nat.zero_le _⟩ hl.1 rfl rfl (Nat.le_of_ble_eq_true rfl) dX3_readKey_91 (fun r_39 v_39 f_39 g_39 H locs hq_39 hP _ hS => ?_)
            obtain ⟨w16_39, w17_39, rfl, rfl, rfl, rfl, p0_39, p1_39⟩ := hq_39
            show W p l e (gRm 3 63) s m args below meth c _ _ 0 0 Q (F0 m 94 ls [])
            have hP : gWd D (rwT k ad) (va_up (va_up (va_up (va_up v 6 w6_35) 9 (v 9)) 16 w16_39) 17 w17_39) (va_up (va_up f 12 (f 12)) 13 (f 13)) g H := ⟨hP.1, (gF_up (V := rwV) (F := rwF) (gF_up (V := rwV) (F := rwF) (gR_up (V := rwV) (F := rwF) (gR_up (V := rwV) (F := rwF) (gR_up (V := rwV) (F := rwF) (gR_up (V := rwV) (F := rwF) ⟨hok.1, hok.2⟩ 6 (hP.2.1 6)) 9 (hP.2.1 9)) 16 (hP.2.1 16)) 17 (hP.2.1 17)) 12 (hP.2.2 12)) 13 (hP.2.2 13))⟩
            replace p0_39 : w16_34 = 0 → w16_39 = (fk (f 0) nn (tX (f 0) nn pp)) ∧ w17_39 = (tX (f 0) nn pp) := p0_39
            replace p1_39 : w16_34 ≠ 0 → w16_39 = w16_34 ∧ w17_39 = w17_34 := p1_39
            have rw16_39 : 0 ≤ w16_39 ∧ w16_39 ≤ 5 := hP.2.1 16
            have rw17_39 : (-1) ≤ w17_39 ∧ w17_39 ≤ 700 := hP.2.1 17
            first | replace p0_39 := p0_39 (by omega) | clear p0_39
            first | replace p1_39 := p1_39 (by omega) | clear p1_39
            refine lv_goto (tgt := 106) hx hb dX3_readKey_94 (by decide) ?_
            refine lv_aload_n hx hb dX3_readKey_106 rfl (lv_at hl 2 rfl) ?_
            refine g_cv (As := []) (rest := []) (n := 0) C hml (e_La_goOn l D k A ad hD (va_up (va_up (va_up (va_up v 6 w6_35) 9 (v 9)) 16 w16_39) 17 w17_39) (va_up (va_up f 12 (f 12)) 13 (f 13)) g nn (tX (f 0) nn pp) (show tAt (f 0) nn (f 6) (f 7) (f 8) (v 5) w6_35 (tX (f 0) nn pp) from hc2)) mM_X3_70 mI_X3_goOn mE_X3_goOn mN_X3 mC_X3_goOn (by decide +kernel) 9 (ci := 3) rfl rfl hP hS (fun _ h => h) ⟨Nat.le_of_ble_eq_true rfl, Nat.le_of_ble_eq_true rfl⟩ ⟨Nat.zero_le _, Nat.zero_le _⟩ hl.1 rfl rfl (Nat.le_of_ble_eq_true rfl) dX3_readKey_107 (fun r_40 v_40 f_40 g_40 H locs hq_40 hP _ hS => ?_)
            obtain ⟨z_40, w6_40, rfl, rfl, rfl, rfl, p0_40, p1_40, p2_40, p3_40⟩ := hq_40
            show W p l e (gRm 3 63) s m args below meth c _ _ 0 0 Q (F0 m 110 ls [.int (iI z_40)])
            have hP : gWd D (rwT k ad) (va_up (va_up (va_up (va_up v 6 w6_40) 9 (v 9)) 16 w16_39) 17 w17_39) (va_up (va_up f 12 (f 12)) 13 (f 13)) g H := ⟨hP.1, (gF_up (V := rwV) (F := rwF) (gF_up (V := rwV) (F := rwF) (gR_up (V := rwV) (F := rwF) (gR_up (V := rwV) (F := rwF) (gR_up (V := rwV) (F := rwF) (gR_up (V := rwV) (F := rwF) ⟨hok.1, hok.2⟩ 6 (hP.2.1 6)) 9 (hP.2.1 9)) 16 (hP.2.1 16)) 17 (hP.2.1 17)) 12 (hP.2.2 12)) 13 (hP.2.2 13))⟩
            replace p0_40 : 0 ≤ z_40 ∧ z_40 ≤ 1 := p0_40
            replace p1_40 : z_40 = 1 ↔ w16_39 = 0 := p1_40
            replace p2_40 : w16_39 ≠ 0 → w6_40 = w6_35 := p2_40
            replace p3_40 : w16_39 = 0 → (tK (f 0) nn (tX (f 0) nn pp)) ≠ 256 → (tK (f 0) nn (tX (f 0) nn pp)) ≠ 257 → tAt (f 0) nn (f 6) (f 7) (f 8) (v 5) w6_40 (tX (f 0) nn (tX (f 0) nn pp)) := p3_40
            have rw6_40 : 0 ≤ w6_40 ∧ w6_40 ≤ 700 := hP.2.1 6
            first | replace p2_40 := p2_40 (by omega) | clear p2_40
            try have hH3 := p3_40 (by omega) (by omega) (by omega)
            clear p3_40
            refine lv_pop hx hb dX3_readKey_110 rfl ?_
            exact g_vret hQ C hr hlocks hP hS dX3_readKey_111 ⟨w6_40, (v 9), w16_39, w17_39, (f 12), (f 13), rfl, rfl, rfl, rfl, (by first | exact oX_ok (ky1_d (by omega) (by omega) (by omega)) (by omega) (by omega) hH3 | exact oX_bad (ky1_a (by omega)) (by omega) (by omega) (by omega) (tAt_eq hc (by omega)) | exact oX_bad (ky1_b (by omega) (by omega)) (by decide) (by omega) (by omega) (tAt_eq hc (by omega)) | exact oX_bad (ky1_c (by omega) (by omega) (by omega)) (by omega) (by omega) (by omega) (tAt_eq hc2 (by omega))), (by first | omega | (split <;> omega)), (by first | (intro h; exfalso; omega) | exact fun h => (by have h9 := hAK.get (by omega); rw [h9.1, h9.2]; refine ⟨by congr 1 <;> omega, ?_⟩; congr 1; first | (rw [if_neg (by omega), if_pos (by omega)]) | (rw [if_pos (by omega), if_neg (by omega)]) | (rw [if_pos rfl, if_neg (by omega)])))⟩
          · refine lv_iload_n hx hb dX3_readKey_85 rfl (lv_at hl 0 rfl) ?_
            refine lv_iconst (v := iI 3) hx hb dX3_readKey_86 rfl ?_
            refine gi_cle (tgt := 97) hx hb dX3_readKey_87 (by decide) (by omega) (by decide) (fun c_41 => ?_) (fun c_41 => ?_)
            · refine lv_aload_n hx hb dX3_readKey_97 rfl (lv_at hl 2 rfl) ?_
              refine rwG_reader_draft C hP mF_X3_21 dX3_readKey_98 ?_
              refine lv_iload_n hx hb dX3_readKey_101 rfl (lv_at hl 0 rfl) ?_
              refine lv_iload_n hx hb dX3_readKey_102 rfl (lv_at hl 1 rfl) ?_
              refine g_cv (As := [.int (iI (z_37 - 268)), .int (iI 1)]) (rest := []) (n := 2) C hml (q_e_La_addKey l D k A ad hD (va_up (va_up (va_up (va_up v 6 w6_35) 9 (v 9)) 16 w16_34) 17 w17_34) (va_up (va_up f 12 (f 12)) 13 (f 13)) g (z_37 - 268) 1 (by omega) (by decide) (show 0 ≤ (z_37 - 268) ∧ (z_37 - 268) ≤ 3 from by omega)) mM_X3_122 mI_X4_addKey mE_X4_addKey mN_X4 mC_X4_addKey (by decide +kernel) 14 (ci := 4) rfl rfl hP hS (fun _ h => h) ⟨Nat.le_of_ble_eq_true rfl, Nat.le_of_ble_eq_true rfl⟩ ⟨Nat.zero_le _, Nat.zero_le _⟩ hl.1 rfl rfl (Nat.le_of_ble_eq_true rfl) dX3_readKey_103 (fun r_42 v_42 f_42 g_42 H locs hq_42 hP _ hS => ?_)
              obtain ⟨w9_42, a12_42, a13_42, rfl, rfl, rfl, rfl, p0_42, p1_42⟩ := hq_42
              show W p l e (gRm 3 63) s m args below meth c _ _ 0 0 Q (F0 m 106 ls [])
              have hP : gWd D (rwT k ad) (va_up (va_up (va_up (va_up v 6 w6_35) 9 w9_42) 16 w16_34) 17 w17_34) (va_up (va_up f 12 a12_42) 13 a13_42) g H := ⟨hP.1, (gF_up (V := rwV) (F := rwF) (gF_up (V := rwV) (F := rwF) (gR_up (V := rwV) (F := rwF) (gR_up (V := rwV) (F := rwF) (gR_up (V := rwV) (F := rwF) (gR_up (V := rwV) (F := rwF) ⟨hok.1, hok.2⟩ 6 (hP.2.1 6)) 9 (hP.2.1 9)) 16 (hP.2.1 16)) 17 (hP.2.1 17)) 12 (hP.2.2 12)) 13 (hP.2.2 13))⟩
              replace p0_42 : (v 9) < 4 → w9_42 = (v 9) + 1 := p0_42
              replace p1_42 : (v 9) < 4 → a12_42 = u1 (f 12) (v 9) (z_37 - 268) ∧ a13_42 = u1 (f 13) (v 9) (if (1 : Int) = 0 then 0 else 1) := p1_42
              have rw9_42 : 0 ≤ w9_42 ∧ w9_42 ≤ 4 := hP.2.1 9
              first | replace p0_42 := p0_42 (by omega) | clear p0_42
              have hAK := Bx.mk p1_42
              clear p1_42
              refine lv_aload_n hx hb dX3_readKey_106 rfl (lv_at hl 2 rfl) ?_
              refine g_cv (As := []) (rest := []) (n := 0) C hml (e_La_goOn l D k A ad hD (va_up (va_up (va_up (va_up v 6 w6_35) 9 w9_42) 16 w16_34) 17 w17_34) (va_up (va_up f 12 a12_42) 13 a13_42) g nn (tX (f 0) nn pp) (show tAt (f 0) nn (f 6) (f 7) (f 8) (v 5) w6_35 (tX (f 0) nn pp) from hc2)) mM_X3_70 mI_X3_goOn mE_X3_goOn mN_X3 mC_X3_goOn (by decide +kernel) 9 (ci := 3) rfl rfl hP hS (fun _ h => h) ⟨Nat.le_of_ble_eq_true rfl, Nat.le_of_ble_eq_true rfl⟩ ⟨Nat.zero_le _, Nat.zero_le _⟩ hl.1 rfl rfl (Nat.le_of_ble_eq_true rfl) dX3_readKey_107 (fun r_43 v_43 f_43 g_43 H locs hq_43 hP _ hS => ?_)
              obtain ⟨z_43, w6_43, rfl, rfl, rfl, rfl, p0_43, p1_43, p2_43, p3_43⟩ := hq_43
              show W p l e (gRm 3 63) s m args below meth c _ _ 0 0 Q (F0 m 110 ls [.int (iI z_43)])
              have hP : gWd D (rwT k ad) (va_up (va_up (va_up (va_up v 6 w6_43) 9 w9_42) 16 w16_34) 17 w17_34) (va_up (va_up f 12 a12_42) 13 a13_42) g H := ⟨hP.1, (gF_up (V := rwV) (F := rwF) (gF_up (V := rwV) (F := rwF) (gR_up (V := rwV) (F := rwF) (gR_up (V := rwV) (F := rwF) (gR_up (V := rwV) (F := rwF) (gR_up (V := rwV) (F := rwF) ⟨hok.1, hok.2⟩ 6 (hP.2.1 6)) 9 (hP.2.1 9)) 16 (hP.2.1 16)) 17 (hP.2.1 17)) 12 (hP.2.2 12)) 13 (hP.2.2 13))⟩
              replace p0_43 : 0 ≤ z_43 ∧ z_43 ≤ 1 := p0_43
              replace p1_43 : z_43 = 1 ↔ w16_34 = 0 := p1_43
              replace p2_43 : w16_34 ≠ 0 → w6_43 = w6_35 := p2_43
              replace p3_43 : w16_34 = 0 → (tK (f 0) nn (tX (f 0) nn pp)) ≠ 256 → (tK (f 0) nn (tX (f 0) nn pp)) ≠ 257 → tAt (f 0) nn (f 6) (f 7) (f 8) (v 5) w6_43 (tX (f 0) nn (tX (f 0) nn pp)) := p3_43
              have rw6_43 : 0 ≤ w6_43 ∧ w6_43 ≤ 700 := hP.2.1 6
              first | replace p2_43 := p2_43 (by omega) | clear p2_43
              try have hH3 := p3_43 (by omega) (by omega) (by omega)
              clear p3_43
              refine lv_pop hx hb dX3_readKey_110 rfl ?_
              exact g_vret hQ C hr hlocks hP hS dX3_readKey_111 ⟨w6_43, w9_42, w16_34, w17_34, a12_42, a13_42, rfl, rfl, rfl, rfl, (by first | exact oX_ok (ky1_d (by omega) (by omega) (by omega)) (by omega) (by omega) hH3 | exact oX_bad (ky1_a (by omega)) (by omega) (by omega) (by omega) (tAt_eq hc (by omega)) | exact oX_bad (ky1_b (by omega) (by omega)) (by decide) (by omega) (by omega) (tAt_eq hc (by omega)) | exact oX_bad (ky1_c (by omega) (by omega) (by omega)) (by omega) (by omega) (by omega) (tAt_eq hc2 (by omega))), (by first | omega | (split <;> omega)), (by first | (intro h; exfalso; omega) | exact fun h => (by have h9 := hAK.get (by omega); rw [h9.1, h9.2]; refine ⟨by congr 1 <;> omega, ?_⟩; congr 1; first | (rw [if_neg (by omega), if_pos (by omega)]) | (rw [if_pos (by omega), if_neg (by omega)]) | (rw [if_pos rfl, if_neg (by omega)])))⟩
            · refine lv_aload_n hx hb dX3_readKey_90 rfl (lv_at hl 2 rfl) ?_
              refine g_cv (As := []) (rest := []) (n := 0) C hml (e_La_refuseToken l D k A ad hD (va_up (va_up (va_up (va_up v 6 w6_35) 9 (v 9)) 16 w16_34) 17 w17_34) (va_up (va_up f 12 (f 12)) 13 (f 13)) g nn (tX (f 0) nn pp) (show tAt (f 0) nn (f 6) (f 7) (f 8) (v 5) w6_35 (tX (f 0) nn pp) from hc2)) mM_X3_88 mI_X3_refuseToken mE_X3_refuseToken mN_X3 mC_X3_refuseToken (by decide +kernel) 9 (ci := 3) rfl rfl hP hS (fun _ h => h) ⟨Nat.le_of_ble_eq_true rfl, Nat.le_of_ble_eq_true rfl⟩ ⟨Nat.zero_le _, Nat.zero_le _⟩ hl.1 rfl rfl (Nat.le_of_ble_eq_true rfl) dX3_readKey_91 (fun r_44 v_44 f_44 g_44 H locs hq_44 hP _ hS => ?_)
              obtain ⟨w16_44, w17_44, rfl, rfl, rfl, rfl, p0_44, p1_44⟩ := hq_44
              show W p l e (gRm 3 63) s m args below meth c _ _ 0 0 Q (F0 m 94 ls [])
              have hP : gWd D (rwT k ad) (va_up (va_up (va_up (va_up v 6 w6_35) 9 (v 9)) 16 w16_44) 17 w17_44) (va_up (va_up f 12 (f 12)) 13 (f 13)) g H := ⟨hP.1, (gF_up (V := rwV) (F := rwF) (gF_up (V := rwV) (F := rwF) (gR_up (V := rwV) (F := rwF) (gR_up (V := rwV) (F := rwF) (gR_up (V := rwV) (F := rwF) (gR_up (V := rwV) (F := rwF) ⟨hok.1, hok.2⟩ 6 (hP.2.1 6)) 9 (hP.2.1 9)) 16 (hP.2.1 16)) 17 (hP.2.1 17)) 12 (hP.2.2 12)) 13 (hP.2.2 13))⟩
              replace p0_44 : w16_34 = 0 → w16_44 = (fk (f 0) nn (tX (f 0) nn pp)) ∧ w17_44 = (tX (f 0) nn pp) := p0_44
              replace p1_44 : w16_34 ≠ 0 → w16_44 = w16_34 ∧ w17_44 = w17_34 := p1_44
              have rw16_44 : 0 ≤ w16_44 ∧ w16_44 ≤ 5 := hP.2.1 16
              have rw17_44 : (-1) ≤ w17_44 ∧ w17_44 ≤ 700 := hP.2.1 17
              first | replace p0_44 := p0_44 (by omega) | clear p0_44
              first | replace p1_44 := p1_44 (by omega) | clear p1_44
              refine lv_goto (tgt := 106) hx hb dX3_readKey_94 (by decide) ?_
              refine lv_aload_n hx hb dX3_readKey_106 rfl (lv_at hl 2 rfl) ?_
              refine g_cv (As := []) (rest := []) (n := 0) C hml (e_La_goOn l D k A ad hD (va_up (va_up (va_up (va_up v 6 w6_35) 9 (v 9)) 16 w16_44) 17 w17_44) (va_up (va_up f 12 (f 12)) 13 (f 13)) g nn (tX (f 0) nn pp) (show tAt (f 0) nn (f 6) (f 7) (f 8) (v 5) w6_35 (tX (f 0) nn pp) from hc2)) mM_X3_70 mI_X3_goOn mE_X3_goOn mN_X3 mC_X3_goOn (by decide +kernel) 9 (ci := 3) rfl rfl hP hS (fun _ h => h) ⟨Nat.le_of_ble_eq_true rfl, Nat.le_of_ble_eq_true rfl⟩ ⟨Nat.zero_le _, Nat.zero_le _⟩ hl.1 rfl rfl (Nat.le_of_ble_eq_true rfl) dX3_readKey_107 (fun r_45 v_45 f_45 g_45 H locs hq_45 hP _ hS => ?_)
              obtain ⟨z_45, w6_45, rfl, rfl, rfl, rfl, p0_45, p1_45, p2_45, p3_45⟩ := hq_45
              show W p l e (gRm 3 63) s m args below meth c _ _ 0 0 Q (F0 m 110 ls [.int (iI z_45)])
              have hP : gWd D (rwT k ad) (va_up (va_up (va_up (va_up v 6 w6_45) 9 (v 9)) 16 w16_44) 17 w17_44) (va_up (va_up f 12 (f 12)) 13 (f 13)) g H := ⟨hP.1, (gF_up (V := rwV) (F := rwF) (gF_up (V := rwV) (F := rwF) (gR_up (V := rwV) (F := rwF) (gR_up (V := rwV) (F := rwF) (gR_up (V := rwV) (F := rwF) (gR_up (V := rwV) (F := rwF) ⟨hok.1, hok.2⟩ 6 (hP.2.1 6)) 9 (hP.2.1 9)) 16 (hP.2.1 16)) 17 (hP.2.1 17)) 12 (hP.2.2 12)) 13 (hP.2.2 13))⟩
              replace p0_45 : 0 ≤ z_45 ∧ z_45 ≤ 1 := p0_45
              replace p1_45 : z_45 = 1 ↔ w16_44 = 0 := p1_45
              replace p2_45 : w16_44 ≠ 0 → w6_45 = w6_35 := p2_45
              replace p3_45 : w16_44 = 0 → (tK (f 0) nn (tX (f 0) nn pp)) ≠ 256 → (tK (f 0) nn (tX (f 0) nn pp)) ≠ 257 → tAt (f 0) nn (f 6) (f 7) (f 8) (v 5) w6_45 (tX (f 0) nn (tX (f 0) nn pp)) := p3_45
              have rw6_45 : 0 ≤ w6_45 ∧ w6_45 ≤ 700 := hP.2.1 6
              first | replace p2_45 := p2_45 (by omega) | clear p2_45
              try have hH3 := p3_45 (by omega) (by omega) (by omega)
              clear p3_45
              refine lv_pop hx hb dX3_readKey_110 rfl ?_
              exact g_vret hQ C hr hlocks hP hS dX3_readKey_111 ⟨w6_45, (v 9), w16_44, w17_44, (f 12), (f 13), rfl, rfl, rfl, rfl, (by first | exact oX_ok (ky1_d (by omega) (by omega) (by omega)) (by omega) (by omega) hH3 | exact oX_bad (ky1_a (by omega)) (by omega) (by omega) (by omega) (tAt_eq hc (by omega)) | exact oX_bad (ky1_b (by omega) (by omega)) (by decide) (by omega) (by omega) (tAt_eq hc (by omega)) | exact oX_bad (ky1_c (by omega) (by omega) (by omega)) (by omega) (by omega) (by omega) (tAt_eq hc2 (by omega))), (by first | omega | (split <;> omega)), (by first | (intro h; exfalso; omega) | exact fun h => (by have h9 := hAK.get (by omega); rw [h9.1, h9.2]; refine ⟨by congr 1 <;> omega, ?_⟩; congr 1; first | (rw [if_neg (by omega), if_pos (by omega)]) | (rw [if_pos (by omega), if_neg (by omega)]) | (rw [if_pos rfl, if_neg (by omega)])))⟩
        · exfalso; omega
      · refine lv_iconst (v := iI 1) hx hb dX3_readKey_52 rfl ?_
        refine lv_goto (tgt := 57) hx hb dX3_readKey_53 (by decide) ?_
        refine lv_iconst (v := iI 3) hx hb dX3_readKey_57 rfl ?_
        refine g_cv (As := [.int (iI 1), .int (iI 3)]) (rest := []) (n := 2) C hml (e_La_refuseIf l D k A ad hD (va_up (va_up (va_up (va_up v 6 (v 6)) 9 (v 9)) 16 (v 16)) 17 (v 17)) (va_up (va_up f 12 (f 12)) 13 (f 13)) g 1 3 nn pp (by decide) (by decide) (show tAt (f 0) nn (f 6) (f 7) (f 8) (v 5) (v 6) pp from hc) (show 1 ≤ (3 : Int) ∧ (3 : Int) ≤ 5 from by omega)) mM_X3_66 mI_X3_refuseIf mE_X3_refuseIf mN_X3 mC_X3_refuseIf (by decide +kernel) 9 (ci := 3) rfl rfl hP hS (fun _ h => h) ⟨Nat.le_of_ble_eq_true rfl, Nat.le_of_ble_eq_true rfl⟩ ⟨Nat.zero_le _, Nat.zero_le _⟩ hl.1 rfl rfl (Nat.le_of_ble_eq_true rfl) dX3_readKey_58 (fun r_46 v_46 f_46 g_46 H locs hq_46 hP _ hS => ?_)
        obtain ⟨w16_46, w17_46, rfl, rfl, rfl, rfl, p0_46, p1_46⟩ := hq_46
        show W p l e (gRm 3 63) s m args below meth c _ _ 0 0 Q (F0 m 61 ls [])
        have hP : gWd D (rwT k ad) (va_up (va_up (va_up (va_up v 6 (v 6)) 9 (v 9)) 16 w16_46) 17 w17_46) (va_up (va_up f 12 (f 12)) 13 (f 13)) g H := ⟨hP.1, (gF_up (V := rwV) (F := rwF) (gF_up (V := rwV) (F := rwF) (gR_up (V := rwV) (F := rwF) (gR_up (V := rwV) (F := rwF) (gR_up (V := rwV) (F := rwF) (gR_up (V := rwV) (F := rwF) ⟨hok.1, hok.2⟩ 6 (hP.2.1 6)) 9 (hP.2.1 9)) 16 (hP.2.1 16)) 17 (hP.2.1 17)) 12 (hP.2.2 12)) 13 (hP.2.2 13))⟩
        replace p0_46 : (1 : Int) = 0 ∨ (v 16) ≠ 0 → w16_46 = (v 16) ∧ w17_46 = (v 17) := p0_46
        replace p1_46 : (1 : Int) ≠ 0 → (v 16) = 0 → w16_46 = (3 : Int) ∧ w17_46 = pp := p1_46
        have rw16_46 : 0 ≤ w16_46 ∧ w16_46 ≤ 5 := hP.2.1 16
        have rw17_46 : (-1) ≤ w17_46 ∧ w17_46 ≤ 700 := hP.2.1 17
        first | replace p0_46 := p0_46 (by omega) | clear p0_46
        first | replace p1_46 := p1_46 (by omega) (by omega) | clear p1_46
        refine lv_aload_n hx hb dX3_readKey_61 rfl (lv_at hl 1 rfl) ?_
        refine g_cv (As := []) (rest := []) (n := 0) C hml (e_La_goOn l D k A ad hD (va_up (va_up (va_up (va_up v 6 (v 6)) 9 (v 9)) 16 w16_46) 17 w17_46) (va_up (va_up f 12 (f 12)) 13 (f 13)) g nn pp (show tAt (f 0) nn (f 6) (f 7) (f 8) (v 5) (v 6) pp from hc)) mM_X3_70 mI_X3_goOn mE_X3_goOn mN_X3 mC_X3_goOn (by decide +kernel) 9 (ci := 3) rfl rfl hP hS (fun _ h => h) ⟨Nat.le_of_ble_eq_true rfl, Nat.le_of_ble_eq_true rfl⟩ ⟨Nat.zero_le _, Nat.zero_le _⟩ hl.1 rfl rfl (Nat.le_of_ble_eq_true rfl) dX3_readKey_62 (fun r_47 v_47 f_47 g_47 H locs hq_47 hP _ hS => ?_)
        obtain ⟨z_47, w6_47, rfl, rfl, rfl, rfl, p0_47, p1_47, p2_47, p3_47⟩ := hq_47
        show W p l e (gRm 3 63) s m args below meth c _ _ 0 0 Q (F0 m 65 ls [.int (iI z_47)])
        have hP : gWd D (rwT k ad) (va_up (va_up (va_up (va_up v 6 w6_47) 9 (v 9)) 16 w16_46) 17 w17_46) (va_up (va_up f 12 (f 12)) 13 (f 13)) g H := ⟨hP.1, (gF_up (V := rwV) (F := rwF) (gF_up (V := rwV) (F := rwF) (gR_up (V := rwV) (F := rwF) (gR_up (V := rwV) (F := rwF) (gR_up (V := rwV) (F := rwF) (gR_up (V := rwV) (F := rwF) ⟨hok.1, hok.2⟩ 6 (hP.2.1 6)) 9 (hP.2.1 9)) 16 (hP.2.1 16)) 17 (hP.2.1 17)) 12 (hP.2.2 12)) 13 (hP.2.2 13))⟩
        replace p0_47 : 0 ≤ z_47 ∧ z_47 ≤ 1 := p0_47
        replace p1_47 : z_47 = 1 ↔ w16_46 = 0 := p1_47
        replace p2_47 : w16_46 ≠ 0 → w6_47 = (v 6) := p2_47
        replace p3_47 : w16_46 = 0 → (tK (f 0) nn pp) ≠ 256 → (tK (f 0) nn pp) ≠ 257 → tAt (f 0) nn (f 6) (f 7) (f 8) (v 5) w6_47 (tX (f 0) nn pp) := p3_47
        have rw6_47 : 0 ≤ w6_47 ∧ w6_47 ≤ 700 := hP.2.1 6
        first | replace p2_47 := p2_47 (by omega) | clear p2_47
        try have hc2 := p3_47 (by omega) (by omega) (by omega)
        clear p3_47
        refine gi_zne (tgt := 69) hx hb dX3_readKey_65 (by decide) (by omega) (fun c_48 => ?_) (fun c_48 => ?_)
        · exfalso; omega
        · have v_47 := mt p1_47.mpr (show ¬ z_47 = 1 by omega)
          clear p1_47
          exact g_vret hQ C hr hlocks hP hS dX3_readKey_68 ⟨w6_47, (v 9), w16_46, w17_46, (f 12), (f 13), rfl, rfl, rfl, rfl, (by first | exact oX_ok (ky1_d (by omega) (by omega) (by omega)) (by omega) (by omega) hH3 | exact oX_bad (ky1_a (by omega)) (by omega) (by omega) (by omega) (tAt_eq hc (by omega)) | exact oX_bad (ky1_b (by omega) (by omega)) (by decide) (by omega) (by omega) (tAt_eq hc (by omega)) | exact oX_bad (ky1_c (by omega) (by omega) (by omega)) (by omega) (by omega) (by omega) (tAt_eq hc2 (by omega))), (by first | omega | (split <;> omega)), (by first | (intro h; exfalso; omega) | exact fun h => (by have h9 := hAK.get (by omega); rw [h9.1, h9.2]; refine ⟨by congr 1 <;> omega, ?_⟩; congr 1; first | (rw [if_neg (by omega), if_pos (by omega)]) | (rw [if_pos (by omega), if_neg (by omega)]) | (rw [if_pos rfl, if_neg (by omega)])))⟩
    · exfalso; omega

set_option maxHeartbeats 4000000 in
set_option maxRecDepth 100000 in
theorem q_e_La_readKeys (l : Launch) (D : va_G) (k : Nat → ClassId) (A : Nat → Prop) (ad : Nat → Nat) (hD : rwD A k ad) (v : gV) (f g : gF) (nn : Int) (pp : Int) (hc : tAt (f 0) nn (f 6) (f 7) (f 8) (v 5) (v 6) pp) (hk : (tK (f 0) nn pp) ≠ 256 ∧ (tK (f 0) nn pp) ≠ 257) : GM l D k A (rwT k ad) yX3_readKeys cX3_readKeys 2 none 4 85 [.ref (ad 9)] v f g (fun r v1 f1 g1 => ∃ (w6 : Int) (w9 : Int) (w16 : Int) (w17 : Int) (a12_ : Int → Int) (a13_ : Int → Int), r = none ∧ (va_up (va_up (va_up (va_up v 6 w6) 9 w9) 16 w16) 17 w17) = v1 ∧ (va_up (va_up f 12 a12_) 13 a13_) = f1 ∧ g = g1 ∧ ((v 16) = 0 → oX (f 0) nn (f 6) (f 7) (f 8) (v 5) (kys (f 0) nn 4 (tX (f 0) nn pp)) w16 w17 (v 17) w6) ∧ ((v 16) ≠ 0 → w16 = (v 16) ∧ w17 = (v 17) ∧ w6 = (v 6)) ∧ ((v 16) = 0 → w16 = 0 → w9 = kyN (f 0) nn 4 (tX (f 0) nn pp) ∧ kyC (f 0) nn (tX (f 0) nn pp) a12_ a13_ w9)) := by
  refine GM.of (by decide) (Nat.le_of_ble_eq_true rfl) ?_
  intro p e s m args below meth c Q ls hQ C hml hr hlocks hP hl
  have hx := C.1
  have hb := C.2.1
  have hok := hP.2
  have hS : va_S A s.heap s.heap [] := va_S.rf
  have hl : lv_has ls 2 [(0, .ref (ad 9))] := hl
  have hP : gWd D (rwT k ad) (va_up (va_up (va_up (va_up v 6 (v 6)) 9 (v 9)) 16 (v 16)) 17 (v 17)) (va_up (va_up f 12 (f 12)) 13 (f 13)) g s.heap := by rw [va_id, va_id, va_id, va_id, va_id, va_id]; exact hP
  have r_1 : 0 ≤ (v 16) ∧ (v 16) ≤ 5 := hok.1 16
  refine lv_aload_n hx hb dX3_readKeys_0 rfl (lv_at hl 0 rfl) ?_
  refine rwG_reader_draft C hP mF_X3_21 dX3_readKeys_1 ?_
  refine lv_iconst (v := iI 0) hx hb dX3_readKeys_4 rfl ?_
  refine rwP_reader_draft_keys (v1 := (va_up (va_up (va_up (va_up v 6 (v 6)) 9 0) 16 (v 16)) 17 (v 17))) C hP hD hS mF_X3_116 (by decide) rfl (Or.inr (gF_up (V := rwV) (F := rwF) (gF_up (V := rwV) (F := rwF) (gR_up (V := rwV) (F := rwF) (gR_up (V := rwV) (F := rwF) (gR_up (V := rwV) (F := rwF) (gR_up (V := rwV) (F := rwF) ⟨hok.1, hok.2⟩ 6 (hP.2.1 6)) 9 (show 0 ≤ 0 ∧ 0 ≤ 4 from by decide)) 16 (hP.2.1 16)) 17 (hP.2.1 17)) 12 (hP.2.2 12)) 13 (hP.2.2 13))) dX3_readKeys_5 (fun H locs hP hS => ?_)
  refine lv_iconst (v := iI 0) hx hb dX3_readKeys_8 rfl ?_
  refine lv_istore_n (lv' := [(1, .int (iI 0)), (0, .ref (ad 9))]) hx hb dX3_readKeys_9 rfl hl (by decide) rfl (fun ls hl => ?_)
  have L_2 : ∀ (n : Nat) (x1 : Int) (qq : Int) (y6_2 : Int) (y9_2 : Int) (y16_2 : Int) (y17_2 : Int) (c12_2 : Int → Int) (c13_2 : Int → Int) (H : Heap) (locs : List Loc) (ls : Array Slot), 5 - x1 < (n : Int) → (0 ≤ x1 ∧ x1 ≤ 5) → (tAt (f 0) nn (f 6) (f 7) (f 8) (v 5) y6_2 qq) → (y16_2 = 0 → (tK (f 0) nn qq ≠ 256 ∧ tK (f 0) nn qq ≠ 257) ∧ y17_2 = (v 17) ∧ y9_2 = x1 ∧ x1 ≤ 4) → (y16_2 = 0 → kys (f 0) nn (4 - x1).toNat (tX (f 0) nn qq) = (kys (f 0) nn 4 (tX (f 0) nn pp))) → (y16_2 ≠ 0 → (v 16) = 0 → oX (f 0) nn (f 6) (f 7) (f 8) (v 5) (kys (f 0) nn 4 (tX (f 0) nn pp)) y16_2 y17_2 (v 17) y6_2) → ((v 16) ≠ 0 → y16_2 = (v 16) ∧ y17_2 = (v 17) ∧ y6_2 = (v 6)) → (y16_2 = 0 → tX (f 0) nn qq = kyP (f 0) nn x1.toNat (tX (f 0) nn pp)) → (y16_2 = 0 → x1 + kyN (f 0) nn (4 - x1).toNat (tX (f 0) nn qq) = kyN (f 0) nn 4 (tX (f 0) nn pp)) → (y16_2 = 0 → kyC (f 0) nn (tX (f 0) nn pp) c12_2 c13_2 x1) → gWd D (rwT k ad) (va_up (va_up (va_up (va_up v 6 y6_2) 9 y9_2) 16 y16_2) 17 y17_2) (va_up (va_up f 12 c12_2) 13 c13_2) g H → va_S A s.heap H locs → lv_has ls 2 [(0, .ref (ad 9)), (1, .int (iI x1))] → W p l e (gRm 4 85) s m args below meth c H locs 0 0 Q (F0 m 10 ls []) := by
    intro n
    induction n with
    | zero =>
      intro x1 qq y6_2 y9_2 y16_2 y17_2 c12_2 c13_2 H locs ls hn_2 i2_0 i2_1 i2_2 i2_3 i2_4 i2_5 i2_6 i2_7 i2_8 hP hS hl
      have ry6_2 : 0 ≤ y6_2 ∧ y6_2 ≤ 700 := hP.2.1 6
      have ry9_2 : 0 ≤ y9_2 ∧ y9_2 ≤ 4 := hP.2.1 9
      have ry16_2 : 0 ≤ y16_2 ∧ y16_2 ≤ 5 := hP.2.1 16
      have ry17_2 : (-1) ≤ y17_2 ∧ y17_2 ≤ 700 := hP.2.1 17
      exfalso; omega
    | succ n ih_10 =>
      intro x1 qq y6_2 y9_2 y16_2 y17_2 c12_2 c13_2 H locs ls hn_2 i2_0 i2_1 i2_2 i2_3 i2_4 i2_5 i2_6 i2_7 i2_8 hP hS hl
      have ry6_2 : 0 ≤ y6_2 ∧ y6_2 ≤ 700 := hP.2.1 6
      have ry9_2 : 0 ≤ y9_2 ∧ y9_2 ≤ 4 := hP.2.1 9
      have ry16_2 : 0 ≤ y16_2 ∧ y16_2 ≤ 5 := hP.2.1 16
      have ry17_2 : (-1) ≤ y17_2 ∧ y17_2 ≤ 700 := hP.2.1 17
      have hC1 := Bx.mk i2_6
      have hC2 := Bx.mk i2_7
      have hC3 := Bx.mk i2_8
      clear i2_6 i2_7 i2_8
      have hJ1 := i2_1
      have hJ2 := i2_2
      have hJ3 := i2_3
      have hJ4 := i2_4
      refine lv_iload_n hx hb dX3_readKeys_10 rfl (lv_at hl 1 rfl) ?_
      refine lv_iconst (v := iI 4) hx hb dX3_readKeys_11 rfl ?_
      refine gi_cgt (tgt := 45) hx hb dX3_readKeys_12 (by decide) (by omega) (by decide) (fun c_3 => ?_) (fun c_3 => ?_)
      · exact g_vret hQ C hr hlocks hP hS dX3_readKeys_45 ⟨y6_2, y9_2, y16_2, y17_2, c12_2, c13_2, rfl, rfl, rfl, rfl, (by first | exact fun h => (by rw [← hJ3 hf0, kys_stop (by omega) (by omega) (Or.inr (by omega))]; exact ⟨hOX.1, fun h9 => by have := hOX.2.1 h9; omega, hOX.2.2.1, hOX.2.2.2⟩) | exact fun h => (by have q := hJ4 (by omega) h; exact ⟨q.1, q.2.1, q.2.2.1, tAt_eq q.2.2.2 (by omega)⟩) | (intro h; exfalso; omega)), (by first | omega | (split <;> omega)), (by first | (intro h1 h2; exfalso; omega) | (intro h1 h2; have h9 := (ky1_ok (show (ky1 (f 0) nn x1 (tX (f 0) nn qq)).1 = 0 by have := hOX.1; omega)).1; have h8 := hC2.get hf0; have hlt := ky1_lt (show (ky1 (f 0) nn x1 (tX (f 0) nn qq)).1 = 0 by have := hOX.1; omega); rw [kyN_end (by omega) (by rw [← h9]; omega)] at h8; have h7 := hRK.get h2; have hw9 := hWk h2; refine ⟨by omega, ?_⟩; rw [h7.1, h7.2, show y9_2 = x1 + 1 by omega, hkx]; exact kyC_put (hC3.get hf0) (by omega) (by rw [← hC1.get hf0]) (by rw [← hC1.get hf0])))⟩
      · refine lv_aload_n hx hb dX3_readKeys_15 rfl (lv_at hl 0 rfl) ?_
        refine g_cv (As := []) (rest := []) (n := 0) C hml (e_La_goOn l D k A ad hD (va_up (va_up (va_up (va_up v 6 y6_2) 9 y9_2) 16 y16_2) 17 y17_2) (va_up (va_up f 12 c12_2) 13 c13_2) g nn qq (show tAt (f 0) nn (f 6) (f 7) (f 8) (v 5) y6_2 qq from hJ1)) mM_X3_70 mI_X3_goOn mE_X3_goOn mN_X3 mC_X3_goOn (by decide +kernel) 9 (ci := 3) rfl rfl hP hS (fun _ h => h) ⟨Nat.le_of_ble_eq_true rfl, Nat.le_of_ble_eq_true rfl⟩ ⟨Nat.zero_le _, Nat.zero_le _⟩ hl.1 rfl rfl (Nat.le_of_ble_eq_true rfl) dX3_readKeys_16 (fun r_4 v_4 f_4 g_4 H locs hq_4 hP _ hS => ?_)
        obtain ⟨z_4, w6_4, rfl, rfl, rfl, rfl, p0_4, p1_4, p2_4, p3_4⟩ := hq_4
        show W p l e (gRm 4 85) s m args below meth c _ _ 0 0 Q (F0 m 19 ls [.int (iI z_4)])
        have hP : gWd D (rwT k ad) (va_up (va_up (va_up (va_up v 6 w6_4) 9 y9_2) 16 y16_2) 17 y17_2) (va_up (va_up f 12 c12_2) 13 c13_2) g H := ⟨hP.1, (gF_up (V := rwV) (F := rwF) (gF_up (V := rwV) (F := rwF) (gR_up (V := rwV) (F := rwF) (gR_up (V := rwV) (F := rwF) (gR_up (V := rwV) (F := rwF) (gR_up (V := rwV) (F := rwF) ⟨hok.1, hok.2⟩ 6 (hP.2.1 6)) 9 (hP.2.1 9)) 16 (hP.2.1 16)) 17 (hP.2.1 17)) 12 (hP.2.2 12)) 13 (hP.2.2 13))⟩
        replace p0_4 : 0 ≤ z_4 ∧ z_4 ≤ 1 := p0_4
        replace p1_4 : z_4 = 1 ↔ y16_2 = 0 := p1_4
        replace p2_4 : y16_2 ≠ 0 → w6_4 = y6_2 := p2_4
        replace p3_4 : y16_2 = 0 → (tK (f 0) nn qq) ≠ 256 → (tK (f 0) nn qq) ≠ 257 → tAt (f 0) nn (f 6) (f 7) (f 8) (v 5) w6_4 (tX (f 0) nn qq) := p3_4
        have rw6_4 : 0 ≤ w6_4 ∧ w6_4 ≤ 700 := hP.2.1 6
        have hG3 := p3_4
        clear p3_4
        refine gi_zeq (tgt := 45) hx hb dX3_readKeys_19 (by decide) (by omega) (fun c_5 => ?_) (fun c_5 => ?_)
        · have v_4 := mt p1_4.mpr (show ¬ z_4 = 1 by omega)
          clear p1_4
          exact g_vret hQ C hr hlocks hP hS dX3_readKeys_45 ⟨w6_4, y9_2, y16_2, y17_2, c12_2, c13_2, rfl, rfl, rfl, rfl, (by first | exact fun h => (by rw [← hJ3 hf0, kys_stop (by omega) (by omega) (Or.inr (by omega))]; exact ⟨hOX.1, fun h9 => by have := hOX.2.1 h9; omega, hOX.2.2.1, hOX.2.2.2⟩) | exact fun h => (by have q := hJ4 (by omega) h; exact ⟨q.1, q.2.1, q.2.2.1, tAt_eq q.2.2.2 (by omega)⟩) | (intro h; exfalso; omega)), (by first | omega | (split <;> omega)), (by first | (intro h1 h2; exfalso; omega) | (intro h1 h2; have h9 := (ky1_ok (show (ky1 (f 0) nn x1 (tX (f 0) nn qq)).1 = 0 by have := hOX.1; omega)).1; have h8 := hC2.get hf0; have hlt := ky1_lt (show (ky1 (f 0) nn x1 (tX (f 0) nn qq)).1 = 0 by have := hOX.1; omega); rw [kyN_end (by omega) (by rw [← h9]; omega)] at h8; have h7 := hRK.get h2; have hw9 := hWk h2; refine ⟨by omega, ?_⟩; rw [h7.1, h7.2, show y9_2 = x1 + 1 by omega, hkx]; exact kyC_put (hC3.get hf0) (by omega) (by rw [← hC1.get hf0]) (by rw [← hC1.get hf0])))⟩
        · have v_4 := p1_4.mp (show z_4 = 1 by omega)
          clear p1_4
          have hf0 : y16_2 = 0 := by omega
          have hc2 := hG3 hf0 (hJ2 hf0).1.1 (hJ2 hf0).1.2
          have hkx := (hJ2 hf0).2.2.1
          have hx4 := (hJ2 hf0).2.2.2
          refine lv_aload_n hx hb dX3_readKeys_22 rfl (lv_at hl 0 rfl) ?_
          refine g_cv (As := []) (rest := []) (n := 0) C hml (q_e_La_readKey l D k A ad hD (va_up (va_up (va_up (va_up v 6 w6_4) 9 y9_2) 16 y16_2) 17 y17_2) (va_up (va_up f 12 c12_2) 13 c13_2) g nn (tX (f 0) nn qq) (show tAt (f 0) nn (f 6) (f 7) (f 8) (v 5) w6_4 (tX (f 0) nn qq) from hc2) (show y16_2 = 0 from by omega)) mM_X3_119 mI_X3_readKey mE_X3_readKey mN_X3 mC_X3_readKey (by decide +kernel) 9 (ci := 3) rfl rfl hP hS (fun _ h => h) ⟨Nat.le_of_ble_eq_true rfl, Nat.le_of_ble_eq_true rfl⟩ ⟨Nat.zero_le _, Nat.zero_le _⟩ hl.1 rfl rfl (Nat.le_of_ble_eq_true rfl) dX3_readKeys_23 (fun r_6 v_6 f_6 g_6 H locs hq_6 hP _ hS => ?_)
          obtain ⟨w6_6, w9_6, w16_6, w17_6, a12_6, a13_6, rfl, rfl, rfl, rfl, p0_6, p1_6, p2_6⟩ := hq_6
          show W p l e (gRm 4 85) s m args below meth c _ _ 0 0 Q (F0 m 26 ls [])
          have hP : gWd D (rwT k ad) (va_up (va_up (va_up (va_up v 6 w6_6) 9 w9_6) 16 w16_6) 17 w17_6) (va_up (va_up f 12 a12_6) 13 a13_6) g H := ⟨hP.1, (gF_up (V := rwV) (F := rwF) (gF_up (V := rwV) (F := rwF) (gR_up (V := rwV) (F := rwF) (gR_up (V := rwV) (F := rwF) (gR_up (V := rwV) (F := rwF) (gR_up (V := rwV) (F := rwF) ⟨hok.1, hok.2⟩ 6 (hP.2.1 6)) 9 (hP.2.1 9)) 16 (hP.2.1 16)) 17 (hP.2.1 17)) 12 (hP.2.2 12)) 13 (hP.2.2 13))⟩
          replace p0_6 : oX (f 0) nn (f 6) (f 7) (f 8) (v 5) (ky1 (f 0) nn y9_2 (tX (f 0) nn qq)) w16_6 w17_6 y17_2 w6_6 := p0_6
          replace p1_6 : w16_6 = 0 → w9_6 = y9_2 + 1 := p1_6
          replace p2_6 : w16_6 = 0 → a12_6 = u1 c12_2 y9_2 (tK (f 0) nn (tX (f 0) nn (tX (f 0) nn qq)) - 268) ∧ a13_6 = u1 c13_2 y9_2 (if (tK (f 0) nn (tX (f 0) nn qq)) = 267 then 1 else 0) := p2_6
          have rw6_6 : 0 ≤ w6_6 ∧ w6_6 ≤ 700 := hP.2.1 6
          have rw9_6 : 0 ≤ w9_6 ∧ w9_6 ≤ 4 := hP.2.1 9
          have rw16_6 : 0 ≤ w16_6 ∧ w16_6 ≤ 5 := hP.2.1 16
          have rw17_6 : (-1) ≤ w17_6 ∧ w17_6 ≤ 700 := hP.2.1 17
          have hOX := p0_6
          have hWk := p1_6
          rw [hkx] at hOX
          have hRK := Bx.mk p2_6
          clear p2_6
          refine lv_aload_n hx hb dX3_readKeys_26 rfl (lv_at hl 0 rfl) ?_
          refine rwG_reader_tokens C hP mF_X3_12 dX3_readKeys_27 ?_
          refine g_cv (As := []) (rest := []) (n := 0) C hml (e_To_kind l D k A ad hD (va_up (va_up (va_up (va_up v 6 w6_6) 9 w9_6) 16 w16_6) 17 w17_6) (va_up (va_up f 12 a12_6) 13 a13_6) g nn (ky1 (f 0) nn x1 (tX (f 0) nn qq)).2 (show tAt (f 0) nn (f 6) (f 7) (f 8) (v 5) w6_6 (ky1 (f 0) nn x1 (tX (f 0) nn qq)).2 from hOX.2.2.2)) mM_X3_56 mI_X6_kind mE_X6_kind mN_X6 mC_X6_kind (by decide +kernel) 10 (ci := 6) rfl rfl hP hS (fun _ h => h) ⟨Nat.le_of_ble_eq_true rfl, Nat.le_of_ble_eq_true rfl⟩ ⟨Nat.zero_le _, Nat.zero_le _⟩ hl.1 rfl rfl (Nat.le_of_ble_eq_true rfl) dX3_readKeys_30 (fun r_7 v_7 f_7 g_7 H locs hq_7 hP _ hS => ?_)
          obtain ⟨z_7, rfl, rfl, rfl, rfl, p0_7, p1_7⟩ := hq_7
          show W p l e (gRm 4 85) s m args below meth c _ _ 0 0 Q (F0 m 33 ls [.int (iI z_7)])
          replace p0_7 : z_7 = (tK (f 0) nn (ky1 (f 0) nn x1 (tX (f 0) nn qq)).2) := p0_7
          replace p1_7 : 40 ≤ z_7 ∧ z_7 ≤ 277 := p1_7
          have hz_7 : inR z_7 := (by first | omega | (rw [p0_7]; split <;> omega))
          have hKK := p0_7
          refine lv_bipush (v := iI 44) hx hb dX3_readKeys_33 (by decide) ?_
          refine gi_ceq (tgt := 39) hx hb dX3_readKeys_35 (by decide) (by omega) (by decide) (fun c_8 => ?_) (fun c_8 => ?_)
          · refine lv_iinc (v := iI (x1 + 1)) (lv' := [(1, .int (iI (x1 + 1))), (0, .ref (ad 9))]) hx hb dX3_readKeys_39 hl (k := 1) rfl (by show iI _ + iI 1 = _; rw [iI_add]) (by decide) rfl (fun ls hl => ?_)
            refine lv_goto (tgt := 10) hx hb dX3_readKeys_42 (by decide) ?_
            exact ih_10 (x1 + 1) ((ky1 (f 0) nn x1 (tX (f 0) nn qq)).2) w6_6 w9_6 w16_6 w17_6 a12_6 a13_6 _ _ _ (by omega) (by omega) hOX.2.2.2 (fun h => ⟨by omega, by have := hOX.2.1 (by have := hOX.1; omega); omega, by have := hWk h; omega, by have := ky1_lt (B := (f 0)) (n := nn) (c := x1) (p := tX (f 0) nn qq) (by have := hOX.1; omega); omega⟩) (fun h => by rw [← hJ3 hf0]; exact (kys_go (by omega) (by omega) (by have := hOX.1; omega) (by omega)).symm) (fun h1 h2 => by rw [← hJ3 hf0, kys_stop (by omega) (by omega) (Or.inl (by have := hOX.1; omega))]; exact ⟨hOX.1, fun h9 => absurd h9 (by have := hOX.1; omega), hOX.2.2.1, hOX.2.2.2⟩) (by omega) (fun h => by have h9 := (ky1_ok (show (ky1 (f 0) nn x1 (tX (f 0) nn qq)).1 = 0 by have := hOX.1; omega)).1; rw [h9, kyP_s (by omega), ← hC1.get hf0]) (fun h => by have h9 := (ky1_ok (show (ky1 (f 0) nn x1 (tX (f 0) nn qq)).1 = 0 by have := hOX.1; omega)).1; have h8 := hC2.get hf0; rw [kyN_go (by have := ky1_lt (show (ky1 (f 0) nn x1 (tX (f 0) nn qq)).1 = 0 by have := hOX.1; omega); omega) (by rw [← h9]; omega)] at h8; rw [h9]; omega) (fun h => by have h9 := hRK.get (by omega); rw [h9.1, h9.2, hkx]; exact kyC_put (hC3.get hf0) (by omega) (by rw [← hC1.get hf0]) (by rw [← hC1.get hf0])) hP hS (lv_sub hl [1, 0] rfl)
          · exact g_vret hQ C hr hlocks hP hS dX3_readKeys_38 ⟨w6_6, w9_6, w16_6, w17_6, a12_6, a13_6, rfl, rfl, rfl, rfl, (by first | exact fun h => (by rw [← hJ3 hf0, kys_stop (by omega) (by omega) (Or.inr (by omega))]; exact ⟨hOX.1, fun h9 => by have := hOX.2.1 h9; omega, hOX.2.2.1, hOX.2.2.2⟩) | exact fun h => (by have q := hJ4 (by omega) h; exact ⟨q.1, q.2.1, q.2.2.1, tAt_eq q.2.2.2 (by omega)⟩) | (intro h; exfalso; omega)), (by first | omega | (split <;> omega)), (by first | (intro h1 h2; exfalso; omega) | (intro h1 h2; have h9 := (ky1_ok (show (ky1 (f 0) nn x1 (tX (f 0) nn qq)).1 = 0 by have := hOX.1; omega)).1; have h8 := hC2.get hf0; have hlt := ky1_lt (show (ky1 (f 0) nn x1 (tX (f 0) nn qq)).1 = 0 by have := hOX.1; omega); rw [kyN_end (by omega) (by rw [← h9]; omega)] at h8; have h7 := hRK.get h2; have hw9 := hWk h2; refine ⟨by omega, ?_⟩; rw [h7.1, h7.2, show w9_6 = x1 + 1 by omega, hkx]; exact kyC_put (hC3.get hf0) (by omega) (by rw [← hC1.get hf0]) (by rw [← hC1.get hf0])))⟩
  exact L_2 6 0 (pp) (v 6) 0 (v 16) (v 17) (f 12) (f 13) _ _ _ (by omega) (by omega) hc (fun _ => ⟨hk, rfl, rfl, by decide⟩) (fun _ => rfl) (fun h1 h2 => absurd h2 h1) (by omega) (fun _ => rfl) (fun _ => by show 0 + kyN _ _ 4 _ = _; omega) (fun _ j h0 h1 => by omega) hP hS (lv_sub hl [1, 0] rfl)

set_option maxHeartbeats 4000000 in
set_option maxRecDepth 100000 in
theorem q_e_La_readTies (l : Launch) (D : va_G) (k : Nat → ClassId) (A : Nat → Prop) (ad : Nat → Nat) (hD : rwD A k ad) (v : gV) (f g : gF) (nn : Int) (pp : Int) (hc : tAt (f 0) nn (f 6) (f 7) (f 8) (v 5) (v 6) pp) (hk : (tK (f 0) nn pp) ≠ 256 ∧ (tK (f 0) nn pp) ≠ 257) : GM l D k A (rwT k ad) yX3_readTies cX3_readTies 1 none 4 82 [.ref (ad 9)] v f g (fun r v1 f1 g1 => ∃ (w6 : Int) (w10 : Int) (w16 : Int) (w17 : Int), r = none ∧ (va_up (va_up (va_up (va_up v 6 w6) 10 w10) 16 w16) 17 w17) = v1 ∧ f = f1 ∧ g = g1 ∧ ((v 16) = 0 → oX (f 0) nn (f 6) (f 7) (f 8) (v 5) (tie (f 0) nn (tX (f 0) nn pp)) w16 w17 (v 17) w6) ∧ ((v 16) ≠ 0 → w16 = (v 16) ∧ w17 = (v 17) ∧ w6 = (v 6)) ∧ ((v 16) = 0 → w16 = 0 → w10 = (if tK (f 0) nn (tX (f 0) nn pp) = 264 then 1 else 0))) := by
  refine GM.of (by decide) (Nat.le_of_ble_eq_true rfl) ?_
  intro p e s m args below meth c Q ls hQ C hml hr hlocks hP hl
  have hx := C.1
  have hb := C.2.1
  have hok := hP.2
  have hS : va_S A s.heap s.heap [] := va_S.rf
  have hl : lv_has ls 1 [(0, .ref (ad 9))] := hl
  have hP : gWd D (rwT k ad) (va_up (va_up (va_up (va_up v 6 (v 6)) 10 (v 10)) 16 (v 16)) 17 (v 17)) f g s.heap := by rw [va_id, va_id, va_id, va_id]; exact hP
  have hfk := fk_rng (f 0) nn (tX (f 0) nn pp)
  have r_1 : 0 ≤ (v 16) ∧ (v 16) ≤ 5 := hok.1 16
  refine lv_aload_n hx hb dX3_readTies_0 rfl (lv_at hl 0 rfl) ?_
  refine g_cv (As := []) (rest := []) (n := 0) C hml (e_La_goOn l D k A ad hD (va_up (va_up (va_up (va_up v 6 (v 6)) 10 (v 10)) 16 (v 16)) 17 (v 17)) f g nn pp (show tAt (f 0) nn (f 6) (f 7) (f 8) (v 5) (v 6) pp from hc)) mM_X3_70 mI_X3_goOn mE_X3_goOn mN_X3 mC_X3_goOn (by decide +kernel) 9 (ci := 3) rfl rfl hP hS (fun _ h => h) ⟨Nat.le_of_ble_eq_true rfl, Nat.le_of_ble_eq_true rfl⟩ ⟨Nat.zero_le _, Nat.zero_le _⟩ hl.1 rfl rfl (Nat.le_of_ble_eq_true rfl) dX3_readTies_1 (fun r_2 v_2 f_2 g_2 H locs hq_2 hP _ hS => ?_)
  obtain ⟨z_2, w6_2, rfl, rfl, rfl, rfl, p0_2, p1_2, p2_2, p3_2⟩ := hq_2
  show W p l e (gRm 4 82) s m args below meth c _ _ 0 0 Q (F0 m 4 ls [.int (iI z_2)])
  have hP : gWd D (rwT k ad) (va_up (va_up (va_up (va_up v 6 w6_2) 10 (v 10)) 16 (v 16)) 17 (v 17)) f g H := ⟨hP.1, (gR_up (V := rwV) (F := rwF) (gR_up (V := rwV) (F := rwF) (gR_up (V := rwV) (F := rwF) (gR_up (V := rwV) (F := rwF) ⟨hok.1, hok.2⟩ 6 (hP.2.1 6)) 10 (hP.2.1 10)) 16 (hP.2.1 16)) 17 (hP.2.1 17))⟩
  replace p0_2 : 0 ≤ z_2 ∧ z_2 ≤ 1 := p0_2
  replace p1_2 : z_2 = 1 ↔ (v 16) = 0 := p1_2
  replace p2_2 : (v 16) ≠ 0 → w6_2 = (v 6) := p2_2
  replace p3_2 : (v 16) = 0 → (tK (f 0) nn pp) ≠ 256 → (tK (f 0) nn pp) ≠ 257 → tAt (f 0) nn (f 6) (f 7) (f 8) (v 5) w6_2 (tX (f 0) nn pp) := p3_2
  have rw6_2 : 0 ≤ w6_2 ∧ w6_2 ≤ 700 := hP.2.1 6
  have hG3 := p3_2
  clear p3_2
  refine gi_zeq (tgt := 55) hx hb dX3_readTies_4 (by decide) (by omega) (fun c_3 => ?_) (fun c_3 => ?_)
  · have v_2 := mt p1_2.mpr (show ¬ z_2 = 1 by omega)
    clear p1_2
    exact g_vret hQ C hr hlocks hP hS dX3_readTies_55 ⟨w6_2, (v 10), (v 16), (v 17), rfl, rfl, rfl, rfl, (by first | (intro h; exfalso; omega) | exact fun h => (if hT : (tK (f 0) nn (tX (f 0) nn pp)) = 264 ∨ (tK (f 0) nn (tX (f 0) nn pp)) = 265 then oX_ok (tie_ok hT) (by omega) (by omega) (hP3 (by omega) (by omega)) else oX_bad (tie_bad hT) (by omega) (by omega) (by omega) (tAt_eq hc2 (by omega)))), (by first | omega | (split <;> omega)), (by first | (intro h1 h2; exfalso; omega) | (intro h1 h2; first | (rw [if_pos (by omega)]; done) | (rw [if_neg (by omega)]; done)))⟩
  · have v_2 := p1_2.mp (show z_2 = 1 by omega)
    clear p1_2
    have hf0 : (v 16) = 0 := by omega
    have hc2 := hG3 hf0 hk.1 hk.2
    refine lv_aload_n hx hb dX3_readTies_7 rfl (lv_at hl 0 rfl) ?_
    refine rwG_reader_draft C hP mF_X3_21 dX3_readTies_8 ?_
    refine lv_aload_n hx hb dX3_readTies_11 rfl (lv_at hl 0 rfl) ?_
    refine rwG_reader_tokens C hP mF_X3_12 dX3_readTies_12 ?_
    refine g_cv (As := []) (rest := [.ref (ad 14)]) (n := 0) C hml (e_To_kind l D k A ad hD (va_up (va_up (va_up (va_up v 6 w6_2) 10 (v 10)) 16 (v 16)) 17 (v 17)) f g nn (tX (f 0) nn pp) (show tAt (f 0) nn (f 6) (f 7) (f 8) (v 5) w6_2 (tX (f 0) nn pp) from hc2)) mM_X3_56 mI_X6_kind mE_X6_kind mN_X6 mC_X6_kind (by decide +kernel) 10 (ci := 6) rfl rfl hP hS (fun _ h => h) ⟨Nat.le_of_ble_eq_true rfl, Nat.le_of_ble_eq_true rfl⟩ ⟨Nat.zero_le _, Nat.zero_le _⟩ hl.1 rfl rfl (Nat.le_of_ble_eq_true rfl) dX3_readTies_15 (fun r_4 v_4 f_4 g_4 H locs hq_4 hP _ hS => ?_)
    obtain ⟨z_4, rfl, rfl, rfl, rfl, p0_4, p1_4⟩ := hq_4
    show W p l e (gRm 4 82) s m args below meth c _ _ 0 0 Q (F0 m 18 ls [.int (iI z_4), .ref (ad 14)])
    replace p0_4 : z_4 = (tK (f 0) nn (tX (f 0) nn pp)) := p0_4
    replace p1_4 : 40 ≤ z_4 ∧ z_4 ≤ 277 := p1_4
    have hz_4 : inR z_4 := (by first | omega | (rw [p0_4]; split <;> omega))
    have hK2 := p0_4
    refine lv_sipush (v := iI 264) hx hb dX3_readTies_18 (by decide) ?_
    refine gi_cne (tgt := 28) hx hb dX3_readTies_21 (by decide) (by omega) (by decide) (fun c_5 => ?_) (fun c_5 => ?_)
    · refine lv_iconst (v := iI 0) hx hb dX3_readTies_28 rfl ?_
      refine rwP_reader_draft_back (v1 := (va_up (va_up (va_up (va_up v 6 w6_2) 10 0) 16 (v 16)) 17 (v 17))) C hP hD hS mF_X3_126 (by decide) (by decide) rfl (Or.inr (gR_up (V := rwV) (F := rwF) (gR_up (V := rwV) (F := rwF) (gR_up (V := rwV) (F := rwF) (gR_up (V := rwV) (F := rwF) ⟨hok.1, hok.2⟩ 6 (hP.2.1 6)) 10 (show 0 ≤ 0 ∧ 0 ≤ 1 from by decide)) 16 (hP.2.1 16)) 17 (hP.2.1 17))) dX3_readTies_29 (fun H locs hP hS => ?_)
      refine lv_aload_n hx hb dX3_readTies_32 rfl (lv_at hl 0 rfl) ?_
      refine lv_aload_n hx hb dX3_readTies_33 rfl (lv_at hl 0 rfl) ?_
      refine rwG_reader_draft C hP mF_X3_21 dX3_readTies_34 ?_
      refine rwG_reader_draft_back C hP mF_X3_126 dX3_readTies_37 ?_
      show W p l e (gRm 4 82) s m args below meth c _ _ 0 0 Q (F0 m 40 ls [.int (iI 0), .ref (ad 9)])
      refine gi_zeq (tgt := 49) hx hb dX3_readTies_40 (by decide) (by decide) (fun c_6 => ?_) (fun c_6 => ?_)
      · refine lv_sipush (v := iI 265) hx hb dX3_readTies_49 (by decide) ?_
        refine g_cv (As := [.int (iI 265)]) (rest := []) (n := 1) C hml (e_La_pass l D k A ad hD (va_up (va_up (va_up (va_up v 6 w6_2) 10 0) 16 (v 16)) 17 (v 17)) f g 265 nn (tX (f 0) nn pp) (by decide) (show tAt (f 0) nn (f 6) (f 7) (f 8) (v 5) w6_2 (tX (f 0) nn pp) from hc2) (show (265 : Int) ≠ 256 ∧ (265 : Int) ≠ 257 from by omega)) mM_X3_91 mI_X3_pass mE_X3_pass mN_X3 mC_X3_pass (by decide +kernel) 9 (ci := 3) rfl rfl hP hS (fun _ h => h) ⟨Nat.le_of_ble_eq_true rfl, Nat.le_of_ble_eq_true rfl⟩ ⟨Nat.zero_le _, Nat.zero_le _⟩ hl.1 rfl rfl (Nat.le_of_ble_eq_true rfl) dX3_readTies_52 (fun r_7 v_7 f_7 g_7 H locs hq_7 hP _ hS => ?_)
        obtain ⟨w6_7, w16_7, w17_7, rfl, rfl, rfl, rfl, p0_7, p1_7, p2_7, p3_7⟩ := hq_7
        show W p l e (gRm 4 82) s m args below meth c _ _ 0 0 Q (F0 m 55 ls [])
        have hP : gWd D (rwT k ad) (va_up (va_up (va_up (va_up v 6 w6_7) 10 0) 16 w16_7) 17 w17_7) f g H := ⟨hP.1, (gR_up (V := rwV) (F := rwF) (gR_up (V := rwV) (F := rwF) (gR_up (V := rwV) (F := rwF) (gR_up (V := rwV) (F := rwF) ⟨hok.1, hok.2⟩ 6 (hP.2.1 6)) 10 (hP.2.1 10)) 16 (hP.2.1 16)) 17 (hP.2.1 17))⟩
        replace p0_7 : (v 16) = 0 → (tK (f 0) nn (tX (f 0) nn pp)) = (265 : Int) → w16_7 = 0 ∧ w17_7 = (v 17) := p0_7
        replace p1_7 : (v 16) = 0 → (tK (f 0) nn (tX (f 0) nn pp)) ≠ (265 : Int) → w16_7 = (fk (f 0) nn (tX (f 0) nn pp)) ∧ w17_7 = (tX (f 0) nn pp) ∧ w6_7 = w6_2 := p1_7
        replace p2_7 : (v 16) ≠ 0 → w16_7 = (v 16) ∧ w17_7 = (v 17) ∧ w6_7 = w6_2 := p2_7
        replace p3_7 : (v 16) = 0 → (tK (f 0) nn (tX (f 0) nn pp)) = (265 : Int) → tAt (f 0) nn (f 6) (f 7) (f 8) (v 5) w6_7 (tX (f 0) nn (tX (f 0) nn pp)) := p3_7
        have rw6_7 : 0 ≤ w6_7 ∧ w6_7 ≤ 700 := hP.2.1 6
        have rw16_7 : 0 ≤ w16_7 ∧ w16_7 ≤ 5 := hP.2.1 16
        have rw17_7 : (-1) ≤ w17_7 ∧ w17_7 ≤ 700 := hP.2.1 17
        have hP3 := p3_7
        clear p3_7
        exact g_vret hQ C hr hlocks hP hS dX3_readTies_55 ⟨w6_7, 0, w16_7, w17_7, rfl, rfl, rfl, rfl, (by first | (intro h; exfalso; omega) | exact fun h => (if hT : (tK (f 0) nn (tX (f 0) nn pp)) = 264 ∨ (tK (f 0) nn (tX (f 0) nn pp)) = 265 then oX_ok (tie_ok hT) (by omega) (by omega) (hP3 (by omega) (by omega)) else oX_bad (tie_bad hT) (by omega) (by omega) (by omega) (tAt_eq hc2 (by omega)))), (by first | omega | (split <;> omega)), (by first | (intro h1 h2; exfalso; omega) | (intro h1 h2; first | (rw [if_pos (by omega)]; done) | (rw [if_neg (by omega)]; done)))⟩
      · exfalso; omega
    · refine lv_iconst (v := iI 1) hx hb dX3_readTies_24 rfl ?_
      refine lv_goto (tgt := 29) hx hb dX3_readTies_25 (by decide) ?_
      refine rwP_reader_draft_back (v1 := (va_up (va_up (va_up (va_up v 6 w6_2) 10 1) 16 (v 16)) 17 (v 17))) C hP hD hS mF_X3_126 (by decide) (by decide) rfl (Or.inr (gR_up (V := rwV) (F := rwF) (gR_up (V := rwV) (F := rwF) (gR_up (V := rwV) (F := rwF) (gR_up (V := rwV) (F := rwF) ⟨hok.1, hok.2⟩ 6 (hP.2.1 6)) 10 (show 0 ≤ 1 ∧ 1 ≤ 1 from by decide)) 16 (hP.2.1 16)) 17 (hP.2.1 17))) dX3_readTies_29 (fun H locs hP hS => ?_)
      refine lv_aload_n hx hb dX3_readTies_32 rfl (lv_at hl 0 rfl) ?_
      refine lv_aload_n hx hb dX3_readTies_33 rfl (lv_at hl 0 rfl) ?_
      refine rwG_reader_draft C hP mF_X3_21 dX3_readTies_34 ?_
      refine rwG_reader_draft_back C hP mF_X3_126 dX3_readTies_37 ?_
      show W p l e (gRm 4 82) s m args below meth c _ _ 0 0 Q (F0 m 40 ls [.int (iI 1), .ref (ad 9)])
      refine gi_zeq (tgt := 49) hx hb dX3_readTies_40 (by decide) (by decide) (fun c_8 => ?_) (fun c_8 => ?_)
      · exfalso; omega
      · refine lv_sipush (v := iI 264) hx hb dX3_readTies_43 (by decide) ?_
        refine lv_goto (tgt := 52) hx hb dX3_readTies_46 (by decide) ?_
        refine g_cv (As := [.int (iI 264)]) (rest := []) (n := 1) C hml (e_La_pass l D k A ad hD (va_up (va_up (va_up (va_up v 6 w6_2) 10 1) 16 (v 16)) 17 (v 17)) f g 264 nn (tX (f 0) nn pp) (by decide) (show tAt (f 0) nn (f 6) (f 7) (f 8) (v 5) w6_2 (tX (f 0) nn pp) from hc2) (show (264 : Int) ≠ 256 ∧ (264 : Int) ≠ 257 from by omega)) mM_X3_91 mI_X3_pass mE_X3_pass mN_X3 mC_X3_pass (by decide +kernel) 9 (ci := 3) rfl rfl hP hS (fun _ h => h) ⟨Nat.le_of_ble_eq_true rfl, Nat.le_of_ble_eq_true rfl⟩ ⟨Nat.zero_le _, Nat.zero_le _⟩ hl.1 rfl rfl (Nat.le_of_ble_eq_true rfl) dX3_readTies_52 (fun r_9 v_9 f_9 g_9 H locs hq_9 hP _ hS => ?_)
        obtain ⟨w6_9, w16_9, w17_9, rfl, rfl, rfl, rfl, p0_9, p1_9, p2_9, p3_9⟩ := hq_9
        show W p l e (gRm 4 82) s m args below meth c _ _ 0 0 Q (F0 m 55 ls [])
        have hP : gWd D (rwT k ad) (va_up (va_up (va_up (va_up v 6 w6_9) 10 1) 16 w16_9) 17 w17_9) f g H := ⟨hP.1, (gR_up (V := rwV) (F := rwF) (gR_up (V := rwV) (F := rwF) (gR_up (V := rwV) (F := rwF) (gR_up (V := rwV) (F := rwF) ⟨hok.1, hok.2⟩ 6 (hP.2.1 6)) 10 (hP.2.1 10)) 16 (hP.2.1 16)) 17 (hP.2.1 17))⟩
        replace p0_9 : (v 16) = 0 → (tK (f 0) nn (tX (f 0) nn pp)) = (264 : Int) → w16_9 = 0 ∧ w17_9 = (v 17) := p0_9
        replace p1_9 : (v 16) = 0 → (tK (f 0) nn (tX (f 0) nn pp)) ≠ (264 : Int) → w16_9 = (fk (f 0) nn (tX (f 0) nn pp)) ∧ w17_9 = (tX (f 0) nn pp) ∧ w6_9 = w6_2 := p1_9
        replace p2_9 : (v 16) ≠ 0 → w16_9 = (v 16) ∧ w17_9 = (v 17) ∧ w6_9 = w6_2 := p2_9
        replace p3_9 : (v 16) = 0 → (tK (f 0) nn (tX (f 0) nn pp)) = (264 : Int) → tAt (f 0) nn (f 6) (f 7) (f 8) (v 5) w6_9 (tX (f 0) nn (tX (f 0) nn pp)) := p3_9
        have rw6_9 : 0 ≤ w6_9 ∧ w6_9 ≤ 700 := hP.2.1 6
        have rw16_9 : 0 ≤ w16_9 ∧ w16_9 ≤ 5 := hP.2.1 16
        have rw17_9 : (-1) ≤ w17_9 ∧ w17_9 ≤ 700 := hP.2.1 17
        have hP3 := p3_9
        clear p3_9
        exact g_vret hQ C hr hlocks hP hS dX3_readTies_55 ⟨w6_9, 1, w16_9, w17_9, rfl, rfl, rfl, rfl, (by first | (intro h; exfalso; omega) | exact fun h => (if hT : (tK (f 0) nn (tX (f 0) nn pp)) = 264 ∨ (tK (f 0) nn (tX (f 0) nn pp)) = 265 then oX_ok (tie_ok hT) (by omega) (by omega) (hP3 (by omega) (by omega)) else oX_bad (tie_bad hT) (by omega) (by omega) (by omega) (tAt_eq hc2 (by omega)))), (by first | omega | (split <;> omega)), (by first | (intro h1 h2; exfalso; omega) | (intro h1 h2; first | (rw [if_pos (by omega)]; done) | (rw [if_neg (by omega)]; done)))⟩
end
